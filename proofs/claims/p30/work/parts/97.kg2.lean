section
variable {z w z1 w1 z2 w2 : mZ} {p : mP} {t : Nat} {a b c : Int} {V V' : Value}
theorem st_image (d : BD39 z) (f : kqF z w z1 w1) (L : LN (rE z) z w z1 w1) (X : BXE (rE z) z w z1 w1) (A : kqIc a z w p t V z1 w1) (B : kqIr a z1 w1 V' z2 w2) : (LN (rE z) z1 w1 z2 w2 ∧ BXE (rE z) z1 w1 z2 w2) ∧ V = V' := by
  obtain ⟨v, rfl, cu, h⟩ := A
  obtain ⟨v', rfl, ru, h'⟩ := B
  rw [kqF_E f] at h'
  have hL := LN_u L cu ru
  rcases h with ⟨n1, n2, n3⟩ | ⟨n1, n2, n3, n4, n5⟩ <;> rcases h' with ⟨m1, m2, m3, m4⟩ | ⟨m1, m2, m3, m4, m5, m6⟩
  · exact ⟨⟨hL, BX_u X n3 ⟨funext m3, m4⟩⟩, by rw [n2, m2]⟩
  · exact absurd m1 n1
  · exact absurd n1 m1
  · refine ⟨⟨hL, fun b hb => ?_⟩, by rw [n2, m2, sm_c 18 (LN_t d L)]⟩
    by_cases e : b = a.toNat
    · subst e
      refine ⟨by rw [n3, m3], fun _ e he => ?_⟩
      have q := LN_now d L he
      rw [n4 e he, m4 e he]
      exact q
    · obtain ⟨x1, x2⟩ := X b hb
      obtain ⟨y1, y2⟩ := n5 b hb e
      refine ⟨by rw [y1, m6 b e]; exact x1, fun q e' he => ?_⟩
      rw [m6 b e] at q
      rw [y2, m5 _ (by omega)]
      exact x2 q e' he
end

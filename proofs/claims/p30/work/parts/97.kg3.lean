section
variable {z w z1 w1 z2 w2 : mZ} {p : mP} {t : Nat} {a b c : Int} {V V' : Value}
theorem st_back (f : kqF z w z1 w1) (L : LN (rE z) z w z1 w1) (X : BXE (rE z) z w z1 w1) (A : kqBc a z w p t V z1 w1) (B : kqBr a z1 w1 V' z2 w2) : (LN (rE z) z1 w1 z2 w2 ∧ BXE (rE z) z1 w1 z2 w2) ∧ V = V' := by
  obtain ⟨u, v, rfl, h⟩ := A
  obtain ⟨u', v', rfl, h'⟩ := B
  rw [kqF_E f] at h'
  have hX := BX_u X u u'
  rcases h with ⟨n1, n2, n3⟩ | ⟨n1, n2, n3, n4, n5⟩ <;> rcases h' with ⟨m1, m2, m3⟩ | ⟨m1, m2, m3, m4, m5⟩
  · exact ⟨⟨LN_u L n3 m3, hX⟩, by rw [n2, m2]⟩
  · have e := (X a.toNat (by omega)).1
    exact absurd ⟨m1.1, m1.2.1, by rw [e]; exact m1.2.2⟩ n1
  · have e := (X a.toNat (by omega)).1
    exact absurd ⟨n1.1, n1.2.1, by rw [← e]; exact n1.2.2⟩ m1
  · have q := (X a.toNat (by omega)).2 m1.2.2
    refine ⟨⟨LN_1 n3 n4 m3 m4 (fun e he => ?_), hX⟩, ?_⟩
    · rw [n5 e he, m5 e he]
      exact q e he
    · have hs : sm (tr (rE z) (fun e => w1 275 (18 * a.toNat + e))) 18 = sm (w (144 + a.toNat)) 18 := sm_c 18 (fun j hj => by
        have q := q j hj
        by_cases c : (j : Int) < rE z
        · rw [tr_l c]; exact q.1.symm
        · rw [tr_g (by omega), q.1, q.2 (by omega)])
      rw [n2, m2, hs]
end

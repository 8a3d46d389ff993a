section
variable {z w z1 w1 z2 w2 : mZ} {p : mP} {t : Nat} {a b c : Int} {V V' : Value}
/-- lay -/
def kqLc (a : Int) : mZ → mZ → mP → Nat → Value → mZ → mZ → Prop := fun z w _ t V z' w' => kqBU z w z' w' ∧ ∃ v, V = .long (Int64.ofInt v) ∧ ((¬ (0 ≤ a ∧ a < z t 3) ∧ v = -1 ∧ CU3 z w z' w') ∨ ((0 ≤ a ∧ a < z t 3) ∧ v = sm (w (t + 8 + a.toNat)) 18 ∧ CKP z w z' w' (w (t + 8 + a.toNat))))
def kqLr (a : Int) : mZ → mZ → Value → mZ → mZ → Prop := fun z w V z' w' => kqBM z w z' w' ∧ ∃ v, V = .long (Int64.ofInt v) ∧ ((¬ (0 ≤ a ∧ a < z 225 27) ∧ v = -1 ∧ RU3 z w z' w') ∨ ((0 ≤ a ∧ a < z 225 27) ∧ v = sm (tr (rE z) (lnR z a.toNat)) 18 ∧ RKP z w z' w' (tr (rE z) (lnR z a.toNat))))
theorem st_lay (x : XR z w p t) (h8 : z t 3 ≤ 8) (d : BD39 z) (f : kqF z w z1 w1) (L : LN (rE z) z w z1 w1) (X : BXE (rE z) z w z1 w1) (A : kqLc a z w p t V z1 w1) (B : kqLr a z1 w1 V' z2 w2) : (LN (rE z) z1 w1 z2 w2 ∧ BXE (rE z) z1 w1 z2 w2) ∧ V = V' := by
  obtain ⟨u, v, rfl, h⟩ := A
  obtain ⟨u', v', rfl, h'⟩ := B
  have y2 : z t 3 = z 225 27 := x.1.1.1.1.2.1
  rw [kqF_E f, kqF_l f, (f 225 (by omega)).1] at h'
  have hX := BX_u X u u'
  rcases h with ⟨n1, n2, n3⟩ | ⟨n1, n2, n3⟩ <;> rcases h' with ⟨m1, m2, m3⟩ | ⟨m1, m2, m3⟩
  · exact ⟨⟨LN_u L n3 m3, hX⟩, by rw [n2, m2]⟩
  · exact absurd ⟨m1.1, by omega⟩ n1
  · exact absurd ⟨n1.1, by omega⟩ m1
  · have hn := XT_n x.1 h8 (l := a.toNat) (by omega)
    exact ⟨⟨LN_k d L n3 m3 hn (fun j hj he => by rw [← hn j hj, tr_g he]), hX⟩, by rw [n2, m2, sm_c 18 hn]⟩
/-- twist -/
def kqTc (a b : Int) : mZ → mZ → mP → Nat → Value → mZ → mZ → Prop := fun z w p t V z' w' => kqBU z w z' w' ∧ ∃ v, V = .long (Int64.ofInt v) ∧ ((p 10 2 = none ∧ v = -1 ∧ CU3 z w z' w') ∨ (¬ (0 ≤ a ∧ a < z t 3 ∧ z (17 + 2 * a.toNat) 0 = 2 ∧ b ≠ 0 ∧ -99 ≤ b ∧ b ≤ 99) ∧ v = -1 ∧ CU3 z w z' w') ∨ ((0 ≤ a ∧ a < z t 3 ∧ z (17 + 2 * a.toNat) 0 = 2 ∧ b ≠ 0 ∧ -99 ≤ b ∧ b ≤ 99) ∧ CAC z w z' w' v (gal (rdc z a.toNat) b)))
def kqTr (a b : Int) : mZ → mZ → Value → mZ → mZ → Prop := fun z w V z' w' => kqBM z w z' w' ∧ ∃ v, V = .long (Int64.ofInt v) ∧ ((¬ (0 ≤ a ∧ a < z 225 27 ∧ z 254 a.toNat = 1 ∧ b ≠ 0 ∧ -99 ≤ b ∧ b ≤ 99) ∧ v = -1 ∧ RU3 z w z' w') ∨ ((0 ≤ a ∧ a < z 225 27 ∧ z 254 a.toNat = 1 ∧ b ≠ 0 ∧ -99 ≤ b ∧ b ≤ 99) ∧ RAC z w z' w' v (gal (rdr z a.toNat) b)))
theorem st_twist (hz : rz z) (R : RV z w) (x : XR z w p t) (h8 : z t 3 ≤ 8) (d : BD39 z) (f : kqF z w z1 w1) (L : LN (rE z) z w z1 w1) (X : BXE (rE z) z w z1 w1) (A : kqTc a b z w p t V z1 w1) (B : kqTr a b z1 w1 V' z2 w2) : (LN (rE z) z1 w1 z2 w2 ∧ BXE (rE z) z1 w1 z2 w2) ∧ V = V' := by
  obtain ⟨u, v, rfl, h⟩ := A
  obtain ⟨u', v', rfl, h'⟩ := B
  have y2 : z t 3 = z 225 27 := x.1.1.1.1.2.1
  have e254 : z1 254 = z 254 := (f 254 (by omega)).1
  rw [kqF_d f, (f 225 (by omega)).1, e254] at h'
  have hX := BX_u X u u'
  have K := fun (q : 0 ≤ a ∧ a < z t 3) => RDe_k hz (l := a.toNat) (by omega) (x.2.1 a.toNat (by omega))
  rcases h with ⟨n0, n2, n3⟩ | ⟨n1, n2, n3⟩ | ⟨n1, n3⟩ <;> rcases h' with ⟨m1, m2, m3⟩ | ⟨m1, m3⟩
  · exact ⟨⟨LN_u L n3 m3, hX⟩, by rw [n2, m2]⟩
  · have := (x.2.2 n0).1
    exfalso; omega
  · exact ⟨⟨LN_u L n3 m3, hX⟩, by rw [n2, m2]⟩
  · exact absurd ⟨m1.1, by omega, (K ⟨m1.1, by omega⟩).1.mpr m1.2.2.1, m1.2.2.2⟩ n1
  · exact absurd ⟨n1.1, by omega, (K ⟨n1.1, n1.2.1⟩).1.mp n1.2.2.1, n1.2.2.2⟩ m1
  · have q := (K ⟨n1.1, n1.2.1⟩).2 m1.2.2.1
    have g := GRq_z hz (l := a.toNat) (by omega) (R.1.2.2.2 a.toNat (by omega)) m1.2.2.1
    have r := AC_u (E := rE z) d (kqF_E f) L (fun x y e => gal_c q e) (fun n => gal_z g.1 g.2.1 g.2.2 b n) n3 m3
    exact ⟨⟨r.1, hX⟩, by rw [r.2]⟩
end

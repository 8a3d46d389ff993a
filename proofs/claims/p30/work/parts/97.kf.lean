section
variable {z w z1 w1 z2 w2 : mZ} {p : mP} {t : Nat} {a b c : Int} {V V' : Value}
/-- go -/
def kqGc (a : Int) : mZ → mZ → mP → Nat → Value → mZ → mZ → Prop := fun z w p t V z' w' => kqBU z w z' w' ∧ ∃ v, V = .long (Int64.ofInt v) ∧ ((p 10 2 = none ∧ v = -1 ∧ CU3 z w z' w') ∨ (¬ (0 ≤ a ∧ a < z t 4 ∧ FW z t a.toNat) ∧ v = -1 ∧ CU3 z w z' w') ∨ ((0 ≤ a ∧ a < z t 4 ∧ FW z t a.toNat) ∧ CAC z w z' w' v (gwc z t a.toNat)))
def kqGr (a : Int) : mZ → mZ → Value → mZ → mZ → Prop := fun z w V z' w' => kqBM z w z' w' ∧ ∃ v, V = .long (Int64.ofInt v) ∧ ((¬ (0 ≤ a ∧ a < z 225 28 ∧ FWr z a.toNat) ∧ v = -1 ∧ RU3 z w z' w') ∨ ((0 ≤ a ∧ a < z 225 28 ∧ FWr z a.toNat) ∧ RAC z w z' w' v (gwr z a.toNat)))
theorem kqF_f (f : kqF z w z1 w1) (k : Nat) : FWr z1 k ↔ FWr z k := by
  unfold FWr
  rw [(f 239 (by omega)).1, (f 237 (by omega)).1, (f 225 (by omega)).1, (f 254 (by omega)).1]
theorem st_go (hz : rz z) (ht : isT t) (R : RV z w) (x : XR z w p t) (h8 : z t 3 ≤ 8) (d : BD39 z) (f : kqF z w z1 w1) (L : LN (rE z) z w z1 w1) (X : BXE (rE z) z w z1 w1) (A : kqGc a z w p t V z1 w1) (B : kqGr a z1 w1 V' z2 w2) : (LN (rE z) z1 w1 z2 w2 ∧ BXE (rE z) z1 w1 z2 w2) ∧ V = V' := by
  obtain ⟨u, v, rfl, h⟩ := A
  obtain ⟨u', v', rfl, h'⟩ := B
  have y3 : z t 4 = z 225 28 := x.1.1.1.1.2.2
  rw [kqF_f f, (f 225 (by omega)).1] at h'
  have hX := BX_u X u u'
  have K : ∀ q : 0 ≤ a ∧ a < z t 4, (FW z t a.toNat ↔ FWr z a.toNat) := fun q => FW_i hz ht x h8 (by omega)
  rcases h with ⟨n0, n2, n3⟩ | ⟨n1, n2, n3⟩ | ⟨n1, n3⟩ <;> rcases h' with ⟨m1, m2, m3⟩ | ⟨m1, m3⟩
  · exact ⟨⟨LN_u L n3 m3, hX⟩, by rw [n2, m2]⟩
  · have := (x.2.2 n0).2
    exfalso; omega
  · exact ⟨⟨LN_u L n3 m3, hX⟩, by rw [n2, m2]⟩
  · exact absurd ⟨m1.1, by omega, (K ⟨m1.1, by omega⟩).mpr m1.2.2⟩ n1
  · exact absurd ⟨n1.1, by omega, (K ⟨n1.1, n1.2.1⟩).mp n1.2.2⟩ m1
  · have r := AC_u (E := rE z) d (kqF_E f) L (fun x' y' e => by rw [kqF_w f]; exact gw_c hz ht x h8 (by omega) m1.2.2 x' y' e) (fun n => by rw [kqF_w f]; exact gw_z hz ht R x h8 (by omega) m1.2.2 n) n3 m3
    exact ⟨⟨r.1, hX⟩, by rw [r.2]⟩
/-- undo, redo -/
def kqUc : mZ → mZ → mP → Nat → Value → mZ → mZ → Prop := fun z w _ _ V z' w' => kqBU z w z' w' ∧ ∃ v, V = .int (Int32.ofInt v) ∧ CUD z w z' w' v
def kqUr : mZ → mZ → Value → mZ → mZ → Prop := fun z w V z' w' => kqBM z w z' w' ∧ ∃ v, V = .int (Int32.ofInt v) ∧ RUD z w z' w' v
def kqRc : mZ → mZ → mP → Nat → Value → mZ → mZ → Prop := fun z w _ _ V z' w' => kqBU z w z' w' ∧ ∃ v, V = .int (Int32.ofInt v) ∧ CRD z w z' w' v
def kqRr : mZ → mZ → Value → mZ → mZ → Prop := fun z w V z' w' => kqBM z w z' w' ∧ ∃ v, V = .int (Int32.ofInt v) ∧ RRD z w z' w' v
theorem st_undo (d : BD39 z) (L : LN (rE z) z w z1 w1) (X : BXE (rE z) z w z1 w1) (A : kqUc z w p t V z1 w1) (B : kqUr z1 w1 V' z2 w2) : (LN (rE z) z1 w1 z2 w2 ∧ BXE (rE z) z1 w1 z2 w2) ∧ V = V' := by
  obtain ⟨u, v, rfl, h⟩ := A
  obtain ⟨u', v', rfl, h'⟩ := B
  have r := LN_un d L h h'
  exact ⟨⟨r.1, BX_u X u u'⟩, by rw [r.2]⟩
theorem st_redo (d : BD39 z) (L : LN (rE z) z w z1 w1) (X : BXE (rE z) z w z1 w1) (A : kqRc z w p t V z1 w1) (B : kqRr z1 w1 V' z2 w2) : (LN (rE z) z1 w1 z2 w2 ∧ BXE (rE z) z1 w1 z2 w2) ∧ V = V' := by
  obtain ⟨u, v, rfl, h⟩ := A
  obtain ⟨u', v', rfl, h'⟩ := B
  have r := LN_re d L h h'
  exact ⟨⟨r.1, BX_u X u u'⟩, by rw [r.2]⟩
end

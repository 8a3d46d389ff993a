section
variable {z w z1 w1 z2 w2 : mZ} {p : mP} {t : Nat} {a b c : Int} {V V' : Value}
/-- about -/
def abP (a m E pt l k n1 n2 n3 v : Int) : Prop := (a = 0 → v = m) ∧ (a = 1 → v = E) ∧ (a = 2 → v = pt) ∧ (a = 3 → 0 ≤ pt ∧ pt ≤ 36 → (0 ≤ 2 - pt + E - m → v = (2 - pt + E - m) / 2) ∧ (2 - pt + E - m < 0 → v = -(-(2 - pt + E - m) / 2))) ∧ (a = 4 → v = l) ∧ (a = 5 → v = k) ∧ (a = 6 → v = n1) ∧ (a = 7 → v = n2) ∧ (a = 8 → v = n3) ∧ (a < 0 ∨ 8 < a → v = -1)
theorem abP_u {a m E pt l k n1 n2 n3 v v' : Int} (b : 0 ≤ pt ∧ pt ≤ 36) (h : abP a m E pt l k n1 n2 n3 v) (h' : abP a m E pt l k n1 n2 n3 v') : v = v' := by
  have k' : a = 0 ∨ a = 1 ∨ a = 2 ∨ a = 3 ∨ a = 4 ∨ a = 5 ∨ a = 6 ∨ a = 7 ∨ a = 8 ∨ (a < 0 ∨ 8 < a) := by clear h h'; omega
  obtain ⟨a0, a1, a2, a3, a4, a5, a6, a7, a8, a9⟩ := h
  obtain ⟨c0, c1, c2, c3, c4, c5, c6, c7, c8, c9⟩ := h'
  rcases k' with q | q | q | q | q | q | q | q | q | q
  · exact (a0 q).trans (c0 q).symm
  · exact (a1 q).trans (c1 q).symm
  · exact (a2 q).trans (c2 q).symm
  · by_cases r : 0 ≤ 2 - pt + E - m
    · exact ((a3 q b).1 r).trans ((c3 q b).1 r).symm
    · exact ((a3 q b).2 (Int.not_le.mp r)).trans ((c3 q b).2 (Int.not_le.mp r)).symm
  · exact (a4 q).trans (c4 q).symm
  · exact (a5 q).trans (c5 q).symm
  · exact (a6 q).trans (c6 q).symm
  · exact (a7 q).trans (c7 q).symm
  · exact (a8 q).trans (c8 q).symm
  · exact (a9 q).trans (c9 q).symm
def kqAc (a : Int) : mZ → mZ → mP → Nat → Value → Prop := fun z _ _ t V => ∃ v, V = .int (Int32.ofInt v) ∧ abP a (z t 0) (z t 1) (z t 2) (z t 3) (z t 4) (z 39 0) (z 39 1) (z 1 15) v
def kqAr (a : Int) : mZ → mZ → Value → Prop := fun z _ V => ∃ v, V = .int (Int32.ofInt v) ∧ abP a (z 225 26) (3 * z 225 26 / 2) (z 225 32) (z 225 27) (z 225 28) (z 225 73) (z 225 74) (z 225 1) v
theorem st_about (C : CV z w t) (R : RV z w) (x : XR z w p t) (f : kqF z w z1 w1) (L : LN (rE z) z w z w) (e15 : z 1 15 = z 225 1) (A : kqAc a z w p t V) (B : kqAr a z1 w1 V') : V = V' := by
  obtain ⟨v, rfl, h⟩ := A
  obtain ⟨v', rfl, h'⟩ := B
  have y := x.1.1.1.1
  have eE : 3 * z 225 26 / 2 = z t 1 := XT_E C x.1
  have pt : z t 2 = z 225 32 := (PT_u (E := z t 1) (E' := rE z) y.1 C.1 R.1.1 (fun s hs => x.1.1.1.2.1 s (by have := WT.hm C.1; omega) hs) x.1.2.1 x.1.2.2).1
  rw [(f 225 (by omega)).1, eE, ← pt, ← y.1, ← y.2.1, ← y.2.2, ← L.1, ← L.2.1, ← e15] at h'
  have hm := WT.hm C.1
  have pb := PQ_b x.1.2.1.1
  rw [abP_u (by omega) h h']
end

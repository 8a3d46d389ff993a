section
variable {z w z1 w1 z2 w2 : mZ} {p : mP} {t : Nat} {a b c : Int} {V V' : Value}
/-- words of both -/
theorem FW_e (hz : rz z) (ht : isT t) (x : XR z w p t) (h8 : z t 3 ≤ 8) {k : Nat} (hk : (k : Int) < z t 4) : z (t + 18) k = z 239 k ∧ ∀ i : Nat, (i : Int) < z (t + 18) k → i < 8 ∧ z (t + 20 + k) i = z 237 (8 * k + i) ∧ z (t + 27 + k) i = z 238 (8 * k + i) ∧ (z (t + 20 + k) i).toNat < 8 := by
  obtain ⟨⟨⟨⟨⟨y1, y2, y3⟩, y4, y5, y6, y7⟩, x2⟩, x3, x4⟩, x5, x6⟩ := x
  have t4 := rd_T_4 ht hz
  have e := y6 k (by omega) hk
  have c := rd_T18 ht hz (i := k) (by omega)
  refine ⟨e, fun i hi => ?_⟩
  have q := y7 k i (by omega) (by omega) hk hi
  have r := rd_T20 ht (k := k) (by omega) hz (i := i) (by omega)
  exact ⟨by omega, q.1, q.2, by omega⟩
theorem FW_i (hz : rz z) (ht : isT t) (x : XR z w p t) (h8 : z t 3 ≤ 8) {k : Nat} (hk : (k : Int) < z t 4) : FW z t k ↔ FWr z k := by
  obtain ⟨e, h⟩ := FW_e hz ht x h8 hk
  have y2 : z t 3 = z 225 27 := x.1.1.1.1.2.1
  have t4 := rd_T_4 ht hz
  constructor
  · intro q i hi
    obtain ⟨i8, h1, h2, h3⟩ := h i (by omega)
    have q2 := q i (by omega)
    have r := rd_T20 ht (k := k) (by omega) hz (i := i) i8
    have kk := RDe_k hz h3 (x.2.1 _ (by omega))
    rw [← h1]
    exact ⟨by omega, kk.1.mp q2.2⟩
  · intro q i hi
    obtain ⟨i8, h1, h2, h3⟩ := h i hi
    have q2 := q i (by omega)
    rw [← h1] at q2
    have r := rd_T20 ht (k := k) (by omega) hz (i := i) i8
    have kk := RDe_k hz h3 (x.2.1 _ (by omega))
    exact ⟨by omega, kk.1.mpr q2.2⟩
theorem gw_c (hz : rz z) (ht : isT t) (x : XR z w p t) (h8 : z t 3 ≤ 8) {k : Nat} (hk : (k : Int) < z t 4) (q : FWr z k) (m n : Nat → Int) (e : ∀ j, j < 18 → n j = m j) : oeq (gwc z t k m) (gwr z k n) := by
  obtain ⟨e1, h⟩ := FW_e hz ht x h8 hk
  have y2 : z t 3 = z 225 27 := x.1.1.1.1.2.1
  have t4 := rd_T_4 ht hz
  have c := rd_T18 ht hz (i := k) (by omega)
  unfold gwc gwr
  rw [← e1]
  refine gwd_c (K := (z (t + 18) k).toNat) (fun i hi => ?_) e _ (Nat.le_refl _)
  obtain ⟨i8, h1, h2, h3⟩ := h i (by omega)
  have q2 := q i (by omega)
  have r := rd_T20 ht (k := k) (by omega) hz (i := i) i8
  rw [← h1] at q2
  refine ⟨?_, h2.symm⟩
  show Req (rdc z (z (t + 20 + k) i).toNat) (rdr z (z 237 (8 * k + i)).toNat)
  rw [← h1]
  exact (RDe_k hz h3 (x.2.1 _ (by omega))).2 q2.2
theorem gw_z (hz : rz z) (ht : isT t) (R : RV z w) (x : XR z w p t) (h8 : z t 3 ≤ 8) {k : Nat} (hk : (k : Int) < z t 4) (q : FWr z k) (n : Nat → Int) : oz (rE z) n (gwr z k n) := by
  obtain ⟨e1, h⟩ := FW_e hz ht x h8 hk
  have y2 : z t 3 = z 225 27 := x.1.1.1.1.2.1
  have t4 := rd_T_4 ht hz
  have c := rd_T18 ht hz (i := k) (by omega)
  unfold gwr
  refine gwd_z (K := (z 239 k).toNat) (fun i hi => ?_) n _ (Nat.le_refl _)
  obtain ⟨i8, h1, h2, h3⟩ := h i (by omega)
  have q2 := q i (by omega)
  have r := rd_T20 ht (k := k) (by omega) hz (i := i) i8
  show (∀ j, j < (rdr z (z 237 (8 * k + i)).toNat).2.1 → _) ∧ _
  rw [← h1] at q2 ⊢
  exact GRq_z hz h3 (R.1.2.2.2 _ (by omega)) q2.2
end

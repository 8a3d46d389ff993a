/-! acts and answers: of the class, of the reference, and that they are one -/
theorem XT_n {z w : mZ} {t l : Nat} (x : XT z w t) (h8 : z t 3 ≤ 8) (hl : (l : Int) < z t 3) (j : Nat) (hj : j < 18) : tr (rE z) (lnR z l) j = w (t + 8 + l) j := by
  obtain ⟨⟨⟨⟨y1, y2, y3⟩, y4, y5, y6, y7⟩, x2⟩, x3, x4⟩ := x
  by_cases d : (j : Int) < 3 * z t 0 / 2
  · rw [tr_l (show (j : Int) < rE z by unfold rE; omega)]
    exact (y5 l j (by omega) hj hl d).symm
  · rw [tr_g (show rE z ≤ (j : Int) by unfold rE; omega)]
    exact (x2 l j (by omega) hj hl (by omega)).symm
theorem XT_E {z w : mZ} {t : Nat} (C : CV z w t) (x : XT z w t) : rE z = z t 1 := by
  have y1 := x.1.1.1.1
  have hE := WT.hE C.1
  unfold rE
  omega
theorem RDe_k {z : mZ} {l : Nat} (hz : rz z) (hl : l < 8) (h : RDe z l) : (z (17 + 2 * l) 0 = 2 ↔ z 254 l = 1) ∧ (z 254 l = 1 → Req (rdc z l) (rdr z l)) := by
  obtain ⟨r1, r2, r3, r4, r5⟩ := h
  have k := rd_R_0 hl hz
  have a : z (17 + 2 * l) 0 = 2 → z 254 l = 1 := fun q => by
    have q1 := r3 (r4 q).1
    omega
  have b : z 254 l = 1 → z (17 + 2 * l) 0 = 2 := fun q => by
    rcases r1 with s | s
    · have := (r2 s).2; omega
    · have := r3 s; omega
  exact ⟨⟨a, b⟩, fun q => (r4 (b q)).2⟩
/-- the reference's cells, as they were -/
def kqF (z w z1 w1 : mZ) : Prop := ∀ a, 225 ≤ a → z1 a = z a ∧ w1 a = w a
theorem kqF_s {S : mS} {z w z1 w1 : mZ} (hs : st_ S z w z1 w1) (hl : kqlo S = true) : kqF z w z1 w1 := fun a ha => ⟨funext fun i => hs.2.2.1 _ _ (lo_n hl ha), funext fun i => hs.2.2.2 _ _ (lo_n hl ha)⟩
theorem kqF_E {z w z1 w1 : mZ} (f : kqF z w z1 w1) : rE z1 = rE z := by unfold rE; rw [(f 225 (by omega)).1]
theorem kqF_l {z w z1 w1 : mZ} (f : kqF z w z1 w1) (l : Nat) : lnR z1 l = lnR z l := by unfold lnR; rw [(f 236 (by omega)).1]
theorem kqF_d {z w z1 w1 : mZ} (f : kqF z w z1 w1) (l : Nat) : rdr z1 l = rdr z l := rdr_f (fun a h1 h2 => (f a (by omega)).1)
theorem kqF_w {z w z1 w1 : mZ} (f : kqF z w z1 w1) (a : Nat) (n : Nat → Int) : gwr z1 a n = gwr z a n := gwr_f (f 237 (by omega)).1 (f 238 (by omega)).1 (f 239 (by omega)).1 (fun a h1 h2 => (f a (by omega)).1)
/-- THE LINE's numbers of both -/
theorem LN_t {z w z1 w1 : mZ} {E : Int} (b : BD39 z) (L : LN E z w z1 w1) (j : Nat) (hj : j < 18) : tr E (w1 270) j = w (aR z (z 39 0)) j := by
  have q := LN_now b L hj
  by_cases d : (j : Int) < E
  · rw [tr_l d, q.1]
  · rw [tr_g (by omega), q.1, q.2 (by omega)]

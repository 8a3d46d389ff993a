section
/-! THE LINE in earnest, as both keep it -/
def CU3 (z w z' w' : mZ) : Prop := (z' 39 0 = z 39 0 ∧ z' 39 1 = z 39 1 ∧ z' 39 2 = z 39 2) ∧ ∀ a, 41 ≤ a → a ≤ 101 → w' a = w a
def CKP (z w z' w' : mZ) (n : Nat → Int) : Prop := z' 39 1 = 0 ∧ ((z 39 0 ≤ 59 ∧ z' 39 0 = z 39 0 + 1 ∧ z' 39 2 = z 39 2) ∨ (z 39 0 = 60 ∧ z' 39 0 = 60 ∧ z' 39 2 = (z 39 2 + 1) % 61)) ∧ (∀ j : Nat, j < 18 → w' (aR z' (z' 39 0)) j = n j) ∧ ∀ a, 41 ≤ a → a ≤ 101 → a ≠ aR z' (z' 39 0) → w' a = w a
def CUD (z w z' w' : mZ) (v : Int) : Prop := ((z 39 0 = 0 ∧ v = 0 ∧ z' 39 0 = z 39 0 ∧ z' 39 1 = z 39 1) ∨ (0 < z 39 0 ∧ v = 1 ∧ z' 39 0 = z 39 0 - 1 ∧ z' 39 1 = z 39 1 + 1)) ∧ z' 39 2 = z 39 2 ∧ ∀ a, 41 ≤ a → a ≤ 101 → w' a = w a
def CRD (z w z' w' : mZ) (v : Int) : Prop := ((z 39 1 = 0 ∧ v = 0 ∧ z' 39 0 = z 39 0 ∧ z' 39 1 = z 39 1) ∨ (0 < z 39 1 ∧ v = 1 ∧ z' 39 0 = z 39 0 + 1 ∧ z' 39 1 = z 39 1 - 1)) ∧ z' 39 2 = z 39 2 ∧ ∀ a, 41 ≤ a → a ≤ 101 → w' a = w a
def RU3 (z w z' w' : mZ) : Prop := z' 225 73 = z 225 73 ∧ z' 225 74 = z 225 74 ∧ w' 270 = w 270 ∧ w' 271 = w 271
def RKP (z w z' w' : mZ) (n : Nat → Int) : Prop := z' 225 74 = 0 ∧ (∀ e : Nat, e < 18 → w' 270 e = n e) ∧ ((z 225 73 ≤ 59 ∧ z' 225 73 = z 225 73 + 1 ∧ (∀ e : Nat, e < 18 → w' 271 (18 * (z 225 73).toNat + e) = w 270 e) ∧ ∀ i : Nat, i < 18 * (z 225 73).toNat → w' 271 i = w 271 i) ∨
  (z 225 73 = 60 ∧ z' 225 73 = 60 ∧ (∀ e : Nat, e < 18 → w' 271 (1062 + e) = w 270 e) ∧ ∀ i : Nat, i < 1062 → w' 271 i = w 271 (i + 18)))
def RUD (z w z' w' : mZ) (v : Int) : Prop := (z 225 73 = 0 ∧ v = 0 ∧ RU3 z w z' w') ∨ (0 < z 225 73 ∧ v = 1 ∧ z' 225 73 = z 225 73 - 1 ∧ z' 225 74 = z 225 74 + 1 ∧ EXd w w' (z 225 73 - 1).toNat)
def RRD (z w z' w' : mZ) (v : Int) : Prop := (z 225 74 = 0 ∧ v = 0 ∧ RU3 z w z' w') ∨ (0 < z 225 74 ∧ v = 1 ∧ z' 225 73 = z 225 73 + 1 ∧ z' 225 74 = z 225 74 - 1 ∧ EXd w w' (z 225 73).toNat)
/-- the k-th state of the reference's line -/
def stR (z w : mZ) (k e : Nat) : Int := if (k : Int) < z 225 73 then w 271 (18 * k + e) else if (k : Int) = z 225 73 then w 270 e else w 271 (18 * (k - 1) + e)
theorem stR_1 {z w : mZ} {k e : Nat} (h : (k : Int) < z 225 73) : stR z w k e = w 271 (18 * k + e) := if_pos h
theorem stR_2 {z w : mZ} {k e : Nat} (h : (k : Int) = z 225 73) : stR z w k e = w 270 e := by unfold stR; rw [if_neg (by omega), if_pos h]
theorem stR_3 {z w : mZ} {k e : Nat} (h : z 225 73 < (k : Int)) : stR z w k e = w 271 (18 * (k - 1) + e) := by unfold stR; rw [if_neg (by omega), if_neg (by omega)]
/-- both keep the same states, 0 behind the last edge -/
def LN (E : Int) (zc wc zr wr : mZ) : Prop := zc 39 0 = zr 225 73 ∧ zc 39 1 = zr 225 74 ∧ ∀ k : Nat, (k : Int) ≤ zc 39 0 + zc 39 1 → ∀ e : Nat, e < 18 → wc (aR zc k) e = stR zr wr k e ∧ (E ≤ (e : Int) → stR zr wr k e = 0)
def BD39 (z : mZ) : Prop := 0 ≤ z 39 0 ∧ 0 ≤ z 39 1 ∧ z 39 0 + z 39 1 ≤ 60 ∧ 0 ≤ z 39 2 ∧ z 39 2 ≤ 60
section
variable {E : Int} {zc wc zr wr zc' wc' zr' wr' : mZ}
theorem CU3_r : CU3 zc wc zc wc := ⟨⟨rfl, rfl, rfl⟩, fun _ _ _ => rfl⟩
theorem RU3_r : RU3 zr wr zr wr := ⟨rfl, rfl, rfl, rfl⟩
theorem CKP_c {z1 w1 : mZ} {n : Nat → Int} (u : CU3 zc wc z1 w1) (k : CKP z1 w1 zc' wc' n) : CKP zc wc zc' wc' n := by
  obtain ⟨⟨u0, u1, u2⟩, u3⟩ := u
  obtain ⟨k1, k2, k3, k4⟩ := k
  rw [u0, u2] at k2
  exact ⟨k1, k2, k3, fun a h1 h2 h3 => (k4 a h1 h2 h3).trans (u3 a h1 h2)⟩
theorem CU3_c {z1 w1 : mZ} (u : CU3 zc wc z1 w1) (k : CU3 z1 w1 zc' wc') : CU3 zc wc zc' wc' := by
  obtain ⟨⟨u0, u1, u2⟩, u3⟩ := u
  obtain ⟨⟨k0, k1, k2⟩, k3⟩ := k
  exact ⟨⟨k0.trans u0, k1.trans u1, k2.trans u2⟩, fun a h1 h2 => (k3 a h1 h2).trans (u3 a h1 h2)⟩
theorem RKP_c {z1 w1 : mZ} {n : Nat → Int} (u : RU3 zr wr z1 w1) (k : RKP z1 w1 zr' wr' n) : RKP zr wr zr' wr' n := by
  obtain ⟨u0, u1, u2, u3⟩ := u
  obtain ⟨k1, k2, k3⟩ := k
  rw [u0, u2, u3] at k3
  exact ⟨k1, k2, k3⟩
theorem LN_u (h : LN E zc wc zr wr) (c : CU3 zc wc zc' wc') (r : RU3 zr wr zr' wr') : LN E zc' wc' zr' wr' := by
  obtain ⟨h1, h2, h3⟩ := h
  obtain ⟨⟨c0, c1, c2⟩, c3⟩ := c
  obtain ⟨r0, r1, r2, r3⟩ := r
  refine ⟨by omega, by omega, fun k hk e he => ?_⟩
  have q := h3 k (by omega) e he
  have s : stR zr' wr' k e = stR zr wr k e := by unfold stR; rw [r0, r2, r3]
  have a : aR zc' k = aR zc k := by unfold aR; rw [c2]
  rw [s, a, c3 _ (by unfold aR; omega) (by unfold aR; omega)]
  exact q
theorem LN_k {n n' : Nat → Int} (b : BD39 zc) (h : LN E zc wc zr wr) (c : CKP zc wc zc' wc' n) (r : RKP zr wr zr' wr' n') (en : ∀ j, j < 18 → n' j = n j) (n0 : ∀ j : Nat, j < 18 → E ≤ (j : Int) → n j = 0) : LN E zc' wc' zr' wr' := by
  obtain ⟨h1, h2, h3⟩ := h
  obtain ⟨c1, c2, c3, c4⟩ := c
  obtain ⟨r1, r2, r3⟩ := r
  obtain ⟨b0, b1, b2, b3, b4⟩ := b
  rcases c2 with ⟨d0, d1, d2⟩ | ⟨d0, d1, d2⟩ <;> rcases r3 with ⟨s0, s1, s2, s3⟩ | ⟨s0, s1, s2, s3⟩
  · refine ⟨by omega, by omega, fun k hk e he => ?_⟩
    by_cases q : (k : Int) = zc' 39 0
    · rw [stR_2 (by omega), r2 e he, en e he, q, c3 e he]
      exact ⟨rfl, n0 e he⟩
    · have a : aR zc' k = aR zc k := by unfold aR; rw [d2]
      have ne : aR zc' k ≠ aR zc' (zc' 39 0) := by unfold aR; omega
      rw [c4 _ (by unfold aR; omega) (by unfold aR; omega) ne, a]
      have p := h3 k (by omega) e he
      have t : stR zr' wr' k e = stR zr wr k e := by
        rw [stR_1 (by omega)]
        by_cases g : (k : Int) < zr 225 73
        · rw [stR_1 g, s3 _ (by omega)]
        · rw [stR_2 (by omega), ← s2 e he]; congr 1; omega
      rw [t]; exact p
  · omega
  · omega
  · refine ⟨by omega, by omega, fun k hk e he => ?_⟩
    by_cases q : (k : Int) = zc' 39 0
    · rw [stR_2 (by omega), r2 e he, en e he, q, c3 e he]
      exact ⟨rfl, n0 e he⟩
    · have a : aR zc' k = aR zc (((k + 1 : Nat)) : Int) := by unfold aR; rw [d2]; omega
      have ne : aR zc' k ≠ aR zc' (zc' 39 0) := by unfold aR; omega
      rw [c4 _ (by unfold aR; omega) (by unfold aR; omega) ne, a]
      have p := h3 (k + 1) (by omega) e he
      have t : stR zr' wr' k e = stR zr wr (k + 1) e := by
        rw [stR_1 (by omega)]
        by_cases g : ((k + 1 : Nat) : Int) < zr 225 73
        · rw [stR_1 g, s3 _ (by omega)]; congr 1; omega
        · rw [stR_2 (by omega), ← s2 e he]; congr 1; omega
      rw [t]; exact p
theorem LN_un {v v' : Int} (b : BD39 zc) (h : LN E zc wc zr wr) (c : CUD zc wc zc' wc' v) (r : RUD zr wr zr' wr' v') : LN E zc' wc' zr' wr' ∧ v = v' := by
  obtain ⟨c1, c2, c3⟩ := c
  obtain ⟨b0, b1, b2, b3, b4⟩ := b
  have h1 := h.1; have h2 := h.2.1; have h3 := h.2.2
  rcases c1 with ⟨d0, d1, d2, d3⟩ | ⟨d0, d1, d2, d3⟩ <;> rcases r with ⟨s0, s1, s2⟩ | ⟨s0, s1, s2, s3, s4⟩
  · exact ⟨LN_u h ⟨⟨d2, d3, c2⟩, c3⟩ s2, by omega⟩
  · omega
  · omega
  · refine ⟨⟨by omega, by omega, fun k hk e he => ?_⟩, by omega⟩
    have p := h3 k (by omega) e he
    have a : aR zc' k = aR zc k := by unfold aR; rw [c2]
    rw [a, c3 _ (by unfold aR; omega) (by unfold aR; omega)]
    have t : stR zr' wr' k e = stR zr wr k e := by
      by_cases g : (k : Int) < zr 225 73 - 1
      · rw [stR_1 (by omega), stR_1 (by omega), s4.2 _ (by omega)]
      · by_cases g2 : (k : Int) = zr 225 73 - 1
        · rw [stR_2 (by omega), stR_1 (by omega), (s4.1 e he).2]; congr 1; omega
        · by_cases g3 : (k : Int) = zr 225 73
          · rw [stR_3 (by omega), stR_2 g3, ← (s4.1 e he).1]; congr 1; omega
          · rw [stR_3 (by omega), stR_3 (by omega), s4.2 _ (by omega)]
    rw [t]; exact p
theorem LN_re {v v' : Int} (b : BD39 zc) (h : LN E zc wc zr wr) (c : CRD zc wc zc' wc' v) (r : RRD zr wr zr' wr' v') : LN E zc' wc' zr' wr' ∧ v = v' := by
  obtain ⟨c1, c2, c3⟩ := c
  obtain ⟨b0, b1, b2, b3, b4⟩ := b
  have h1 := h.1; have h2 := h.2.1; have h3 := h.2.2
  rcases c1 with ⟨d0, d1, d2, d3⟩ | ⟨d0, d1, d2, d3⟩ <;> rcases r with ⟨s0, s1, s2⟩ | ⟨s0, s1, s2, s3, s4⟩
  · exact ⟨LN_u h ⟨⟨d2, d3, c2⟩, c3⟩ s2, by omega⟩
  · omega
  · omega
  · refine ⟨⟨by omega, by omega, fun k hk e he => ?_⟩, by omega⟩
    have p := h3 k (by omega) e he
    have a : aR zc' k = aR zc k := by unfold aR; rw [c2]
    rw [a, c3 _ (by unfold aR; omega) (by unfold aR; omega)]
    have t : stR zr' wr' k e = stR zr wr k e := by
      by_cases g : (k : Int) < zr 225 73
      · rw [stR_1 (by omega), stR_1 (by omega), s4.2 _ (by omega)]
      · by_cases g2 : (k : Int) = zr 225 73
        · rw [stR_1 (by omega), stR_2 g2, ← (s4.1 e he).1]; congr 1; omega
        · by_cases g3 : (k : Int) = zr 225 73 + 1
          · rw [stR_2 (by omega), stR_3 (by omega), (s4.1 e he).2]; congr 1; omega
          · rw [stR_3 (by omega), stR_3 (by omega), s4.2 _ (by omega)]
    rw [t]; exact p
/-- one state alone -/
theorem LN_1 (c0 : zc 39 0 = 0) (c1 : zc 39 1 = 0) (r0 : zr 225 73 = 0) (r1 : zr 225 74 = 0) (h : ∀ e : Nat, e < 18 → wc (aR zc 0) e = wr 270 e ∧ (E ≤ (e : Int) → wr 270 e = 0)) : LN E zc wc zr wr := by
  refine ⟨by omega, by omega, fun k hk e he => ?_⟩
  have k0 : k = 0 := by omega
  subst k0
  rw [stR_2 (by omega)]
  exact h e he
/-- the line as it is -/
theorem LN_now (b : BD39 zc) (h : LN E zc wc zr wr) {e : Nat} (he : e < 18) : wc (aR zc (zc 39 0)) e = wr 270 e ∧ (E ≤ (e : Int) → wr 270 e = 0) := by
  obtain ⟨h1, h2, h3⟩ := h
  obtain ⟨b0, b1, b2, b3, b4⟩ := b
  have q := h3 (zc 39 0).toNat (by omega) e he
  rw [stR_2 (by omega), show (((zc 39 0).toNat : Nat) : Int) = zc 39 0 by omega] at q
  exact q
end
/-- an act: numbers that go through f -/
def CAC (z w z' w' : mZ) (v : Int) (f : (Nat → Int) → Option (Nat → Int)) : Prop := ∃ n0 : Nat → Int, (∀ j : Nat, j < 18 → n0 j = w (aR z (z 39 0)) j) ∧ ((f n0 = none ∧ v = -2 ∧ CU3 z w z' w') ∨ ∃ n, f n0 = some n ∧ v = sm n 18 ∧ CKP z w z' w' n)
def RAC (z w z' w' : mZ) (v : Int) (f : (Nat → Int) → Option (Nat → Int)) : Prop := ∃ n0 : Nat → Int, (∀ j : Nat, j < 18 → n0 j = tr (rE z) (w 270) j) ∧ ((f n0 = none ∧ v = -2 ∧ RU3 z w z' w') ∨ ∃ n, f n0 = some n ∧ v = sm (tr (rE z) n) 18 ∧ RKP z w z' w' n)
/-- behind the last edge nothing is changed -/
def oz (E : Int) (n : Nat → Int) : Option (Nat → Int) → Prop
  | none => True
  | some a => ∀ j : Nat, E ≤ (j : Int) → a j = n j
theorem oz_b {E : Int} {n : Nat → Int} {x : Option (Nat → Int)} {f : (Nat → Int) → Option (Nat → Int)} (h : oz E n x) (k : ∀ a, oz E a (f a)) : oz E n (x.bind f) := by
  cases x with
  | none => exact True.intro
  | some a =>
    have q := k a
    show oz E n (f a)
    cases y : f a with
    | none => exact True.intro
    | some c =>
      rw [y] at q
      exact fun j hj => ((show ∀ j : Nat, E ≤ (j : Int) → c j = a j from q) j hj).trans ((show ∀ j : Nat, E ≤ (j : Int) → a j = n j from h) j hj)
theorem oz_g {E : Int} {n a : Nat → Int} {e : Nat} (h : ∀ j : Nat, E ≤ (j : Int) → a j = n j) : oz E n (gst e a) := by
  by_cases c : a e ≤ 100000000000000
  · rw [gst_y c]; exact h
  · rw [gst_n c]; exact True.intro
section
variable {E : Int} {cf : Nat → Nat → Nat} {K : Nat}
theorem gfw_z (hb : ∀ i, i < K → ((cf i 0 : Nat) : Int) < E) (n : Nat → Int) : ∀ k, k ≤ K → oz E n (gfw cf k n)
  | 0, _ => fun _ _ => rfl
  | k + 1, hk => by
    show oz E n ((gfw cf k n).bind (fun a => gst (cf k 0) (flc cf k a)))
    exact oz_b (gfw_z hb n k (by omega)) (fun a => oz_g (fun j hj => fl_ne (by have := hb k (by omega); omega)))
theorem gbw_z (hb : ∀ i, i < K → ((cf i 0 : Nat) : Int) < E) (n : Nat → Int) : ∀ j, j ≤ K → oz E n (gbw cf K j n)
  | 0, _ => fun _ _ => rfl
  | j + 1, hk => by
    show oz E n ((gbw cf K j n).bind (fun a => gst (cf (K - 1 - j) 0) (flc cf (K - 1 - j) a)))
    exact oz_b (gbw_z hb n j (by omega)) (fun a => oz_g (fun i hi => fl_ne (by have := hb (K - 1 - j) (by omega); omega)))
theorem gtw_z {p q u v : Nat} (hu : (u : Int) < E) (hv : (v : Int) < E) (n : Nat → Int) : ∀ k, oz E n (gtw p q u v k n)
  | 0 => fun _ _ => rfl
  | k + 1 => by
    show oz E n ((gtw p q u v k n).bind (fun x => gst v (tw p q u v x)))
    exact oz_b (gtw_z hu hv n k) (fun a => oz_g (fun j hj => by unfold tw; rw [if_neg (by omega), if_neg (by omega)]))
theorem gal_z {r : Rdt} (hb : ∀ i, i < r.2.1 → ((r.1 i 0 : Nat) : Int) < E) (he : ((r.2.2.2.2.1 : Nat) : Int) < E) (hf : ((r.2.2.2.2.2 : Nat) : Int) < E) (t : Int) (n : Nat → Int) : oz E n (gal r t n) := by
  unfold gal
  refine oz_b (oz_b (gfw_z hb n _ (Nat.le_refl _)) (fun a => ?_)) (fun a => gbw_z hb a _ (Nat.le_refl _))
  unfold gtm
  by_cases c : 0 < t
  · rw [if_pos c]; exact gtw_z he hf a _
  · rw [if_neg c]; exact gtw_z hf he a _
theorem gwd_z {R : Nat → Rdt} {ln : Nat → Nat} {tm : Nat → Int} (h : ∀ i, i < K → (∀ j, j < (R (ln i)).2.1 → (((R (ln i)).1 j 0 : Nat) : Int) < E) ∧ (((R (ln i)).2.2.2.2.1 : Nat) : Int) < E ∧ (((R (ln i)).2.2.2.2.2 : Nat) : Int) < E) (n : Nat → Int) : ∀ i, i ≤ K → oz E n (gwd R ln tm i n)
  | 0, _ => fun _ _ => rfl
  | i + 1, hi => by
    show oz E n ((gwd R ln tm i n).bind (fun x => gal (R (ln i)) (tm i) x))
    exact oz_b (gwd_z h n i (by omega)) (fun a => gal_z (h i (by omega)).1 (h i (by omega)).2.1 (h i (by omega)).2.2 (tm i) a)
end
/-- of the reference's roads -/
theorem GRq_z {z : mZ} {l : Nat} (hz : rz z) (h8 : l < 8) (g : GRq z z l) (f : z 254 l = 1) : (∀ i, i < (rdr z l).2.1 → (((rdr z l).1 i 0 : Nat) : Int) < rE z) ∧ (((rdr z l).2.2.2.2.1 : Nat) : Int) < rE z ∧ (((rdr z l).2.2.2.2.2 : Nat) : Int) < rE z := by
  obtain ⟨_, b, _, _, e, f⟩ := g f
  have y1 := rd_249 hz (i := l) h8
  have y2 := rd_250 hz (i := l) h8
  exact ⟨fun i hi => b i 0 hi (by omega), by show (((z 249 l).toNat : Nat) : Int) < _; omega, by show (((z 250 l).toNat : Nat) : Int) < _; omega⟩
/-- an act of both -/
theorem AC_u {E : Int} {zc wc zc' wc' zr wr zr' wr' : mZ} {v v' : Int} {f g : (Nat → Int) → Option (Nat → Int)} (b : BD39 zc) (eE : rE zr = E) (h : LN E zc wc zr wr) (fg : ∀ x y : Nat → Int, (∀ j, j < 18 → y j = x j) → oeq (f x) (g y)) (gz : ∀ n, oz E n (g n)) (c : CAC zc wc zc' wc' v f) (r : RAC zr wr zr' wr' v' g) : LN E zc' wc' zr' wr' ∧ v = v' := by
  obtain ⟨n0, c0, c1⟩ := c
  obtain ⟨m0, r0, r1⟩ := r
  rw [eE] at r0 r1
  have em : ∀ j, j < 18 → m0 j = n0 j := by
    intro j hj
    have q := LN_now b h hj
    rw [r0 j hj, c0 j hj, q.1]
    by_cases d : (j : Int) < E
    · rw [tr_l d]
    · rw [tr_g (by omega), q.2 (by omega)]
  have o := fg n0 m0 em
  rcases c1 with ⟨c1, c2, c3⟩ | ⟨n, c1, c2, c3⟩ <;> rcases r1 with ⟨r1, r2, r3⟩ | ⟨m, r1, r2, r3⟩
  · exact ⟨LN_u h c3 r3, by omega⟩
  · exact (oeq_ns o c1 r1).elim
  · exact (oeq_sn o c1 r1).elim
  · have en := oeq_ss o c1 r1
    have z := gz m0
    rw [r1] at z
    have mz : ∀ j : Nat, j < 18 → E ≤ (j : Int) → m j = 0 := by
      intro j hj d
      rw [(show ∀ j : Nat, E ≤ (j : Int) → m j = m0 j from z) j d, r0 j hj, tr_g d]
    refine ⟨LN_k b h c3 r3 en (fun j hj d => by rw [← en j hj]; exact mz j hj d), ?_⟩
    rw [c2, r2]
    refine sm_c 18 (fun j hj => ?_)
    rw [← en j hj]
    by_cases d : (j : Int) < E
    · rw [tr_l d]
    · rw [tr_g (by omega), mz j hj (by omega)]
/-! words: the same twists by the same roads -/
theorem gwd_e {R R' : Nat → Rdt} {ln ln' : Nat → Nat} {tm tm' : Nat → Int} {K : Nat} (h : ∀ i, i < K → R' (ln' i) = R (ln i) ∧ tm' i = tm i) (n : Nat → Int) : ∀ i, i ≤ K → gwd R' ln' tm' i n = gwd R ln tm i n
  | 0, _ => rfl
  | i + 1, hi => by
    show (gwd R' ln' tm' i n).bind (fun x => gal (R' (ln' i)) (tm' i) x) = (gwd R ln tm i n).bind (fun x => gal (R (ln i)) (tm i) x)
    rw [gwd_e h n i (by omega), (h i (by omega)).1, (h i (by omega)).2]
theorem gwc_f {z z' : mZ} {t a : Nat} {n : Nat → Int} (e18 : z' (t + 18) a = z (t + 18) a) (e20 : ∀ i, z' (t + 20 + a) i = z (t + 20 + a) i) (e27 : ∀ i, z' (t + 27 + a) i = z (t + 27 + a) i) (r : ∀ i : Nat, (i : Int) < z (t + 18) a → (z (t + 20 + a) i).toNat < 8) (rd : ∀ l, l < 8 → rdc z' l = rdc z l) : gwc z' t a n = gwc z t a n := by
  unfold gwc
  rw [e18]
  refine gwd_e (K := (z (t + 18) a).toNat) (fun i hi => ⟨?_, e27 i⟩) n _ (Nat.le_refl _)
  show rdc z' (z' (t + 20 + a) i).toNat = rdc z (z (t + 20 + a) i).toNat
  rw [e20 i]
  exact rd _ (r i (by omega))
theorem gwr_f {z z' : mZ} {a : Nat} {n : Nat → Int} (e1 : z' 237 = z 237) (e2 : z' 238 = z 238) (e3 : z' 239 = z 239) (h : ∀ a, 247 ≤ a → a ≤ 252 → z' a = z a) : gwr z' a n = gwr z a n := by
  have e : rdr z' = rdr z := funext fun l => rdr_f h
  unfold gwr
  rw [e, e1, e2, e3]
/-! an act of the reference, on its way -/
def ACp (z w z' w' : mZ) : Prop := (z 225 73 ≤ 59 ∧ z' 225 73 = z 225 73 ∧ ∀ i : Nat, i < 18 * (z 225 73).toNat → w' 271 i = w 271 i) ∨ (z 225 73 = 60 ∧ z' 225 73 = 59 ∧ ∀ i : Nat, i < 1062 → w' 271 i = w 271 (i + 18))
section
variable {z w z' w' z1 w1 : mZ}
theorem ACp_0 (h : z 225 73 ≤ 59) : ACp z w z w := Or.inl ⟨h, rfl, fun _ _ => rfl⟩
theorem ACp_s (h : z 225 73 = 60) (h1 : z' 225 73 = z 225 73 - 1) (h2 : ∀ i : Nat, (i : Int) < 1062 → w' 271 i = w 271 (i + 18)) : ACp z w z' w' := Or.inr ⟨h, by omega, fun i hi => h2 i (by omega)⟩
theorem ACp_w (h : ACp z w z1 w1) (e : z' 225 73 = z1 225 73) (hw : ∀ i : Nat, i < 18 * (z1 225 73).toNat → w' 271 i = w1 271 i) : ACp z w z' w' := by
  rcases h with ⟨a, b, c⟩ | ⟨a, b, c⟩
  · exact Or.inl ⟨a, by omega, fun i hi => (hw i (by omega)).trans (c i hi)⟩
  · exact Or.inr ⟨a, by omega, fun i hi => (hw i (by omega)).trans (c i hi)⟩
theorem ACp_e {n : Nat → Int} (h : ACp z w z1 w1) (a3 : ∀ e : Nat, e < 18 → w1 271 (18 * (z1 225 73).toNat + e) = w 270 e ∧ w1 270 e = n e) (s : z' 225 73 = z1 225 73 + 1) (s2 : z' 225 74 = 0) (e1 : w' 271 = w1 271) (e2 : w' 270 = w1 270) : RKP z w z' w' n := by
  refine ⟨s2, fun e he => by rw [e2]; exact (a3 e he).2, ?_⟩
  rcases h with ⟨a, b, c⟩ | ⟨a, b, c⟩
  · refine Or.inl ⟨a, by omega, fun e he => ?_, fun i hi => by rw [e1]; exact c i hi⟩
    have q := (a3 e he).1
    rw [b] at q
    rw [e1]; exact q
  · refine Or.inr ⟨a, by omega, fun e he => ?_, fun i hi => by rw [e1]; exact c i hi⟩
    have q := (a3 e he).1
    rw [show 18 * (z1 225 73).toNat + e = 1062 + e by omega] at q
    rw [e1]; exact q
theorem RKP_n {n n' : Nat → Int} (h : RKP z w z' w' n) (e : ∀ j : Nat, j < 18 → n j = n' j) : RKP z w z' w' n' := ⟨h.1, fun j hj => (h.2.1 j hj).trans (e j hj), h.2.2⟩
end
/-! boxes of both -/
def BXE (E : Int) (zc wc zr wr : mZ) : Prop := ∀ b : Nat, b < 3 → zc 147 b = zr 274 b ∧ (zr 274 b = 1 → ∀ e : Nat, e < 18 → wc (144 + b) e = wr 275 (18 * b + e) ∧ (E ≤ (e : Int) → wr 275 (18 * b + e) = 0))
/-! a new ground -/
def CLA (z w : mZ) (u : Nat) : Prop := ∀ l : Nat, (l : Int) < z u 3 → CLR z w u l
def RLA (z : mZ) : Prop := ∀ l : Nat, (l : Int) < z 225 27 → RLR z l
def GN0 (z w : mZ) : Prop := (z 39 0 = 0 ∧ z 39 1 = 0 ∧ ∀ e : Nat, e < 18 → w (aR z 0) e = 0) ∧ ∀ b : Nat, b < 3 → z 147 b = 0
def RG0 (z w : mZ) : Prop := (z 225 73 = 0 ∧ z 225 74 = 0 ∧ ∀ e : Nat, e < 18 → w 270 e = 0) ∧ ∀ b : Nat, b < 3 → z 274 b = 0
theorem CLA_m {z z' w w' : mZ} {u : Nat} (hu : isT u) (hz : rz z) (h : ∀ a, a ≠ 147 → a ≠ 102 → a ≠ 1 → z' a = z a) (hw : ∀ a, a ≠ 147 → a ≠ 102 → a ≠ 1 → w' a = w a) (k : CLA z w u) : CLA z' w' u := by
  have hb : 159 ≤ u ∧ u ≤ 192 := by have := hu; unfold isT at this; omega
  intro l hl
  rw [h u (by omega) (by omega) (by omega)] at hl
  have h8 := rd_T_3 hu hz
  exact CLQ_g (by rw [h u (by omega) (by omega) (by omega)]) (by rw [h u (by omega) (by omega) (by omega)]) (h _ (by omega) (by omega) (by omega)) (h _ (by omega) (by omega) (by omega)) (h _ (by omega) (by omega) (by omega)) (hw _ (by omega) (by omega) (by omega)) (CLQ_f (fun i hi => by rw [h _ (by omega) (by omega) (by omega)]) (h _ (by omega) (by omega) (by omega)) (k l hl))
end
section
/-! methods, printed by wip/tools/vcg.py -/
/-- Acts stepBack -/
abbrev S_5x  : mS := [(39, 39, 0, 0), (39, 39, 1, 1)]
abbrev E_5x  (z0 w0 : mZ) (x y tx it mt tt ct : Option Nat) : Int → mZ → mZ → mP → Prop := fun v z w p => p = (pq x y tx it mt tt ct) ∧ 0 ≤ v ∧ v ≤ 1 ∧ ((z 39 0 + z 39 1 = z0 39 0 + z0 39 1) ∧ ((z0 39 0 = 0 ∧ v = 0 ∧ z 39 0 = z0 39 0 ∧ z 39 1 = z0 39 1) ∨ (0 < z0 39 0 ∧ v = 1 ∧ z 39 0 = z0 39 0 - 1 ∧ z 39 1 = z0 39 1 + 1)))
theorem m_5x {d : Nat} {z0 w0 : mZ} {x y tx it mt tt ct : Option Nat}  (hz : rz z0) (hw : rw_ w0) (hs : z0 39 0 + z0 39 1 ≤ 60) : wc (d + 1) 5 [.ref 39] (mk z0 w0 (pq x y tx it mt tt ct)) (poI S_5x z0 w0 (E_5x  z0 w0 x y tx it mt tt ct)) := by
  have hst : st_ S_5x z0 w0 z0 w0 := st_rf hz hw
  have hz13 := rd_39_0 hz
  have hz14 := rd_39_1 hz
  refine w_m rfl rfl ?_
  refine r_ld (pc' := 1) rfl rfl rfl rfl ?_
  have hb15 := rd_39_0 hz
  refine r_gi (pc' := 4) rfl rfl sh_39 rfl rfl ?_
  refine r_zne (pc' := 7) rfl rfl ⟨by omega, by omega⟩ (fun hc16 => ?_) (fun hc16 => ?_)
  · skip
    refine r_ld (pc' := 10) rfl rfl rfl rfl ?_
    refine r_al (pc' := 11) rfl rfl rfl rfl ?_
    refine r_gi (pc' := 14) rfl rfl sh_39 rfl rfl ?_
    refine r_c0 (pc' := 15) rfl rfl ?_
    refine r_sub (pc' := 16) rfl rfl ?_
    refine r_pi (pc' := 19) rfl rfl sh_39 rfl rfl hst (inS_0 (by omega) (by omega) (by omega) (by omega)) (wr_39_0 ⟨by omega, by omega⟩) (fun z17 hq18 hs19 => ?_)
    refine r_ld (pc' := 20) rfl rfl rfl rfl ?_
    refine r_al (pc' := 21) rfl rfl rfl rfl ?_
    have hb20 := rd_39_1 hz
    refine r_gi (pc' := 24) rfl rfl sh_39 rfl ((congrFun (congrFun hq18 _) _).trans (mu_ne (by omega))) ?_
    refine r_c0 (pc' := 25) rfl rfl ?_
    refine r_add (pc' := 26) rfl rfl ?_
    refine r_pi (pc' := 29) rfl rfl sh_39 rfl rfl hs19 (inS_s (inS_0 (by omega) (by omega) (by omega) (by omega))) (wr_39_1 ⟨by omega, by omega⟩) (fun z21 hq22 hs23 => ?_)
    refine r_c0 (pc' := 30) rfl rfl ?_
    have hf24 : z21 39 0 = (z0 39 0) - 1 := (((congrFun (congrFun hq22 _) _).trans (mu_ne (by omega))).trans ((congrFun (congrFun hq18 _) _).trans mu_eq))
    have hf25 : z21 39 1 = (z0 39 1) + 1 := ((congrFun (congrFun hq22 _) _).trans mu_eq)
    exact r_rz rfl (by omega) (po_I hs23 ⟨by decide, by decide⟩ ⟨rfl, by omega, by omega, (by first | omega | assumption | (simp only [hf24, hf25]; assumption))⟩)
  · skip
    refine r_c0 (pc' := 8) rfl rfl ?_
    have hb26 := rd_39_1 hz
    exact r_rz rfl (by omega) (po_I hst ⟨by decide, by decide⟩ ⟨rfl, by omega, by omega, (by first | omega | assumption)⟩)
/-- Acts stepOn -/
abbrev S_6x  : mS := [(39, 39, 1, 1), (39, 39, 0, 0)]
abbrev E_6x  (z0 w0 : mZ) (x y tx it mt tt ct : Option Nat) : Int → mZ → mZ → mP → Prop := fun v z w p => p = (pq x y tx it mt tt ct) ∧ 0 ≤ v ∧ v ≤ 1 ∧ ((z 39 0 + z 39 1 = z0 39 0 + z0 39 1) ∧ ((z0 39 1 = 0 ∧ v = 0 ∧ z 39 0 = z0 39 0 ∧ z 39 1 = z0 39 1) ∨ (0 < z0 39 1 ∧ v = 1 ∧ z 39 0 = z0 39 0 + 1 ∧ z 39 1 = z0 39 1 - 1)))
theorem m_6x {d : Nat} {z0 w0 : mZ} {x y tx it mt tt ct : Option Nat}  (hz : rz z0) (hw : rw_ w0) (hs : z0 39 0 + z0 39 1 ≤ 60) : wc (d + 1) 6 [.ref 39] (mk z0 w0 (pq x y tx it mt tt ct)) (poI S_6x z0 w0 (E_6x  z0 w0 x y tx it mt tt ct)) := by
  have hst : st_ S_6x z0 w0 z0 w0 := st_rf hz hw
  have hz13 := rd_39_0 hz
  have hz14 := rd_39_1 hz
  refine w_m rfl rfl ?_
  refine r_ld (pc' := 1) rfl rfl rfl rfl ?_
  have hb15 := rd_39_1 hz
  refine r_gi (pc' := 4) rfl rfl sh_39 rfl rfl ?_
  refine r_zne (pc' := 7) rfl rfl ⟨by omega, by omega⟩ (fun hc16 => ?_) (fun hc16 => ?_)
  · skip
    refine r_ld (pc' := 10) rfl rfl rfl rfl ?_
    refine r_al (pc' := 11) rfl rfl rfl rfl ?_
    refine r_gi (pc' := 14) rfl rfl sh_39 rfl rfl ?_
    refine r_c0 (pc' := 15) rfl rfl ?_
    refine r_sub (pc' := 16) rfl rfl ?_
    refine r_pi (pc' := 19) rfl rfl sh_39 rfl rfl hst (inS_0 (by omega) (by omega) (by omega) (by omega)) (wr_39_1 ⟨by omega, by omega⟩) (fun z17 hq18 hs19 => ?_)
    refine r_ld (pc' := 20) rfl rfl rfl rfl ?_
    refine r_al (pc' := 21) rfl rfl rfl rfl ?_
    have hb20 := rd_39_0 hz
    refine r_gi (pc' := 24) rfl rfl sh_39 rfl ((congrFun (congrFun hq18 _) _).trans (mu_ne (by omega))) ?_
    refine r_c0 (pc' := 25) rfl rfl ?_
    refine r_add (pc' := 26) rfl rfl ?_
    refine r_pi (pc' := 29) rfl rfl sh_39 rfl rfl hs19 (inS_s (inS_0 (by omega) (by omega) (by omega) (by omega))) (wr_39_0 ⟨by omega, by omega⟩) (fun z21 hq22 hs23 => ?_)
    refine r_c0 (pc' := 30) rfl rfl ?_
    have hf24 : z21 39 0 = (z0 39 0) + 1 := ((congrFun (congrFun hq22 _) _).trans mu_eq)
    have hf25 : z21 39 1 = (z0 39 1) - 1 := (((congrFun (congrFun hq22 _) _).trans (mu_ne (by omega))).trans ((congrFun (congrFun hq18 _) _).trans mu_eq))
    exact r_rz rfl (by omega) (po_I hs23 ⟨by decide, by decide⟩ ⟨rfl, by omega, by omega, (by first | omega | assumption | (simp only [hf24, hf25]; assumption))⟩)
  · skip
    refine r_c0 (pc' := 8) rfl rfl ?_
    have hb26 := rd_39_0 hz
    exact r_rz rfl (by omega) (po_I hst ⟨by decide, by decide⟩ ⟨rfl, by omega, by omega, (by first | omega | assumption)⟩)
/-- Mover isFairLine -/
abbrev S_23x  : mS := []
abbrev E_23x (t : Nat) (a1 : Int) (z0 w0 : mZ) (x y tx it tt ct : Option Nat) : Int → mZ → mZ → mP → Prop := fun v z w p => p = (pq x y tx it (some t) tt ct) ∧ z0 = z ∧ w0 = w ∧ 0 ≤ v ∧ v ≤ 1 ∧ ((v = 1 → 0 ≤ a1 ∧ a1 < z0 t 3 ∧ z0 t 3 ≤ 8 ∧ z0 (17 + 2 * a1.toNat) 0 = 2) ∧ (v = 0 → ¬ (0 ≤ a1 ∧ a1 < z0 t 3 ∧ z0 (17 + 2 * a1.toNat) 0 = 2)))
theorem m_23x {d : Nat} {z0 w0 : mZ} {x y tx it tt ct : Option Nat} (t : Nat) (a1 : Int) (hz : rz z0) (hw : rw_ w0) (ha1 : (-2147483648) ≤ a1 ∧ a1 ≤ 2147483647) (ht : isT t) : wc (d + 2) 23 [.ref 10, .int (Int32.ofInt a1)] (mk z0 w0 (pq x y tx it (some t) tt ct)) (poI S_23x z0 w0 (E_23x t a1 z0 w0 x y tx it tt ct)) := by
  have hst : st_ S_23x z0 w0 z0 w0 := st_rf hz hw
  have htb : 159 ≤ t ∧ t ≤ 192 := by have := ht; unfold isT at this; omega
  have hz11 := rd_T_3 ht hz
  have hzt3 := rd_T_3 ht hz
  refine w_m rfl rfl ?_
  refine r_ld (pc' := 1) rfl rfl rfl rfl ?_
  refine r_ld (pc' := 2) rfl rfl rfl rfl ?_
  refine r_cVR (pc' := 5) rfl rfl rfl rfl rfl sh_10 (m_22s (d := d) t a1 hst.1 hst.2.1 ⟨by omega, by omega⟩ ht) (fun v12 z13 w14 p15 hs17 hE18 => ?_)
  rcases hE18 with ⟨rfl, rfl, rfl, rfl, hrn⟩ | ⟨rfl, rfl, rfl, rfl, hrx⟩
  · skip
    refine r_st (pc' := 6) (lv' := [(2, _), (0, _), (1, _)]) rfl rfl rfl rfl ?_
    refine r_ld (pc' := 7) rfl rfl rfl rfl ?_
    refine r_nul_t rfl ?_
    refine r_c0 (pc' := 23) rfl rfl ?_
    exact r_rz rfl (by omega) (po_I hst ⟨by decide, by decide⟩ ⟨rfl, rfl, rfl, by omega, by omega, (by first | omega | assumption)⟩)
  · skip
    refine r_st (pc' := 6) (lv' := [(2, _), (0, _), (1, _)]) rfl rfl rfl rfl ?_
    refine r_ld (pc' := 7) rfl rfl rfl rfl ?_
    refine r_nul_f (pc' := 10) rfl rfl ?_
    refine r_ld (pc' := 11) rfl rfl rfl rfl ?_
    have hb20 := rd_R_0 (k := a1.toNat) (by omega) hz
    refine r_gi (pc' := 14) rfl rfl (sh_R (k := a1.toNat) (by omega)) rfl rfl ?_
    refine r_c0 (pc' := 15) rfl rfl ?_
    refine r_ine (pc' := 18) rfl rfl ⟨by omega, by omega⟩ ⟨by decide, by decide⟩ (fun hc21 => ?_) (fun hc21 => ?_)
    · skip
      refine r_c0 (pc' := 23) rfl rfl ?_
      exact r_rz rfl (by omega) (po_I hst ⟨by decide, by decide⟩ ⟨rfl, rfl, rfl, by omega, by omega, (by first | omega | assumption)⟩)
    · skip
      refine r_c0 (pc' := 19) rfl rfl ?_
      refine r_go rfl ?_
      exact r_rz rfl (by omega) (po_I hst ⟨by decide, by decide⟩ ⟨rfl, rfl, rfl, by omega, by omega, (by first | omega | assumption)⟩)
/-- LoopGround undo -/
abbrev S_127x  : mS := [(39, 39, 0, 0), (39, 39, 1, 1)]
abbrev E_127x (t : Nat) (z0 w0 : mZ) (x y tx it mt tt ct : Option Nat) : Int → mZ → mZ → mP → Prop := fun v z w p => p = (pq x y tx it mt tt ct) ∧ 0 ≤ v ∧ v ≤ 1 ∧ ((CV z w t ∧ (GA z0 z0 t → GA z z t) ∧ z 1 15 = z0 1 15) ∧ CUD z0 w0 z w v)
theorem m_127x {d : Nat} {z0 w0 : mZ} {x y tx it mt tt ct : Option Nat} (t : Nat) (hz : rz z0) (hw : rw_ w0) (ht : isT t) (hcv : CV z0 w0 t) : wc (d + 2) 127 [.ref 1] (mk z0 w0 (pq x y tx it mt tt ct)) (poI S_127x z0 w0 (E_127x t z0 w0 x y tx it mt tt ct)) := by
  have hst : st_ S_127x z0 w0 z0 w0 := st_rf hz hw
  have htb : 159 ≤ t ∧ t ≤ 192 := by have := ht; unfold isT at this; omega
  have hz15 := rd_1_15 hz
  have hwt := hcv.1
  have hzt3 := rd_T_3 ht hz
  have h390 := rd_39_0 hz
  have h391 := rd_39_1 hz
  have h392 := rd_39_2 hz
  refine w_m rfl rfl ?_
  refine r_ld (pc' := 1) rfl rfl rfl rfl ?_
  refine r_gr (b := 39) (pc' := 4) rfl rfl sh_1 rfl pp_1_6 ?_
  have hb16 := rd_39_0 hz
  have hb17 := rd_39_1 hz
  refine r_cVI (pc' := 7) rfl rfl rfl rfl rfl sh_39 (m_5x (d := d)  hst.1 hst.2.1 (by exact hcv.2.2.1.1)) (fun v18 z19 w20 p21 h22 hs23 hE24 => ?_)
  have hs25 := st_tr hst hs23 (sub_B rfl)
  obtain ⟨rfl, hE24⟩ := hE24
  have hsb := hE24.2.2.1
  have hsx := hE24.2.2.2
  have hb26 := rd_1_15 hz
  have hf27 : z19 1 15 = z0 1 15 := (hs23.2.2.1 _ _ (notS_c (by omega) (notS_c (by omega) notS_n)))
  have hb28 := rd_39_0 hs25.1
  have hb29 := rd_39_1 hs25.1
  exact r_rz rfl (by omega) (po_I hs25 ⟨by omega, by omega⟩ ⟨rfl, by omega, by omega, (by refine ⟨?_, hsx, hs25.2.2.1 _ _ (notS_c (by omega) (notS_c (by omega) (notS_n))), fun a h1 h2 => funext fun i => hs25.2.2.2 _ _ (notS_c (by omega) (notS_c (by omega) (notS_n)))⟩; exact ⟨CV_a ht hz hs25 (notS_c (by omega) (notS_c (by omega) (notS_n))) (notS_c (by omega) (notS_c (by omega) (notS_n))) (notS_c (by omega) (notS_c (by omega) (notS_n))) (notS_c (by omega) (notS_c (by omega) (notS_n))) (notS_c (by omega) (notS_c (by omega) (notS_n))) (fun i => (notS_c (by omega) (notS_c (by omega) (notS_n)))) (fun i => (notS_c (by omega) (notS_c (by omega) (notS_n)))) (fun i => (notS_c (by omega) (notS_c (by omega) (notS_n)))) (fun a h1 h2 i => (notS_c (by omega) (notS_c (by omega) (notS_n)))) (fun a h1 h2 i => (notS_c (by omega) (notS_c (by omega) (notS_n)))) hcv (AK_s hcv.2.2.1 (hs25.2.2.1 _ _ (notS_c (by omega) (notS_c (by omega) (notS_n)))) (funext fun i => hs25.2.2.1 _ _ (notS_c (by omega) (notS_c (by omega) (notS_n)))) (by omega) (hs25.2.2.1 _ _ (notS_c (by omega) (notS_c (by omega) (notS_n)))) (fun a h1 h2 => funext fun i => hs25.2.2.2 _ _ (notS_c (by omega) (notS_c (by omega) (notS_n))))), (fun hq => GA_f ht hz hs25 (notS_c (by omega) (notS_c (by omega) (notS_n))) (notS_c (by omega) (notS_c (by omega) (notS_n))) (fun i => (notS_c (by omega) (notS_c (by omega) (notS_n)))) (fun a h1 h2 i => (notS_c (by omega) (notS_c (by omega) (notS_n)))) hq), hs25.2.2.1 _ _ (notS_c (by omega) (notS_c (by omega) (notS_n)))⟩)⟩)
/-- LoopGround redo -/
abbrev S_128x  : mS := [(39, 39, 1, 1), (39, 39, 0, 0)]
abbrev E_128x (t : Nat) (z0 w0 : mZ) (x y tx it mt tt ct : Option Nat) : Int → mZ → mZ → mP → Prop := fun v z w p => p = (pq x y tx it mt tt ct) ∧ 0 ≤ v ∧ v ≤ 1 ∧ ((CV z w t ∧ (GA z0 z0 t → GA z z t) ∧ z 1 15 = z0 1 15) ∧ CRD z0 w0 z w v)
theorem m_128x {d : Nat} {z0 w0 : mZ} {x y tx it mt tt ct : Option Nat} (t : Nat) (hz : rz z0) (hw : rw_ w0) (ht : isT t) (hcv : CV z0 w0 t) : wc (d + 2) 128 [.ref 1] (mk z0 w0 (pq x y tx it mt tt ct)) (poI S_128x z0 w0 (E_128x t z0 w0 x y tx it mt tt ct)) := by
  have hst : st_ S_128x z0 w0 z0 w0 := st_rf hz hw
  have htb : 159 ≤ t ∧ t ≤ 192 := by have := ht; unfold isT at this; omega
  have hz15 := rd_1_15 hz
  have hwt := hcv.1
  have hzt3 := rd_T_3 ht hz
  have h390 := rd_39_0 hz
  have h391 := rd_39_1 hz
  have h392 := rd_39_2 hz
  refine w_m rfl rfl ?_
  refine r_ld (pc' := 1) rfl rfl rfl rfl ?_
  refine r_gr (b := 39) (pc' := 4) rfl rfl sh_1 rfl pp_1_6 ?_
  have hb16 := rd_39_0 hz
  have hb17 := rd_39_1 hz
  refine r_cVI (pc' := 7) rfl rfl rfl rfl rfl sh_39 (m_6x (d := d)  hst.1 hst.2.1 (by exact hcv.2.2.1.1)) (fun v18 z19 w20 p21 h22 hs23 hE24 => ?_)
  have hs25 := st_tr hst hs23 (sub_B rfl)
  obtain ⟨rfl, hE24⟩ := hE24
  have hsb := hE24.2.2.1
  have hsx := hE24.2.2.2
  have hb26 := rd_1_15 hz
  have hf27 : z19 1 15 = z0 1 15 := (hs23.2.2.1 _ _ (notS_c (by omega) (notS_c (by omega) notS_n)))
  have hb28 := rd_39_0 hs25.1
  have hb29 := rd_39_1 hs25.1
  exact r_rz rfl (by omega) (po_I hs25 ⟨by omega, by omega⟩ ⟨rfl, by omega, by omega, (by refine ⟨?_, hsx, hs25.2.2.1 _ _ (notS_c (by omega) (notS_c (by omega) (notS_n))), fun a h1 h2 => funext fun i => hs25.2.2.2 _ _ (notS_c (by omega) (notS_c (by omega) (notS_n)))⟩; exact ⟨CV_a ht hz hs25 (notS_c (by omega) (notS_c (by omega) (notS_n))) (notS_c (by omega) (notS_c (by omega) (notS_n))) (notS_c (by omega) (notS_c (by omega) (notS_n))) (notS_c (by omega) (notS_c (by omega) (notS_n))) (notS_c (by omega) (notS_c (by omega) (notS_n))) (fun i => (notS_c (by omega) (notS_c (by omega) (notS_n)))) (fun i => (notS_c (by omega) (notS_c (by omega) (notS_n)))) (fun i => (notS_c (by omega) (notS_c (by omega) (notS_n)))) (fun a h1 h2 i => (notS_c (by omega) (notS_c (by omega) (notS_n)))) (fun a h1 h2 i => (notS_c (by omega) (notS_c (by omega) (notS_n)))) hcv (AK_s hcv.2.2.1 (hs25.2.2.1 _ _ (notS_c (by omega) (notS_c (by omega) (notS_n)))) (funext fun i => hs25.2.2.1 _ _ (notS_c (by omega) (notS_c (by omega) (notS_n)))) (by omega) (hs25.2.2.1 _ _ (notS_c (by omega) (notS_c (by omega) (notS_n)))) (fun a h1 h2 => funext fun i => hs25.2.2.2 _ _ (notS_c (by omega) (notS_c (by omega) (notS_n))))), (fun hq => GA_f ht hz hs25 (notS_c (by omega) (notS_c (by omega) (notS_n))) (notS_c (by omega) (notS_c (by omega) (notS_n))) (fun i => (notS_c (by omega) (notS_c (by omega) (notS_n)))) (fun a h1 h2 i => (notS_c (by omega) (notS_c (by omega) (notS_n)))) hq), hs25.2.2.1 _ _ (notS_c (by omega) (notS_c (by omega) (notS_n)))⟩)⟩)
/-- LoopGround image -/
abbrev S_130x  : mS := [(144, 146, 0, 17), (147, 147, 0, 2)]
abbrev E_130x (t : Nat) (a1 : Int) (z0 w0 : mZ) (x y tx it mt tt ct : Option Nat) : Int → mZ → mZ → mP → Prop := fun v z w p => p = (pq x y tx it mt tt ct) ∧ (-1) ≤ v ∧ v ≤ 1800000000000000 ∧ ((CV z w t ∧ (GA z0 z0 t → GA z z t) ∧ z 1 15 = z0 1 15) ∧ CU3 z0 w0 z w ∧ ((¬ (0 ≤ a1 ∧ a1 < 3) ∧ v = -1 ∧ (∀ b : Nat, b < 3 → z 147 b = z0 147 b ∧ w (144 + b) = w0 (144 + b))) ∨ ((0 ≤ a1 ∧ a1 < 3) ∧ v = sm (w0 (aR z0 (z0 39 0))) 18 ∧ z 147 a1.toNat = 1 ∧ (∀ j : Nat, j < 18 → w (144 + a1.toNat) j = w0 (aR z0 (z0 39 0)) j) ∧ ∀ b : Nat, b < 3 → b ≠ a1.toNat → z 147 b = z0 147 b ∧ w (144 + b) = w0 (144 + b))))
theorem m_130x {d : Nat} {z0 w0 : mZ} {x y tx it mt tt ct : Option Nat} (t : Nat) (a1 : Int) (hz : rz z0) (hw : rw_ w0) (ha1 : (-2147483648) ≤ a1 ∧ a1 ≤ 2147483647) (ht : isT t) (hcv : CV z0 w0 t) : wc (d + 2) 130 [.ref 1, .int (Int32.ofInt a1)] (mk z0 w0 (pq x y tx it mt tt ct)) (poL S_130x z0 w0 (E_130x t a1 z0 w0 x y tx it mt tt ct)) := by
  have hst : st_ S_130x z0 w0 z0 w0 := st_rf hz hw
  have htb : 159 ≤ t ∧ t ≤ 192 := by have := ht; unfold isT at this; omega
  have hz36 := rd_1_15 hz
  have hz37 := rd_39_0 hz
  have hwt := hcv.1
  have hzt3 := rd_T_3 ht hz
  have h390 := rd_39_0 hz
  have h391 := rd_39_1 hz
  have h392 := rd_39_2 hz
  refine w_m rfl rfl ?_
  refine r_ld (pc' := 1) rfl rfl rfl rfl ?_
  refine r_zlt (pc' := 4) rfl rfl ⟨by omega, by omega⟩ (fun hc38 => ?_) (fun hc38 => ?_)
  · skip
    refine r_al (pc' := 12) rfl rfl rfl rfl ?_
    have hb39 := rd_1_15 hz
    exact r_rl rfl (po_L hst ⟨by decide, by decide⟩ ⟨rfl, by omega, by omega, (by exact ⟨⟨hcv, fun q => q, rfl⟩, CU3_r, Or.inl ⟨fun q => by omega, rfl, fun _ _ => ⟨rfl, rfl⟩⟩⟩)⟩)
  · skip
    refine r_ld (pc' := 5) rfl rfl rfl rfl ?_
    refine r_c0 (pc' := 6) rfl rfl ?_
    refine r_ilt (pc' := 9) rfl rfl ⟨by omega, by omega⟩ ⟨by decide, by decide⟩ (fun hc40 => ?_) (fun hc40 => ?_)
    · skip
      refine r_ld (pc' := 14) rfl rfl rfl rfl ?_
      refine r_gr (b := 39) (pc' := 17) rfl rfl sh_1 rfl pp_1_6 ?_
      refine r_cVR (pc' := 20) rfl rfl rfl rfl rfl sh_39 (m_2 (d := d)  hst.1 hst.2.1 ) (fun v41 z42 w43 p44 hs46 hE47 => ?_)
      rcases hE47 with ⟨rfl, rfl, rfl, rfl, hrw⟩
      have hb49 := rd_39_2 hz
      have hb50 := rd_39_0 hz
      refine r_ld (pc' := 21) rfl rfl rfl rfl ?_
      refine r_gr (b := 143) (pc' := 24) rfl rfl sh_1 rfl pp_1_8 ?_
      refine r_ld (pc' := 25) rfl rfl rfl rfl ?_
      refine r_aa (b := 144 + a1.toNat) (pc' := 26) rfl rfl sh_143 (Or.inl rfl) rfl (by omega) (by omega) (pa_143 (by omega)) ?_
      refine r_cSV (pc' := 29) rfl rfl rfl rfl rfl (m_140b (d := d) (41 + ((z0 39 2 + (z0 39 0)) % 61).toNat) (144 + a1.toNat) hst.1 hst.2.1 (by first | omega | assumption) (by exact NB_A (by omega) hw) (lr_41 (k := ((z0 39 2 + (z0 39 0)) % 61).toNat) (by omega) ) (by first | omega | assumption) (lr_144 (k := a1.toNat) (by omega) ) (wrb_144 (k := a1.toNat) (by omega) ) (by first | omega | assumption)) (fun z52 w53 p54 hs56 hE57 => ?_)
      have hs58 := st_tr hst hs56 (subS_c (fun _ _ _ _ _ _ => inS_0 (by omega) (by omega) (by omega) (by omega)) subS_n)
      obtain ⟨rfl, hE57⟩ := hE57
      have hcp := hE57
      refine r_ld (pc' := 30) rfl rfl rfl rfl ?_
      refine r_gr (b := 147) (pc' := 33) rfl rfl sh_1 rfl pp_1_9 ?_
      refine r_ld (pc' := 34) rfl rfl rfl rfl ?_
      refine r_c0 (pc' := 35) rfl rfl ?_
      refine r_zs (pc' := 36) rfl rfl sh_147 rfl (by omega) (by omega) (by omega) hs58 (inS_s (inS_0 (by omega) (by omega) (by omega) (by omega))) (wr_147 ⟨by omega, by omega⟩) (fun z59 hq60 hs61 => ?_)
      have hqb := hq60
      have hbx : BX z59 w53 t := BX_i (b0 := a1.toNat) hwt hcv.2.2.2.1 (hs61.2.2.1 _ _ (notS_c (by omega) (notS_c (by omega) (notS_n)))) (funext fun i => hs61.2.2.1 _ _ (notS_c (by omega) (notS_c (by omega) (notS_n)))) (AK_now hcv.2.2.1 (by omega) (by omega)) (fun j hj => hcp j hj) (fun b hb hne => ⟨funext fun i => (hs56.2.2.2 _ _ (notS_c (by omega) notS_n)), (((congrFun (congrFun hq60 _) _).trans (mu_ne (by omega))).trans (hs56.2.2.1 _ _ (notS_c (by omega) notS_n)))⟩)
      refine r_ld (pc' := 37) rfl rfl rfl rfl ?_
      refine r_gr (b := 143) (pc' := 40) rfl rfl sh_1 rfl pp_1_8 ?_
      refine r_ld (pc' := 41) rfl rfl rfl rfl ?_
      refine r_aa (b := 144 + a1.toNat) (pc' := 42) rfl rfl sh_143 (Or.inl rfl) rfl (by omega) (by omega) (pa_143 (by omega)) ?_
      have hbw : ∀ j : Nat, j < 18 → w53 (144 + a1.toNat) j = w0 (aR z0 (z0 39 0)) j := fun j hj => (show w53 (144 + a1.toNat) j = w53 (144 + a1.toNat) j from rfl).trans (hcp j hj)
      refine r_cSL (pc' := 45) rfl rfl rfl rfl rfl (m_142s (d := d) (144 + a1.toNat) hs61.1 hs61.2.1 (lr_144 (k := a1.toNat) (by omega) ) (by first | omega | assumption) (fun e he => by have q := rd_144 (k := a1.toNat) (by omega) hs61.2.1 (i := e) he; exact ⟨by omega, by omega⟩)) (fun v62 z63 w64 p65 h66 hs67 hE68 => ?_)
      obtain ⟨rfl, rfl, rfl, hE68⟩ := hE68
      have htt := hE68.2.2
      have hb70 := rd_1_15 hz
      have hf71 : z59 1 15 = z0 1 15 := (((congrFun (congrFun hq60 _) _).trans (mu_ne (by omega))).trans (hs56.2.2.1 _ _ (notS_c (by omega) notS_n)))
      exact r_rl rfl (po_L hs61 ⟨by omega, by omega⟩ ⟨rfl, by omega, by omega, (by refine ⟨⟨CV_b ht hz hs61 (notS_c (by omega) (notS_c (by omega) (notS_n))) (notS_c (by omega) (notS_c (by omega) (notS_n))) (notS_c (by omega) (notS_c (by omega) (notS_n))) (notS_c (by omega) (notS_c (by omega) (notS_n))) (notS_c (by omega) (notS_c (by omega) (notS_n))) (fun i => (notS_c (by omega) (notS_c (by omega) (notS_n)))) (fun i => (notS_c (by omega) (notS_c (by omega) (notS_n)))) (fun i => (notS_c (by omega) (notS_c (by omega) (notS_n)))) (fun a h1 h2 i => (notS_c (by omega) (notS_c (by omega) (notS_n)))) (notS_c (by omega) (notS_c (by omega) (notS_n))) (notS_c (by omega) (notS_c (by omega) (notS_n))) (notS_c (by omega) (notS_c (by omega) (notS_n))) (fun a h1 h2 i => (notS_c (by omega) (notS_c (by omega) (notS_n)))) hcv hbx, (fun hq => GA_f ht hz hs61 (notS_c (by omega) (notS_c (by omega) (notS_n))) (notS_c (by omega) (notS_c (by omega) (notS_n))) (fun i => (notS_c (by omega) (notS_c (by omega) (notS_n)))) (fun a h1 h2 i => (notS_c (by omega) (notS_c (by omega) (notS_n)))) hq), hs61.2.2.1 _ _ (notS_c (by omega) (notS_c (by omega) (notS_n)))⟩, ⟨⟨(((congrFun (congrFun hq60 _) _).trans (mu_ne (by omega))).trans (hs56.2.2.1 _ _ (notS_c (by omega) notS_n))), (((congrFun (congrFun hq60 _) _).trans (mu_ne (by omega))).trans (hs56.2.2.1 _ _ (notS_c (by omega) notS_n))), (((congrFun (congrFun hq60 _) _).trans (mu_ne (by omega))).trans (hs56.2.2.1 _ _ (notS_c (by omega) notS_n)))⟩, fun a h1 h2 => funext fun i => (hs56.2.2.2 _ _ (notS_c (by omega) notS_n))⟩, Or.inr ⟨by omega, ?_, ?_, hbw, fun b hb hne => ⟨(((congrFun (congrFun hq60 _) _).trans (mu_ne (by omega))).trans (hs56.2.2.1 _ _ (notS_c (by omega) notS_n))), funext fun i => (hs56.2.2.2 _ _ (notS_c (by omega) notS_n))⟩⟩⟩; (rw [htt]; exact sm_c 18 (fun j hj => hbw j hj)); (rw [hqb]; exact mu_eq))⟩)
    · skip
      refine r_al (pc' := 12) rfl rfl rfl rfl ?_
      have hb72 := rd_1_15 hz
      exact r_rl rfl (po_L hst ⟨by decide, by decide⟩ ⟨rfl, by omega, by omega, (by exact ⟨⟨hcv, fun q => q, rfl⟩, CU3_r, Or.inl ⟨fun q => by omega, rfl, fun _ _ => ⟨rfl, rfl⟩⟩⟩)⟩)
/-- Mover isFairWord -/
abbrev S_24x  : mS := []
abbrev E_24x (t : Nat) (a1 : Int) (z0 w0 : mZ) (x y tx it tt ct : Option Nat) : Int → mZ → mZ → mP → Prop := fun v z w p => p = (pq x y tx it (some t) tt ct) ∧ z0 = z ∧ w0 = w ∧ 0 ≤ v ∧ v ≤ 1 ∧ (((v = 1 → 0 ≤ a1 ∧ a1 < z0 t 4 ∧ a1 ≤ 5 ∧ FW z0 t a1.toNat)) ∧ (v = 0 → ¬ (0 ≤ a1 ∧ a1 < z0 t 4 ∧ FW z0 t a1.toNat)))
theorem m_24x {d : Nat} {z0 w0 : mZ} {x y tx it tt ct : Option Nat} (t : Nat) (a1 : Int) (hz : rz z0) (hw : rw_ w0) (ha1 : (-2147483648) ≤ a1 ∧ a1 ≤ 2147483647) (ht : isT t) : wc (d + 3) 24 [.ref 10, .int (Int32.ofInt a1)] (mk z0 w0 (pq x y tx it (some t) tt ct)) (poI S_24x z0 w0 (E_24x t a1 z0 w0 x y tx it tt ct)) := by
  have hst : st_ S_24x z0 w0 z0 w0 := st_rf hz hw
  have htb : 159 ≤ t ∧ t ≤ 192 := by have := ht; unfold isT at this; omega
  have hz18 := rd_T_3 ht hz
  have hz19 := rd_T_4 ht hz
  have hzt4 := rd_T_4 ht hz
  have key : ∀ N : Nat, (∀ (x2 : Int) , 0 ≤ x2 ∧ x2 ≤ 8 → 0 ≤ a1 ∧ a1 ≤ 5 → 1 ≤ z0 t 4 ∧ z0 t 4 ≤ 6 → (∀ i : Nat, (i : Int) < x2 → z0 (t + 20 + a1.toNat) i < z0 t 3 ∧ z0 (17 + 2 * (z0 (t + 20 + a1.toNat) i).toNat) 0 = 2) → (a1 < z0 t 4) → 37 * (8 - x2) + 24 < (N : Int) → wp_ (d + 2) 24 3 (some .boolean) (26, [(0, .ref 10), (1, .int (Int32.ofInt a1)), (2, .int (Int32.ofInt x2))], [], mk z0 w0 (pq x y tx it (some t) tt ct)) (poI S_24x z0 w0 (E_24x t a1 z0 w0 x y tx it tt ct))) := by
    intro N
    induction N with
    | zero =>
      intro x2 
      intros; exfalso; omega
    | succ N ih =>
      have ih0 := ih; clear ih
      intro x2  hx2 hpa1 hz0_0 as1 as2 hM
      refine r_ld (pc' := 27) rfl rfl rfl rfl ?_
      refine r_ld (pc' := 28) rfl rfl rfl rfl ?_
      refine r_gr (b := t) (pc' := 31) rfl rfl sh_10 rfl pp_10_2 ?_
      refine r_gr (b := t + 18) (pc' := 34) rfl rfl (sh_T ht) rfl (pp_T_14 ht) ?_
      refine r_ld (pc' := 35) rfl rfl rfl rfl ?_
      have hb20 := rd_T18 ht hz (i := a1.toNat) (by omega)
      refine r_ia (pc' := 36) rfl rfl (sh_T18 ht) rfl (by omega) (by omega) rfl ?_
      refine r_ige (pc' := 39) rfl rfl ⟨by omega, by omega⟩ ⟨by omega, by omega⟩ (fun hc21 => ?_) (fun hc21 => ?_)
      · skip
        refine r_c0 (pc' := 66) rfl rfl ?_
        exact r_rz rfl (by omega) (po_I hst ⟨by decide, by decide⟩ ⟨rfl, rfl, rfl, by omega, by omega, (by refine ⟨?_, ?_⟩; (first | (intro h; exfalso; omega) | (intro _; exact ⟨by omega, by omega, by omega, fun i hi => as1 i (by omega)⟩)); (first | (intro h; exfalso; omega) | exact fun _ q => absurd q.1 (by omega) | exact fun _ q => absurd q.2.1 (by omega) | (intro _ q; have q2 := q.2.2 x2.toNat (by omega); have q3 := rd_T20 ht (k := a1.toNat) (by omega) hz (i := x2.toNat) (by omega); exact hfx (by omega) ⟨by omega, q2.1, q2.2⟩)))⟩)
      · skip
        refine r_ld (pc' := 40) rfl rfl rfl rfl ?_
        refine r_ld (pc' := 41) rfl rfl rfl rfl ?_
        refine r_gr (b := t) (pc' := 44) rfl rfl sh_10 rfl pp_10_2 ?_
        refine r_gr (b := t + 19) (pc' := 47) rfl rfl (sh_T ht) rfl (pp_T_15 ht) ?_
        refine r_ld (pc' := 48) rfl rfl rfl rfl ?_
        refine r_aa (b := t + 20 + a1.toNat) (pc' := 49) rfl rfl (sh_T19 ht) (Or.inr (Or.inl rfl)) rfl (by omega) (by omega) (pa_T19 ht (by omega)) ?_
        refine r_ld (pc' := 50) rfl rfl rfl rfl ?_
        have hb22 := rd_T20 ht (k := a1.toNat) (by omega) hz (i := x2.toNat) (by omega)
        refine r_ia (pc' := 51) rfl rfl (sh_T20 ht (by omega)) rfl (by omega) (by omega) rfl ?_
        have hb23 := rd_T_3 ht hz
        have hb24 := rd_R_0 (k := (z0 (t + 20 + a1.toNat) x2.toNat).toNat) (by omega) hz
        refine r_cVI (pc' := 54) rfl rfl rfl rfl rfl sh_10 (m_23x (d := d) t (z0 (t + 20 + a1.toNat) x2.toNat) hst.1 hst.2.1 ⟨by omega, by omega⟩ ht) (fun v25 z26 w27 p28 h29 hs30 hE31 => ?_)
        obtain ⟨rfl, rfl, rfl, hE31⟩ := hE31
        have hfl := hE31.2.2.1
        have hfx := hE31.2.2.2
        refine r_zne (pc' := 57) rfl rfl ⟨by omega, by omega⟩ (fun hc33 => ?_) (fun hc33 => ?_)
        · skip
          refine r_inc (pc' := 62) (lv' := [(0, _), (1, _)]) rfl rfl rfl rfl rfl ?_
          refine r_go rfl ?_
          exact w_lv (sub_c rfl (sub_c rfl (sub_c rfl sub_n))) rfl (ih0 (x2 + 1) ⟨by omega, by omega⟩ ⟨by omega, by omega⟩ ⟨by omega, by omega⟩ (by first | (intro i hi; exfalso; omega) | (intro i hi; by_cases c : i = x2.toNat; (subst c; exact ⟨by have := hfl (by omega); omega, (hfl (by omega)).2.2.2⟩); exact as1 i (by omega))) (by first | omega | assumption) (by omega))
        · skip
          refine r_c0 (pc' := 58) rfl rfl ?_
          exact r_rz rfl (by omega) (po_I hst ⟨by decide, by decide⟩ ⟨rfl, rfl, rfl, by omega, by omega, (by refine ⟨?_, ?_⟩; (first | (intro h; exfalso; omega) | (intro _; exact ⟨by omega, by omega, by omega, fun i hi => as1 i (by omega)⟩)); (first | (intro h; exfalso; omega) | exact fun _ q => absurd q.1 (by omega) | exact fun _ q => absurd q.2.1 (by omega) | (intro _ q; have q2 := q.2.2 x2.toNat (by omega); have q3 := rd_T20 ht (k := a1.toNat) (by omega) hz (i := x2.toNat) (by omega); exact hfx (by omega) ⟨by omega, q2.1, q2.2⟩)))⟩)
  refine w_m rfl rfl ?_
  refine r_ld (pc' := 1) rfl rfl rfl rfl ?_
  refine r_gr (b := t) (pc' := 4) rfl rfl sh_10 rfl pp_10_2 ?_
  refine r_nul_f (pc' := 7) rfl rfl ?_
  refine r_ld (pc' := 8) rfl rfl rfl rfl ?_
  refine r_zlt (pc' := 11) rfl rfl ⟨by omega, by omega⟩ (fun hc34 => ?_) (fun hc34 => ?_)
  · skip
    refine r_c0 (pc' := 23) rfl rfl ?_
    exact r_rz rfl (by omega) (po_I hst ⟨by decide, by decide⟩ ⟨rfl, rfl, rfl, by omega, by omega, (by refine ⟨?_, ?_⟩; (first | (intro h; exfalso; omega) | (intro _; exact ⟨by omega, by omega, by omega, fun i hi => as1 i (by omega)⟩)); (first | (intro h; exfalso; omega) | exact fun _ q => absurd q.1 (by omega) | exact fun _ q => absurd q.2.1 (by omega) | (intro _ q; have q2 := q.2.2 x2.toNat (by omega); have q3 := rd_T20 ht (k := a1.toNat) (by omega) hz (i := x2.toNat) (by omega); exact hfx (by omega) ⟨by omega, q2.1, q2.2⟩)))⟩)
  · skip
    refine r_ld (pc' := 12) rfl rfl rfl rfl ?_
    refine r_ld (pc' := 13) rfl rfl rfl rfl ?_
    refine r_gr (b := t) (pc' := 16) rfl rfl sh_10 rfl pp_10_2 ?_
    have hb35 := rd_T_4 ht hz
    refine r_gi (pc' := 19) rfl rfl (sh_T ht) rfl rfl ?_
    refine r_ilt (pc' := 22) rfl rfl ⟨by omega, by omega⟩ ⟨by omega, by omega⟩ (fun hc36 => ?_) (fun hc36 => ?_)
    · skip
      refine r_c0 (pc' := 25) rfl rfl ?_
      refine r_st (pc' := 26) (lv' := [(2, _), (0, _), (1, _)]) rfl rfl rfl rfl ?_
      exact w_lv (sub_c rfl (sub_c rfl (sub_c rfl sub_n))) rfl ((key ((37 * (8 - 0) + 24 : Int).toNat + 1)) 0 ⟨by omega, by omega⟩ ⟨by omega, by omega⟩ ⟨by omega, by omega⟩ (by first | (intro i hi; exfalso; omega) | (intro i hi; by_cases c : i = x2.toNat; (subst c; exact ⟨by have := hfl (by omega); omega, (hfl (by omega)).2.2.2⟩); exact as1 i (by omega))) (by first | omega | assumption) (by omega))
    · skip
      refine r_c0 (pc' := 23) rfl rfl ?_
      exact r_rz rfl (by omega) (po_I hst ⟨by decide, by decide⟩ ⟨rfl, rfl, rfl, by omega, by omega, (by refine ⟨?_, ?_⟩; (first | (intro h; exfalso; omega) | (intro _; exact ⟨by omega, by omega, by omega, fun i hi => as1 i (by omega)⟩)); (first | (intro h; exfalso; omega) | exact fun _ q => absurd q.1 (by omega) | exact fun _ q => absurd q.2.1 (by omega) | (intro _ q; have q2 := q.2.2 x2.toNat (by omega); have q3 := rd_T20 ht (k := a1.toNat) (by omega) hz (i := x2.toNat) (by omega); exact hfx (by omega) ⟨by omega, q2.1, q2.2⟩)))⟩)
/-- LoopGround lay -/
abbrev S_123u  : mS := [(39, 39, 1, 1), (39, 39, 2, 2), (39, 39, 0, 0), (41, 101, 0, 17)]
abbrev E_123u (t : Nat) (u : Nat) (a1 : Int) (z0 w0 : mZ) (tx it mt tt ct : Option Nat) : Int → mZ → mZ → mP → Prop := fun v z w p => p = (pq (some t) (some u) tx it mt tt ct) ∧ (-1) ≤ v ∧ v ≤ 1800000000000000 ∧ ((CV z w t ∧ (GA z0 z0 t → GA z z t) ∧ z 1 15 = z0 1 15) ∧ ((¬ (0 ≤ a1 ∧ a1 < z0 t 3) ∧ v = -1 ∧ CU3 z0 w0 z w) ∨ ((0 ≤ a1 ∧ a1 < z0 t 3) ∧ v = sm (w0 (t + 8 + a1.toNat)) 18 ∧ CKP z0 w0 z w (w0 (t + 8 + a1.toNat)))))
theorem m_123u {d : Nat} {z0 w0 : mZ} {tx it mt tt ct : Option Nat} (t : Nat) (u : Nat) (a1 : Int) (hz : rz z0) (hw : rw_ w0) (ha1 : (-2147483648) ≤ a1 ∧ a1 ≤ 2147483647) (ht : isT t) (hu : isT u) (hcv : CV z0 w0 t) : wc (d + 3) 123 [.ref 1, .int (Int32.ofInt a1)] (mk z0 w0 (pq (some t) (some u) tx it mt tt ct)) (poL S_123u z0 w0 (E_123u t u a1 z0 w0 tx it mt tt ct)) := by
  have hst : st_ S_123u z0 w0 z0 w0 := st_rf hz hw
  have htb : 159 ≤ t ∧ t ≤ 192 := by have := ht; unfold isT at this; omega
  have hub : 159 ≤ u ∧ u ≤ 192 := by have := hu; unfold isT at this; omega
  have hz42 := rd_1_15 hz
  have hz43 := rd_T_3 ht hz
  have hwt := hcv.1
  have hzt3 := rd_T_3 ht hz
  have h390 := rd_39_0 hz
  have h391 := rd_39_1 hz
  have h392 := rd_39_2 hz
  refine w_m rfl rfl ?_
  refine r_ld (pc' := 1) rfl rfl rfl rfl ?_
  refine r_ld (pc' := 2) rfl rfl rfl rfl ?_
  have hb44 := rd_T_3 ht hz
  refine r_cVI (pc' := 5) rfl rfl rfl rfl rfl sh_1 (m_134 (d := d + 1) t u a1 hst.1 hst.2.1 ⟨by omega, by omega⟩ ht hu) (fun v45 z46 w47 p48 h49 hs50 hE51 => ?_)
  obtain ⟨rfl, rfl, rfl, hE51⟩ := hE51
  refine r_zne (pc' := 8) rfl rfl ⟨by omega, by omega⟩ (fun hc53 => ?_) (fun hc53 => ?_)
  · skip
    refine r_ld (pc' := 13) rfl rfl rfl rfl ?_
    refine r_gr (b := 39) (pc' := 16) rfl rfl sh_1 rfl pp_1_6 ?_
    refine r_ld (pc' := 17) rfl rfl rfl rfl ?_
    refine r_gr (b := t) (pc' := 20) rfl rfl sh_1 rfl pp_1_13 ?_
    refine r_gr (b := t + 7) (pc' := 23) rfl rfl (sh_T ht) rfl (pp_T_11 ht) ?_
    refine r_ld (pc' := 24) rfl rfl rfl rfl ?_
    refine r_aa (b := t + 8 + a1.toNat) (pc' := 25) rfl rfl (sh_T7 ht) (Or.inl rfl) rfl (by omega) (by omega) (pa_T7 ht (by omega)) ?_
    have hb54 := rd_39_0 hz
    have hb55 := rd_39_2 hz
    refine r_cVV (pc' := 28) rfl rfl rfl rfl rfl sh_39 (m_3y (d := d) t (t + 8 + a1.toNat) hst.1 hst.2.1 ht (by exact hwt) (by exact hcv.2.2.1) (by exact hcv.2.1 _ (by omega)) (by exact NB_T ht (by omega) hw) (by first | omega | assumption) (lr_T8 ht (k := a1.toNat) (by omega) ) (by first | omega | assumption)) (fun z57 w58 p59 hs61 hE62 => ?_)
    have hs63 := st_tr hst hs61 (sub_B rfl)
    obtain ⟨rfl, hE62⟩ := hE62
    have hak2 := hE62.1
    have hkr := hE62.2.1
    have hkp := hE62.2.2.1
    have hko := hE62.2.2.2
    refine r_ld (pc' := 29) rfl rfl rfl rfl ?_
    refine r_gr (b := 39) (pc' := 32) rfl rfl sh_1 rfl pp_1_6 ?_
    refine r_cVR (pc' := 35) rfl rfl rfl rfl rfl sh_39 (m_2 (d := d + 1)  hs63.1 hs63.2.1 ) (fun v64 z65 w66 p67 hs69 hE70 => ?_)
    rcases hE70 with ⟨rfl, rfl, rfl, rfl, hrw⟩
    have hb72 := rd_39_2 hs63.1
    have hb73 := rd_39_0 hs63.1
    refine r_cSL (pc' := 38) rfl rfl rfl rfl rfl (m_142s (d := d + 1) (41 + ((z57 39 2 + (z57 39 0)) % 61).toNat) hs63.1 hs63.2.1 (lr_41 (k := ((z57 39 2 + (z57 39 0)) % 61).toNat) (by omega) ) (by first | omega | assumption) (fun e he => by have q := rd_41 (k := ((z57 39 2 + (z57 39 0)) % 61).toNat) (by omega) hs63.2.1 (i := e) he; exact ⟨by omega, by omega⟩)) (fun v74 z75 w76 p77 h78 hs79 hE80 => ?_)
    obtain ⟨rfl, rfl, rfl, hE80⟩ := hE80
    have htt := hE80.2.2
    have hb82 := rd_1_15 hz
    have hf83 : z57 1 15 = z0 1 15 := (hs61.2.2.1 _ _ (notS_c (by omega) (notS_c (by omega) (notS_c (by omega) (notS_c (by omega) notS_n)))))
    exact r_rl rfl (po_L hs63 ⟨by omega, by omega⟩ ⟨rfl, by omega, by omega, (by refine ⟨⟨CV_a ht hz hs63 (notS_c (by omega) (notS_c (by omega) (notS_c (by omega) (notS_c (by omega) (notS_n))))) (notS_c (by omega) (notS_c (by omega) (notS_c (by omega) (notS_c (by omega) (notS_n))))) (notS_c (by omega) (notS_c (by omega) (notS_c (by omega) (notS_c (by omega) (notS_n))))) (notS_c (by omega) (notS_c (by omega) (notS_c (by omega) (notS_c (by omega) (notS_n))))) (notS_c (by omega) (notS_c (by omega) (notS_c (by omega) (notS_c (by omega) (notS_n))))) (fun i => (notS_c (by omega) (notS_c (by omega) (notS_c (by omega) (notS_c (by omega) (notS_n)))))) (fun i => (notS_c (by omega) (notS_c (by omega) (notS_c (by omega) (notS_c (by omega) (notS_n)))))) (fun i => (notS_c (by omega) (notS_c (by omega) (notS_c (by omega) (notS_c (by omega) (notS_n)))))) (fun a h1 h2 i => (notS_c (by omega) (notS_c (by omega) (notS_c (by omega) (notS_c (by omega) (notS_n)))))) (fun a h1 h2 i => (notS_c (by omega) (notS_c (by omega) (notS_c (by omega) (notS_c (by omega) (notS_n)))))) hcv hak2, (fun hq => GA_f ht hz hs63 (notS_c (by omega) (notS_c (by omega) (notS_c (by omega) (notS_c (by omega) (notS_n))))) (notS_c (by omega) (notS_c (by omega) (notS_c (by omega) (notS_c (by omega) (notS_n))))) (fun i => (notS_c (by omega) (notS_c (by omega) (notS_c (by omega) (notS_c (by omega) (notS_n)))))) (fun a h1 h2 i => (notS_c (by omega) (notS_c (by omega) (notS_c (by omega) (notS_c (by omega) (notS_n)))))) hq), hs63.2.2.1 _ _ (notS_c (by omega) (notS_c (by omega) (notS_c (by omega) (notS_c (by omega) (notS_n)))))⟩, Or.inr ⟨⟨by omega, by omega⟩, ?_, hkp.1, hkp.2, hkr, hko⟩⟩; rw [htt]; exact sm_c 18 (fun j hj => hkr j hj))⟩)
  · skip
    refine r_al (pc' := 11) rfl rfl rfl rfl ?_
    have hb84 := rd_1_15 hz
    exact r_rl rfl (po_L hst ⟨by decide, by decide⟩ ⟨rfl, by omega, by omega, (by exact ⟨⟨hcv, fun q => q, rfl⟩, Or.inl ⟨fun q => by omega, rfl, CU3_r⟩⟩)⟩)
/-- LoopGround act -/
abbrev S_126x  : mS := [(39, 39, 1, 1), (39, 39, 2, 2), (39, 39, 0, 0), (41, 101, 0, 17)]
abbrev E_126x (t : Nat) (a1 : Int) (z0 w0 : mZ) (x y tx it mt tt ct : Option Nat) : Int → mZ → mZ → mP → Prop := fun v z w p => p = (pq x y tx it mt tt ct) ∧ (-2) ≤ v ∧ v ≤ 1800000000000000 ∧ ((CV z w t ∧ (GA z0 z0 t → GA z z t) ∧ z 1 15 = z0 1 15) ∧ (a1 = 0 → v = -2 ∧ CU3 z0 w0 z w) ∧ (a1 = 1 → v = sm (w0 157) 18 ∧ CKP z0 w0 z w (w0 157)))
theorem m_126x {d : Nat} {z0 w0 : mZ} {x y tx it mt tt ct : Option Nat} (t : Nat) (a1 : Int) (hz : rz z0) (hw : rw_ w0) (ha1 : 0 ≤ a1 ∧ a1 ≤ 1) (ht : isT t) (hcv : CV z0 w0 t) (hri : a1 = 1 → FTt z0 t (w0 157) ∧ NBr w0 157) : wc (d + 3) 126 [.ref 1, .int (Int32.ofInt a1)] (mk z0 w0 (pq x y tx it mt tt ct)) (poL S_126x z0 w0 (E_126x t a1 z0 w0 x y tx it mt tt ct)) := by
  have hst : st_ S_126x z0 w0 z0 w0 := st_rf hz hw
  have htb : 159 ≤ t ∧ t ≤ 192 := by have := ht; unfold isT at this; omega
  have hz24 := rd_1_15 hz
  have hwt := hcv.1
  have hzt3 := rd_T_3 ht hz
  have h390 := rd_39_0 hz
  have h391 := rd_39_1 hz
  have h392 := rd_39_2 hz
  refine w_m rfl rfl ?_
  refine r_ld (pc' := 1) rfl rfl rfl rfl ?_
  refine r_zne (pc' := 4) rfl rfl ⟨by omega, by omega⟩ (fun hc25 => ?_) (fun hc25 => ?_)
  · skip
    refine r_ld (pc' := 9) rfl rfl rfl rfl ?_
    refine r_gr (b := 39) (pc' := 12) rfl rfl sh_1 rfl pp_1_6 ?_
    refine r_ld (pc' := 13) rfl rfl rfl rfl ?_
    refine r_gr (b := 157) (pc' := 16) rfl rfl sh_1 rfl pp_1_11 ?_
    have hb26 := rd_39_0 hz
    have hb27 := rd_39_2 hz
    refine r_cVV (pc' := 19) rfl rfl rfl rfl rfl sh_39 (m_3y (d := d) t 157 hst.1 hst.2.1 ht (by exact hwt) (by exact hcv.2.2.1) (by exact (hri (by omega)).1) (by exact (hri (by omega)).2) (by first | omega | assumption) lr_157 (by first | omega | assumption)) (fun z29 w30 p31 hs33 hE34 => ?_)
    have hs35 := st_tr hst hs33 (sub_B rfl)
    obtain ⟨rfl, hE34⟩ := hE34
    have hak2 := hE34.1
    have hkr := hE34.2.1
    have hkp := hE34.2.2.1
    have hko := hE34.2.2.2
    refine r_ld (pc' := 20) rfl rfl rfl rfl ?_
    refine r_gr (b := 157) (pc' := 23) rfl rfl sh_1 rfl pp_1_11 ?_
    have w157 : w30 157 = w0 157 := funext fun i => (hs33.2.2.2 _ _ (notS_c (by omega) (notS_c (by omega) (notS_c (by omega) (notS_c (by omega) notS_n)))))
    have hF36 : w30 157 = w0 157 := (funext fun _ => hs33.2.2.2 _ _ (notS_c (by omega) (notS_c (by omega) (notS_c (by omega) (notS_c (by omega) notS_n)))))
    refine r_cSL (pc' := 26) rfl rfl rfl rfl rfl (m_142s (d := d + 1) 157 hs35.1 hs35.2.1 lr_157 (by first | omega | assumption | (simp only [hF36]; assumption)) (by intro e he; rw [w157]; exact (hri (by omega)).2 e he)) (fun v37 z38 w39 p40 h41 hs42 hE43 => ?_)
    obtain ⟨rfl, rfl, rfl, hE43⟩ := hE43
    have htt := hE43.2.2
    have hb45 := rd_1_15 hz
    have hf46 : z29 1 15 = z0 1 15 := (hs33.2.2.1 _ _ (notS_c (by omega) (notS_c (by omega) (notS_c (by omega) (notS_c (by omega) notS_n)))))
    exact r_rl rfl (po_L hs35 ⟨by omega, by omega⟩ ⟨rfl, by omega, by omega, (by refine ⟨⟨CV_a ht hz hs35 (notS_c (by omega) (notS_c (by omega) (notS_c (by omega) (notS_c (by omega) (notS_n))))) (notS_c (by omega) (notS_c (by omega) (notS_c (by omega) (notS_c (by omega) (notS_n))))) (notS_c (by omega) (notS_c (by omega) (notS_c (by omega) (notS_c (by omega) (notS_n))))) (notS_c (by omega) (notS_c (by omega) (notS_c (by omega) (notS_c (by omega) (notS_n))))) (notS_c (by omega) (notS_c (by omega) (notS_c (by omega) (notS_c (by omega) (notS_n))))) (fun i => (notS_c (by omega) (notS_c (by omega) (notS_c (by omega) (notS_c (by omega) (notS_n)))))) (fun i => (notS_c (by omega) (notS_c (by omega) (notS_c (by omega) (notS_c (by omega) (notS_n)))))) (fun i => (notS_c (by omega) (notS_c (by omega) (notS_c (by omega) (notS_c (by omega) (notS_n)))))) (fun a h1 h2 i => (notS_c (by omega) (notS_c (by omega) (notS_c (by omega) (notS_c (by omega) (notS_n)))))) (fun a h1 h2 i => (notS_c (by omega) (notS_c (by omega) (notS_c (by omega) (notS_c (by omega) (notS_n)))))) hcv hak2, (fun hq => GA_f ht hz hs35 (notS_c (by omega) (notS_c (by omega) (notS_c (by omega) (notS_c (by omega) (notS_n))))) (notS_c (by omega) (notS_c (by omega) (notS_c (by omega) (notS_c (by omega) (notS_n))))) (fun i => (notS_c (by omega) (notS_c (by omega) (notS_c (by omega) (notS_c (by omega) (notS_n)))))) (fun a h1 h2 i => (notS_c (by omega) (notS_c (by omega) (notS_c (by omega) (notS_c (by omega) (notS_n)))))) hq), hs35.2.2.1 _ _ (notS_c (by omega) (notS_c (by omega) (notS_c (by omega) (notS_c (by omega) (notS_n)))))⟩, fun q => by exfalso; omega, fun _ => ⟨?_, hkp.1, hkp.2, hkr, hko⟩⟩; rw [htt, w157])⟩)
  · skip
    refine r_al (pc' := 7) rfl rfl rfl rfl ?_
    have hb47 := rd_1_15 hz
    exact r_rl rfl (po_L hst ⟨by decide, by decide⟩ ⟨rfl, by omega, by omega, (by exact ⟨⟨hcv, fun q => q, rfl⟩, fun _ => ⟨rfl, CU3_r⟩, fun q => by exfalso; omega⟩)⟩)
/-- LoopGround back -/
abbrev S_131x  : mS := [(39, 39, 0, 0), (39, 39, 1, 1), (41, 101, 0, 17)]
abbrev E_131x (t : Nat) (a1 : Int) (z0 w0 : mZ) (x y tx it mt tt ct : Option Nat) : Int → mZ → mZ → mP → Prop := fun v z w p => p = (pq x y tx it mt tt ct) ∧ (-1) ≤ v ∧ v ≤ 1800000000000000 ∧ ((CV z w t ∧ (GA z0 z0 t → GA z z t) ∧ z 1 15 = z0 1 15) ∧ ((¬ (0 ≤ a1 ∧ a1 < 3 ∧ z0 147 a1.toNat = 1) ∧ v = -1 ∧ CU3 z0 w0 z w) ∨ ((0 ≤ a1 ∧ a1 < 3 ∧ z0 147 a1.toNat = 1) ∧ v = sm (w0 (144 + a1.toNat)) 18 ∧ z 39 0 = 0 ∧ z 39 1 = 0 ∧ ∀ e : Nat, e < 18 → w (aR z 0) e = w0 (144 + a1.toNat) e)))
theorem m_131x {d : Nat} {z0 w0 : mZ} {x y tx it mt tt ct : Option Nat} (t : Nat) (a1 : Int) (hz : rz z0) (hw : rw_ w0) (ha1 : (-2147483648) ≤ a1 ∧ a1 ≤ 2147483647) (ht : isT t) (hcv : CV z0 w0 t) : wc (d + 3) 131 [.ref 1, .int (Int32.ofInt a1)] (mk z0 w0 (pq x y tx it mt tt ct)) (poL S_131x z0 w0 (E_131x t a1 z0 w0 x y tx it mt tt ct)) := by
  have hst : st_ S_131x z0 w0 z0 w0 := st_rf hz hw
  have htb : 159 ≤ t ∧ t ≤ 192 := by have := ht; unfold isT at this; omega
  have hz36 := rd_1_15 hz
  have hwt := hcv.1
  have hzt3 := rd_T_3 ht hz
  have h390 := rd_39_0 hz
  have h391 := rd_39_1 hz
  have h392 := rd_39_2 hz
  refine w_m rfl rfl ?_
  refine r_ld (pc' := 1) rfl rfl rfl rfl ?_
  refine r_zlt (pc' := 4) rfl rfl ⟨by omega, by omega⟩ (fun hc37 => ?_) (fun hc37 => ?_)
  · skip
    refine r_al (pc' := 21) rfl rfl rfl rfl ?_
    have hb38 := rd_1_15 hz
    have hb39 := rd_39_0 hz
    have hb40 := rd_39_1 hz
    exact r_rl rfl (po_L hst ⟨by decide, by decide⟩ ⟨rfl, by omega, by omega, (by exact ⟨⟨hcv, fun q => q, rfl⟩, Or.inl ⟨fun q => by omega, rfl, CU3_r⟩⟩)⟩)
  · skip
    refine r_ld (pc' := 5) rfl rfl rfl rfl ?_
    refine r_c0 (pc' := 6) rfl rfl ?_
    refine r_ige (pc' := 9) rfl rfl ⟨by omega, by omega⟩ ⟨by decide, by decide⟩ (fun hc41 => ?_) (fun hc41 => ?_)
    · skip
      refine r_al (pc' := 21) rfl rfl rfl rfl ?_
      have hb42 := rd_1_15 hz
      have hb43 := rd_39_0 hz
      have hb44 := rd_39_1 hz
      exact r_rl rfl (po_L hst ⟨by decide, by decide⟩ ⟨rfl, by omega, by omega, (by exact ⟨⟨hcv, fun q => q, rfl⟩, Or.inl ⟨fun q => by omega, rfl, CU3_r⟩⟩)⟩)
    · skip
      refine r_ld (pc' := 10) rfl rfl rfl rfl ?_
      refine r_gr (b := 147) (pc' := 13) rfl rfl sh_1 rfl pp_1_9 ?_
      refine r_ld (pc' := 14) rfl rfl rfl rfl ?_
      have hb45 := rd_147 hz (i := a1.toNat) (by omega)
      refine r_ba (pc' := 15) rfl rfl sh_147 (Or.inr rfl) rfl (by omega) (by omega) rfl ?_
      refine r_zne (pc' := 18) rfl rfl ⟨by omega, by omega⟩ (fun hc46 => ?_) (fun hc46 => ?_)
      · skip
        refine r_ld (pc' := 23) rfl rfl rfl rfl ?_
        refine r_gr (b := 39) (pc' := 26) rfl rfl sh_1 rfl pp_1_6 ?_
        refine r_ld (pc' := 27) rfl rfl rfl rfl ?_
        refine r_gr (b := 143) (pc' := 30) rfl rfl sh_1 rfl pp_1_8 ?_
        refine r_ld (pc' := 31) rfl rfl rfl rfl ?_
        refine r_aa (b := 144 + a1.toNat) (pc' := 32) rfl rfl sh_143 (Or.inl rfl) rfl (by omega) (by omega) (pa_143 (by omega)) ?_
        have hb47 := rd_39_2 hz
        refine r_cVV (pc' := 35) rfl rfl rfl rfl rfl sh_39 (m_4b (d := d) (144 + a1.toNat) hst.1 hst.2.1 (by first | omega | assumption) (by exact fun e he => rd_144 (k := a1.toNat) (by omega) hw (i := e) he) (lr_144 (k := a1.toNat) (by omega) ) (by first | omega | assumption)) (fun z49 w50 p51 hs53 hE54 => ?_)
        have hs55 := st_tr hst hs53 (sub_B rfl)
        obtain ⟨rfl, hE54⟩ := hE54
        have hcl := hE54
        have hak2 : AK z49 w50 t := AK_c hcl.1 hcl.2.1 (FTt_fr (hs55.2.2.1 _ _ (notS_c (by omega) (notS_c (by omega) (notS_c (by omega) (notS_n))))) (funext fun i => hs55.2.2.1 _ _ (notS_c (by omega) (notS_c (by omega) (notS_c (by omega) (notS_n))))) (FTt_cg hwt hcl.2.2.2 (hcv.2.2.2.1 a1.toNat (by omega) (by omega))))
        refine r_ld (pc' := 36) rfl rfl rfl rfl ?_
        refine r_gr (b := 143) (pc' := 39) rfl rfl sh_1 rfl pp_1_8 ?_
        refine r_ld (pc' := 40) rfl rfl rfl rfl ?_
        refine r_aa (b := 144 + a1.toNat) (pc' := 41) rfl rfl sh_143 (Or.inl rfl) rfl (by omega) (by omega) (pa_143 (by omega)) ?_
        have hbw : w50 (144 + a1.toNat) = w0 (144 + a1.toNat) := funext fun i => (hs53.2.2.2 _ _ (notS_c (by omega) (notS_c (by omega) (notS_c (by omega) notS_n))))
        have hF56 : w50 (144 + a1.toNat) = w0 (144 + a1.toNat) := (funext fun _ => hs53.2.2.2 _ _ (notS_c (by omega) (notS_c (by omega) (notS_c (by omega) notS_n))))
        refine r_cSL (pc' := 44) rfl rfl rfl rfl rfl (m_142s (d := d + 1) (144 + a1.toNat) hs55.1 hs55.2.1 (lr_144 (k := a1.toNat) (by omega) ) (by first | omega | assumption | (simp only [hF56]; assumption)) (fun e he => by have q := rd_144 (k := a1.toNat) (by omega) hs55.2.1 (i := e) he; exact ⟨by omega, by omega⟩)) (fun v57 z58 w59 p60 h61 hs62 hE63 => ?_)
        obtain ⟨rfl, rfl, rfl, hE63⟩ := hE63
        have htt := hE63.2.2
        have hb65 := rd_1_15 hz
        have hf66 : z49 1 15 = z0 1 15 := (hs53.2.2.1 _ _ (notS_c (by omega) (notS_c (by omega) (notS_c (by omega) notS_n))))
        have hb67 := rd_39_0 hs55.1
        have hb68 := rd_39_1 hs55.1
        exact r_rl rfl (po_L hs55 ⟨by omega, by omega⟩ ⟨rfl, by omega, by omega, (by refine ⟨⟨CV_a ht hz hs55 (notS_c (by omega) (notS_c (by omega) (notS_c (by omega) (notS_n)))) (notS_c (by omega) (notS_c (by omega) (notS_c (by omega) (notS_n)))) (notS_c (by omega) (notS_c (by omega) (notS_c (by omega) (notS_n)))) (notS_c (by omega) (notS_c (by omega) (notS_c (by omega) (notS_n)))) (notS_c (by omega) (notS_c (by omega) (notS_c (by omega) (notS_n)))) (fun i => (notS_c (by omega) (notS_c (by omega) (notS_c (by omega) (notS_n))))) (fun i => (notS_c (by omega) (notS_c (by omega) (notS_c (by omega) (notS_n))))) (fun i => (notS_c (by omega) (notS_c (by omega) (notS_c (by omega) (notS_n))))) (fun a h1 h2 i => (notS_c (by omega) (notS_c (by omega) (notS_c (by omega) (notS_n))))) (fun a h1 h2 i => (notS_c (by omega) (notS_c (by omega) (notS_c (by omega) (notS_n))))) hcv hak2, (fun hq => GA_f ht hz hs55 (notS_c (by omega) (notS_c (by omega) (notS_c (by omega) (notS_n)))) (notS_c (by omega) (notS_c (by omega) (notS_c (by omega) (notS_n)))) (fun i => (notS_c (by omega) (notS_c (by omega) (notS_c (by omega) (notS_n))))) (fun a h1 h2 i => (notS_c (by omega) (notS_c (by omega) (notS_c (by omega) (notS_n))))) hq), hs55.2.2.1 _ _ (notS_c (by omega) (notS_c (by omega) (notS_c (by omega) (notS_n))))⟩, Or.inr ⟨⟨by omega, by omega, by omega⟩, ?_, hcl.1, hcl.2.1, hcl.2.2.2⟩⟩; rw [htt, hbw])⟩)
      · skip
        refine r_al (pc' := 21) rfl rfl rfl rfl ?_
        have hb69 := rd_1_15 hz
        have hb70 := rd_39_0 hz
        have hb71 := rd_39_1 hz
        exact r_rl rfl (po_L hst ⟨by decide, by decide⟩ ⟨rfl, by omega, by omega, (by exact ⟨⟨hcv, fun q => q, rfl⟩, Or.inl ⟨fun q => by omega, rfl, CU3_r⟩⟩)⟩)
/-- LoopGround twist -/
abbrev S_124x  : mS := [(157, 157, 0, 17), (39, 39, 1, 1), (39, 39, 2, 2), (39, 39, 0, 0), (41, 101, 0, 17)]
abbrev E_124x (t : Nat) (u : Nat) (a1 : Int) (a2 : Int) (z0 w0 : mZ) (tx it tt ct : Option Nat) : Int → mZ → mZ → mP → Prop := fun v z w p => p = (pq (some t) (some u) tx it (some t) tt ct) ∧ (-2) ≤ v ∧ v ≤ 1800000000000000 ∧ ((CV z w t ∧ (GA z0 z0 t → GA z z t) ∧ z 1 15 = z0 1 15) ∧ ((¬ (0 ≤ a1 ∧ a1 < z0 t 3 ∧ z0 (17 + 2 * a1.toNat) 0 = 2 ∧ a2 ≠ 0 ∧ -99 ≤ a2 ∧ a2 ≤ 99) ∧ v = -1 ∧ CU3 z0 w0 z w) ∨ ((0 ≤ a1 ∧ a1 < z0 t 3 ∧ z0 (17 + 2 * a1.toNat) 0 = 2 ∧ a2 ≠ 0 ∧ -99 ≤ a2 ∧ a2 ≤ 99) ∧ CAC z0 w0 z w v (gal (rdc z0 a1.toNat) a2))))
theorem m_124x {d : Nat} {z0 w0 : mZ} {tx it tt ct : Option Nat} (t : Nat) (u : Nat) (a1 : Int) (a2 : Int) (hz : rz z0) (hw : rw_ w0) (ha1 : (-2147483648) ≤ a1 ∧ a1 ≤ 2147483647) (ha2 : (-2147483648) ≤ a2 ∧ a2 ≤ 2147483647) (ht : isT t) (hu : isT u) (hcv : CV z0 w0 t) (hga : GA z0 z0 t) : wc (d + 5) 124 [.ref 1, .int (Int32.ofInt a1), .int (Int32.ofInt a2)] (mk z0 w0 (pq (some t) (some u) tx it (some t) tt ct)) (poL S_124x z0 w0 (E_124x t u a1 a2 z0 w0 tx it tt ct)) := by
  have hst : st_ S_124x z0 w0 z0 w0 := st_rf hz hw
  have htb : 159 ≤ t ∧ t ≤ 192 := by have := ht; unfold isT at this; omega
  have hub : 159 ≤ u ∧ u ≤ 192 := by have := hu; unfold isT at this; omega
  have hz57 := rd_1_15 hz
  have hz58 := rd_T_3 ht hz
  have hwt := hcv.1
  have hzt3 := rd_T_3 ht hz
  have h390 := rd_39_0 hz
  have h391 := rd_39_1 hz
  have h392 := rd_39_2 hz
  refine w_m rfl rfl ?_
  refine r_ld (pc' := 1) rfl rfl rfl rfl ?_
  refine r_gr (b := 10) (pc' := 4) rfl rfl sh_1 rfl pp_1_3 ?_
  refine r_ld (pc' := 5) rfl rfl rfl rfl ?_
  have hb59 := rd_T_3 ht hz
  refine r_cVI (pc' := 8) rfl rfl rfl rfl rfl sh_10 (m_23x (d := d + 2) t a1 hst.1 hst.2.1 ⟨by omega, by omega⟩ ht) (fun v60 z61 w62 p63 h64 hs65 hE66 => ?_)
  obtain ⟨rfl, rfl, rfl, hE66⟩ := hE66
  have hfl := hE66.2.2.1
  have hfx := hE66.2.2.2
  refine r_zeq (pc' := 11) rfl rfl ⟨by omega, by omega⟩ (fun hc68 => ?_) (fun hc68 => ?_)
  · skip
    refine r_al (pc' := 30) rfl rfl rfl rfl ?_
    have hb69 := rd_1_15 hz
    exact r_rl rfl (po_L hst ⟨by decide, by decide⟩ ⟨rfl, by omega, by omega, (by exact ⟨⟨hcv, fun q => q, rfl⟩, Or.inl ⟨fun q => by first | omega | exact hfx (by omega) ⟨q.1, q.2.1, q.2.2.1⟩, rfl, CU3_r⟩⟩)⟩)
  · skip
    refine r_ld (pc' := 12) rfl rfl rfl rfl ?_
    refine r_zeq (pc' := 15) rfl rfl ⟨by omega, by omega⟩ (fun hc70 => ?_) (fun hc70 => ?_)
    · skip
      refine r_al (pc' := 30) rfl rfl rfl rfl ?_
      have hb71 := rd_1_15 hz
      exact r_rl rfl (po_L hst ⟨by decide, by decide⟩ ⟨rfl, by omega, by omega, (by exact ⟨⟨hcv, fun q => q, rfl⟩, Or.inl ⟨fun q => by first | omega | exact hfx (by omega) ⟨q.1, q.2.1, q.2.2.1⟩, rfl, CU3_r⟩⟩)⟩)
    · skip
      refine r_ld (pc' := 16) rfl rfl rfl rfl ?_
      refine r_cb (pc' := 18) rfl (by decide) rfl ?_
      refine r_ilt (pc' := 21) rfl rfl ⟨by omega, by omega⟩ ⟨by decide, by decide⟩ (fun hc72 => ?_) (fun hc72 => ?_)
      · skip
        refine r_al (pc' := 30) rfl rfl rfl rfl ?_
        have hb73 := rd_1_15 hz
        exact r_rl rfl (po_L hst ⟨by decide, by decide⟩ ⟨rfl, by omega, by omega, (by exact ⟨⟨hcv, fun q => q, rfl⟩, Or.inl ⟨fun q => by first | omega | exact hfx (by omega) ⟨q.1, q.2.1, q.2.2.1⟩, rfl, CU3_r⟩⟩)⟩)
      · skip
        refine r_ld (pc' := 22) rfl rfl rfl rfl ?_
        refine r_cb (pc' := 24) rfl (by decide) rfl ?_
        refine r_ile (pc' := 27) rfl rfl ⟨by omega, by omega⟩ ⟨by decide, by decide⟩ (fun hc74 => ?_) (fun hc74 => ?_)
        · skip
          refine r_ld (pc' := 32) rfl rfl rfl rfl ?_
          refine r_gr (b := 39) (pc' := 35) rfl rfl sh_1 rfl pp_1_6 ?_
          refine r_cVR (pc' := 38) rfl rfl rfl rfl rfl sh_39 (m_2 (d := d + 3)  hst.1 hst.2.1 ) (fun v75 z76 w77 p78 hs80 hE81 => ?_)
          rcases hE81 with ⟨rfl, rfl, rfl, rfl, hrw⟩
          have hb83 := rd_39_2 hz
          have hb84 := rd_39_0 hz
          refine r_ld (pc' := 39) rfl rfl rfl rfl ?_
          refine r_gr (b := 157) (pc' := 42) rfl rfl sh_1 rfl pp_1_11 ?_
          refine r_cSV (pc' := 45) rfl rfl rfl rfl rfl (m_140 (d := d + 3) (41 + ((z0 39 2 + (z0 39 0)) % 61).toNat) 157 hst.1 hst.2.1 (by first | omega | assumption) (lr_41 (k := ((z0 39 2 + (z0 39 0)) % 61).toNat) (by omega) ) (by first | omega | assumption) lr_157 (by first | omega | assumption) wrr_157) (fun z86 w87 p88 hs90 hE91 => ?_)
          have hs92 := st_tr hst hs90 (sub_B rfl)
          obtain ⟨rfl, hE91⟩ := hE91
          have hcp := hE91
          have hs1 := hs90
          refine r_ld (pc' := 46) rfl rfl rfl rfl ?_
          refine r_ld (pc' := 47) rfl rfl rfl rfl ?_
          refine r_gr (b := 10) (pc' := 50) rfl rfl sh_1 rfl pp_1_3 ?_
          refine r_ld (pc' := 51) rfl rfl rfl rfl ?_
          refine r_gr (b := 157) (pc' := 54) rfl rfl sh_1 rfl pp_1_11 ?_
          refine r_ld (pc' := 55) rfl rfl rfl rfl ?_
          refine r_ld (pc' := 56) rfl rfl rfl rfl ?_
          refine r_al (pc' := 57) rfl rfl rfl rfl ?_
          have e0 : z86 t 0 = z0 t 0 := hs92.2.2.1 _ _ (notS_c (by omega) (notS_c (by omega) (notS_c (by omega) (notS_c (by omega) (notS_c (by omega) (notS_n))))))
          have e1 : z86 (t + 1) = z0 (t + 1) := funext fun i => hs92.2.2.1 _ _ (notS_c (by omega) (notS_c (by omega) (notS_c (by omega) (notS_c (by omega) (notS_c (by omega) (notS_n))))))
          have rdz : rdc z86 a1.toNat = rdc z0 a1.toNat := rdc_f (fun i hi => (hs90.2.2.1 _ _ (notS_c (by omega) notS_n))) (funext fun i => (hs90.2.2.1 _ _ (notS_c (by omega) notS_n)))
          have hb93 := rd_R_0 (k := a1.toNat) (by omega) hz
          have hf94 : z86 (17 + 2 * a1.toNat) 0 = z0 (17 + 2 * a1.toNat) 0 := (hs90.2.2.1 _ _ (notS_c (by omega) notS_n))
          refine r_cVI (pc' := 60) rfl rfl rfl rfl rfl sh_10 (m_27e (d := d) t 157 a1 a2 hs92.1 hs92.2.1 ⟨by omega, by omega⟩ ⟨by omega, by omega⟩ ht (by exact NB_c hcp (NB_A (by omega) hw)) (by exact FTt_fr (hs92.2.2.1 _ _ (notS_c (by omega) (notS_c (by omega) (notS_c (by omega) (notS_c (by omega) (notS_c (by omega) (notS_n))))))) (funext fun i => hs92.2.2.1 _ _ (notS_c (by omega) (notS_c (by omega) (notS_c (by omega) (notS_c (by omega) (notS_c (by omega) (notS_n))))))) (FTt_cg hwt hcp (AK_now hcv.2.2.1 (by omega) (by omega)))) (by exact GRt_cg (hga a1.toNat (by omega)) (hs92.2.2.1 _ _ (notS_c (by omega) (notS_c (by omega) (notS_c (by omega) (notS_c (by omega) (notS_c (by omega) (notS_n))))))).symm (funext fun i => (hs92.2.2.1 _ _ (notS_c (by omega) (notS_c (by omega) (notS_c (by omega) (notS_c (by omega) (notS_c (by omega) (notS_n))))))).symm) (fun i _ => hs92.2.2.1 _ _ (notS_c (by omega) (notS_c (by omega) (notS_c (by omega) (notS_c (by omega) (notS_c (by omega) (notS_n))))))) (funext fun i => hs92.2.2.1 _ _ (notS_c (by omega) (notS_c (by omega) (notS_c (by omega) (notS_c (by omega) (notS_c (by omega) (notS_n)))))))) (by exact (hs92.2.2.1 _ _ (notS_c (by omega) (notS_c (by omega) (notS_c (by omega) (notS_c (by omega) (notS_c (by omega) (notS_n))))))).trans (hfl (by omega)).2.2.2) lr_157 (by first | omega | assumption | (simp only [hf94]; assumption)) wrr_157 (by first | omega | assumption | (simp only [hf94]; assumption))) (fun v95 z96 w97 p98 h99 hs100 hE101 => ?_)
          have hs102 := st_tr hs92 hs100 (sub_B rfl)
          obtain ⟨rfl, hE101⟩ := hE101
          have htw := hE101.2.2.1
          have hsm : st_ [(157, 157, 0, 17)] z0 w0 z96 w97 := st_tr hs1 hs100 (fun a i q => q)
          have hte := hE101.2.2.2
          rw [rdz] at hte
          have hg0 : GA z0 z0 t → GA z96 z96 t := (fun hq => GA_f ht hz hs102 (notS_c (by omega) (notS_c (by omega) (notS_c (by omega) (notS_c (by omega) (notS_c (by omega) (notS_n)))))) (notS_c (by omega) (notS_c (by omega) (notS_c (by omega) (notS_c (by omega) (notS_c (by omega) (notS_n)))))) (fun i => (notS_c (by omega) (notS_c (by omega) (notS_c (by omega) (notS_c (by omega) (notS_c (by omega) (notS_n))))))) (fun a h1 h2 i => (notS_c (by omega) (notS_c (by omega) (notS_c (by omega) (notS_c (by omega) (notS_c (by omega) (notS_n))))))) hq)
          have hl0 : z96 1 15 = z0 1 15 := hs102.2.2.1 _ _ (notS_c (by omega) (notS_c (by omega) (notS_c (by omega) (notS_c (by omega) (notS_c (by omega) (notS_n))))))
          have hu0 : CU3 z0 w0 z96 w97 := ⟨⟨((hs100.2.2.1 _ _ (notS_c (by omega) notS_n)).trans (hs90.2.2.1 _ _ (notS_c (by omega) notS_n))), ((hs100.2.2.1 _ _ (notS_c (by omega) notS_n)).trans (hs90.2.2.1 _ _ (notS_c (by omega) notS_n))), ((hs100.2.2.1 _ _ (notS_c (by omega) notS_n)).trans (hs90.2.2.1 _ _ (notS_c (by omega) notS_n)))⟩, fun a h1 h2 => funext fun i => ((hs100.2.2.2 _ _ (notS_c (by omega) notS_n)).trans (hs90.2.2.2 _ _ (notS_c (by omega) notS_n)))⟩
          have hb103 := rd_1_15 hz
          have hf104 : z96 1 15 = z0 1 15 := ((hs100.2.2.1 _ _ (notS_c (by omega) notS_n)).trans (hs90.2.2.1 _ _ (notS_c (by omega) notS_n)))
          refine r_cVL (pc' := 63) rfl rfl rfl rfl rfl sh_1 (m_126x (d := d + 1) t v95 hs102.1 hs102.2.1 ⟨by omega, by omega⟩ ht (by exact CV_f ht hz hsm (notS_c (by omega) notS_n) (notS_c (by omega) notS_n) (notS_c (by omega) notS_n) (notS_c (by omega) notS_n) (notS_c (by omega) notS_n) (fun i => (notS_c (by omega) notS_n)) (fun i => (notS_c (by omega) notS_n)) (fun i => (notS_c (by omega) notS_n)) (fun a h1 h2 i => (notS_c (by omega) notS_n)) (notS_c (by omega) notS_n) (notS_c (by omega) notS_n) (notS_c (by omega) notS_n) (fun a h1 h2 i => (notS_c (by omega) notS_n)) (fun a h1 h2 i => (notS_c (by omega) notS_n)) hcv) (by exact fun q => ⟨FTt_fr (hs102.2.2.1 _ _ (notS_c (by omega) (notS_c (by omega) (notS_c (by omega) (notS_c (by omega) (notS_c (by omega) (notS_n))))))) (funext fun i => hs102.2.2.1 _ _ (notS_c (by omega) (notS_c (by omega) (notS_c (by omega) (notS_c (by omega) (notS_c (by omega) (notS_n))))))) (FTt_fr e0.symm e1.symm (htw q).1), (htw q).2⟩)) (fun v105 z106 w107 p108 h109 hs110 hE111 => ?_)
          have hs112 := st_tr hs102 hs110 (sub_B rfl)
          obtain ⟨rfl, hE111⟩ := hE111
          have hac := hE111.2.2.1
          have hax := hE111.2.2.2
          have hf113 : z106 1 15 = z0 1 15 := ((hs110.2.2.1 _ _ (notS_c (by omega) (notS_c (by omega) (notS_c (by omega) (notS_c (by omega) notS_n))))).trans ((hs100.2.2.1 _ _ (notS_c (by omega) notS_n)).trans (hs90.2.2.1 _ _ (notS_c (by omega) notS_n))))
          exact r_rl rfl (po_L hs112 ⟨by omega, by omega⟩ ⟨rfl, by omega, by omega, (by refine ⟨⟨hac.1, fun q => hac.2.1 (hg0 q), hac.2.2.trans hl0⟩, Or.inr ⟨(by have q9 := hfl (by omega); exact ⟨q9.1, q9.2.1, q9.2.2.2, by omega, by omega, by omega⟩), w87 157, hcp, ?_⟩⟩; rcases (show v95 = 0 ∨ v95 = 1 by omega) with q | q; (exact Or.inl ⟨hte.2 q, (hax.1 q).1, CU3_c hu0 (hax.1 q).2⟩); (exact Or.inr ⟨w97 157, hte.1 q, (hax.2 q).1, CKP_c hu0 (hax.2 q).2⟩))⟩)
        · skip
          refine r_al (pc' := 30) rfl rfl rfl rfl ?_
          have hb114 := rd_1_15 hz
          exact r_rl rfl (po_L hst ⟨by decide, by decide⟩ ⟨rfl, by omega, by omega, (by exact ⟨⟨hcv, fun q => q, rfl⟩, Or.inl ⟨fun q => by first | omega | exact hfx (by omega) ⟨q.1, q.2.1, q.2.2.1⟩, rfl, CU3_r⟩⟩)⟩)
/-- LoopGround go -/
abbrev S_125x  : mS := [(157, 157, 0, 17), (39, 39, 1, 1), (39, 39, 2, 2), (39, 39, 0, 0), (41, 101, 0, 17)]
abbrev E_125x (t : Nat) (u : Nat) (a1 : Int) (z0 w0 : mZ) (tx it tt ct : Option Nat) : Int → mZ → mZ → mP → Prop := fun v z w p => p = (pq (some t) (some u) tx it (some t) tt ct) ∧ (-2) ≤ v ∧ v ≤ 1800000000000000 ∧ ((CV z w t ∧ (GA z0 z0 t → GA z z t) ∧ z 1 15 = z0 1 15) ∧ ((¬ (0 ≤ a1 ∧ a1 < z0 t 4 ∧ FW z0 t a1.toNat) ∧ v = -1 ∧ CU3 z0 w0 z w) ∨ ((0 ≤ a1 ∧ a1 < z0 t 4 ∧ FW z0 t a1.toNat) ∧ CAC z0 w0 z w v (gwc z0 t a1.toNat))))
theorem m_125x {d : Nat} {z0 w0 : mZ} {tx it tt ct : Option Nat} (t : Nat) (u : Nat) (a1 : Int) (hz : rz z0) (hw : rw_ w0) (ha1 : (-2147483648) ≤ a1 ∧ a1 ≤ 2147483647) (ht : isT t) (hu : isT u) (hcv : CV z0 w0 t) (hga : GA z0 z0 t) : wc (d + 6) 125 [.ref 1, .int (Int32.ofInt a1)] (mk z0 w0 (pq (some t) (some u) tx it (some t) tt ct)) (poL S_125x z0 w0 (E_125x t u a1 z0 w0 tx it tt ct)) := by
  have hst : st_ S_125x z0 w0 z0 w0 := st_rf hz hw
  have htb : 159 ≤ t ∧ t ≤ 192 := by have := ht; unfold isT at this; omega
  have hub : 159 ≤ u ∧ u ≤ 192 := by have := hu; unfold isT at this; omega
  have hz49 := rd_1_15 hz
  have hz50 := rd_T_4 ht hz
  have hwt := hcv.1
  have hzt3 := rd_T_3 ht hz
  have h390 := rd_39_0 hz
  have h391 := rd_39_1 hz
  have h392 := rd_39_2 hz
  refine w_m rfl rfl ?_
  refine r_ld (pc' := 1) rfl rfl rfl rfl ?_
  refine r_gr (b := 10) (pc' := 4) rfl rfl sh_1 rfl pp_1_3 ?_
  refine r_ld (pc' := 5) rfl rfl rfl rfl ?_
  have hb51 := rd_T_4 ht hz
  refine r_cVI (pc' := 8) rfl rfl rfl rfl rfl sh_10 (m_24x (d := d + 2) t a1 hst.1 hst.2.1 ⟨by omega, by omega⟩ ht) (fun v52 z53 w54 p55 h56 hs57 hE58 => ?_)
  obtain ⟨rfl, rfl, rfl, hE58⟩ := hE58
  have hfv := hE58.2.2.1
  have hfx := hE58.2.2.2
  refine r_zne (pc' := 11) rfl rfl ⟨by omega, by omega⟩ (fun hc60 => ?_) (fun hc60 => ?_)
  · skip
    refine r_ld (pc' := 16) rfl rfl rfl rfl ?_
    refine r_gr (b := 39) (pc' := 19) rfl rfl sh_1 rfl pp_1_6 ?_
    refine r_cVR (pc' := 22) rfl rfl rfl rfl rfl sh_39 (m_2 (d := d + 4)  hst.1 hst.2.1 ) (fun v61 z62 w63 p64 hs66 hE67 => ?_)
    rcases hE67 with ⟨rfl, rfl, rfl, rfl, hrw⟩
    have hb69 := rd_39_2 hz
    have hb70 := rd_39_0 hz
    refine r_ld (pc' := 23) rfl rfl rfl rfl ?_
    refine r_gr (b := 157) (pc' := 26) rfl rfl sh_1 rfl pp_1_11 ?_
    refine r_cSV (pc' := 29) rfl rfl rfl rfl rfl (m_140 (d := d + 4) (41 + ((z0 39 2 + (z0 39 0)) % 61).toNat) 157 hst.1 hst.2.1 (by first | omega | assumption) (lr_41 (k := ((z0 39 2 + (z0 39 0)) % 61).toNat) (by omega) ) (by first | omega | assumption) lr_157 (by first | omega | assumption) wrr_157) (fun z72 w73 p74 hs76 hE77 => ?_)
    have hs78 := st_tr hst hs76 (sub_B rfl)
    obtain ⟨rfl, hE77⟩ := hE77
    have hcp := hE77
    have hs1 := hs76
    refine r_ld (pc' := 30) rfl rfl rfl rfl ?_
    refine r_ld (pc' := 31) rfl rfl rfl rfl ?_
    refine r_gr (b := 10) (pc' := 34) rfl rfl sh_1 rfl pp_1_3 ?_
    refine r_ld (pc' := 35) rfl rfl rfl rfl ?_
    refine r_gr (b := 157) (pc' := 38) rfl rfl sh_1 rfl pp_1_11 ?_
    refine r_ld (pc' := 39) rfl rfl rfl rfl ?_
    refine r_al (pc' := 40) rfl rfl rfl rfl ?_
    have e0 : z72 t 0 = z0 t 0 := hs78.2.2.1 _ _ (notS_c (by omega) (notS_c (by omega) (notS_c (by omega) (notS_c (by omega) (notS_c (by omega) (notS_n))))))
    have e1 : z72 (t + 1) = z0 (t + 1) := funext fun i => hs78.2.2.1 _ _ (notS_c (by omega) (notS_c (by omega) (notS_c (by omega) (notS_c (by omega) (notS_c (by omega) (notS_n))))))
    have hf5 := (hfv (by omega)).2.2.2
    have rdz : ∀ n, gwc z72 t a1.toNat n = gwc z0 t a1.toNat n := fun n => gwc_f ((hs76.2.2.1 _ _ (notS_c (by omega) notS_n))) (fun i => (hs76.2.2.1 _ _ (notS_c (by omega) notS_n))) (fun i => (hs76.2.2.1 _ _ (notS_c (by omega) notS_n))) (fun i hi => by have q1 := (hf5 i hi).1; have q2 := rd_T_3 ht hz; omega) (fun l hl => rdc_f (fun i hi => (hs76.2.2.1 _ _ (notS_c (by omega) notS_n))) (funext fun i => (hs76.2.2.1 _ _ (notS_c (by omega) notS_n))))
    refine r_cVI (pc' := 43) rfl rfl rfl rfl rfl sh_10 (m_26e (d := d) t 157 a1 hs78.1 hs78.2.1 ⟨by omega, by omega⟩ ht (by exact NB_c hcp (NB_A (by omega) hw)) (by exact FTt_fr (hs78.2.2.1 _ _ (notS_c (by omega) (notS_c (by omega) (notS_c (by omega) (notS_c (by omega) (notS_c (by omega) (notS_n))))))) (funext fun i => hs78.2.2.1 _ _ (notS_c (by omega) (notS_c (by omega) (notS_c (by omega) (notS_c (by omega) (notS_c (by omega) (notS_n))))))) (FTt_cg hwt hcp (AK_now hcv.2.2.1 (by omega) (by omega)))) (by exact GA_f ht hz hs78 (notS_c (by omega) (notS_c (by omega) (notS_c (by omega) (notS_c (by omega) (notS_c (by omega) (notS_n)))))) (notS_c (by omega) (notS_c (by omega) (notS_c (by omega) (notS_c (by omega) (notS_c (by omega) (notS_n)))))) (fun i => (notS_c (by omega) (notS_c (by omega) (notS_c (by omega) (notS_c (by omega) (notS_c (by omega) (notS_n))))))) (fun a h1 h2 i => (notS_c (by omega) (notS_c (by omega) (notS_c (by omega) (notS_c (by omega) (notS_c (by omega) (notS_n))))))) hga) (by exact FW_f ht hz hs78 (by omega) (notS_c (by omega) (notS_c (by omega) (notS_c (by omega) (notS_c (by omega) (notS_c (by omega) (notS_n)))))) (fun i => (notS_c (by omega) (notS_c (by omega) (notS_c (by omega) (notS_c (by omega) (notS_c (by omega) (notS_n))))))) (fun a h1 h2 i => (notS_c (by omega) (notS_c (by omega) (notS_c (by omega) (notS_c (by omega) (notS_c (by omega) (notS_n))))))) (fun a h1 h2 i => (notS_c (by omega) (notS_c (by omega) (notS_c (by omega) (notS_c (by omega) (notS_c (by omega) (notS_n))))))) (hfv (by omega)).2.2.2) lr_157 (by first | omega | assumption) wrr_157 (by first | omega | assumption)) (fun v79 z80 w81 p82 h83 hs84 hE85 => ?_)
    have hs86 := st_tr hs78 hs84 (sub_B rfl)
    obtain ⟨rfl, hE85⟩ := hE85
    have htw := hE85.2.2.1
    have hsm : st_ [(157, 157, 0, 17)] z0 w0 z80 w81 := st_tr hs1 hs84 (fun a i q => q)
    have hte := hE85.2.2.2
    rw [rdz] at hte
    have hg0 : GA z0 z0 t → GA z80 z80 t := (fun hq => GA_f ht hz hs86 (notS_c (by omega) (notS_c (by omega) (notS_c (by omega) (notS_c (by omega) (notS_c (by omega) (notS_n)))))) (notS_c (by omega) (notS_c (by omega) (notS_c (by omega) (notS_c (by omega) (notS_c (by omega) (notS_n)))))) (fun i => (notS_c (by omega) (notS_c (by omega) (notS_c (by omega) (notS_c (by omega) (notS_c (by omega) (notS_n))))))) (fun a h1 h2 i => (notS_c (by omega) (notS_c (by omega) (notS_c (by omega) (notS_c (by omega) (notS_c (by omega) (notS_n))))))) hq)
    have hl0 : z80 1 15 = z0 1 15 := hs86.2.2.1 _ _ (notS_c (by omega) (notS_c (by omega) (notS_c (by omega) (notS_c (by omega) (notS_c (by omega) (notS_n))))))
    have hu0 : CU3 z0 w0 z80 w81 := ⟨⟨((hs84.2.2.1 _ _ (notS_c (by omega) notS_n)).trans (hs76.2.2.1 _ _ (notS_c (by omega) notS_n))), ((hs84.2.2.1 _ _ (notS_c (by omega) notS_n)).trans (hs76.2.2.1 _ _ (notS_c (by omega) notS_n))), ((hs84.2.2.1 _ _ (notS_c (by omega) notS_n)).trans (hs76.2.2.1 _ _ (notS_c (by omega) notS_n)))⟩, fun a h1 h2 => funext fun i => ((hs84.2.2.2 _ _ (notS_c (by omega) notS_n)).trans (hs76.2.2.2 _ _ (notS_c (by omega) notS_n)))⟩
    have hb87 := rd_1_15 hz
    have hf88 : z80 1 15 = z0 1 15 := ((hs84.2.2.1 _ _ (notS_c (by omega) notS_n)).trans (hs76.2.2.1 _ _ (notS_c (by omega) notS_n)))
    refine r_cVL (pc' := 46) rfl rfl rfl rfl rfl sh_1 (m_126x (d := d + 2) t v79 hs86.1 hs86.2.1 ⟨by omega, by omega⟩ ht (by exact CV_f ht hz hsm (notS_c (by omega) notS_n) (notS_c (by omega) notS_n) (notS_c (by omega) notS_n) (notS_c (by omega) notS_n) (notS_c (by omega) notS_n) (fun i => (notS_c (by omega) notS_n)) (fun i => (notS_c (by omega) notS_n)) (fun i => (notS_c (by omega) notS_n)) (fun a h1 h2 i => (notS_c (by omega) notS_n)) (notS_c (by omega) notS_n) (notS_c (by omega) notS_n) (notS_c (by omega) notS_n) (fun a h1 h2 i => (notS_c (by omega) notS_n)) (fun a h1 h2 i => (notS_c (by omega) notS_n)) hcv) (by exact fun q => ⟨FTt_fr (hs86.2.2.1 _ _ (notS_c (by omega) (notS_c (by omega) (notS_c (by omega) (notS_c (by omega) (notS_c (by omega) (notS_n))))))) (funext fun i => hs86.2.2.1 _ _ (notS_c (by omega) (notS_c (by omega) (notS_c (by omega) (notS_c (by omega) (notS_c (by omega) (notS_n))))))) (FTt_fr e0.symm e1.symm (htw q).1), (htw q).2⟩)) (fun v89 z90 w91 p92 h93 hs94 hE95 => ?_)
    have hs96 := st_tr hs86 hs94 (sub_B rfl)
    obtain ⟨rfl, hE95⟩ := hE95
    have hac := hE95.2.2.1
    have hax := hE95.2.2.2
    have hf97 : z90 1 15 = z0 1 15 := ((hs94.2.2.1 _ _ (notS_c (by omega) (notS_c (by omega) (notS_c (by omega) (notS_c (by omega) notS_n))))).trans ((hs84.2.2.1 _ _ (notS_c (by omega) notS_n)).trans (hs76.2.2.1 _ _ (notS_c (by omega) notS_n))))
    exact r_rl rfl (po_L hs96 ⟨by omega, by omega⟩ ⟨rfl, by omega, by omega, (by refine ⟨⟨hac.1, fun q => hac.2.1 (hg0 q), hac.2.2.trans hl0⟩, Or.inr ⟨(by have q9 := hfv (by omega); exact ⟨q9.1, q9.2.1, q9.2.2.2⟩), w73 157, hcp, ?_⟩⟩; rcases (show v79 = 0 ∨ v79 = 1 by omega) with q | q; (exact Or.inl ⟨hte.2 q, (hax.1 q).1, CU3_c hu0 (hax.1 q).2⟩); (exact Or.inr ⟨w81 157, hte.1 q, (hax.2 q).1, CKP_c hu0 (hax.2 q).2⟩))⟩)
  · skip
    refine r_al (pc' := 14) rfl rfl rfl rfl ?_
    have hb98 := rd_1_15 hz
    exact r_rl rfl (po_L hst ⟨by decide, by decide⟩ ⟨rfl, by omega, by omega, (by exact ⟨⟨hcv, fun q => q, rfl⟩, Or.inl ⟨fun q => hfx (by omega) q, rfl, CU3_r⟩⟩)⟩)
end

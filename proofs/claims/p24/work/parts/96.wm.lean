/-! THE LINE in earnest, as both keep it -/
def CU3 (z w z' w' : mZ) : Prop := (z' 39 0 = z 39 0 ∧ z' 39 1 = z 39 1 ∧ z' 39 2 = z 39 2) ∧ ∀ a, 41 ≤ a → a ≤ 101 → w' a = w a
def CKP (z w z' w' : mZ) (n : Nat → Int) : Prop := z' 39 1 = 0 ∧ ((z 39 0 ≤ 59 ∧ z' 39 0 = z 39 0 + 1 ∧ z' 39 2 = z 39 2) ∨ (z 39 0 = 60 ∧ z' 39 0 = 60 ∧ z' 39 2 = (z 39 2 + 1) % 61)) ∧ (∀ j : Nat, j < 18 → w' (aR z' (z' 39 0)) j = n j) ∧ ∀ a, 41 ≤ a → a ≤ 101 → a ≠ aR z' (z' 39 0) → w' a = w a
def CUD (z w z' w' : mZ) (v : Int) : Prop := ((z 39 0 = 0 ∧ v = 0 ∧ z' 39 0 = z 39 0 ∧ z' 39 1 = z 39 1) ∨ (0 < z 39 0 ∧ v = 1 ∧ z' 39 0 = z 39 0 - 1 ∧ z' 39 1 = z 39 1 + 1)) ∧ z' 39 2 = z 39 2 ∧ ∀ a, 41 ≤ a → a ≤ 101 → w' a = w a
def CRD (z w z' w' : mZ) (v : Int) : Prop := ((z 39 1 = 0 ∧ v = 0 ∧ z' 39 0 = z 39 0 ∧ z' 39 1 = z 39 1) ∨ (0 < z 39 1 ∧ v = 1 ∧ z' 39 0 = z 39 0 + 1 ∧ z' 39 1 = z 39 1 - 1)) ∧ z' 39 2 = z 39 2 ∧ ∀ a, 41 ≤ a → a ≤ 101 → w' a = w a
def RU3 (z w z' w' : mZ) : Prop := z' 225 73 = z 225 73 ∧ z' 225 74 = z 225 74 ∧ w' 270 = w 270 ∧ w' 271 = w 271
def RKP (z w z' w' : mZ) (n : Nat → Int) : Prop := z' 225 74 = 0 ∧ (∀ e : Nat, e < 18 → w' 270 e = n e) ∧ ((z 225 73 ≤ 59 ∧ z' 225 73 = z 225 73 + 1 ∧ (∀ e : Nat, e < 18 → w' 271 (18 * (z 225 73).toNat + e) = w 270 e) ∧ ∀ i : Nat, i < 18 * (z 225 73).toNat → w' 271 i = w 271 i) ∨
  (z 225 73 = 60 ∧ z' 225 73 = 60 ∧ (∀ e : Nat, e < 18 → w' 271 (1062 + e) = w 270 e) ∧ ∀ i : Nat, i < 1062 → w' 271 i = w 271 (i + 18)))
def RUD (z w z' w' : mZ) (v : Int) : Prop := (z 225 73 = 0 ∧ v = 0 ∧ RU3 z w z' w') ∨ (0 < z 225 73 ∧ v = 1 ∧ z' 225 73 = z 225 73 - 1 ∧ z' 225 74 = z 225 74 + 1 ∧ EXd w w' (z 225 73 - 1).toNat)
def RRD (z w z' w' : mZ) (v : Int) : Prop := (z 225 74 = 0 ∧ v = 0 ∧ RU3 z w z' w') ∨ (0 < z 225 74 ∧ v = 1 ∧ z' 225 73 = z 225 73 + 1 ∧ z' 225 74 = z 225 74 - 1 ∧ EXd w w' (z 225 73).toNat)
/-- the k-th state of the reference's line -/
def stR (z w : mZ) (k e : Nat) : Int := if (k : Int) < z 225 73 then w 271 (18 * k + e) else if (k : Int) = z 225 73 then w 270 e else w 271 (18 * (k - 1) + e)
theorem stR_1 {z w : mZ} {k e : Nat} (h : (k : Int) < z 225 73) : stR z w k e = w 271 (18 * k + e) := if_pos h
theorem stR_2 {z w : mZ} {k e : Nat} (h : (k : Int) = z 225 73) : stR z w k e = w 270 e := by unfold stR; rw [if_neg (by omega), if_pos h]
theorem stR_3 {z w : mZ} {k e : Nat} (h : z 225 73 < (k : Int)) : stR z w k e = w 271 (18 * (k - 1) + e) := by unfold stR; rw [if_neg (by omega), if_neg (by omega)]
/-- both keep the same states, 0 behind the last edge -/
def LN (E : Int) (zc wc zr wr : mZ) : Prop := zc 39 0 = zr 225 73 ∧ zc 39 1 = zr 225 74 ∧ ∀ k : Nat, (k : Int) ≤ zc 39 0 + zc 39 1 → ∀ e : Nat, e < 18 → wc (aR zc k) e = stR zr wr k e ∧ (E ≤ (e : Int) → stR zr wr k e = 0)
def BD39 (z : mZ) : Prop := 0 ≤ z 39 0 ∧ 0 ≤ z 39 1 ∧ z 39 0 + z 39 1 ≤ 60 ∧ 0 ≤ z 39 2 ∧ z 39 2 ≤ 60
section
variable {E : Int} {zc wc zr wr zc' wc' zr' wr' : mZ}
theorem CU3_r : CU3 zc wc zc wc := ⟨⟨rfl, rfl, rfl⟩, fun _ _ _ => rfl⟩
theorem RU3_r : RU3 zr wr zr wr := ⟨rfl, rfl, rfl, rfl⟩
theorem CKP_c {z1 w1 : mZ} {n : Nat → Int} (u : CU3 zc wc z1 w1) (k : CKP z1 w1 zc' wc' n) : CKP zc wc zc' wc' n := by
  obtain ⟨⟨u0, u1, u2⟩, u3⟩ := u
  obtain ⟨k1, k2, k3, k4⟩ := k
  rw [u0, u2] at k2
  exact ⟨k1, k2, k3, fun a h1 h2 h3 => (k4 a h1 h2 h3).trans (u3 a h1 h2)⟩
theorem CU3_c {z1 w1 : mZ} (u : CU3 zc wc z1 w1) (k : CU3 z1 w1 zc' wc') : CU3 zc wc zc' wc' := by
  obtain ⟨⟨u0, u1, u2⟩, u3⟩ := u
  obtain ⟨⟨k0, k1, k2⟩, k3⟩ := k
  exact ⟨⟨k0.trans u0, k1.trans u1, k2.trans u2⟩, fun a h1 h2 => (k3 a h1 h2).trans (u3 a h1 h2)⟩
theorem RKP_c {z1 w1 : mZ} {n : Nat → Int} (u : RU3 zr wr z1 w1) (k : RKP z1 w1 zr' wr' n) : RKP zr wr zr' wr' n := by
  obtain ⟨u0, u1, u2, u3⟩ := u
  obtain ⟨k1, k2, k3⟩ := k
  rw [u0, u2, u3] at k3
  exact ⟨k1, k2, k3⟩
theorem LN_u (h : LN E zc wc zr wr) (c : CU3 zc wc zc' wc') (r : RU3 zr wr zr' wr') : LN E zc' wc' zr' wr' := by
  obtain ⟨h1, h2, h3⟩ := h
  obtain ⟨⟨c0, c1, c2⟩, c3⟩ := c
  obtain ⟨r0, r1, r2, r3⟩ := r
  refine ⟨by omega, by omega, fun k hk e he => ?_⟩
  have q := h3 k (by omega) e he
  have s : stR zr' wr' k e = stR zr wr k e := by unfold stR; rw [r0, r2, r3]
  have a : aR zc' k = aR zc k := by unfold aR; rw [c2]
  rw [s, a, c3 _ (by unfold aR; omega) (by unfold aR; omega)]
  exact q
theorem LN_k {n n' : Nat → Int} (b : BD39 zc) (h : LN E zc wc zr wr) (c : CKP zc wc zc' wc' n) (r : RKP zr wr zr' wr' n') (en : ∀ j, j < 18 → n' j = n j) (n0 : ∀ j : Nat, j < 18 → E ≤ (j : Int) → n j = 0) : LN E zc' wc' zr' wr' := by
  obtain ⟨h1, h2, h3⟩ := h
  obtain ⟨c1, c2, c3, c4⟩ := c
  obtain ⟨r1, r2, r3⟩ := r
  obtain ⟨b0, b1, b2, b3, b4⟩ := b
  rcases c2 with ⟨d0, d1, d2⟩ | ⟨d0, d1, d2⟩ <;> rcases r3 with ⟨s0, s1, s2, s3⟩ | ⟨s0, s1, s2, s3⟩
  · refine ⟨by omega, by omega, fun k hk e he => ?_⟩
    by_cases q : (k : Int) = zc' 39 0
    · rw [stR_2 (by omega), r2 e he, en e he, q, c3 e he]
      exact ⟨rfl, n0 e he⟩
    · have a : aR zc' k = aR zc k := by unfold aR; rw [d2]
      have ne : aR zc' k ≠ aR zc' (zc' 39 0) := by unfold aR; omega
      rw [c4 _ (by unfold aR; omega) (by unfold aR; omega) ne, a]
      have p := h3 k (by omega) e he
      have t : stR zr' wr' k e = stR zr wr k e := by
        rw [stR_1 (by omega)]
        by_cases g : (k : Int) < zr 225 73
        · rw [stR_1 g, s3 _ (by omega)]
        · rw [stR_2 (by omega), ← s2 e he]; congr 1; omega
      rw [t]; exact p
  · omega
  · omega
  · refine ⟨by omega, by omega, fun k hk e he => ?_⟩
    by_cases q : (k : Int) = zc' 39 0
    · rw [stR_2 (by omega), r2 e he, en e he, q, c3 e he]
      exact ⟨rfl, n0 e he⟩
    · have a : aR zc' k = aR zc (((k + 1 : Nat)) : Int) := by unfold aR; rw [d2]; omega
      have ne : aR zc' k ≠ aR zc' (zc' 39 0) := by unfold aR; omega
      rw [c4 _ (by unfold aR; omega) (by unfold aR; omega) ne, a]
      have p := h3 (k + 1) (by omega) e he
      have t : stR zr' wr' k e = stR zr wr (k + 1) e := by
        rw [stR_1 (by omega)]
        by_cases g : ((k + 1 : Nat) : Int) < zr 225 73
        · rw [stR_1 g, s3 _ (by omega)]; congr 1; omega
        · rw [stR_2 (by omega), ← s2 e he]; congr 1; omega
      rw [t]; exact p
theorem LN_un {v v' : Int} (b : BD39 zc) (h : LN E zc wc zr wr) (c : CUD zc wc zc' wc' v) (r : RUD zr wr zr' wr' v') : LN E zc' wc' zr' wr' ∧ v = v' := by
  obtain ⟨c1, c2, c3⟩ := c
  obtain ⟨b0, b1, b2, b3, b4⟩ := b
  have h1 := h.1; have h2 := h.2.1; have h3 := h.2.2
  rcases c1 with ⟨d0, d1, d2, d3⟩ | ⟨d0, d1, d2, d3⟩ <;> rcases r with ⟨s0, s1, s2⟩ | ⟨s0, s1, s2, s3, s4⟩
  · exact ⟨LN_u h ⟨⟨d2, d3, c2⟩, c3⟩ s2, by omega⟩
  · omega
  · omega
  · refine ⟨⟨by omega, by omega, fun k hk e he => ?_⟩, by omega⟩
    have p := h3 k (by omega) e he
    have a : aR zc' k = aR zc k := by unfold aR; rw [c2]
    rw [a, c3 _ (by unfold aR; omega) (by unfold aR; omega)]
    have t : stR zr' wr' k e = stR zr wr k e := by
      by_cases g : (k : Int) < zr 225 73 - 1
      · rw [stR_1 (by omega), stR_1 (by omega), s4.2 _ (by omega)]
      · by_cases g2 : (k : Int) = zr 225 73 - 1
        · rw [stR_2 (by omega), stR_1 (by omega), (s4.1 e he).2]; congr 1; omega
        · by_cases g3 : (k : Int) = zr 225 73
          · rw [stR_3 (by omega), stR_2 g3, ← (s4.1 e he).1]; congr 1; omega
          · rw [stR_3 (by omega), stR_3 (by omega), s4.2 _ (by omega)]
    rw [t]; exact p
theorem LN_re {v v' : Int} (b : BD39 zc) (h : LN E zc wc zr wr) (c : CRD zc wc zc' wc' v) (r : RRD zr wr zr' wr' v') : LN E zc' wc' zr' wr' ∧ v = v' := by
  obtain ⟨c1, c2, c3⟩ := c
  obtain ⟨b0, b1, b2, b3, b4⟩ := b
  have h1 := h.1; have h2 := h.2.1; have h3 := h.2.2
  rcases c1 with ⟨d0, d1, d2, d3⟩ | ⟨d0, d1, d2, d3⟩ <;> rcases r with ⟨s0, s1, s2⟩ | ⟨s0, s1, s2, s3, s4⟩
  · exact ⟨LN_u h ⟨⟨d2, d3, c2⟩, c3⟩ s2, by omega⟩
  · omega
  · omega
  · refine ⟨⟨by omega, by omega, fun k hk e he => ?_⟩, by omega⟩
    have p := h3 k (by omega) e he
    have a : aR zc' k = aR zc k := by unfold aR; rw [c2]
    rw [a, c3 _ (by unfold aR; omega) (by unfold aR; omega)]
    have t : stR zr' wr' k e = stR zr wr k e := by
      by_cases g : (k : Int) < zr 225 73
      · rw [stR_1 (by omega), stR_1 (by omega), s4.2 _ (by omega)]
      · by_cases g2 : (k : Int) = zr 225 73
        · rw [stR_1 (by omega), stR_2 g2, ← (s4.1 e he).1]; congr 1; omega
        · by_cases g3 : (k : Int) = zr 225 73 + 1
          · rw [stR_2 (by omega), stR_3 (by omega), (s4.1 e he).2]; congr 1; omega
          · rw [stR_3 (by omega), stR_3 (by omega), s4.2 _ (by omega)]
    rw [t]; exact p
/-- one state alone -/
theorem LN_1 (c0 : zc 39 0 = 0) (c1 : zc 39 1 = 0) (r0 : zr 225 73 = 0) (r1 : zr 225 74 = 0) (h : ∀ e : Nat, e < 18 → wc (aR zc 0) e = wr 270 e ∧ (E ≤ (e : Int) → wr 270 e = 0)) : LN E zc wc zr wr := by
  refine ⟨by omega, by omega, fun k hk e he => ?_⟩
  have k0 : k = 0 := by omega
  subst k0
  rw [stR_2 (by omega)]
  exact h e he
/-- the line as it is -/
theorem LN_now (b : BD39 zc) (h : LN E zc wc zr wr) {e : Nat} (he : e < 18) : wc (aR zc (zc 39 0)) e = wr 270 e ∧ (E ≤ (e : Int) → wr 270 e = 0) := by
  obtain ⟨h1, h2, h3⟩ := h
  obtain ⟨b0, b1, b2, b3, b4⟩ := b
  have q := h3 (zc 39 0).toNat (by omega) e he
  rw [stR_2 (by omega), show (((zc 39 0).toNat : Nat) : Int) = zc 39 0 by omega] at q
  exact q
end
/-- an act: numbers that go through f -/
def CAC (z w z' w' : mZ) (v : Int) (f : (Nat → Int) → Option (Nat → Int)) : Prop := ∃ n0 : Nat → Int, (∀ j : Nat, j < 18 → n0 j = w (aR z (z 39 0)) j) ∧ ((f n0 = none ∧ v = -2 ∧ CU3 z w z' w') ∨ ∃ n, f n0 = some n ∧ v = sm n 18 ∧ CKP z w z' w' n)
def RAC (z w z' w' : mZ) (v : Int) (f : (Nat → Int) → Option (Nat → Int)) : Prop := ∃ n0 : Nat → Int, (∀ j : Nat, j < 18 → n0 j = tr (rE z) (w 270) j) ∧ ((f n0 = none ∧ v = -2 ∧ RU3 z w z' w') ∨ ∃ n, f n0 = some n ∧ v = sm (tr (rE z) n) 18 ∧ RKP z w z' w' n)
/-- behind the last edge nothing is changed -/
def oz (E : Int) (n : Nat → Int) : Option (Nat → Int) → Prop
  | none => True
  | some a => ∀ j : Nat, E ≤ (j : Int) → a j = n j
theorem oz_b {E : Int} {n : Nat → Int} {x : Option (Nat → Int)} {f : (Nat → Int) → Option (Nat → Int)} (h : oz E n x) (k : ∀ a, oz E a (f a)) : oz E n (x.bind f) := by
  cases x with
  | none => exact True.intro
  | some a =>
    have q := k a
    show oz E n (f a)
    cases y : f a with
    | none => exact True.intro
    | some c =>
      rw [y] at q
      exact fun j hj => ((show ∀ j : Nat, E ≤ (j : Int) → c j = a j from q) j hj).trans ((show ∀ j : Nat, E ≤ (j : Int) → a j = n j from h) j hj)
theorem oz_g {E : Int} {n a : Nat → Int} {e : Nat} (h : ∀ j : Nat, E ≤ (j : Int) → a j = n j) : oz E n (gst e a) := by
  by_cases c : a e ≤ 100000000000000
  · rw [gst_y c]; exact h
  · rw [gst_n c]; exact True.intro
section
variable {E : Int} {cf : Nat → Nat → Nat} {K : Nat}
theorem gfw_z (hb : ∀ i, i < K → ((cf i 0 : Nat) : Int) < E) (n : Nat → Int) : ∀ k, k ≤ K → oz E n (gfw cf k n)
  | 0, _ => fun _ _ => rfl
  | k + 1, hk => by
    show oz E n ((gfw cf k n).bind (fun a => gst (cf k 0) (flc cf k a)))
    exact oz_b (gfw_z hb n k (by omega)) (fun a => oz_g (fun j hj => fl_ne (by have := hb k (by omega); omega)))
theorem gbw_z (hb : ∀ i, i < K → ((cf i 0 : Nat) : Int) < E) (n : Nat → Int) : ∀ j, j ≤ K → oz E n (gbw cf K j n)
  | 0, _ => fun _ _ => rfl
  | j + 1, hk => by
    show oz E n ((gbw cf K j n).bind (fun a => gst (cf (K - 1 - j) 0) (flc cf (K - 1 - j) a)))
    exact oz_b (gbw_z hb n j (by omega)) (fun a => oz_g (fun i hi => fl_ne (by have := hb (K - 1 - j) (by omega); omega)))
theorem gtw_z {p q u v : Nat} (hu : (u : Int) < E) (hv : (v : Int) < E) (n : Nat → Int) : ∀ k, oz E n (gtw p q u v k n)
  | 0 => fun _ _ => rfl
  | k + 1 => by
    show oz E n ((gtw p q u v k n).bind (fun x => gst v (tw p q u v x)))
    exact oz_b (gtw_z hu hv n k) (fun a => oz_g (fun j hj => by unfold tw; rw [if_neg (by omega), if_neg (by omega)]))
theorem gal_z {r : Rdt} (hb : ∀ i, i < r.2.1 → ((r.1 i 0 : Nat) : Int) < E) (he : ((r.2.2.2.2.1 : Nat) : Int) < E) (hf : ((r.2.2.2.2.2 : Nat) : Int) < E) (t : Int) (n : Nat → Int) : oz E n (gal r t n) := by
  unfold gal
  refine oz_b (oz_b (gfw_z hb n _ (Nat.le_refl _)) (fun a => ?_)) (fun a => gbw_z hb a _ (Nat.le_refl _))
  unfold gtm
  by_cases c : 0 < t
  · rw [if_pos c]; exact gtw_z he hf a _
  · rw [if_neg c]; exact gtw_z hf he a _
theorem gwd_z {R : Nat → Rdt} {ln : Nat → Nat} {tm : Nat → Int} (h : ∀ i, i < K → (∀ j, j < (R (ln i)).2.1 → (((R (ln i)).1 j 0 : Nat) : Int) < E) ∧ (((R (ln i)).2.2.2.2.1 : Nat) : Int) < E ∧ (((R (ln i)).2.2.2.2.2 : Nat) : Int) < E) (n : Nat → Int) : ∀ i, i ≤ K → oz E n (gwd R ln tm i n)
  | 0, _ => fun _ _ => rfl
  | i + 1, hi => by
    show oz E n ((gwd R ln tm i n).bind (fun x => gal (R (ln i)) (tm i) x))
    exact oz_b (gwd_z h n i (by omega)) (fun a => gal_z (h i (by omega)).1 (h i (by omega)).2.1 (h i (by omega)).2.2 (tm i) a)
end
/-- of the reference's roads -/
theorem GRq_z {z : mZ} {l : Nat} (hz : rz z) (h8 : l < 8) (g : GRq z z l) (f : z 254 l = 1) : (∀ i, i < (rdr z l).2.1 → (((rdr z l).1 i 0 : Nat) : Int) < rE z) ∧ (((rdr z l).2.2.2.2.1 : Nat) : Int) < rE z ∧ (((rdr z l).2.2.2.2.2 : Nat) : Int) < rE z := by
  obtain ⟨_, b, _, _, e, f⟩ := g f
  have y1 := rd_249 hz (i := l) h8
  have y2 := rd_250 hz (i := l) h8
  exact ⟨fun i hi => b i 0 hi (by omega), by show (((z 249 l).toNat : Nat) : Int) < _; omega, by show (((z 250 l).toNat : Nat) : Int) < _; omega⟩
/-- an act of both -/
theorem AC_u {E : Int} {zc wc zc' wc' zr wr zr' wr' : mZ} {v v' : Int} {f g : (Nat → Int) → Option (Nat → Int)} (b : BD39 zc) (eE : rE zr = E) (h : LN E zc wc zr wr) (fg : ∀ x y : Nat → Int, (∀ j, j < 18 → y j = x j) → oeq (f x) (g y)) (gz : ∀ n, oz E n (g n)) (c : CAC zc wc zc' wc' v f) (r : RAC zr wr zr' wr' v' g) : LN E zc' wc' zr' wr' ∧ v = v' := by
  obtain ⟨n0, c0, c1⟩ := c
  obtain ⟨m0, r0, r1⟩ := r
  rw [eE] at r0 r1
  have em : ∀ j, j < 18 → m0 j = n0 j := by
    intro j hj
    have q := LN_now b h hj
    rw [r0 j hj, c0 j hj, q.1]
    by_cases d : (j : Int) < E
    · rw [tr_l d]
    · rw [tr_g (by omega), q.2 (by omega)]
  have o := fg n0 m0 em
  rcases c1 with ⟨c1, c2, c3⟩ | ⟨n, c1, c2, c3⟩ <;> rcases r1 with ⟨r1, r2, r3⟩ | ⟨m, r1, r2, r3⟩
  · exact ⟨LN_u h c3 r3, by omega⟩
  · exact (oeq_ns o c1 r1).elim
  · exact (oeq_sn o c1 r1).elim
  · have en := oeq_ss o c1 r1
    have z := gz m0
    rw [r1] at z
    have mz : ∀ j : Nat, j < 18 → E ≤ (j : Int) → m j = 0 := by
      intro j hj d
      rw [(show ∀ j : Nat, E ≤ (j : Int) → m j = m0 j from z) j d, r0 j hj, tr_g d]
    refine ⟨LN_k b h c3 r3 en (fun j hj d => by rw [← en j hj]; exact mz j hj d), ?_⟩
    rw [c2, r2]
    refine sm_c 18 (fun j hj => ?_)
    rw [← en j hj]
    by_cases d : (j : Int) < E
    · rw [tr_l d]
    · rw [tr_g (by omega), mz j hj (by omega)]
/-! words: the same twists by the same roads -/
theorem gwd_e {R R' : Nat → Rdt} {ln ln' : Nat → Nat} {tm tm' : Nat → Int} {K : Nat} (h : ∀ i, i < K → R' (ln' i) = R (ln i) ∧ tm' i = tm i) (n : Nat → Int) : ∀ i, i ≤ K → gwd R' ln' tm' i n = gwd R ln tm i n
  | 0, _ => rfl
  | i + 1, hi => by
    show (gwd R' ln' tm' i n).bind (fun x => gal (R' (ln' i)) (tm' i) x) = (gwd R ln tm i n).bind (fun x => gal (R (ln i)) (tm i) x)
    rw [gwd_e h n i (by omega), (h i (by omega)).1, (h i (by omega)).2]
theorem gwc_f {z z' : mZ} {t a : Nat} {n : Nat → Int} (e18 : z' (t + 18) a = z (t + 18) a) (e20 : ∀ i, z' (t + 20 + a) i = z (t + 20 + a) i) (e27 : ∀ i, z' (t + 27 + a) i = z (t + 27 + a) i) (r : ∀ i : Nat, (i : Int) < z (t + 18) a → (z (t + 20 + a) i).toNat < 8) (rd : ∀ l, l < 8 → rdc z' l = rdc z l) : gwc z' t a n = gwc z t a n := by
  unfold gwc
  rw [e18]
  refine gwd_e (K := (z (t + 18) a).toNat) (fun i hi => ⟨?_, e27 i⟩) n _ (Nat.le_refl _)
  show rdc z' (z' (t + 20 + a) i).toNat = rdc z (z (t + 20 + a) i).toNat
  rw [e20 i]
  exact rd _ (r i (by omega))
theorem gwr_f {z z' : mZ} {a : Nat} {n : Nat → Int} (e1 : z' 237 = z 237) (e2 : z' 238 = z 238) (e3 : z' 239 = z 239) (h : ∀ a, 247 ≤ a → a ≤ 252 → z' a = z a) : gwr z' a n = gwr z a n := by
  have e : rdr z' = rdr z := funext fun l => rdr_f h
  unfold gwr
  rw [e, e1, e2, e3]
/-! an act of the reference, on its way -/
def ACp (z w z' w' : mZ) : Prop := (z 225 73 ≤ 59 ∧ z' 225 73 = z 225 73 ∧ ∀ i : Nat, i < 18 * (z 225 73).toNat → w' 271 i = w 271 i) ∨ (z 225 73 = 60 ∧ z' 225 73 = 59 ∧ ∀ i : Nat, i < 1062 → w' 271 i = w 271 (i + 18))
section
variable {z w z' w' z1 w1 : mZ}
theorem ACp_0 (h : z 225 73 ≤ 59) : ACp z w z w := Or.inl ⟨h, rfl, fun _ _ => rfl⟩
theorem ACp_s (h : z 225 73 = 60) (h1 : z' 225 73 = z 225 73 - 1) (h2 : ∀ i : Nat, (i : Int) < 1062 → w' 271 i = w 271 (i + 18)) : ACp z w z' w' := Or.inr ⟨h, by omega, fun i hi => h2 i (by omega)⟩
theorem ACp_w (h : ACp z w z1 w1) (e : z' 225 73 = z1 225 73) (hw : ∀ i : Nat, i < 18 * (z1 225 73).toNat → w' 271 i = w1 271 i) : ACp z w z' w' := by
  rcases h with ⟨a, b, c⟩ | ⟨a, b, c⟩
  · exact Or.inl ⟨a, by omega, fun i hi => (hw i (by omega)).trans (c i hi)⟩
  · exact Or.inr ⟨a, by omega, fun i hi => (hw i (by omega)).trans (c i hi)⟩
theorem ACp_e {n : Nat → Int} (h : ACp z w z1 w1) (a3 : ∀ e : Nat, e < 18 → w1 271 (18 * (z1 225 73).toNat + e) = w 270 e ∧ w1 270 e = n e) (s : z' 225 73 = z1 225 73 + 1) (s2 : z' 225 74 = 0) (e1 : w' 271 = w1 271) (e2 : w' 270 = w1 270) : RKP z w z' w' n := by
  refine ⟨s2, fun e he => by rw [e2]; exact (a3 e he).2, ?_⟩
  rcases h with ⟨a, b, c⟩ | ⟨a, b, c⟩
  · refine Or.inl ⟨a, by omega, fun e he => ?_, fun i hi => by rw [e1]; exact c i hi⟩
    have q := (a3 e he).1
    rw [b] at q
    rw [e1]; exact q
  · refine Or.inr ⟨a, by omega, fun e he => ?_, fun i hi => by rw [e1]; exact c i hi⟩
    have q := (a3 e he).1
    rw [show 18 * (z1 225 73).toNat + e = 1062 + e by omega] at q
    rw [e1]; exact q
theorem RKP_n {n n' : Nat → Int} (h : RKP z w z' w' n) (e : ∀ j : Nat, j < 18 → n j = n' j) : RKP z w z' w' n' := ⟨h.1, fun j hj => (h.2.1 j hj).trans (e j hj), h.2.2⟩
end
/-! boxes of both -/
def BXE (E : Int) (zc wc zr wr : mZ) : Prop := ∀ b : Nat, b < 3 → zc 147 b = zr 274 b ∧ (zr 274 b = 1 → ∀ e : Nat, e < 18 → wc (144 + b) e = wr 275 (18 * b + e) ∧ (E ≤ (e : Int) → wr 275 (18 * b + e) = 0))
/-! a new ground -/
def CLA (z w : mZ) (u : Nat) : Prop := ∀ l : Nat, (l : Int) < z u 3 → CLR z w u l
def RLA (z : mZ) : Prop := ∀ l : Nat, (l : Int) < z 225 27 → RLR z l
def GN0 (z w : mZ) : Prop := (z 39 0 = 0 ∧ z 39 1 = 0 ∧ ∀ e : Nat, e < 18 → w (aR z 0) e = 0) ∧ ∀ b : Nat, b < 3 → z 147 b = 0
def RG0 (z w : mZ) : Prop := (z 225 73 = 0 ∧ z 225 74 = 0 ∧ ∀ e : Nat, e < 18 → w 270 e = 0) ∧ ∀ b : Nat, b < 3 → z 274 b = 0
theorem CLA_m {z z' w w' : mZ} {u : Nat} (hu : isT u) (hz : rz z) (h : ∀ a, a ≠ 147 → a ≠ 102 → a ≠ 1 → z' a = z a) (hw : ∀ a, a ≠ 147 → a ≠ 102 → a ≠ 1 → w' a = w a) (k : CLA z w u) : CLA z' w' u := by
  have hb : 159 ≤ u ∧ u ≤ 192 := by have := hu; unfold isT at this; omega
  intro l hl
  rw [h u (by omega) (by omega) (by omega)] at hl
  have h8 := rd_T_3 hu hz
  exact CLQ_g (by rw [h u (by omega) (by omega) (by omega)]) (by rw [h u (by omega) (by omega) (by omega)]) (h _ (by omega) (by omega) (by omega)) (h _ (by omega) (by omega) (by omega)) (h _ (by omega) (by omega) (by omega)) (hw _ (by omega) (by omega) (by omega)) (CLQ_f (fun i hi => by rw [h _ (by omega) (by omega) (by omega)]) (h _ (by omega) (by omega) (by omega)) (k l hl))

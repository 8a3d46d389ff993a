/-! the reference: rows that are tried, what they sum up to -/
theorem tri_of {z : mZ} (hz : rz z) (hr : RW z) (a : ∀ q : Nat, (q : Int) < z 225 26 → tri (z 269 (z 235 (3 * q)).toNat) (z 269 (z 235 (3 * q + 1)).toNat) (z 269 (z 235 (3 * q + 2)).toNat)) : FTw z (z 269) := by
  have h26 := rd_225_26 hz
  unfold FTw
  refine FT_of (fun e he => ?_) (fun q hq => ?_)
  · by_cases c : (e : Int) < rE z
    · rw [tr_l c]; exact (rd_269 hz he).1
    · rw [tr_g (by omega)]; omega
  · have k : ∀ s : Nat, s < 3 * (z 225 26).toNat → tr (rE z) (z 269) (vT (z 235) s) = z 269 (z 235 s).toNat := by
      intro s hs
      have t := hr.tE s (by omega)
      exact tr_l (by show (((z 235 s).toNat : Nat) : Int) < rE z; omega)
    rw [k _ (by omega), k _ (by omega), k _ (by omega)]
    exact a q (by omega)
theorem sm_z {f : Nat → Int} : ∀ n : Nat, (∀ j, j < n → f j = 0) → sm f n = 0
  | 0, _ => rfl
  | n + 1, h => by rw [sm_s, sm_z n (fun j hj => h j (by omega)), h n (by omega)]; rfl
theorem sm_trle {E : Int} {f : Nat → Int} : ∀ n : Nat, (∀ j, j < n → 0 ≤ f j) → sm (tr E f) n ≤ sm f n
  | 0, _ => Int.le_refl _
  | n + 1, h => by
    have k := sm_trle (E := E) n (fun j hj => h j (by omega))
    have g := h n (by omega)
    rw [sm_s, sm_s]
    by_cases c : (n : Int) < E
    · rw [tr_l c]; omega
    · rw [tr_g (by omega)]; omega
theorem sm_pos {f : Nat → Int} {k : Nat} (n : Nat) (hk : k < n) (h : ∀ j, j < n → 0 ≤ f j) (g : f k ≠ 0) : 0 < sm f n := by
  have a := sm_at n hk h
  have b := h k hk
  omega
theorem sm_nz {f : Nat → Int} (n : Nat) (h : sm f n ≠ 0) : ∃ j, j < n ∧ f j ≠ 0 := by
  apply Classical.byContradiction
  intro q
  exact h (sm_z n (fun j hj => Classical.byContradiction fun d => q ⟨j, hj, d⟩))
theorem sm_le3 {f : Nat → Int} : ∀ n : Nat, (∀ j, j < n → f j ≤ 3) → sm f n ≤ 3 * n
  | 0, _ => Int.le_refl _
  | n + 1, h => by
    have k := sm_le3 n (fun j hj => h j (by omega))
    have g := h n (by omega)
    rw [sm_s]
    omega
/-- a row as a number of base 4 -/
def tv (f : Nat → Int) : Nat → Int
  | 0 => 0
  | n + 1 => 4 * tv f n + f n
theorem tv_s (f : Nat → Int) (n : Nat) : tv f (n + 1) = 4 * tv f n + f n := rfl
theorem tv_nn {f : Nat → Int} : ∀ n : Nat, (∀ j, j < n → 0 ≤ f j) → 0 ≤ tv f n
  | 0, _ => Int.le_refl _
  | n + 1, h => by
    have k := tv_nn n (fun j hj => h j (by omega))
    have g := h n (by omega)
    rw [tv_s]; omega
theorem tv_up {f : Nat → Int} : ∀ n : Nat, (∀ j, j < n → f j ≤ 3) → tv f n + 1 ≤ 4 ^ n
  | 0, _ => by show (0 : Int) + 1 ≤ 4 ^ 0; decide
  | n + 1, h => by
    have k := tv_up n (fun j hj => h j (by omega))
    have g := h n (by omega)
    have e : (4 : Int) ^ (n + 1) = 4 ^ n * 4 := Int.pow_succ ..
    rw [tv_s, e]; omega
theorem tv_c {f g : Nat → Int} : ∀ n : Nat, (∀ j, j < n → g j = f j) → tv g n = tv f n
  | 0, _ => rfl
  | n + 1, h => by rw [tv_s, tv_s, tv_c n (fun j hj => h j (by omega)), h n (by omega)]
theorem tv_lt {f g : Nat → Int} {e : Nat} (a : ∀ j, j < e → g j = f j) (b : g e = f e + 1) : ∀ n : Nat, e < n → (∀ j, j < n → 0 ≤ g j) → (∀ j, j < n → f j ≤ 3) → tv f n < tv g n
  | 0, h, _, _ => absurd h (Nat.not_lt_zero e)
  | n + 1, h, p, q => by
    by_cases c : e = n
    · subst c
      rw [tv_s, tv_s, tv_c e a, b]; omega
    · have k := tv_lt a b n (by omega) (fun j hj => p j (by omega)) (fun j hj => q j (by omega))
      have p' := p n (by omega)
      have q' := q n (by omega)
      rw [tv_s, tv_s]; omega
def lb (f : Nat → Int) : Int := (((68719476736 : Int) - tv f 18).toNat : Int)
def lm (x : Int) (f : Nat → Int) : Int := if x = 0 then 0 else 2 * lb f + 1
theorem lb_n (f : Nat → Int) : 0 ≤ lb f := by unfold lb; omega
theorem lb_le {f : Nat → Int} (h : ∀ j, j < 18 → 0 ≤ f j) : lb f ≤ 68719476736 := by
  have k := tv_nn 18 h
  unfold lb; omega
theorem lb_lt {f g : Nat → Int} (h : ∀ j, j < 18 → g j ≤ 3) (k : tv f 18 < tv g 18) : lb g < lb f := by
  have u := tv_up 18 h
  have e : (4 : Int) ^ 18 = 68719476736 := by decide
  rw [e] at u
  unfold lb; omega
theorem lm_n (x : Int) (f : Nat → Int) : 0 ≤ lm x f := by
  have k := lb_n f
  unfold lm; split <;> omega
theorem lm_1 {x : Int} {f : Nat → Int} (h : x ≠ 0) : lm x f = 2 * lb f + 1 := if_neg h
theorem lm_le {x : Int} {f : Nat → Int} (h : ∀ j, j < 18 → 0 ≤ f j) : lm x f ≤ 137438953473 := by
  have k := lb_le h
  unfold lm; split <;> omega
theorem lm_lt {x : Int} {f g : Nat → Int} (h : ∀ j, j < 18 → g j ≤ 3) (x0 : 0 ≤ x) (x1 : x ≤ 1) (k : x = 1 → tv f 18 < tv g 18) (p : 0 < lb f) : lm x g < 2 * lb f := by
  by_cases c : x = 0
  · unfold lm; rw [if_pos c]; omega
  · have u := lb_lt h (k (by omega))
    rw [lm_1 c]; omega
theorem lb_p {f : Nat → Int} (h : ∀ j, j < 18 → f j ≤ 3) : 0 < lb f := by
  have u := tv_up 18 h
  have e : (4 : Int) ^ 18 = 68719476736 := by decide
  rw [e] at u
  unfold lb; omega
theorem FWr_c {z z' : mZ} {a : Nat} (e27 : z' 225 27 = z 225 27) (e237 : z' 237 = z 237) (e239 : z' 239 = z 239) (e254 : z' 254 = z 254) (h : FWr z a) : FWr z' a := by
  unfold FWr at *; rw [e27, e237, e239, e254]; exact h
theorem NZE_b {E : Int} {f n : Nat → Int} (h18 : E ≤ 18) (h : sm (tr E f) 18 ≠ 0) (a : ∀ j : Nat, j < 18 → n j = tr E f j) : NZE E n := by
  obtain ⟨j, hj, d⟩ := sm_nz 18 h
  by_cases c : (j : Int) < E
  · exact ⟨j, c, by rw [a j hj]; exact d⟩
  · exact absurd (tr_g (by omega)) d

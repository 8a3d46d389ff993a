/-! calls of the class, 2 -/
theorem CV_b {S : mS} {z w z' w' : mZ} {t : Nat} (ht : isT t) (hz : rz z) (h : st_ S z w z' w') (s7 : ¬ inS S 3 7) (s9 : ¬ inS S 3 9) (h0 : ¬ inS S t 0) (h1 : ¬ inS S t 1) (h3 : ¬ inS S t 3) (f1 : ∀ i, ¬ inS S (t + 1) i) (f2 : ∀ i, ¬ inS S (t + 2) i) (f5 : ∀ i, ¬ inS S (t + 5) i) (f8 : ∀ a, t + 8 ≤ a → a ≤ t + 15 → ∀ i, ¬ inS S a i)
    (a0 : ¬ inS S 39 0) (a1 : ¬ inS S 39 1) (a2 : ¬ inS S 39 2) (a4 : ∀ a, 41 ≤ a → a ≤ 101 → ∀ i, ¬ inS S a i) (k : CV z w t) (bx : BX z' w' t) : CV z' w' t := by
  obtain ⟨k1, k2, k3, k4, k5⟩ := k
  have e0 := h.2.2.1 _ _ h0; have e3 := h.2.2.1 _ _ h3
  have g1 : z' (t + 1) = z (t + 1) := funext fun i => h.2.2.1 _ _ (f1 i)
  have ft : ∀ n, FTt z t n → FTt z' t n := fun n q => FTt_fr e0 g1 q
  have t3 := rd_T_3 ht hz
  refine ⟨WTt_f h h0 h1 f1 f2 f5 k1, fun l hl => ?_, AK_s k3 e0 g1 (by rw [h.2.2.1 _ _ a0, h.2.2.1 _ _ a1]) (h.2.2.1 _ _ a2) (fun a q1 q2 => funext fun i => h.2.2.2 _ _ (a4 a q1 q2 i)), bx, ?_⟩
  · rw [show w' (t + 8 + l) = w (t + 8 + l) from funext fun i => h.2.2.2 _ _ (f8 _ (by omega) (by omega) i)]
    exact ft _ (k2 l (by omega))
  · unfold KNz
    rw [h.2.2.1 _ _ s7, h.2.2.1 _ _ s9]; exact k5
theorem BX_i {z w z' w' : mZ} {t n b0 : Nat} (hw : WTt z t) (k : BX z w t) (e0 : z' t 0 = z t 0) (e1 : z' (t + 1) = z (t + 1)) (hr : FTt z t (w n)) (hn : ∀ j : Nat, j < 18 → w' (144 + b0) j = w n j) (ho : ∀ b : Nat, b < 3 → b ≠ b0 → w' (144 + b) = w (144 + b) ∧ z' 147 b = z 147 b) : BX z' w' t := by
  intro b hb q
  apply FTt_fr e0 e1
  by_cases c : b = b0
  · subst c; exact FTt_cg hw hn hr
  · obtain ⟨o1, o2⟩ := ho b hb c
    rw [o1]; exact k b hb (by rw [← o2]; exact q)
theorem CV_g {S : mS} {z w z' w' : mZ} {t : Nat} (ht : isT t) (hz : rz z) (h : st_ S z w z' w') (kn : KNz z') (h0 : ¬ inS S t 0) (h1 : ¬ inS S t 1) (h3 : ¬ inS S t 3) (f1 : ∀ i, ¬ inS S (t + 1) i) (f2 : ∀ i, ¬ inS S (t + 2) i) (f5 : ∀ i, ¬ inS S (t + 5) i) (f8 : ∀ a, t + 8 ≤ a → a ≤ t + 15 → ∀ i, ¬ inS S a i)
    (e390 : z' 39 0 = z 39 0) (e391 : z' 39 1 = z 39 1) (e392 : z' 39 2 = z 39 2) (a4 : ∀ a, 41 ≤ a → a ≤ 101 → w' a = w a) (b1 : ∀ b, b < 3 → z' 147 b = z 147 b) (b4 : ∀ a, 144 ≤ a → a ≤ 146 → w' a = w a) (k : CV z w t) : CV z' w' t := by
  obtain ⟨k1, k2, k3, k4, k5⟩ := k
  have e0 := h.2.2.1 _ _ h0; have e3 := h.2.2.1 _ _ h3
  have g1 : z' (t + 1) = z (t + 1) := funext fun i => h.2.2.1 _ _ (f1 i)
  have ft : ∀ n, FTt z t n → FTt z' t n := fun n q => FTt_fr e0 g1 q
  have t3 := rd_T_3 ht hz
  refine ⟨WTt_f h h0 h1 f1 f2 f5 k1, fun l hl => ?_, AK_s k3 e0 g1 (by rw [e390, e391]) e392 a4, fun b hb q => ?_, kn⟩
  · rw [show w' (t + 8 + l) = w (t + 8 + l) from funext fun i => h.2.2.2 _ _ (f8 _ (by omega) (by omega) i)]
    exact ft _ (k2 l (by omega))
  · rw [b1 b hb] at q
    rw [b4 (144 + b) (by omega) (by omega)]
    exact ft _ (k4 b hb q)
theorem mu_inc {w w' : mZ} {a i : Nat} {v : Int} (h : w' = mu w a i v) (hv : v = w a i + 1) (e : Nat) : w' a e = w a e ∨ w' a e = w a e + 1 := by
  rw [h]
  by_cases c : e = i
  · subst c; right; rw [mu_eq]; exact hv
  · left; exact mu_ne (fun q => c q.2)
theorem FW_c {z z' : mZ} {t a : Nat} (ht : isT t) (h : ∀ b i, b ≠ 1 → z' b i = z b i) (k : FW z' t a) : FW z t a := by
  have ht : t = 159 ∨ t = 192 := ht
  intro i hi
  have q := k i (by rw [h (t + 18) a (by omega)]; exact hi)
  rw [h (t + 20 + a) i (by omega), h t 3 (by omega), h (17 + 2 * (z (t + 20 + a) i).toNat) 0 (by omega)] at q
  exact q

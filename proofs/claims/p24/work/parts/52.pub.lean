/-! calls of the class -/
theorem FW_f {S : mS} {z w z' w' : mZ} {t a : Nat} (ht : isT t) (hz : rz z) (h : st_ S z w z' w') (ha : a ≤ 5) (h3 : ¬ inS S t 3) (f18 : ∀ i, ¬ inS S (t + 18) i) (f20 : ∀ b, t + 20 ≤ b → b ≤ t + 25 → ∀ i, ¬ inS S b i) (r : ∀ b, 17 ≤ b → b ≤ 32 → ∀ i, ¬ inS S b i) (k : FW z t a) : FW z' t a := by
  intro i hi
  rw [h.2.2.1 _ _ (f18 a)] at hi
  have q18 := rd_T18 ht hz (i := a) (by omega)
  have q := rd_T20 ht (k := a) (by omega) hz (i := i) (by omega)
  rw [h.2.2.1 _ _ (f20 (t + 20 + a) (by omega) (by omega) i), h.2.2.1 _ _ h3, h.2.2.1 _ _ (r (17 + 2 * (z (t + 20 + a) i).toNat) (by omega) (by omega) 0)]
  exact k i hi
abbrev NBr (w : mZ) (n : Nat) : Prop := ∀ e : Nat, e < 18 → 0 ≤ w n e ∧ w n e ≤ 100000000000000
theorem NB_c {w w' : mZ} {n q : Nat} (h : ∀ e : Nat, e < 18 → w' q e = w n e) (k : NBr w n) : NBr w' q := fun e he => by rw [h e he]; exact k e he
theorem NB_T {w : mZ} {t l : Nat} (ht : isT t) (hl : l < 8) (hw : rw_ w) : NBr w (t + 8 + l) := fun e he => by have := rd_T8 ht hl hw (i := e) he; exact ⟨by omega, by omega⟩
theorem NB_A {w : mZ} {k : Nat} (hk : k < 61) (hw : rw_ w) : NBr w (41 + k) := fun e he => by have := rd_41 hk hw (i := e) he; exact ⟨by omega, by omega⟩
theorem CV_a {S : mS} {z w z' w' : mZ} {t : Nat} (ht : isT t) (hz : rz z) (h : st_ S z w z' w') (s7 : ¬ inS S 3 7) (s9 : ¬ inS S 3 9) (h0 : ¬ inS S t 0) (h1 : ¬ inS S t 1) (h3 : ¬ inS S t 3) (f1 : ∀ i, ¬ inS S (t + 1) i) (f2 : ∀ i, ¬ inS S (t + 2) i) (f5 : ∀ i, ¬ inS S (t + 5) i) (f8 : ∀ a, t + 8 ≤ a → a ≤ t + 15 → ∀ i, ¬ inS S a i)
    (b1 : ∀ a, 144 ≤ a → a ≤ 147 → ∀ i, ¬ inS S a i) (k : CV z w t) (ak : AK z' w' t) : CV z' w' t := by
  obtain ⟨k1, k2, k3, k4, k5⟩ := k
  have e0 := h.2.2.1 _ _ h0; have e3 := h.2.2.1 _ _ h3
  have g1 : z' (t + 1) = z (t + 1) := funext fun i => h.2.2.1 _ _ (f1 i)
  have ft : ∀ n, FTt z t n → FTt z' t n := fun n q => FTt_fr e0 g1 q
  have t3 := rd_T_3 ht hz
  refine ⟨WTt_f h h0 h1 f1 f2 f5 k1, fun l hl => ?_, ak, fun b hb q => ?_, ?_⟩
  · rw [show w' (t + 8 + l) = w (t + 8 + l) from funext fun i => h.2.2.2 _ _ (f8 _ (by omega) (by omega) i)]
    exact ft _ (k2 l (by omega))
  · rw [h.2.2.1 _ _ (b1 147 (by omega) (by omega) b)] at q
    rw [show w' (144 + b) = w (144 + b) from funext fun i => h.2.2.2 _ _ (b1 _ (by omega) (by omega) i)]
    exact ft _ (k4 b hb q)
  · unfold KNz
    rw [h.2.2.1 _ _ s7, h.2.2.1 _ _ s9]; exact k5

/-! calls of the class, 2 -/
theorem CV_b {S : mS} {z w z' w' : mZ} {t : Nat} (ht : isT t) (hz : rz z) (h : st_ S z w z' w') (s7 : ¬ inS S 3 7) (s9 : ¬ inS S 3 9) (h0 : ¬ inS S t 0) (h1 : ¬ inS S t 1) (h3 : ¬ inS S t 3) (f1 : ∀ i, ¬ inS S (t + 1) i) (f2 : ∀ i, ¬ inS S (t + 2) i) (f5 : ∀ i, ¬ inS S (t + 5) i) (f8 : ∀ a, t + 8 ≤ a → a ≤ t + 15 → ∀ i, ¬ inS S a i)
    (a0 : ¬ inS S 39 0) (a1 : ¬ inS S 39 1) (a2 : ¬ inS S 39 2) (a4 : ∀ a, 41 ≤ a → a ≤ 101 → ∀ i, ¬ inS S a i) (k : CV z w t) (bx : BX z' w' t) : CV z' w' t := by
  obtain ⟨k1, k2, k3, k4, k5⟩ := k
  have e0 := h.2.2.1 _ _ h0; have e3 := h.2.2.1 _ _ h3
  have g1 : z' (t + 1) = z (t + 1) := funext fun i => h.2.2.1 _ _ (f1 i)
  have ft : ∀ n, FTt z t n → FTt z' t n := fun n q => FTt_fr e0 g1 q
  have t3 := rd_T_3 ht hz
  refine ⟨WTt_f h h0 h1 f1 f2 f5 k1, fun l hl => ?_, AK_s k3 e0 g1 (by rw [h.2.2.1 _ _ a0, h.2.2.1 _ _ a1]) (h.2.2.1 _ _ a2) (fun a q1 q2 => funext fun i => h.2.2.2 _ _ (a4 a q1 q2 i)), bx, ?_⟩
  · rw [show w' (t + 8 + l) = w (t + 8 + l) from funext fun i => h.2.2.2 _ _ (f8 _ (by omega) (by omega) i)]
    exact ft _ (k2 l (by omega))
  · unfold KNz
    rw [h.2.2.1 _ _ s7, h.2.2.1 _ _ s9]; exact k5
theorem BX_i {z w z' w' : mZ} {t n b0 : Nat} (hw : WTt z t) (k : BX z w t) (e0 : z' t 0 = z t 0) (e1 : z' (t + 1) = z (t + 1)) (hr : FTt z t (w n)) (hn : ∀ j : Nat, j < 18 → w' (144 + b0) j = w n j) (ho : ∀ b : Nat, b < 3 → b ≠ b0 → w' (144 + b) = w (144 + b) ∧ z' 147 b = z 147 b) : BX z' w' t := by
  intro b hb q
  apply FTt_fr e0 e1
  by_cases c : b = b0
  · subst c; exact FTt_cg hw hn hr
  · obtain ⟨o1, o2⟩ := ho b hb c
    rw [o1]; exact k b hb (by rw [← o2]; exact q)
theorem CV_g {S : mS} {z w z' w' : mZ} {t : Nat} (ht : isT t) (hz : rz z) (h : st_ S z w z' w') (kn : KNz z') (h0 : ¬ inS S t 0) (h1 : ¬ inS S t 1) (h3 : ¬ inS S t 3) (f1 : ∀ i, ¬ inS S (t + 1) i) (f2 : ∀ i, ¬ inS S (t + 2) i) (f5 : ∀ i, ¬ inS S (t + 5) i) (f8 : ∀ a, t + 8 ≤ a → a ≤ t + 15 → ∀ i, ¬ inS S a i)
    (e390 : z' 39 0 = z 39 0) (e391 : z' 39 1 = z 39 1) (e392 : z' 39 2 = z 39 2) (a4 : ∀ a, 41 ≤ a → a ≤ 101 → w' a = w a) (b1 : ∀ b, b < 3 → z' 147 b = z 147 b) (b4 : ∀ a, 144 ≤ a → a ≤ 146 → w' a = w a) (k : CV z w t) : CV z' w' t := by
  obtain ⟨k1, k2, k3, k4, k5⟩ := k
  have e0 := h.2.2.1 _ _ h0; have e3 := h.2.2.1 _ _ h3
  have g1 : z' (t + 1) = z (t + 1) := funext fun i => h.2.2.1 _ _ (f1 i)
  have ft : ∀ n, FTt z t n → FTt z' t n := fun n q => FTt_fr e0 g1 q
  have t3 := rd_T_3 ht hz
  refine ⟨WTt_f h h0 h1 f1 f2 f5 k1, fun l hl => ?_, AK_s k3 e0 g1 (by rw [e390, e391]) e392 a4, fun b hb q => ?_, kn⟩
  · rw [show w' (t + 8 + l) = w (t + 8 + l) from funext fun i => h.2.2.2 _ _ (f8 _ (by omega) (by omega) i)]
    exact ft _ (k2 l (by omega))
  · rw [b1 b hb] at q
    rw [b4 (144 + b) (by omega) (by omega)]
    exact ft _ (k4 b hb q)
theorem mu_inc {w w' : mZ} {a i : Nat} {v : Int} (h : w' = mu w a i v) (hv : v = w a i + 1) (e : Nat) : w' a e = w a e ∨ w' a e = w a e + 1 := by
  rw [h]
  by_cases c : e = i
  · subst c; right; rw [mu_eq]; exact hv
  · left; exact mu_ne (fun q => c q.2)
/-- what holds of a new ground -/
def CU (z w : mZ) (u : Nat) : Prop := WTt z u ∧ LF z w u ∧ AK z w u ∧ KNz z ∧ GA z z u
theorem CU_cv {z w : mZ} {u : Nat} (k : CU z w u) (b : ∀ b : Nat, b < 3 → z 147 b = 0) : CV z w u := ⟨k.1, k.2.1, k.2.2.1, fun c hc q => absurd q (by rw [b c hc]; omega), k.2.2.2.1⟩
theorem CU_m {z z' w w' : mZ} {u : Nat} (hu : isT u) (hz : rz z) (h : ∀ a, a ≠ 147 → a ≠ 102 → a ≠ 1 → z' a = z a) (hw : ∀ a, w' a = w a) (k : CU z w u) : CU z' w' u := by
  obtain ⟨k1, k2, k3, k4, k5⟩ := k
  have hu : u = 159 ∨ u = 192 := hu
  have t3 := rd_T_3 hu hz
  have hw : w' = w := funext hw
  subst hw
  have e : z' u = z u := h u (by omega) (by omega) (by omega)
  have e1 : z' (u + 1) = z (u + 1) := h _ (by omega) (by omega) (by omega)
  have e2 : z' (u + 2) = z (u + 2) := h _ (by omega) (by omega) (by omega)
  have e5 : z' (u + 5) = z (u + 5) := h _ (by omega) (by omega) (by omega)
  have e39 : z' 39 = z 39 := h _ (by omega) (by omega) (by omega)
  have e3 : z' 3 = z 3 := h _ (by omega) (by omega) (by omega)
  refine ⟨?_, fun l hl => ?_, AK_s k3 (by rw [e]) e1 (by rw [e39]) (by rw [e39]) (fun a _ _ => rfl), ?_, fun l hl => ?_⟩
  · unfold WTt at *; rw [e, e1, e2, e5]; exact k1
  · rw [e] at hl; exact FTt_fr (by rw [e]) e1 (k2 l hl)
  · unfold KNz; rw [e3]; exact k4
  · rw [e] at hl
    exact GRt_cg (k5 l hl) (by rw [e]) e1.symm (fun i _ => by rw [h (17 + 2 * l) (by omega) (by omega) (by omega)]) (h (18 + 2 * l) (by omega) (by omega) (by omega))
theorem CU_of {za wa zb zs zc wc : mZ} {u : Nat} (hu : isT u) (ra : rz za) (w1 : WTt za u) (l1 : LF za wa u) (kn : KNz za) (gs : ∀ l : Nat, (l : Int) < zb u 3 → GRt zb zs u l) (c0 : zc 39 0 = 0) (c1 : zc 39 1 = 0) (cr : ∀ e : Nat, e < 18 → wc (aR zc 0) e = 0)
    (ez : ∀ a i, (a = u ∧ i ≤ 3) ∨ a = u + 1 ∨ a = u + 2 ∨ a = u + 5 ∨ (a = 3 ∧ 7 ≤ i ∧ i ≤ 9) → zc a i = za a i) (eb : ∀ a i, (a = u ∧ i ≤ 3) ∨ a = u + 1 → zb a i = za a i) (ew : ∀ a i, u + 8 ≤ a → a ≤ u + 15 → wc a i = wa a i) (es : ∀ a i, 17 ≤ a → a ≤ 32 → zc a i = zs a i) : CU zc wc u := by
  have hu' : u = 159 ∨ u = 192 := hu
  have e0 : zc u 0 = za u 0 := ez _ _ (by omega)
  have e1 : zc u 1 = za u 1 := ez _ _ (by omega)
  have e3 : zc u 3 = za u 3 := ez _ _ (by omega)
  have f1 : zc (u + 1) = za (u + 1) := funext fun i => ez _ _ (by omega)
  have f2 : zc (u + 2) = za (u + 2) := funext fun i => ez _ _ (by omega)
  have f5 : zc (u + 5) = za (u + 5) := funext fun i => ez _ _ (by omega)
  have t3 := rd_T_3 hu ra
  have wc1 : WTt zc u := by unfold WTt at *; rw [e0, e1, f1, f2, f5]; exact w1
  refine ⟨wc1, fun l hl => ?_, AK_c c0 c1 (FT_0 (WT.lt wc1) cr), ?_, fun l hl => ?_⟩
  · rw [e3] at hl
    rw [show wc (u + 8 + l) = wa (u + 8 + l) from funext fun i => ew _ _ (by omega) (by omega)]
    exact FTt_fr e0 f1 (l1 l hl)
  · unfold KNz
    rw [ez 3 7 (by omega), ez 3 9 (by omega)]; exact kn
  · rw [e3] at hl
    have b3 : zb u 3 = za u 3 := eb _ _ (by omega)
    exact GRt_cg (gs l (by omega)) (by rw [e0]; exact eb _ _ (by omega)) (by rw [f1]; exact funext fun i => eb _ _ (by omega)) (fun i _ => es _ _ (by omega) (by omega)) (funext fun i => es _ _ (by omega) (by omega))
theorem FW_c {z z' : mZ} {t a : Nat} (ht : isT t) (h : ∀ b i, b ≠ 1 → z' b i = z b i) (k : FW z' t a) : FW z t a := by
  have ht : t = 159 ∨ t = 192 := ht
  intro i hi
  have q := k i (by rw [h (t + 18) a (by omega)]; exact hi)
  rw [h (t + 20 + a) i (by omega), h t 3 (by omega), h (17 + 2 * (z (t + 20 + a) i).toNat) 0 (by omega)] at q
  exact q

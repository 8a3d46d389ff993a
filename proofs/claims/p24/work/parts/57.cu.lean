/-! a new ground -/
/-- what holds of a new ground -/
def CU (z w : mZ) (u : Nat) : Prop := WTt z u ∧ LF z w u ∧ AK z w u ∧ KNz z ∧ GA z z u
theorem CU_cv {z w : mZ} {u : Nat} (k : CU z w u) (b : ∀ b : Nat, b < 3 → z 147 b = 0) : CV z w u := ⟨k.1, k.2.1, k.2.2.1, fun c hc q => absurd q (by rw [b c hc]; omega), k.2.2.2.1⟩
theorem CU_m {z z' w w' : mZ} {u : Nat} (hu : isT u) (hz : rz z) (h : ∀ a, a ≠ 147 → a ≠ 102 → a ≠ 1 → z' a = z a) (hw : ∀ a, a ≠ 147 → a ≠ 102 → a ≠ 1 → w' a = w a) (k : CU z w u) : CU z' w' u := by
  obtain ⟨k1, k2, k3, k4, k5⟩ := k
  have t3 := rd_T_3 hu hz
  have hu : u = 159 ∨ u = 192 := hu
  have e : z' u = z u := h u (by omega) (by omega) (by omega)
  have e1 : z' (u + 1) = z (u + 1) := h _ (by omega) (by omega) (by omega)
  have e2 : z' (u + 2) = z (u + 2) := h _ (by omega) (by omega) (by omega)
  have e5 : z' (u + 5) = z (u + 5) := h _ (by omega) (by omega) (by omega)
  have e39 : z' 39 = z 39 := h _ (by omega) (by omega) (by omega)
  have e3 : z' 3 = z 3 := h _ (by omega) (by omega) (by omega)
  refine ⟨?_, fun l hl => ?_, AK_s k3 (by rw [e]) e1 (by rw [e39]) (by rw [e39]) (fun a _ _ => hw a (by omega) (by omega) (by omega)), ?_, fun l hl => ?_⟩
  · unfold WTt at *; rw [e, e1, e2, e5]; exact k1
  · rw [e] at hl
    rw [hw (u + 8 + l) (by omega) (by omega) (by omega)]
    exact FTt_fr (by rw [e]) e1 (k2 l hl)
  · unfold KNz; rw [e3]; exact k4
  · rw [e] at hl
    exact GRt_cg (k5 l hl) (by rw [e]) e1.symm (fun i _ => by rw [h (17 + 2 * l) (by omega) (by omega) (by omega)]) (h (18 + 2 * l) (by omega) (by omega) (by omega))
theorem CU_of {za wa zb zs zc wc : mZ} {u : Nat} (hu : isT u) (ra : rz za) (w1 : WTt za u) (l1 : LF za wa u) (kn : KNz za) (gs : ∀ l : Nat, (l : Int) < zb u 3 → GRt zb zs u l) (c0 : zc 39 0 = 0) (c1 : zc 39 1 = 0) (cr : ∀ e : Nat, e < 18 → wc (aR zc 0) e = 0)
    (ez : ∀ a i, (a = u ∧ i ≤ 3) ∨ a = u + 1 ∨ a = u + 2 ∨ a = u + 5 ∨ (a = 3 ∧ 7 ≤ i ∧ i ≤ 9) → zc a i = za a i) (eb : ∀ a i, (a = u ∧ i ≤ 3) ∨ a = u + 1 → zb a i = za a i) (ew : ∀ a i, u + 8 ≤ a → a ≤ u + 15 → wc a i = wa a i) (es : ∀ a i, 17 ≤ a → a ≤ 32 → zc a i = zs a i) : CU zc wc u := by
  have hu' : u = 159 ∨ u = 192 := hu
  have e0 : zc u 0 = za u 0 := ez _ _ (by omega)
  have e1 : zc u 1 = za u 1 := ez _ _ (by omega)
  have e3 : zc u 3 = za u 3 := ez _ _ (by omega)
  have f1 : zc (u + 1) = za (u + 1) := funext fun i => ez _ _ (by omega)
  have f2 : zc (u + 2) = za (u + 2) := funext fun i => ez _ _ (by omega)
  have f5 : zc (u + 5) = za (u + 5) := funext fun i => ez _ _ (by omega)
  have t3 := rd_T_3 hu ra
  have wc1 : WTt zc u := by unfold WTt at *; rw [e0, e1, f1, f2, f5]; exact w1
  refine ⟨wc1, fun l hl => ?_, AK_c c0 c1 (FT_0 (WT.lt wc1) cr), ?_, fun l hl => ?_⟩
  · rw [e3] at hl
    rw [show wc (u + 8 + l) = wa (u + 8 + l) from funext fun i => ew _ _ (by omega) (by omega)]
    exact FTt_fr e0 f1 (l1 l hl)
  · unfold KNz
    rw [ez 3 7 (by omega), ez 3 9 (by omega)]; exact kn
  · rw [e3] at hl
    have b3 : zb u 3 = za u 3 := eb _ _ (by omega)
    exact GRt_cg (gs l (by omega)) (by rw [e0]; exact eb _ _ (by omega)) (by rw [f1]; exact funext fun i => eb _ _ (by omega)) (fun i _ => es _ _ (by omega) (by omega)) (funext fun i => es _ _ (by omega) (by omega))

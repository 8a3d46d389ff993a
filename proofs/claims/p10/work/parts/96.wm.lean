/-! THE LINE in earnest, as both keep it -/
section
variable {E : Int} {zc wc zr wr zc' wc' zr' wr' : mZ}
end
section
variable {E : Int} {cf : Nat → Nat → Nat} {K : Nat}
end
/-! words: the same twists by the same roads -/
/-! an act of the reference, on its way -/
section
variable {z w z' w' z1 w1 : mZ}
end
/-! boxes of both -/
/-! a new ground -/
def CLA (z w : mZ) (u : Nat) : Prop := ∀ l : Nat, (l : Int) < z u 3 → CLR z w u l
def RLA (z : mZ) : Prop := ∀ l : Nat, (l : Int) < z 225 27 → RLR z l
def GN0 (z w : mZ) : Prop := (z 39 0 = 0 ∧ z 39 1 = 0 ∧ ∀ e : Nat, e < 18 → w (aR z 0) e = 0) ∧ ∀ b : Nat, b < 3 → z 147 b = 0
def RG0 (z w : mZ) : Prop := (z 225 73 = 0 ∧ z 225 74 = 0 ∧ ∀ e : Nat, e < 18 → w 270 e = 0) ∧ ∀ b : Nat, b < 3 → z 274 b = 0
theorem CLA_m {z z' w w' : mZ} {u : Nat} (hu : isT u) (hz : rz z) (h : ∀ a, a ≠ 147 → a ≠ 102 → a ≠ 1 → z' a = z a) (hw : ∀ a, a ≠ 147 → a ≠ 102 → a ≠ 1 → w' a = w a) (k : CLA z w u) : CLA z' w' u := by
  have hb : 159 ≤ u ∧ u ≤ 192 := by have := hu; unfold isT at this; omega
  intro l hl
  rw [h u (by omega) (by omega) (by omega)] at hl
  have h8 := rd_T_3 hu hz
  exact CLQ_g (by rw [h u (by omega) (by omega) (by omega)]) (by rw [h u (by omega) (by omega) (by omega)]) (h _ (by omega) (by omega) (by omega)) (h _ (by omega) (by omega) (by omega)) (h _ (by omega) (by omega) (by omega)) (hw _ (by omega) (by omega) (by omega)) (CLQ_f (fun i hi => by rw [h _ (by omega) (by omega) (by omega)]) (h _ (by omega) (by omega) (by omega)) (k l hl))

/-! a byte as the class reads it, and as it is -/
theorem hr_c {z : mZ} {n k v : Int} (h0 : 0 ≤ k) (h1 : v ≠ 0 → 0 ≤ k ∧ k < n) (h2 : 0 ≤ k → k < n → v = z 2 k.toNat) (hb : -128 ≤ v ∧ v ≤ 127) :
    (hr (fun i => z 2 i % 256) n k = v ∧ 0 ≤ v ∧ k < n) ∨ (128 ≤ hr (fun i => z 2 i % 256) n k ∧ v < 0 ∧ k < n) ∨ (hr (fun i => z 2 i % 256) n k = -1 ∧ v = 0 ∧ n ≤ k) := by
  unfold hr
  by_cases c : k < n
  · rw [if_pos c]
    have e := h2 h0 c
    dsimp only
    rw [← e]
    omega
  · rw [if_neg c]
    have e : v = 0 := Classical.byContradiction fun q => c (h1 q).2
    omega
/-- the tapes of both are alike -/
def kqT (z : mZ) : Prop := ∀ i : Nat, (i : Int) < z 225 1 → z 226 i = z 2 i % 256
theorem hr_t {z : mZ} {n k : Int} (h0 : 0 ≤ k) (hn : n ≤ z 225 1) (h : kqT z) : hr (z 226) n k = hr (fun i => z 2 i % 256) n k := by
  unfold hr
  by_cases c : k < n
  · rw [if_pos c, if_pos c]; exact h _ (by omega)
  · rw [if_neg c, if_neg c]

/-! the reference reads words, and all -/
theorem WDn_s {z z' : mZ} {n0 : Nat} {c : Int} (hz : rz z) (h : WDn z) (hn : (n0 : Int) = z 225 25) (h5 : n0 ≤ 5) (e25 : z' 225 25 = z 225 25 + 1) (e24 : z' 225 24 = z 225 24) (o2 : ∀ i : Nat, i < 8 * n0 → z' 232 i = z 232 i) (o4 : ∀ j : Nat, j < n0 → z' 234 j = z 234 j) (hc : z' 234 n0 = c) (hcn : ∀ i : Nat, (i : Int) < c → z' 232 (8 * n0 + i) < z 225 24) : WDn z' := by
  intro a ha i hi
  rw [e24]
  by_cases q : a = n0
  · subst q; rw [hc] at hi; exact hcn i hi
  · have q4 := o4 a (by omega)
    rw [q4] at hi
    have b := rd_234 hz (i := a) (by omega)
    rw [o2 _ (by omega)]
    exact h a (by omega) i hi
theorem RDr_c {z z' : mZ} (e23 : z' 225 23 = z 225 23) (e24 : z' 225 24 = z 225 24) (e25 : z' 225 25 = z 225 25) (f229 : z' 229 = z 229) (f230 : z' 230 = z 230) (f231 : z' 231 = z 231) (f232 : z' 232 = z 232) (f234 : z' 234 = z 234) (h : RDr z) : RDr z' := by
  unfold RDr PIR WHn LFn WDn nE at *
  rw [e23, e24, e25, f229, f230, f231, f232, f234]; exact h
theorem WHn_p {z : mZ} (p : PIR z (3 * z 225 23).toNat) (h : z 225 23 % 2 = 0 ∧ ∀ e : Nat, e < 18 → z 230 e = if (e : Int) < nE z then 2 else 0) : WHn z := ⟨h.1, fun e he => by rw [← p e he]; exact h.2 e he⟩

/-! a flip that shortens, put together of what both tell -/
theorem lt_i {e : Nat} {v : Int} (h : e < v.toNat) : (e : Int) < v := by omega
theorem lt_n {v b : Int} (h0 : 0 ≤ v) (h1 : v < b) : (v.toNat : Int) < b := by omega
theorem lt_m {p q c v a : Int} (h : v = max p q - c) (h2 : v < c) (h3 : a = max p q - c) : a < c := by omega
theorem STP_i {m : Nat} {T : Nat → Nat} {n : Nat → Int} {e x y z w : Nat} {T1 : Nat → Nat} {n1 : Nat → Int} {a b : Int} (h0 : 0 ≤ a) (h1 : a < b) (h2 : a / 3 ≠ b / 3) (hf : FLP m T T1 e x y z w a.toNat b.toNat a.toNat b.toNat) (hn : n1 = fl e x y z w n) (hl : n1 e < n e) (hc : ∀ e', e' < e → ¬ CDd m T n e') : STP m T n e x y z w T1 n1 :=
  ⟨a.toNat, b.toNat, a.toNat, b.toNat, lt3 h0 h1 h2, hf, hn, hl, hc⟩

abbrev FQ (z : mZ) (s1 s2 e : Int) : Int := max (z 256 (z 255 (bh s1.toNat)).toNat + z 256 (z 255 (bh s2.toNat)).toNat) (z 256 (z 255 (ah s1.toNat)).toNat + z 256 (z 255 (ah s2.toNat)).toNat) - z 256 e.toNat
def DF (z0 z : mZ) (l e s1 s2 : Int) : Prop := FLP (z0 225 26).toNat (vT (z0 255)) (vT (z 255)) e.toNat (z0 255 (bh s1.toNat)).toNat (z0 255 (ah s1.toNat)).toNat (z0 255 (bh s2.toNat)).toNat (z0 255 (ah s2.toNat)).toNat s1.toNat s2.toNat (s1 / 3 * 3).toNat (s2 / 3 * 3).toNat ∧
  (∀ j : Nat, z 256 j = if j = e.toNat then FQ z0 s1 s2 e else z0 256 j) ∧ z 248 l.toNat = z0 248 l.toNat + 1 ∧ (∀ j : Nat, j ≠ l.toNat → z 248 j = z0 248 j) ∧
  z 247 (5 * (1782 * l + z0 248 l.toNat)).toNat = e ∧ z 247 (5 * (1782 * l + z0 248 l.toNat) + 1).toNat = z0 255 (bh s1.toNat) ∧ z 247 (5 * (1782 * l + z0 248 l.toNat) + 2).toNat = z0 255 (ah s1.toNat) ∧ z 247 (5 * (1782 * l + z0 248 l.toNat) + 3).toNat = z0 255 (bh s2.toNat) ∧ z 247 (5 * (1782 * l + z0 248 l.toNat) + 4).toNat = z0 255 (ah s2.toNat) ∧
  (∀ i : Nat, (i : Int) < 5 * (1782 * l + z0 248 l.toNat) ∨ 5 * (1782 * l + z0 248 l.toNat) + 5 ≤ (i : Int) → z 247 i = z0 247 i)
theorem nS_T {z : mZ} (ly : LY (z 225 26) (rE z) (z 255)) {s : Nat} (hs : (s : Int) < 3 * z 225 26) : nS z (vT (z 255) s) = z 256 (z 255 s).toNat := tr_l (by have := ly.2.2.2.1 s hs; show (((z 255 s).toNat : Nat) : Int) < _; omega)
theorem co_sum {T : Nat → Nat} {n : Nat → Int} {u p : Nat} (h : CO T n u) (h0 : 3 * p ≤ u) (h1 : u < 3 * p + 3) : n (T (3 * p)) + n (T (3 * p + 1)) + n (T (3 * p + 2)) = 2 := by
  obtain ⟨a, b, c⟩ := h
  have q1 := bh_cases u; have q2 := ah_cases u
  rcases (show u = 3 * p ∨ u = 3 * p + 1 ∨ u = 3 * p + 2 by omega) with d | d | d
  · rw [show bh u = 3 * p + 1 by omega] at b; rw [show ah u = 3 * p + 2 by omega] at c; rw [d] at a; omega
  · rw [show bh u = 3 * p + 2 by omega] at b; rw [show ah u = 3 * p by omega] at c; rw [d] at a; omega
  · rw [show bh u = 3 * p by omega] at b; rw [show ah u = 3 * p + 1 by omega] at c; rw [d] at a; omega
theorem co_mk {T : Nat → Nat} {n : Nat → Int} {s p : Nat} (v : ∀ k, k < 3 → 0 ≤ n (T (3 * p + k)) ∧ n (T (3 * p + k)) ≤ 1) (sm2 : n (T (3 * p)) + n (T (3 * p + 1)) + n (T (3 * p + 2)) = 2) (h0 : 3 * p ≤ s) (h1 : s < 3 * p + 3) (hs : n (T s) = 0) : CO T n s ∧ ∀ u, 3 * p ≤ u → u < 3 * p + 3 → CO T n u → u = s := by
  have q1 := bh_cases s; have q2 := ah_cases s
  have v0 := v 0 (by omega); have v1 := v 1 (by omega); have v2 := v 2 (by omega)
  rw [Nat.add_zero] at v0
  rcases (show s = 3 * p ∨ s = 3 * p + 1 ∨ s = 3 * p + 2 by omega) with d | d | d
  · have hs' := hs; rw [d] at hs'
    refine ⟨⟨hs, by rw [show bh s = 3 * p + 1 by omega]; omega, by rw [show ah s = 3 * p + 2 by omega]; omega⟩, fun u g0 g1 c => ?_⟩
    have cu := c.1
    rcases (show u = 3 * p ∨ u = 3 * p + 1 ∨ u = 3 * p + 2 by omega) with e | e | e
    · omega
    · rw [e] at cu; omega
    · rw [e] at cu; omega
  · have hs' := hs; rw [d] at hs'
    refine ⟨⟨hs, by rw [show bh s = 3 * p + 2 by omega]; omega, by rw [show ah s = 3 * p by omega]; omega⟩, fun u g0 g1 c => ?_⟩
    have cu := c.1
    rcases (show u = 3 * p ∨ u = 3 * p + 1 ∨ u = 3 * p + 2 by omega) with e | e | e
    · rw [e] at cu; omega
    · omega
    · rw [e] at cu; omega
  · have hs' := hs; rw [d] at hs'
    refine ⟨⟨hs, by rw [show bh s = 3 * p by omega]; omega, by rw [show ah s = 3 * p + 1 by omega]; omega⟩, fun u g0 g1 c => ?_⟩
    have cu := c.1
    rcases (show u = 3 * p ∨ u = 3 * p + 1 ∨ u = 3 * p + 2 by omega) with e | e | e
    · rw [e] at cu; omega
    · rw [e] at cu; omega
    · omega

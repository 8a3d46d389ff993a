section
/-! numbers that FIT, flips, twists: no machine here -/
def ah (s : Nat) : Nat := if s % 3 = 0 then s + 2 else s - 1
def bh (s : Nat) : Nat := if s % 3 = 2 then s - 2 else s + 1
theorem ah_cases (s : Nat) : (s % 3 = 0 ∧ ah s = s + 2) ∨ (s % 3 = 1 ∧ ah s = s - 1) ∨ (s % 3 = 2 ∧ ah s = s - 1) := by unfold ah; split <;> omega
theorem bh_cases (s : Nat) : (s % 3 = 0 ∧ bh s = s + 1) ∨ (s % 3 = 1 ∧ bh s = s + 1) ∨ (s % 3 = 2 ∧ bh s = s - 2) := by unfold bh; split <;> omega
theorem bh_ah (s : Nat) : bh (ah s) = s := by have := ah_cases s; have := bh_cases (ah s); omega
theorem ah_bh (s : Nat) : ah (bh s) = s := by have := bh_cases s; have := ah_cases (bh s); omega
theorem bh_bh (s : Nat) : bh (bh s) = ah s := by have := bh_cases s; have := bh_cases (bh s); have := ah_cases s; omega
theorem ah_ah (s : Nat) : ah (ah s) = bh s := by have := ah_cases s; have := ah_cases (ah s); have := bh_cases s; omega
theorem ah_div (s : Nat) : ah s / 3 = s / 3 := by have := ah_cases s; omega
theorem bh_div (s : Nat) : bh s / 3 = s / 3 := by have := bh_cases s; omega
theorem sl_eq {s r : Nat} (h : s / 3 = r / 3) : s = r ∨ s = bh r ∨ s = ah r := by have := bh_cases r; have := ah_cases r; omega
theorem ah_lt {s m : Nat} (h : s < 3 * m) : ah s < 3 * m := by have := ah_cases s; omega
theorem bh_lt {s m : Nat} (h : s < 3 * m) : bh s < 3 * m := by have := bh_cases s; omega
theorem ah_ne (s : Nat) : ah s ≠ s := by have := ah_cases s; omega
theorem bh_ne (s : Nat) : bh s ≠ s := by have := bh_cases s; omega
theorem ab_ne (s : Nat) : ah s ≠ bh s := by have := ah_cases s; have := bh_cases s; omega
abbrev tri (a b c : Int) : Prop := (a + b + c) % 2 = 0 ∧ a ≤ b + c ∧ b ≤ a + c ∧ c ≤ a + b
/-- numbers n FIT: m pieces, the edge at a slot is T -/
def FT (m : Nat) (T : Nat → Nat) (n : Nat → Int) : Prop := (∀ e, e < 18 → 0 ≤ n e) ∧ ∀ s, s < 3 * m → tri (n (T s)) (n (T (bh s))) (n (T (ah s)))
/-- a flip's numbers -/
def fl (e x y z w : Nat) (n : Nat → Int) : Nat → Int := fun j => if j = e then max (n x + n z) (n y + n w) - n e else n j
theorem fl_e {e x y z w : Nat} {n : Nat → Int} : fl e x y z w n e = max (n x + n z) (n y + n w) - n e := if_pos rfl
theorem fl_ne {e x y z w j : Nat} {n : Nat → Int} (h : j ≠ e) : fl e x y z w n j = n j := if_neg h
theorem tri_r {a b c : Int} (h : tri a b c) : tri b c a := by unfold tri at *; omega
theorem flip_val {e x y z w : Int} (h1 : tri e x y) (h2 : tri e z w) : tri (max (x + z) (y + w) - e) y z ∧ tri (max (x + z) (y + w) - e) w x ∧ 0 ≤ max (x + z) (y + w) - e := by
  unfold tri at *
  omega
theorem flip_val' {e x y z w : Int} (h1 : tri e y z) (h2 : tri e w x) : tri (max (x + z) (y + w) - e) x y ∧ tri (max (x + z) (y + w) - e) z w ∧ 0 ≤ max (x + z) (y + w) - e := by
  unfold tri at *
  omega
/-- T' is T with the edge e flipped; e lies at s1 and s2, and at r1 and r2 then -/
abbrev FLP (m : Nat) (T T' : Nat → Nat) (e x y z w s1 s2 r1 r2 : Nat) : Prop := (s1 < 3 * m) ∧ (s2 < 3 * m) ∧ (s1 / 3 ≠ s2 / 3) ∧ (T s1 = e) ∧ (T s2 = e) ∧ (∀ s, s < 3 * m → T s = e → s = s1 ∨ s = s2) ∧ (T (bh s1) = x) ∧ (T (ah s1) = y) ∧ (T (bh s2) = z) ∧ (T (ah s2) = w) ∧ (r1 / 3 = s1 / 3) ∧ (r2 / 3 = s2 / 3) ∧ (T' r1 = e) ∧ (T' r2 = e) ∧ (T' (bh r1) = y) ∧ (T' (ah r1) = z) ∧ (T' (bh r2) = w) ∧ (T' (ah r2) = x) ∧ (∀ s, s / 3 ≠ s1 / 3 → s / 3 ≠ s2 / 3 → T' s = T s)
theorem FLP.l1 {m : Nat} {T T' : Nat → Nat} {e x y z w s1 s2 r1 r2 : Nat} (h : FLP m T T' e x y z w s1 s2 r1 r2) : s1 < 3 * m := h.1
theorem FLP.l2 {m : Nat} {T T' : Nat → Nat} {e x y z w s1 s2 r1 r2 : Nat} (h : FLP m T T' e x y z w s1 s2 r1 r2) : s2 < 3 * m := h.2.1
theorem FLP.ne {m : Nat} {T T' : Nat → Nat} {e x y z w s1 s2 r1 r2 : Nat} (h : FLP m T T' e x y z w s1 s2 r1 r2) : s1 / 3 ≠ s2 / 3 := h.2.2.1
theorem FLP.e1 {m : Nat} {T T' : Nat → Nat} {e x y z w s1 s2 r1 r2 : Nat} (h : FLP m T T' e x y z w s1 s2 r1 r2) : T s1 = e := h.2.2.2.1
theorem FLP.e2 {m : Nat} {T T' : Nat → Nat} {e x y z w s1 s2 r1 r2 : Nat} (h : FLP m T T' e x y z w s1 s2 r1 r2) : T s2 = e := h.2.2.2.2.1
theorem FLP.eo {m : Nat} {T T' : Nat → Nat} {e x y z w s1 s2 r1 r2 : Nat} (h : FLP m T T' e x y z w s1 s2 r1 r2) : ∀ s, s < 3 * m → T s = e → s = s1 ∨ s = s2 := h.2.2.2.2.2.1
theorem FLP.hx {m : Nat} {T T' : Nat → Nat} {e x y z w s1 s2 r1 r2 : Nat} (h : FLP m T T' e x y z w s1 s2 r1 r2) : T (bh s1) = x := h.2.2.2.2.2.2.1
theorem FLP.hy {m : Nat} {T T' : Nat → Nat} {e x y z w s1 s2 r1 r2 : Nat} (h : FLP m T T' e x y z w s1 s2 r1 r2) : T (ah s1) = y := h.2.2.2.2.2.2.2.1
theorem FLP.hz {m : Nat} {T T' : Nat → Nat} {e x y z w s1 s2 r1 r2 : Nat} (h : FLP m T T' e x y z w s1 s2 r1 r2) : T (bh s2) = z := h.2.2.2.2.2.2.2.2.1
theorem FLP.hw {m : Nat} {T T' : Nat → Nat} {e x y z w s1 s2 r1 r2 : Nat} (h : FLP m T T' e x y z w s1 s2 r1 r2) : T (ah s2) = w := h.2.2.2.2.2.2.2.2.2.1
theorem FLP.q1 {m : Nat} {T T' : Nat → Nat} {e x y z w s1 s2 r1 r2 : Nat} (h : FLP m T T' e x y z w s1 s2 r1 r2) : r1 / 3 = s1 / 3 := h.2.2.2.2.2.2.2.2.2.2.1
theorem FLP.q2 {m : Nat} {T T' : Nat → Nat} {e x y z w s1 s2 r1 r2 : Nat} (h : FLP m T T' e x y z w s1 s2 r1 r2) : r2 / 3 = s2 / 3 := h.2.2.2.2.2.2.2.2.2.2.2.1
theorem FLP.f1 {m : Nat} {T T' : Nat → Nat} {e x y z w s1 s2 r1 r2 : Nat} (h : FLP m T T' e x y z w s1 s2 r1 r2) : T' r1 = e := h.2.2.2.2.2.2.2.2.2.2.2.2.1
theorem FLP.f2 {m : Nat} {T T' : Nat → Nat} {e x y z w s1 s2 r1 r2 : Nat} (h : FLP m T T' e x y z w s1 s2 r1 r2) : T' r2 = e := h.2.2.2.2.2.2.2.2.2.2.2.2.2.1
theorem FLP.gy {m : Nat} {T T' : Nat → Nat} {e x y z w s1 s2 r1 r2 : Nat} (h : FLP m T T' e x y z w s1 s2 r1 r2) : T' (bh r1) = y := h.2.2.2.2.2.2.2.2.2.2.2.2.2.2.1
theorem FLP.gz {m : Nat} {T T' : Nat → Nat} {e x y z w s1 s2 r1 r2 : Nat} (h : FLP m T T' e x y z w s1 s2 r1 r2) : T' (ah r1) = z := h.2.2.2.2.2.2.2.2.2.2.2.2.2.2.2.1
theorem FLP.gw {m : Nat} {T T' : Nat → Nat} {e x y z w s1 s2 r1 r2 : Nat} (h : FLP m T T' e x y z w s1 s2 r1 r2) : T' (bh r2) = w := h.2.2.2.2.2.2.2.2.2.2.2.2.2.2.2.2.1
theorem FLP.gx {m : Nat} {T T' : Nat → Nat} {e x y z w s1 s2 r1 r2 : Nat} (h : FLP m T T' e x y z w s1 s2 r1 r2) : T' (ah r2) = x := h.2.2.2.2.2.2.2.2.2.2.2.2.2.2.2.2.2.1
theorem FLP.ot {m : Nat} {T T' : Nat → Nat} {e x y z w s1 s2 r1 r2 : Nat} (h : FLP m T T' e x y z w s1 s2 r1 r2) : ∀ s, s / 3 ≠ s1 / 3 → s / 3 ≠ s2 / 3 → T' s = T s := h.2.2.2.2.2.2.2.2.2.2.2.2.2.2.2.2.2.2
section
variable {m : Nat} {T T' : Nat → Nat} {e x y z w s1 s2 r1 r2 : Nat}
theorem FLP.nx (h : FLP m T T' e x y z w s1 s2 r1 r2) : x ≠ e := by
  intro q
  have := h.eo (bh s1) (bh_lt h.l1) (by rw [h.hx, q])
  have := bh_ne s1; have := bh_div s1; have := h.ne
  omega
theorem FLP.ny (h : FLP m T T' e x y z w s1 s2 r1 r2) : y ≠ e := by
  intro q
  have := h.eo (ah s1) (ah_lt h.l1) (by rw [h.hy, q])
  have := ah_ne s1; have := ah_div s1; have := h.ne
  omega
theorem FLP.nz (h : FLP m T T' e x y z w s1 s2 r1 r2) : z ≠ e := by
  intro q
  have := h.eo (bh s2) (bh_lt h.l2) (by rw [h.hz, q])
  have := bh_ne s2; have := bh_div s2; have := h.ne
  omega
theorem FLP.nw (h : FLP m T T' e x y z w s1 s2 r1 r2) : w ≠ e := by
  intro q
  have := h.eo (ah s2) (ah_lt h.l2) (by rw [h.hw, q])
  have := ah_ne s2; have := ah_div s2; have := h.ne
  omega
theorem FLP.no (h : FLP m T T' e x y z w s1 s2 r1 r2) {s : Nat} (hs : s < 3 * m) (h1 : s / 3 ≠ s1 / 3) (h2 : s / 3 ≠ s2 / 3) : T s ≠ e := by
  intro q
  rcases h.eo s hs q with rfl | rfl
  · exact h1 rfl
  · exact h2 rfl
theorem FLP.L1 (h : FLP m T T' e x y z w s1 s2 r1 r2) : r1 < 3 * m := by have := h.q1; have := h.l1; omega
theorem FLP.L2 (h : FLP m T T' e x y z w s1 s2 r1 r2) : r2 < 3 * m := by have := h.q2; have := h.l2; omega
/-- a flip keeps what FITS -/
theorem FLP.ft (h : FLP m T T' e x y z w s1 s2 r1 r2) {n : Nat → Int} (f : FT m T n) : FT m T' (fl e x y z w n) := by
  have t1 := f.2 s1 h.l1
  have t2 := f.2 s2 h.l2
  rw [h.e1, h.hx, h.hy] at t1
  rw [h.e2, h.hz, h.hw] at t2
  obtain ⟨v1, v2, v3⟩ := flip_val t1 t2
  constructor
  · intro j hj
    by_cases q : j = e
    · subst q; rw [fl_e]; exact v3
    · rw [fl_ne q]; exact f.1 j hj
  · intro s hs
    by_cases c1 : s / 3 = s1 / 3
    · rcases sl_eq (c1.trans h.q1.symm) with rfl | rfl | rfl
      · rw [h.f1, h.gy, h.gz, fl_e, fl_ne h.ny, fl_ne h.nz]; exact v1
      · rw [bh_bh, ah_bh, h.f1, h.gy, h.gz, fl_e, fl_ne h.ny, fl_ne h.nz]; exact tri_r v1
      · rw [bh_ah, ah_ah, h.f1, h.gy, h.gz, fl_e, fl_ne h.ny, fl_ne h.nz]; exact tri_r (tri_r v1)
    · by_cases c2 : s / 3 = s2 / 3
      · rcases sl_eq (c2.trans h.q2.symm) with rfl | rfl | rfl
        · rw [h.f2, h.gw, h.gx, fl_e, fl_ne h.nw, fl_ne h.nx]; exact v2
        · rw [bh_bh, ah_bh, h.f2, h.gw, h.gx, fl_e, fl_ne h.nw, fl_ne h.nx]; exact tri_r v2
        · rw [bh_ah, ah_ah, h.f2, h.gw, h.gx, fl_e, fl_ne h.nw, fl_ne h.nx]; exact tri_r (tri_r v2)
      · have b1 := bh_div s; have a1 := ah_div s
        rw [h.ot s c1 c2, h.ot (bh s) (by omega) (by omega), h.ot (ah s) (by omega) (by omega), fl_ne (h.no hs c1 c2), fl_ne (h.no (bh_lt hs) (by omega) (by omega)), fl_ne (h.no (ah_lt hs) (by omega) (by omega))]
        exact f.2 s hs
/-- and back -/
theorem FLP.ft' (h : FLP m T T' e x y z w s1 s2 r1 r2) {n : Nat → Int} (f : FT m T' n) : FT m T (fl e x y z w n) := by
  have t1 := f.2 r1 h.L1
  have t2 := f.2 r2 h.L2
  rw [h.f1, h.gy, h.gz] at t1
  rw [h.f2, h.gw, h.gx] at t2
  obtain ⟨v1, v2, v3⟩ := flip_val' t1 t2
  constructor
  · intro j hj
    by_cases q : j = e
    · subst q; rw [fl_e]; exact v3
    · rw [fl_ne q]; exact f.1 j hj
  · intro s hs
    by_cases c1 : s / 3 = s1 / 3
    · rcases sl_eq c1 with rfl | rfl | rfl
      · rw [h.e1, h.hx, h.hy, fl_e, fl_ne h.nx, fl_ne h.ny]; exact v1
      · rw [bh_bh, ah_bh, h.e1, h.hx, h.hy, fl_e, fl_ne h.nx, fl_ne h.ny]; exact tri_r v1
      · rw [bh_ah, ah_ah, h.e1, h.hx, h.hy, fl_e, fl_ne h.nx, fl_ne h.ny]; exact tri_r (tri_r v1)
    · by_cases c2 : s / 3 = s2 / 3
      · rcases sl_eq c2 with rfl | rfl | rfl
        · rw [h.e2, h.hz, h.hw, fl_e, fl_ne h.nz, fl_ne h.nw]; exact v2
        · rw [bh_bh, ah_bh, h.e2, h.hz, h.hw, fl_e, fl_ne h.nz, fl_ne h.nw]; exact tri_r v2
        · rw [bh_ah, ah_ah, h.e2, h.hz, h.hw, fl_e, fl_ne h.nz, fl_ne h.nw]; exact tri_r (tri_r v2)
      · have b1 := bh_div s; have a1 := ah_div s
        rw [fl_ne (h.no hs c1 c2), fl_ne (h.no (bh_lt hs) (by omega) (by omega)), fl_ne (h.no (ah_lt hs) (by omega) (by omega)), ← h.ot s c1 c2, ← h.ot (bh s) (by omega) (by omega), ← h.ot (ah s) (by omega) (by omega)]
        exact f.2 s hs
end
/-- a twist's numbers: what turns, what stays -/
def tw (a b u v : Nat) (n : Nat → Int) : Nat → Int := fun j => if j = v then max (n a + n b) (n v + n v) - n u else if j = u then n v else n j
/-- the two pieces round a SHORT line: a, e, f and b, e, f -/
abbrev TWP (m : Nat) (T : Nat → Nat) (a b e f u1 u2 : Nat) : Prop := (u1 < 3 * m) ∧ (u2 < 3 * m) ∧ (u1 / 3 ≠ u2 / 3) ∧ (e ≠ f) ∧ (a ≠ e) ∧ (a ≠ f) ∧ (b ≠ e) ∧ (b ≠ f) ∧ (T u1 = a) ∧ (T u2 = b) ∧ ((T (bh u1) = e ∧ T (ah u1) = f) ∨ (T (bh u1) = f ∧ T (ah u1) = e)) ∧ ((T (bh u2) = e ∧ T (ah u2) = f) ∨ (T (bh u2) = f ∧ T (ah u2) = e)) ∧ (∀ s, s < 3 * m → (T s = e ∨ T s = f) → s / 3 = u1 / 3 ∨ s / 3 = u2 / 3)
theorem TWP.l1 {m : Nat} {T : Nat → Nat} {a b e f u1 u2 : Nat} (h : TWP m T a b e f u1 u2) : u1 < 3 * m := h.1
theorem TWP.l2 {m : Nat} {T : Nat → Nat} {a b e f u1 u2 : Nat} (h : TWP m T a b e f u1 u2) : u2 < 3 * m := h.2.1
theorem TWP.ne {m : Nat} {T : Nat → Nat} {a b e f u1 u2 : Nat} (h : TWP m T a b e f u1 u2) : u1 / 3 ≠ u2 / 3 := h.2.2.1
theorem TWP.ef {m : Nat} {T : Nat → Nat} {a b e f u1 u2 : Nat} (h : TWP m T a b e f u1 u2) : e ≠ f := h.2.2.2.1
theorem TWP.ae {m : Nat} {T : Nat → Nat} {a b e f u1 u2 : Nat} (h : TWP m T a b e f u1 u2) : a ≠ e := h.2.2.2.2.1
theorem TWP.af {m : Nat} {T : Nat → Nat} {a b e f u1 u2 : Nat} (h : TWP m T a b e f u1 u2) : a ≠ f := h.2.2.2.2.2.1
theorem TWP.be {m : Nat} {T : Nat → Nat} {a b e f u1 u2 : Nat} (h : TWP m T a b e f u1 u2) : b ≠ e := h.2.2.2.2.2.2.1
theorem TWP.bf {m : Nat} {T : Nat → Nat} {a b e f u1 u2 : Nat} (h : TWP m T a b e f u1 u2) : b ≠ f := h.2.2.2.2.2.2.2.1
theorem TWP.ha {m : Nat} {T : Nat → Nat} {a b e f u1 u2 : Nat} (h : TWP m T a b e f u1 u2) : T u1 = a := h.2.2.2.2.2.2.2.2.1
theorem TWP.hb {m : Nat} {T : Nat → Nat} {a b e f u1 u2 : Nat} (h : TWP m T a b e f u1 u2) : T u2 = b := h.2.2.2.2.2.2.2.2.2.1
theorem TWP.h1 {m : Nat} {T : Nat → Nat} {a b e f u1 u2 : Nat} (h : TWP m T a b e f u1 u2) : (T (bh u1) = e ∧ T (ah u1) = f) ∨ (T (bh u1) = f ∧ T (ah u1) = e) := h.2.2.2.2.2.2.2.2.2.2.1
theorem TWP.h2 {m : Nat} {T : Nat → Nat} {a b e f u1 u2 : Nat} (h : TWP m T a b e f u1 u2) : (T (bh u2) = e ∧ T (ah u2) = f) ∨ (T (bh u2) = f ∧ T (ah u2) = e) := h.2.2.2.2.2.2.2.2.2.2.2.1
theorem TWP.eo {m : Nat} {T : Nat → Nat} {a b e f u1 u2 : Nat} (h : TWP m T a b e f u1 u2) : ∀ s, s < 3 * m → (T s = e ∨ T s = f) → s / 3 = u1 / 3 ∨ s / 3 = u2 / 3 := h.2.2.2.2.2.2.2.2.2.2.2.2
section
variable {m : Nat} {T : Nat → Nat} {a b e f u1 u2 : Nat}
theorem TWP.sw (h : TWP m T a b e f u1 u2) : TWP m T a b f e u1 u2 := ⟨h.l1, h.l2, h.ne, h.ef.symm, h.af, h.ae, h.bf, h.be, h.ha, h.hb, h.h1.symm, h.h2.symm, fun s hs q => h.eo s hs q.symm⟩
theorem TWP.ft (h : TWP m T a b e f u1 u2) {n : Nat → Int} (g : FT m T n) : FT m T (tw a b e f n) := by
  have t1 := g.2 u1 h.l1
  have t2 := g.2 u2 h.l2
  have k1 : tri (n e) (n a) (n f) := by
    rw [h.ha] at t1
    rcases h.h1 with ⟨q1, q2⟩ | ⟨q1, q2⟩ <;> rw [q1, q2] at t1 <;> (unfold tri at *; omega)
  have k2 : tri (n e) (n b) (n f) := by
    rw [h.hb] at t2
    rcases h.h2 with ⟨q1, q2⟩ | ⟨q1, q2⟩ <;> rw [q1, q2] at t2 <;> (unfold tri at *; omega)
  obtain ⟨v1, v2, v3⟩ := flip_val k1 k2
  have wf : tw a b e f n f = max (n a + n b) (n f + n f) - n e := if_pos rfl
  have we : tw a b e f n e = n f := by unfold tw; rw [if_neg h.ef, if_pos rfl]
  have wo : ∀ j, j ≠ e → j ≠ f → tw a b e f n j = n j := by intro j j1 j2; unfold tw; rw [if_neg j2, if_neg j1]
  constructor
  · intro j hj
    by_cases q1 : j = f
    · subst q1; rw [wf]; exact v3
    · by_cases q2 : j = e
      · subst q2; rw [we]
        have := g.1; unfold tri at k1 k2
        have hn : 0 ≤ n f := by omega
        exact hn
      · rw [wo j q2 q1]; exact g.1 j hj
  · intro s hs
    by_cases c1 : s / 3 = u1 / 3
    · have key : tri (tw a b e f n (T u1)) (tw a b e f n (T (bh u1))) (tw a b e f n (T (ah u1))) := by
        rw [h.ha, wo a h.ae h.af]
        rcases h.h1 with ⟨q1, q2⟩ | ⟨q1, q2⟩ <;> rw [q1, q2, we, wf] <;> (unfold tri at *; omega)
      rcases sl_eq c1 with rfl | rfl | rfl
      · exact key
      · rw [bh_bh, ah_bh]; exact tri_r key
      · rw [bh_ah, ah_ah]; exact tri_r (tri_r key)
    · by_cases c2 : s / 3 = u2 / 3
      · have key : tri (tw a b e f n (T u2)) (tw a b e f n (T (bh u2))) (tw a b e f n (T (ah u2))) := by
          rw [h.hb, wo b h.be h.bf]
          rcases h.h2 with ⟨q1, q2⟩ | ⟨q1, q2⟩ <;> rw [q1, q2, we, wf] <;> (unfold tri at *; omega)
        rcases sl_eq c2 with rfl | rfl | rfl
        · exact key
        · rw [bh_bh, ah_bh]; exact tri_r key
        · rw [bh_ah, ah_ah]; exact tri_r (tri_r key)
      · have nn : ∀ r, r < 3 * m → r / 3 = s / 3 → T r ≠ e ∧ T r ≠ f := by
          intro r hr q
          constructor
          · intro q2; rcases h.eo r hr (Or.inl q2) with q3 | q3 <;> omega
          · intro q2; rcases h.eo r hr (Or.inr q2) with q3 | q3 <;> omega
        have n1 := nn s hs rfl
        have n2 := nn (bh s) (bh_lt hs) (bh_div s)
        have n3 := nn (ah s) (ah_lt hs) (ah_div s)
        rw [wo _ n1.1 n1.2, wo _ n2.1 n2.2, wo _ n3.1 n3.2]
        exact g.2 s hs
end
/-! strands hang together: a flip keeps that -/
theorem quad {x y z w e e' : Int} (h1 : tri e x y) (h2 : tri e z w) (he : e' = max (x + z) (y + w) - e) {X Y Z W E : Int → Prop}
    (n1 : ∀ i, 0 ≤ i → 2 * i + 2 ≤ z + e' - y → (E i ↔ Z (z - 1 - i)))
    (n2 : ∀ i, 0 ≤ i → 2 * i + 2 ≤ e' + y - z → (Y i ↔ E (e' - 1 - i)))
    (n3 : ∀ i, 0 ≤ i → 2 * i + 2 ≤ y + z - e' → (Z i ↔ Y (y - 1 - i)))
    (n4 : ∀ i, 0 ≤ i → 2 * i + 2 ≤ x + e' - w → (E (e' - 1 - i) ↔ X (x - 1 - i)))
    (n5 : ∀ i, 0 ≤ i → 2 * i + 2 ≤ e' + w - x → (W i ↔ E i))
    (n6 : ∀ i, 0 ≤ i → 2 * i + 2 ≤ w + x - e' → (X i ↔ W (w - 1 - i))) :
    ∃ F : Int → Prop,
      (∀ i, 0 ≤ i → 2 * i + 2 ≤ y + e - x → (F i ↔ Y (y - 1 - i))) ∧
      (∀ i, 0 ≤ i → 2 * i + 2 ≤ e + x - y → (X i ↔ F (e - 1 - i))) ∧
      (∀ i, 0 ≤ i → 2 * i + 2 ≤ x + y - e → (Y i ↔ X (x - 1 - i))) ∧
      (∀ i, 0 ≤ i → 2 * i + 2 ≤ w + e - z → (F (e - 1 - i) ↔ W (w - 1 - i))) ∧
      (∀ i, 0 ≤ i → 2 * i + 2 ≤ e + z - w → (Z i ↔ F i)) ∧
      (∀ i, 0 ≤ i → 2 * i + 2 ≤ z + w - e → (W i ↔ Z (z - 1 - i))) := by
  unfold tri at h1 h2
  have hm : (y + w ≤ x + z ∧ e' = x + z - e) ∨ (x + z ≤ y + w ∧ e' = y + w - e) := by omega
  clear he
  refine ⟨fun i => if 2 * i + 2 ≤ y + e - x then Y (y - 1 - i) else X (e - 1 - i), ?_, ?_, ?_, ?_, ?_, ?_⟩
  · intro i i0 c
    show (if _ then _ else _) ↔ _
    rw [if_pos c]
  · intro i i0 c
    show _ ↔ (if _ then _ else _)
    rw [if_neg (by omega), show e - 1 - (e - 1 - i) = i by omega]
  · intro i i0 c
    exact (n2 i i0 (by omega)).trans (n4 i i0 (by omega))
  · intro i i0 c
    show (if _ then _ else _) ↔ _
    by_cases q : 2 * (e - 1 - i) + 2 ≤ y + e - x
    · rw [if_pos q]
      have a1 := n2 (y - e + i) (by omega) (by omega)
      have a2 := n5 (w - 1 - i) (by omega) (by omega)
      rw [show e' - 1 - (y - e + i) = w - 1 - i by omega] at a1
      rw [show y - 1 - (e - 1 - i) = y - e + i by omega]
      exact a1.trans a2.symm
    · rw [if_neg q, show e - 1 - (e - 1 - i) = i by omega]
      exact n6 i i0 (by omega)
  · intro i i0 c
    show _ ↔ (if _ then _ else _)
    by_cases q : 2 * i + 2 ≤ y + e - x
    · rw [if_pos q]
      exact n3 i i0 (by omega)
    · rw [if_neg q]
      have a1 := n1 (z - 1 - i) (by omega) (by omega)
      have a2 := n4 (x - e + i) (by omega) (by omega)
      rw [show z - 1 - (z - 1 - i) = i by omega] at a1
      rw [show e' - 1 - (x - e + i) = z - 1 - i by omega, show x - 1 - (x - e + i) = e - 1 - i by omega] at a2
      exact a1.symm.trans a2
  · intro i i0 c
    exact (n5 i i0 (by omega)).trans (n1 i i0 (by omega))
/-- a strand at a slot, counted from the corner ahead: by the edge's own count -/
def BB (T : Nat → Nat) (o : Nat → Bool) (n : Nat → Int) (A : Nat → Int → Prop) (s : Nat) (i : Int) : Prop := A (T s) (if o s = true then i else n (T s) - 1 - i)
/-- closed under the arcs round corners -/
def CL (m : Nat) (T : Nat → Nat) (o : Nat → Bool) (n : Nat → Int) (A : Nat → Int → Prop) : Prop := ∀ (s : Nat) (i : Int), s < 3 * m → 0 ≤ i → 2 * i + 2 ≤ n (T (ah s)) + n (T s) - n (T (bh s)) → (BB T o n A s i ↔ BB T o n A (ah s) (n (T (ah s)) - 1 - i))
/-- the two sides of an edge run against one another -/
def OR (m : Nat) (T : Nat → Nat) (o : Nat → Bool) : Prop := ∀ s r, s < 3 * m → r < 3 * m → s ≠ r → T s = T r → o s ≠ o r
/-- all strands hang together -/
def CN (m : Nat) (T : Nat → Nat) (o : Nat → Bool) (n : Nat → Int) : Prop := ∀ A : Nat → Int → Prop, CL m T o n A → (∃ s i, s < 3 * m ∧ 0 ≤ i ∧ i < n (T s) ∧ A (T s) i) → ∀ s i, s < 3 * m → 0 ≤ i → i < n (T s) → A (T s) i
def sg (s1 s2 r1 r2 s : Nat) : Nat := if s = r1 then s1 else if s = bh r1 then ah s1 else if s = ah r1 then bh s2 else if s = r2 then s2 else if s = bh r2 then ah s2 else if s = ah r2 then bh s1 else s
section
variable {m : Nat} {T T' : Nat → Nat} {e x y z w s1 s2 r1 r2 : Nat}
theorem FLP.sgs (h : FLP m T T' e x y z w s1 s2 r1 r2) : sg s1 s2 r1 r2 r1 = s1 ∧ sg s1 s2 r1 r2 (bh r1) = ah s1 ∧ sg s1 s2 r1 r2 (ah r1) = bh s2 ∧ sg s1 s2 r1 r2 r2 = s2 ∧ sg s1 s2 r1 r2 (bh r2) = ah s2 ∧ sg s1 s2 r1 r2 (ah r2) = bh s1 ∧ ∀ s, s / 3 ≠ s1 / 3 → s / 3 ≠ s2 / 3 → sg s1 s2 r1 r2 s = s := by
  have a1 := ah_ne r1; have a2 := bh_ne r1; have a3 := ab_ne r1
  have b1 := ah_ne r2; have b2 := bh_ne r2; have b3 := ab_ne r2
  have c1 := ah_div r1; have c2 := bh_div r1; have c3 := ah_div r2; have c4 := bh_div r2
  have q1 := h.q1; have q2 := h.q2; have ne := h.ne
  unfold sg
  refine ⟨by rw [if_pos rfl], by rw [if_neg (by omega), if_pos rfl], by rw [if_neg (by omega), if_neg (by omega), if_pos rfl], by rw [if_neg (by omega), if_neg (by omega), if_neg (by omega), if_pos rfl], by rw [if_neg (by omega), if_neg (by omega), if_neg (by omega), if_neg (by omega), if_pos rfl], by rw [if_neg (by omega), if_neg (by omega), if_neg (by omega), if_neg (by omega), if_neg (by omega), if_pos rfl], ?_⟩
  intro s d1 d2
  rw [if_neg (by omega), if_neg (by omega), if_neg (by omega), if_neg (by omega), if_neg (by omega), if_neg (by omega)]
theorem FLP.sgT (h : FLP m T T' e x y z w s1 s2 r1 r2) (s : Nat) : T' s = T (sg s1 s2 r1 r2 s) := by
  obtain ⟨g1, g2, g3, g4, g5, g6, g7⟩ := h.sgs
  by_cases c1 : s / 3 = s1 / 3
  · rcases sl_eq (c1.trans h.q1.symm) with rfl | rfl | rfl
    · rw [g1, h.f1, h.e1]
    · rw [g2, h.gy, h.hy]
    · rw [g3, h.gz, h.hz]
  · by_cases c2 : s / 3 = s2 / 3
    · rcases sl_eq (c2.trans h.q2.symm) with rfl | rfl | rfl
      · rw [g4, h.f2, h.e2]
      · rw [g5, h.gw, h.hw]
      · rw [g6, h.gx, h.hx]
    · rw [g7 s c1 c2, h.ot s c1 c2]
/-- where a slot's edge comes from -/
theorem FLP.sgc (h : FLP m T T' e x y z w s1 s2 r1 r2) (s : Nat) : (s = r1 ∧ sg s1 s2 r1 r2 s = s1) ∨ (s = bh r1 ∧ sg s1 s2 r1 r2 s = ah s1) ∨ (s = ah r1 ∧ sg s1 s2 r1 r2 s = bh s2) ∨ (s = r2 ∧ sg s1 s2 r1 r2 s = s2) ∨ (s = bh r2 ∧ sg s1 s2 r1 r2 s = ah s2) ∨ (s = ah r2 ∧ sg s1 s2 r1 r2 s = bh s1) ∨ (s / 3 ≠ s1 / 3 ∧ s / 3 ≠ s2 / 3 ∧ sg s1 s2 r1 r2 s = s) := by
  obtain ⟨g1, g2, g3, g4, g5, g6, g7⟩ := h.sgs
  by_cases c1 : s / 3 = s1 / 3
  · rcases sl_eq (c1.trans h.q1.symm) with rfl | rfl | rfl
    · exact Or.inl ⟨rfl, g1⟩
    · exact Or.inr (Or.inl ⟨rfl, g2⟩)
    · exact Or.inr (Or.inr (Or.inl ⟨rfl, g3⟩))
  · by_cases c2 : s / 3 = s2 / 3
    · rcases sl_eq (c2.trans h.q2.symm) with rfl | rfl | rfl
      · exact Or.inr (Or.inr (Or.inr (Or.inl ⟨rfl, g4⟩)))
      · exact Or.inr (Or.inr (Or.inr (Or.inr (Or.inl ⟨rfl, g5⟩))))
      · exact Or.inr (Or.inr (Or.inr (Or.inr (Or.inr (Or.inl ⟨rfl, g6⟩)))))
    · exact Or.inr (Or.inr (Or.inr (Or.inr (Or.inr (Or.inr ⟨c1, c2, g7 s c1 c2⟩)))))
theorem FLP.sgl (h : FLP m T T' e x y z w s1 s2 r1 r2) {s : Nat} (hs : s < 3 * m) : sg s1 s2 r1 r2 s < 3 * m := by
  have a1 := ah_lt h.l1; have a2 := bh_lt h.l1; have a3 := ah_lt h.l2; have a4 := bh_lt h.l2; have l1 := h.l1; have l2 := h.l2
  rcases h.sgc s with q | q | q | q | q | q | q <;> omega
theorem FLP.sgi (h : FLP m T T' e x y z w s1 s2 r1 r2) {s r : Nat} (q : sg s1 s2 r1 r2 s = sg s1 s2 r1 r2 r) : s = r := by
  have a1 := ah_ne s1; have a2 := bh_ne s1; have a3 := ab_ne s1
  have b1 := ah_ne s2; have b2 := bh_ne s2; have b3 := ab_ne s2
  have c1 := ah_div s1; have c2 := bh_div s1; have c3 := ah_div s2; have c4 := bh_div s2
  have q1 := h.q1; have q2 := h.q2; have ne := h.ne
  have k1 := h.sgc s; have k2 := h.sgc r
  rcases k1 with k | k | k | k | k | k | k <;> rcases k2 with k' | k' | k' | k' | k' | k' | k' <;> omega
theorem FLP.or (h : FLP m T T' e x y z w s1 s2 r1 r2) {o : Nat → Bool} (ho : OR m T o) : OR m T' (fun s => o (sg s1 s2 r1 r2 s)) := by
  intro s r hs hr ne q
  rw [h.sgT s, h.sgT r] at q
  exact ho _ _ (h.sgl hs) (h.sgl hr) (fun k => ne (h.sgi k)) q
end
theorem BB_ne {T T' : Nat → Nat} {o o' : Nat → Bool} {n n' : Nat → Int} {A A' : Nat → Int → Prop} {s s' : Nat} {i : Int} (h1 : T' s' = T s) (h2 : o' s' = o s) (h3 : n' (T s) = n (T s)) (h4 : ∀ j, A' (T s) j ↔ A (T s) j) : BB T' o' n' A' s' i ↔ BB T o n A s i := by
  unfold BB
  rw [h1, h2, h3]
  exact h4 _
section
variable {m : Nat} {T T' : Nat → Nat} {e x y z w s1 s2 r1 r2 : Nat}
/-- a flip keeps that all strands hang together -/
theorem FLP.cn (h : FLP m T T' e x y z w s1 s2 r1 r2) {n : Nat → Int} (f : FT m T n) {o : Nat → Bool} (ho : OR m T o) (c : CN m T o n) : CN m T' (fun s => o (sg s1 s2 r1 r2 s)) (fl e x y z w n) := by
  intro A' cl ⟨s0, i0, hs0, hi0, hi1, hA0⟩
  obtain ⟨g1, g2, g3, g4, g5, g6, g7⟩ := h.sgs
  have t1 := f.2 s1 h.l1
  have t2 := f.2 s2 h.l2
  rw [h.e1, h.hx, h.hy] at t1
  rw [h.e2, h.hz, h.hw] at t2
  have vx : fl e x y z w n x = n x := fl_ne h.nx
  have vy : fl e x y z w n y = n y := fl_ne h.ny
  have vz : fl e x y z w n z = n z := fl_ne h.nz
  have vw : fl e x y z w n w = n w := fl_ne h.nw
  have ve : fl e x y z w n e = max (n x + n z) (n y + n w) - n e := fl_e
  have o12 : o s1 ≠ o s2 := ho s1 s2 h.l1 h.l2 (fun q => h.ne (by rw [q])) (h.e1.trans h.e2.symm)
  generalize hn' : fl e x y z w n = n' at *
  have hno : ∀ j, j ≠ e → n' j = n j := by intro j q; rw [← hn']; exact fl_ne q
  have p2 : ∀ i, BB T' (fun s => o (sg s1 s2 r1 r2 s)) n' A' r2 i ↔ BB T' (fun s => o (sg s1 s2 r1 r2 s)) n' A' r1 (n' e - 1 - i) := by
    intro i
    unfold BB
    rw [h.f1, h.f2]
    simp only [g1, g4]
    cases q1 : o s1 <;> cases q2 : o s2
    · exact absurd (q1.trans q2.symm) o12
    · rw [if_pos rfl, if_neg (by decide), show n' e - 1 - (n' e - 1 - i) = i by omega]
    · rw [if_neg (by decide), if_pos rfl]
    · exact absurd (q1.trans q2.symm) o12
  have c1 := fun i => cl r1 i h.L1
  have c2 := fun i => cl (bh r1) i (bh_lt h.L1)
  have c3 := fun i => cl (ah r1) i (ah_lt h.L1)
  have c4 := fun i => cl r2 i h.L2
  have c5 := fun i => cl (bh r2) i (bh_lt h.L2)
  have c6 := fun i => cl (ah r2) i (ah_lt h.L2)
  simp only [ah_bh, bh_bh, ah_ah, bh_ah, h.f1, h.f2, h.gx, h.gy, h.gz, h.gw, vx, vy, vz, vw] at c1 c2 c3 c4 c5 c6
  have n1 : ∀ i, 0 ≤ i → 2 * i + 2 ≤ n z + n' e - n y → (BB T' (fun s => o (sg s1 s2 r1 r2 s)) n' A' r1 i ↔ BB T' (fun s => o (sg s1 s2 r1 r2 s)) n' A' (ah r1) (n z - 1 - i)) := c1
  have n2 : ∀ i, 0 ≤ i → 2 * i + 2 ≤ n' e + n y - n z → (BB T' (fun s => o (sg s1 s2 r1 r2 s)) n' A' (bh r1) i ↔ BB T' (fun s => o (sg s1 s2 r1 r2 s)) n' A' r1 (n' e - 1 - i)) := c2
  have n3 : ∀ i, 0 ≤ i → 2 * i + 2 ≤ n y + n z - n' e → (BB T' (fun s => o (sg s1 s2 r1 r2 s)) n' A' (ah r1) i ↔ BB T' (fun s => o (sg s1 s2 r1 r2 s)) n' A' (bh r1) (n y - 1 - i)) := c3
  have n4 : ∀ i, 0 ≤ i → 2 * i + 2 ≤ n x + n' e - n w → (BB T' (fun s => o (sg s1 s2 r1 r2 s)) n' A' r1 (n' e - 1 - i) ↔ BB T' (fun s => o (sg s1 s2 r1 r2 s)) n' A' (ah r2) (n x - 1 - i)) := fun i a b => (p2 i).symm.trans (c4 i a b)
  have n5 : ∀ i, 0 ≤ i → 2 * i + 2 ≤ n' e + n w - n x → (BB T' (fun s => o (sg s1 s2 r1 r2 s)) n' A' (bh r2) i ↔ BB T' (fun s => o (sg s1 s2 r1 r2 s)) n' A' r1 i) := fun i a b => by
    have q := (c5 i a b).trans (p2 _)
    rw [show n' e - 1 - (n' e - 1 - i) = i by omega] at q
    exact q
  have n6 : ∀ i, 0 ≤ i → 2 * i + 2 ≤ n w + n x - n' e → (BB T' (fun s => o (sg s1 s2 r1 r2 s)) n' A' (ah r2) i ↔ BB T' (fun s => o (sg s1 s2 r1 r2 s)) n' A' (bh r2) (n w - 1 - i)) := c6
  obtain ⟨F, o1, o2, o3, o4, o5, o6⟩ := quad t1 t2 ve n1 n2 n3 n4 n5 n6
  -- the old strands
  have hA : ∃ A : Nat → Int → Prop, (∀ j i, j ≠ e → (A j i ↔ A' j i)) ∧ (∀ i, A e i ↔ if o s1 = true then F i else F (n e - 1 - i)) := by
    refine ⟨fun j i => if j = e then (if o s1 = true then F i else F (n e - 1 - i)) else A' j i, ?_, ?_⟩
    · intro j i q; show (if _ then _ else _) ↔ _; rw [if_neg q]
    · intro i; show (if _ then _ else _) ↔ _; rw [if_pos rfl]
  obtain ⟨A, hA1, hA2⟩ := hA
  have b1 : ∀ i, BB T o n A s1 i ↔ F i := by
    intro i
    unfold BB
    rw [h.e1, hA2]
    cases q : o s1
    · rw [if_neg (by decide), if_neg (by decide), show n e - 1 - (n e - 1 - i) = i by omega]
    · rw [if_pos rfl, if_pos rfl]
  have b2 : ∀ i, BB T o n A s2 i ↔ F (n e - 1 - i) := by
    intro i
    unfold BB
    rw [h.e2, hA2]
    cases q1 : o s1 <;> cases q2 : o s2
    · exact absurd (q1.trans q2.symm) o12
    · simp
    · simp
    · exact absurd (q1.trans q2.symm) o12
  have bx : ∀ i, BB T' (fun s => o (sg s1 s2 r1 r2 s)) n' A' (ah r2) i ↔ BB T o n A (bh s1) i := fun i => BB_ne (h.gx.trans h.hx.symm) (by show o (sg _ _ _ _ _) = _; rw [g6]) (by rw [h.hx]; exact vx) (fun j => by rw [h.hx]; exact (hA1 x j h.nx).symm)
  have by' : ∀ i, BB T' (fun s => o (sg s1 s2 r1 r2 s)) n' A' (bh r1) i ↔ BB T o n A (ah s1) i := fun i => BB_ne (h.gy.trans h.hy.symm) (by show o (sg _ _ _ _ _) = _; rw [g2]) (by rw [h.hy]; exact vy) (fun j => by rw [h.hy]; exact (hA1 y j h.ny).symm)
  have bz : ∀ i, BB T' (fun s => o (sg s1 s2 r1 r2 s)) n' A' (ah r1) i ↔ BB T o n A (bh s2) i := fun i => BB_ne (h.gz.trans h.hz.symm) (by show o (sg _ _ _ _ _) = _; rw [g3]) (by rw [h.hz]; exact vz) (fun j => by rw [h.hz]; exact (hA1 z j h.nz).symm)
  have bw : ∀ i, BB T' (fun s => o (sg s1 s2 r1 r2 s)) n' A' (bh r2) i ↔ BB T o n A (ah s2) i := fun i => BB_ne (h.gw.trans h.hw.symm) (by show o (sg _ _ _ _ _) = _; rw [g5]) (by rw [h.hw]; exact vw) (fun j => by rw [h.hw]; exact (hA1 w j h.nw).symm)
  have clA : CL m T o n A := by
    intro s i hs i0 k
    by_cases d1 : s / 3 = s1 / 3
    · rcases sl_eq d1 with rfl | rfl | rfl
      · rw [h.hy, h.e1, h.hx] at k
        rw [h.hy, b1, ← by']
        exact o1 i i0 k
      · rw [ah_bh, bh_bh, h.e1, h.hx, h.hy] at k
        rw [ah_bh, h.e1, b1, ← bx]
        exact o2 i i0 k
      · rw [ah_ah, bh_ah, h.hx, h.hy, h.e1] at k
        rw [ah_ah, h.hx, ← by', ← bx]
        exact o3 i i0 k
    · by_cases d2 : s / 3 = s2 / 3
      · rcases sl_eq d2 with rfl | rfl | rfl
        · rw [h.hw, h.e2, h.hz] at k
          rw [h.hw, b2, ← bw]
          exact o4 i i0 k
        · rw [ah_bh, bh_bh, h.e2, h.hz, h.hw] at k
          rw [ah_bh, h.e2, b2, ← bz, show n e - 1 - (n e - 1 - i) = i by omega]
          exact o5 i i0 k
        · rw [ah_ah, bh_ah, h.hz, h.hw, h.e2] at k
          rw [ah_ah, h.hz, ← bw, ← bz]
          exact o6 i i0 k
      · have e1 := bh_div s; have e2 := ah_div s
        have m1 := h.ot s d1 d2
        have m2 := h.ot (bh s) (by omega) (by omega)
        have m3 := h.ot (ah s) (by omega) (by omega)
        have u1 := h.no hs d1 d2
        have u2 := h.no (bh_lt hs) (show bh s / 3 ≠ s1 / 3 by omega) (by omega)
        have u3 := h.no (ah_lt hs) (show ah s / 3 ≠ s1 / 3 by omega) (by omega)
        have q := cl s i hs i0 (by rw [m1, m2, m3, hno _ u1, hno _ u2, hno _ u3]; exact k)
        rw [m3, hno _ u3] at q
        have v1 : BB T' (fun s => o (sg s1 s2 r1 r2 s)) n' A' s i ↔ BB T o n A s i := BB_ne m1 (by show o (sg _ _ _ _ _) = _; rw [g7 s d1 d2]) (hno _ u1) (fun j => (hA1 _ j u1).symm)
        have v2 : BB T' (fun s => o (sg s1 s2 r1 r2 s)) n' A' (ah s) (n (T (ah s)) - 1 - i) ↔ BB T o n A (ah s) (n (T (ah s)) - 1 - i) := BB_ne m3 (by show o (sg _ _ _ _ _) = _; rw [g7 (ah s) (by omega) (by omega)]) (hno _ u3) (fun j => (hA1 _ j u3).symm)
        exact v1.symm.trans (q.trans v2)
  -- a strand of the flipped edge and one beside it
  unfold tri at t1 t2
  have side : ∀ j, 0 ≤ j → j < n' e → (∃ k, 0 ≤ k ∧ k < n z ∧ (BB T' (fun s => o (sg s1 s2 r1 r2 s)) n' A' r1 j ↔ BB T o n A (bh s2) k)) ∨ (∃ k, 0 ≤ k ∧ k < n y ∧ (BB T' (fun s => o (sg s1 s2 r1 r2 s)) n' A' r1 j ↔ BB T o n A (ah s1) k)) := by
    intro j j0 j1
    by_cases q : 2 * j + 2 ≤ n z + n' e - n y
    · refine Or.inl ⟨n z - 1 - j, by omega, by omega, (n1 j j0 q).trans (bz _)⟩
    · refine Or.inr ⟨n' e - 1 - j, by omega, by omega, ?_⟩
      have k := n2 (n' e - 1 - j) (by omega) (by omega)
      rw [show n' e - 1 - (n' e - 1 - j) = j by omega] at k
      exact k.symm.trans (by' _)
  have toB : ∀ s k, 0 ≤ k → k < n (T s) → BB T o n A s k → ∃ i, 0 ≤ i ∧ i < n (T s) ∧ A (T s) i := by
    intro s k k0 k1 hb
    unfold BB at hb
    split at hb
    · exact ⟨k, k0, k1, hb⟩
    · exact ⟨n (T s) - 1 - k, by omega, by omega, hb⟩
  have frB : ∀ s k, 0 ≤ k → k < n (T s) → (∀ i, 0 ≤ i → i < n (T s) → A (T s) i) → BB T o n A s k := by
    intro s k k0 k1 hb
    unfold BB
    split
    · exact hb k k0 k1
    · exact hb _ (by omega) (by omega)
  have mem : ∃ s i, s < 3 * m ∧ 0 ≤ i ∧ i < n (T s) ∧ A (T s) i := by
    by_cases q : T' s0 = e
    · rw [q] at hi1 hA0
      have hE : ∃ j, 0 ≤ j ∧ j < n' e ∧ BB T' (fun s => o (sg s1 s2 r1 r2 s)) n' A' r1 j := by
        unfold BB
        rw [h.f1]
        simp only [g1]
        cases q1 : o s1
        · exact ⟨n' e - 1 - i0, by omega, by omega, by rw [if_neg (by decide), show n' e - 1 - (n' e - 1 - i0) = i0 by omega]; exact hA0⟩
        · exact ⟨i0, hi0, hi1, by rw [if_pos rfl]; exact hA0⟩
      obtain ⟨j, j0, j1, hj⟩ := hE
      rcases side j j0 j1 with ⟨k, k0, k1, hk⟩ | ⟨k, k0, k1, hk⟩
      · obtain ⟨i, a, b, d⟩ := toB (bh s2) k k0 (by rw [h.hz]; exact k1) (hk.mp hj)
        exact ⟨bh s2, i, bh_lt h.l2, a, b, d⟩
      · obtain ⟨i, a, b, d⟩ := toB (ah s1) k k0 (by rw [h.hy]; exact k1) (hk.mp hj)
        exact ⟨ah s1, i, ah_lt h.l1, a, b, d⟩
    · refine ⟨sg s1 s2 r1 r2 s0, i0, h.sgl hs0, hi0, ?_, ?_⟩
      · rw [← h.sgT, ← hno _ q]; exact hi1
      · rw [← h.sgT]; exact (hA1 _ _ q).mpr hA0
  have all := c A clA mem
  intro s i hs i0' i1'
  by_cases q : T' s = e
  · rw [q] at i1' ⊢
    have hE : ∀ j, 0 ≤ j → j < n' e → BB T' (fun s => o (sg s1 s2 r1 r2 s)) n' A' r1 j := by
      intro j j0 j1
      rcases side j j0 j1 with ⟨k, k0, k1, hk⟩ | ⟨k, k0, k1, hk⟩
      · exact hk.mpr (frB (bh s2) k k0 (by rw [h.hz]; exact k1) (fun i a b => all (bh s2) i (bh_lt h.l2) a b))
      · exact hk.mpr (frB (ah s1) k k0 (by rw [h.hy]; exact k1) (fun i a b => all (ah s1) i (ah_lt h.l1) a b))
    cases q1 : o s1
    · have := hE (n' e - 1 - i) (by omega) (by omega)
      unfold BB at this
      rw [h.f1] at this
      simp only [g1] at this
      rw [q1, if_neg (by decide), show n' e - 1 - (n' e - 1 - i) = i by omega] at this
      exact this
    · have := hE i i0' i1'
      unfold BB at this
      rw [h.f1] at this
      simp only [g1] at this
      rw [q1, if_pos rfl] at this
      exact this
  · have k := all (sg s1 s2 r1 r2 s) i (h.sgl hs) i0' (by rw [← h.sgT, ← hno _ q]; exact i1')
    rw [← h.sgT] at k
    exact (hA1 _ _ q).mp k
end
/-! a SHORT line: two pieces round it -/
def WE (m : Nat) (T : Nat → Nat) : Prop := ∀ s, s < 3 * m → ∃ s', s' < 3 * m ∧ s' ≠ s ∧ T s' = T s ∧ ∀ r, r < 3 * m → T r = T s → r = s ∨ r = s'
def CO (T : Nat → Nat) (n : Nat → Int) (u : Nat) : Prop := n (T u) = 0 ∧ n (T (bh u)) = 1 ∧ n (T (ah u)) = 1
section
variable {m : Nat} {T T' : Nat → Nat} {e x y z w s1 s2 r1 r2 : Nat}
theorem FLP.sgsur (h : FLP m T T' e x y z w s1 s2 r1 r2) (p : Nat) : ∃ s, sg s1 s2 r1 r2 s = p ∧ (p < 3 * m → s < 3 * m) := by
  obtain ⟨g1, g2, g3, g4, g5, g6, g7⟩ := h.sgs
  have l1 := h.L1; have l2 := h.L2
  by_cases c1 : p / 3 = s1 / 3
  · rcases sl_eq c1 with rfl | rfl | rfl
    · exact ⟨r1, g1, fun _ => l1⟩
    · exact ⟨ah r2, g6, fun _ => ah_lt l2⟩
    · exact ⟨bh r1, g2, fun _ => bh_lt l1⟩
  · by_cases c2 : p / 3 = s2 / 3
    · rcases sl_eq c2 with rfl | rfl | rfl
      · exact ⟨r2, g4, fun _ => l2⟩
      · exact ⟨ah r1, g3, fun _ => ah_lt l1⟩
      · exact ⟨bh r2, g5, fun _ => bh_lt l2⟩
    · exact ⟨p, g7 p c1 c2, fun q => q⟩
theorem FLP.we (h : FLP m T T' e x y z w s1 s2 r1 r2) (k : WE m T) : WE m T' := by
  intro s hs
  obtain ⟨p, hp, pn, pT, po⟩ := k (sg s1 s2 r1 r2 s) (h.sgl hs)
  obtain ⟨s', q1, q2⟩ := h.sgsur p
  refine ⟨s', q2 hp, ?_, ?_, ?_⟩
  · intro q; subst q; exact pn q1.symm
  · rw [h.sgT, h.sgT, q1, pT]
  · intro r hr q
    rw [h.sgT, h.sgT s] at q
    rcases po _ (h.sgl hr) q with k1 | k1
    · exact Or.inl (h.sgi k1)
    · exact Or.inr (h.sgi (k1.trans q1.symm))
theorem FLP.lt (h : FLP m T T' e x y z w s1 s2 r1 r2) {E : Nat} (k : ∀ s, s < 3 * m → T s < E) : ∀ s, s < 3 * m → T' s < E := by
  intro s hs
  rw [h.sgT]
  exact k _ (h.sgl hs)
end
section SH
variable {m : Nat} {T : Nat → Nat} {n : Nat → Int}
theorem co_of (f : FT m T n) (hT : ∀ s, s < 3 * m → T s < 18) (h1 : ∀ s, s < 3 * m → n (T s) ≤ 1) {s : Nat} (hs : s < 3 * m) (q : n (T s) = 1) : ∃ u, u < 3 * m ∧ u / 3 = s / 3 ∧ CO T n u ∧ (s = bh u ∨ s = ah u) := by
  have t := f.2 s hs
  have b0 := f.1 _ (hT _ (bh_lt hs)); have b1 := h1 _ (bh_lt hs)
  have a0 := f.1 _ (hT _ (ah_lt hs)); have a1 := h1 _ (ah_lt hs)
  unfold tri at t
  rw [q] at t
  by_cases k : n (T (bh s)) = 1
  · refine ⟨ah s, ah_lt hs, ah_div s, ⟨by omega, ?_, ?_⟩, Or.inl (bh_ah s).symm⟩
    · rw [bh_ah]; exact q
    · rw [ah_ah]; exact k
  · refine ⟨bh s, bh_lt hs, bh_div s, ⟨by omega, ?_, ?_⟩, Or.inr (ah_bh s).symm⟩
    · rw [bh_bh]; omega
    · rw [ah_bh]; exact q
/-- round a corner the line goes from an edge to another one -/
theorem co_ne (f : FT m T n) (hT : ∀ s, s < 3 * m → T s < 18) (h1 : ∀ s, s < 3 * m → n (T s) ≤ 1) {o : Nat → Bool} (c : CN m T o n) (we : WE m T) (hne : ∃ s r, s < 3 * m ∧ r < 3 * m ∧ n (T s) = 1 ∧ n (T r) = 1 ∧ T s ≠ T r) {u : Nat} (hu : u < 3 * m) (k : CO T n u) : T (bh u) ≠ T (ah u) := by
  intro q
  have hb := bh_lt hu; have hab := ah_lt hu
  obtain ⟨p, hp, pn, pT, po⟩ := we (bh u) hb
  have pa : ∀ r, r < 3 * m → T r = T (bh u) → r = bh u ∨ r = ah u := by
    have := po (ah u) hab q.symm
    have ne := ab_ne u
    intro r hr hq
    have := po r hr hq
    omega
  have cl : CL m T o n (fun j _ => j = T (bh u)) := by
    intro s i hs i0 kk
    unfold BB
    have s0 := f.1 _ (hT s hs); have s1 := h1 s hs
    have b0 := f.1 _ (hT _ (bh_lt hs)); have b1 := h1 _ (bh_lt hs)
    have a0 := f.1 _ (hT _ (ah_lt hs)); have a1 := h1 _ (ah_lt hs)
    have e1 : n (T s) = 1 := by omega
    have e2 : n (T (ah s)) = 1 := by omega
    obtain ⟨k0, k1, k2⟩ := k
    constructor
    · intro hq
      rcases pa s hs hq with rfl | rfl
      · rw [ah_bh] at e2; omega
      · show T (ah (ah u)) = _
        rw [ah_ah]
    · intro hq
      have hq : T (ah s) = T (bh u) := hq
      show T s = T (bh u)
      rcases pa (ah s) (ah_lt hs) hq with q2 | q2
      · have : s = ah u := by rw [← bh_ah s, q2, bh_bh]
        rw [this]; exact q.symm
      · have : s = u := by rw [← bh_ah s, q2, bh_ah]
        rw [this] at e1; omega
  obtain ⟨s, r, hs, hr, q1, q2, q3⟩ := hne
  have all := c _ cl ⟨bh u, 0, hb, by omega, by rw [k.2.1]; omega, rfl⟩
  exact q3 ((all s 0 hs (by omega) (by omega)).trans (all r 0 hr (by omega) (by omega)).symm)
theorem co_two (f : FT m T n) (hT : ∀ s, s < 3 * m → T s < 18) (h1 : ∀ s, s < 3 * m → n (T s) ≤ 1) {o : Nat → Bool} (c : CN m T o n) (we : WE m T) (hne : ∃ s r, s < 3 * m ∧ r < 3 * m ∧ n (T s) = 1 ∧ n (T r) = 1 ∧ T s ≠ T r) : ∃ u v, u < 3 * m ∧ v < 3 * m ∧ u / 3 ≠ v / 3 ∧ CO T n u ∧ CO T n v := by
  obtain ⟨s, r, hs, hr, q1, q2, q3⟩ := id hne
  obtain ⟨s', hs', sn, sT, so⟩ := we s hs
  obtain ⟨u, hu, ud, uc, us⟩ := co_of f hT h1 hs q1
  obtain ⟨v, hv, vd, vc, vs⟩ := co_of f hT h1 hs' (by rw [sT]; exact q1)
  refine ⟨u, v, hu, hv, ?_, uc, vc⟩
  intro q
  have ne := co_ne f hT h1 c we hne hu uc
  -- both in one piece: then at bh u and ah u
  have k : v = u := by
    rcases sl_eq q.symm with k | k | k
    · exact k
    · have a1 := vc.1; rw [k, uc.2.1] at a1; omega
    · have a1 := vc.1; rw [k, uc.2.2] at a1; omega
  subst k
  rcases us with us | us <;> rcases vs with vs | vs
  · exact sn (vs.trans us.symm)
  · exact ne (by rw [← us, ← vs]; exact sT.symm)
  · exact ne (by rw [← us, ← vs]; exact sT)
  · exact sn (vs.trans us.symm)
theorem co_twp (f : FT m T n) (hT : ∀ s, s < 3 * m → T s < 18) (h1 : ∀ s, s < 3 * m → n (T s) ≤ 1) {o : Nat → Bool} (c : CN m T o n) (we : WE m T) (hne : ∃ s r, s < 3 * m ∧ r < 3 * m ∧ n (T s) = 1 ∧ n (T r) = 1 ∧ T s ≠ T r)
    (h2 : ∀ s r t, s < 3 * m → r < 3 * m → t < 3 * m → n (T s) = 1 → n (T r) = 1 → n (T t) = 1 → T s = T r ∨ T s = T t ∨ T r = T t) {u v : Nat} (hu : u < 3 * m) (hv : v < 3 * m) (uv : u ≠ v) (uc : CO T n u) (vc : CO T n v) : TWP m T (T u) (T v) (T (ah u)) (T (bh u)) u v := by
  have nu := co_ne f hT h1 c we hne hu uc
  have nv := co_ne f hT h1 c we hne hv vc
  have dv : u / 3 ≠ v / 3 := by
    intro q
    rcases sl_eq q.symm with k | k | k
    · exact uv k.symm
    · have a1 := vc.1; rw [k, uc.2.1] at a1; omega
    · have a1 := vc.1; rw [k, uc.2.2] at a1; omega
  have g1 := h2 (ah u) (bh u) (bh v) (ah_lt hu) (bh_lt hu) (bh_lt hv) uc.2.2 uc.2.1 vc.2.1
  have g2 := h2 (ah u) (bh u) (ah v) (ah_lt hu) (bh_lt hu) (ah_lt hv) uc.2.2 uc.2.1 vc.2.2
  have h2' : (T (bh v) = T (ah u) ∧ T (ah v) = T (bh u)) ∨ (T (bh v) = T (bh u) ∧ T (ah v) = T (ah u)) := by omega
  refine ⟨hu, hv, dv, nu.symm, ?_, ?_, ?_, ?_, rfl, rfl, Or.inr ⟨rfl, rfl⟩, h2', ?_⟩
  · intro q; have a1 := uc.1; rw [q, uc.2.2] at a1; omega
  · intro q; have a1 := uc.1; rw [q, uc.2.1] at a1; omega
  · intro q; have a1 := vc.1; rw [q, uc.2.2] at a1; omega
  · intro q; have a1 := vc.1; rw [q, uc.2.1] at a1; omega
  · intro s hs q
    have db := bh_div u; have da := ah_div u; have eb := bh_div v; have ea := ah_div v
    rcases q with q | q
    · obtain ⟨p, hp, pn, pT, po⟩ := we (ah u) (ah_lt hu)
      rcases h2' with ⟨k1, k2⟩ | ⟨k1, k2⟩
      · have w1 := po (bh v) (bh_lt hv) k1
        have w2 := po s hs q
        rcases w2 with w2 | w2
        · left; rw [w2]; exact da
        · rcases w1 with w1 | w1
          · exact absurd (show v / 3 = u / 3 by rw [← eb, w1, da]) (fun q => dv q.symm)
          · right; rw [w2, ← w1]; exact eb
      · have w1 := po (ah v) (ah_lt hv) k2
        have w2 := po s hs q
        rcases w2 with w2 | w2
        · left; rw [w2]; exact da
        · rcases w1 with w1 | w1
          · exact absurd (show v / 3 = u / 3 by rw [← ea, w1, da]) (fun q => dv q.symm)
          · right; rw [w2, ← w1]; exact ea
    · obtain ⟨p, hp, pn, pT, po⟩ := we (bh u) (bh_lt hu)
      rcases h2' with ⟨k1, k2⟩ | ⟨k1, k2⟩
      · have w1 := po (ah v) (ah_lt hv) k2
        have w2 := po s hs q
        rcases w2 with w2 | w2
        · left; rw [w2]; exact db
        · rcases w1 with w1 | w1
          · exact absurd (show v / 3 = u / 3 by rw [← ea, w1, db]) (fun q => dv q.symm)
          · right; rw [w2, ← w1]; exact ea
      · have w1 := po (bh v) (bh_lt hv) k1
        have w2 := po s hs q
        rcases w2 with w2 | w2
        · left; rw [w2]; exact db
        · rcases w1 with w1 | w1
          · exact absurd (show v / 3 = u / 3 by rw [← eb, w1, db]) (fun q => dv q.symm)
          · right; rw [w2, ← w1]; exact eb
end SH
/-! roads: flips that lead from what FITS to what FITS and back -/
abbrev flc (cf : Nat → Nat → Nat) (i : Nat) (n : Nat → Int) : Nat → Int := fl (cf i 0) (cf i 1) (cf i 2) (cf i 3) (cf i 4) n
abbrev GRo (m : Nat) (T : Nat → Nat) (cf : Nat → Nat → Nat) (k : Nat) (G : Nat → (Nat → Int) → Prop) : Prop := (∀ n, FT m T n ↔ G 0 n) ∧ (∀ i n, i < k → G i n → G (i + 1) (flc cf i n)) ∧ (∀ i n, i < k → G (i + 1) n → G i (flc cf i n)) ∧ (∀ i n, i ≤ k → G i n → ∀ j, j < 18 → 0 ≤ n j) ∧ (∀ i n n', i ≤ k → (∀ j, j < 18 → n j = n' j) → G i n → G i n') ∧ (∀ i j, i < k → j < 5 → cf i j < 18) ∧ (∀ i j, i < k → 0 < j → j < 5 → cf i j ≠ cf i 0)
theorem GRo.g0 {m : Nat} {T : Nat → Nat} {cf : Nat → Nat → Nat} {k : Nat} {G : Nat → (Nat → Int) → Prop} (h : GRo m T cf k G) : ∀ n, FT m T n ↔ G 0 n := h.1
theorem GRo.fw {m : Nat} {T : Nat → Nat} {cf : Nat → Nat → Nat} {k : Nat} {G : Nat → (Nat → Int) → Prop} (h : GRo m T cf k G) : ∀ i n, i < k → G i n → G (i + 1) (flc cf i n) := h.2.1
theorem GRo.bw {m : Nat} {T : Nat → Nat} {cf : Nat → Nat → Nat} {k : Nat} {G : Nat → (Nat → Int) → Prop} (h : GRo m T cf k G) : ∀ i n, i < k → G (i + 1) n → G i (flc cf i n) := h.2.2.1
theorem GRo.nn {m : Nat} {T : Nat → Nat} {cf : Nat → Nat → Nat} {k : Nat} {G : Nat → (Nat → Int) → Prop} (h : GRo m T cf k G) : ∀ i n, i ≤ k → G i n → ∀ j, j < 18 → 0 ≤ n j := h.2.2.2.1
theorem GRo.cg {m : Nat} {T : Nat → Nat} {cf : Nat → Nat → Nat} {k : Nat} {G : Nat → (Nat → Int) → Prop} (h : GRo m T cf k G) : ∀ i n n', i ≤ k → (∀ j, j < 18 → n j = n' j) → G i n → G i n' := h.2.2.2.2.1
theorem GRo.cl {m : Nat} {T : Nat → Nat} {cf : Nat → Nat → Nat} {k : Nat} {G : Nat → (Nat → Int) → Prop} (h : GRo m T cf k G) : ∀ i j, i < k → j < 5 → cf i j < 18 := h.2.2.2.2.2.1
theorem GRo.cn {m : Nat} {T : Nat → Nat} {cf : Nat → Nat → Nat} {k : Nat} {G : Nat → (Nat → Int) → Prop} (h : GRo m T cf k G) : ∀ i j, i < k → 0 < j → j < 5 → cf i j ≠ cf i 0 := h.2.2.2.2.2.2
theorem FT_cg {m : Nat} {T : Nat → Nat} (hT : ∀ s, s < 3 * m → T s < 18) {n n' : Nat → Int} (h : ∀ j, j < 18 → n j = n' j) (f : FT m T n) : FT m T n' := by
  constructor
  · intro j hj; rw [← h j hj]; exact f.1 j hj
  · intro s hs
    rw [← h _ (hT s hs), ← h _ (hT _ (bh_lt hs)), ← h _ (hT _ (ah_lt hs))]
    exact f.2 s hs
/-- the road has come to the pieces Tc -/
def GX (m : Nat) (T : Nat → Nat) (cf : Nat → Nat → Nat) (k : Nat) (Tc : Nat → Nat) : Prop := ∃ G, GRo m T cf k G ∧ ∀ n, G k n ↔ FT m Tc n
theorem GX_0 {m : Nat} {T : Nat → Nat} {cf : Nat → Nat → Nat} (hT : ∀ s, s < 3 * m → T s < 18) : GX m T cf 0 T := by
  refine ⟨fun _ n => FT m T n, ⟨fun _ => Iff.rfl, fun i n h => absurd h (by omega), fun i n h => absurd h (by omega), fun i n _ f => f.1, fun i n n' _ h f => FT_cg hT h f, fun i j h => absurd h (by omega), fun i j h => absurd h (by omega)⟩, fun _ => Iff.rfl⟩
theorem GX_cg {m k : Nat} {T T1 Tc Tc1 : Nat → Nat} {cf cf1 : Nat → Nat → Nat} (h : GX m T cf k Tc) (hT : ∀ s, s < 3 * m → T1 s = T s) (hc : ∀ i j, i < k → j < 5 → cf1 i j = cf i j) (hTc : ∀ s, s < 3 * m → Tc1 s = Tc s) : GX m T1 cf1 k Tc1 := by
  have ft : ∀ {A B : Nat → Nat}, (∀ s, s < 3 * m → A s = B s) → ∀ n, FT m A n ↔ FT m B n := by
    intro A B q n
    constructor
    · intro f
      refine ⟨f.1, fun s hs => ?_⟩
      rw [← q s hs, ← q _ (bh_lt hs), ← q _ (ah_lt hs)]; exact f.2 s hs
    · intro f
      refine ⟨f.1, fun s hs => ?_⟩
      rw [q s hs, q _ (bh_lt hs), q _ (ah_lt hs)]; exact f.2 s hs
  have fe : ∀ i n, i < k → flc cf1 i n = flc cf i n := by
    intro i n hi
    unfold flc
    rw [hc i 0 hi (by omega), hc i 1 hi (by omega), hc i 2 hi (by omega), hc i 3 hi (by omega), hc i 4 hi (by omega)]
  obtain ⟨G, g, gk⟩ := h
  refine ⟨G, ⟨fun n => (ft hT n).trans (g.g0 n), ?_, ?_, g.nn, g.cg, ?_, ?_⟩, fun n => (gk n).trans (ft hTc n).symm⟩
  · intro i n hi q; rw [fe i n hi]; exact g.fw i n hi q
  · intro i n hi q; rw [fe i n hi]; exact g.bw i n hi q
  · intro i j hi hj; rw [hc i j hi hj]; exact g.cl i j hi hj
  · intro i j hi h0 hj; rw [hc i j hi hj, hc i 0 hi (by omega)]; exact g.cn i j hi h0 hj
theorem GX_s {m k : Nat} {T Tc T' : Nat → Nat} {cf : Nat → Nat → Nat} {s1 s2 r1 r2 : Nat} (h : GX m T cf k Tc) (hT : ∀ s, s < 3 * m → Tc s < 18) (f : FLP m Tc T' (cf k 0) (cf k 1) (cf k 2) (cf k 3) (cf k 4) s1 s2 r1 r2) : GX m T cf (k + 1) T' := by
  obtain ⟨G, g, gk⟩ := h
  have hT' := f.lt hT
  refine ⟨fun i n => if i ≤ k then G i n else FT m T' n, ⟨?_, ?_, ?_, ?_, ?_, ?_, ?_⟩, ?_⟩
  · intro n; show _ ↔ (if _ then _ else _); rw [if_pos (by omega)]; exact g.g0 n
  · intro i n hi q
    show (if _ then _ else _)
    have q1 : G i n := by
      have q2 : (if i ≤ k then G i n else FT m T' n) := q
      rw [if_pos (by omega)] at q2
      exact q2
    clear q
    by_cases c : i + 1 ≤ k
    · rw [if_pos c]; exact g.fw i n (by omega) q1
    · rw [if_neg c]
      have e : i = k := by omega
      subst e
      exact f.ft ((gk n).mp q1)
  · intro i n hi q
    show (if _ then _ else _)
    have q1 : (if i + 1 ≤ k then G (i + 1) n else FT m T' n) := q
    clear q
    rw [if_pos (by omega)]
    by_cases c : i + 1 ≤ k
    · rw [if_pos c] at q1; exact g.bw i n (by omega) q1
    · rw [if_neg c] at q1
      have e : i = k := by omega
      subst e
      exact (gk _).mpr (f.ft' q1)
  · intro i n hi q
    have q : (if i ≤ k then G i n else FT m T' n) := q
    by_cases c : i ≤ k
    · rw [if_pos c] at q; exact g.nn i n c q
    · rw [if_neg c] at q; exact q.1
  · intro i n n' hi hn q
    show (if _ then _ else _)
    have q : (if i ≤ k then G i n else FT m T' n) := q
    by_cases c : i ≤ k
    · rw [if_pos c] at q ⊢; exact g.cg i n n' c hn q
    · rw [if_neg c] at q ⊢; exact FT_cg hT' hn q
  · intro i j hi hj
    by_cases c : i < k
    · exact g.cl i j c hj
    · have e : i = k := by omega
      subst e
      rcases (show j = 0 ∨ j = 1 ∨ j = 2 ∨ j = 3 ∨ j = 4 by omega) with rfl | rfl | rfl | rfl | rfl
      · rw [← f.e1]; exact hT _ f.l1
      · rw [← f.hx]; exact hT _ (bh_lt f.l1)
      · rw [← f.hy]; exact hT _ (ah_lt f.l1)
      · rw [← f.hz]; exact hT _ (bh_lt f.l2)
      · rw [← f.hw]; exact hT _ (ah_lt f.l2)
  · intro i j hi h0 hj
    by_cases c : i < k
    · exact g.cn i j c h0 hj
    · have e : i = k := by omega
      subst e
      rcases (show j = 1 ∨ j = 2 ∨ j = 3 ∨ j = 4 by omega) with rfl | rfl | rfl | rfl
      · exact f.nx
      · exact f.ny
      · exact f.nz
      · exact f.nw
  · intro n; show (if _ then _ else _) ↔ _; rw [if_neg (by omega)]
/-- a fair road: at its end a twist keeps what FITS -/
def GR (m : Nat) (T : Nat → Nat) (cf : Nat → Nat → Nat) (k a b e f : Nat) : Prop := ∃ G, GRo m T cf k G ∧ (∀ n, G k n → G k (tw a b e f n)) ∧ (∀ n, G k n → G k (tw a b f e n)) ∧ a < 18 ∧ b < 18 ∧ e < 18 ∧ f < 18 ∧ a ≠ e ∧ a ≠ f ∧ b ≠ e ∧ b ≠ f ∧ e ≠ f
theorem GR_of {m k a b e f u1 u2 : Nat} {T Tc : Nat → Nat} {cf : Nat → Nat → Nat} (h : GX m T cf k Tc) (hT : ∀ s, s < 3 * m → Tc s < 18) (t : TWP m Tc a b e f u1 u2) : GR m T cf k a b e f := by
  obtain ⟨G, g, gk⟩ := h
  refine ⟨G, g, fun n q => (gk _).mpr (t.ft ((gk n).mp q)), fun n q => (gk _).mpr (t.sw.ft ((gk n).mp q)), ?_, ?_, ?_, ?_, t.ae, t.af, t.be, t.bf, t.ef⟩
  · rw [← t.ha]; exact hT _ t.l1
  · rw [← t.hb]; exact hT _ t.l2
  · rcases t.h1 with ⟨q1, q2⟩ | ⟨q1, q2⟩
    · rw [← q1]; exact hT _ (bh_lt t.l1)
    · rw [← q2]; exact hT _ (ah_lt t.l1)
  · rcases t.h1 with ⟨q1, q2⟩ | ⟨q1, q2⟩
    · rw [← q2]; exact hT _ (ah_lt t.l1)
    · rw [← q1]; exact hT _ (bh_lt t.l1)
end
section
/-! what is told: pieces by slots -/
theorem mu_fn {z : mZ} {a b i : Nat} {v : Int} (h : a ≠ b) : mu z b i v a = z a := funext fun j => mu_ne (fun q => h q.1)
theorem mu_sf {z : mZ} {a i : Nat} {v : Int} : mu z a i v a = fun j => if j = i then v else z a j := by
  funext j
  unfold mu
  by_cases q : j = i
  · rw [if_pos ⟨rfl, q⟩, if_pos q]
  · rw [if_neg (fun k => q k.2), if_neg q]
def sm (f : Nat → Int) : Nat → Int
  | 0 => 0
  | n + 1 => sm f n + f n
theorem sm_c {f g : Nat → Int} : ∀ n : Nat, (∀ j, j < n → g j = f j) → sm g n = sm f n
  | 0, _ => rfl
  | n + 1, h => by unfold sm; rw [sm_c n (fun j hj => h j (by omega)), h n (by omega)]
theorem sm_u {f g : Nat → Int} {i : Nat} (h : ∀ j, j ≠ i → g j = f j) : ∀ n : Nat, i < n → sm g n = sm f n + (g i - f i)
  | 0, hi => absurd hi (by omega)
  | n + 1, hi => by
    unfold sm
    by_cases e : i = n
    · subst e
      rw [sm_c i (fun j hj => h j (by omega))]; omega
    · rw [sm_u h n (by omega), h n (fun q => e q.symm)]; omega
theorem sm_s (f : Nat → Int) (n : Nat) : sm f (n + 1) = sm f n + f n := rfl
theorem sm_nn {f : Nat → Int} : ∀ n : Nat, (∀ j, j < n → 0 ≤ f j) → 0 ≤ sm f n
  | 0, _ => Int.le_refl 0
  | n + 1, h => by
    have h1 : 0 ≤ sm f n := sm_nn n (fun j hj => h j (by omega))
    have h2 : 0 ≤ f n := h n (by omega)
    rw [sm_s]; omega
theorem sm_le {f : Nat → Int} {k : Nat} (n : Nat) : k ≤ n → (∀ j, j < n → 0 ≤ f j) → sm f k ≤ sm f n := by
  induction n with
  | zero =>
    intro h _
    have e : k = 0 := by omega
    subst e; exact Int.le_refl _
  | succ n ih =>
    intro h h0
    by_cases e : k = n + 1
    · subst e; exact Int.le_refl _
    · have h1 := ih (by omega) (fun j hj => h0 j (by omega))
      have h2 : 0 ≤ f n := h0 n (by omega)
      rw [sm_s]; omega
theorem sm_at {f : Nat → Int} {k : Nat} (n : Nat) : k < n → (∀ j, j < n → 0 ≤ f j) → f k ≤ sm f n := by
  intro h h0
  have h1 := sm_le (f := f) (k := k + 1) n (by omega) h0
  have h2 := sm_nn (f := f) k (fun j hj => h0 j (by omega))
  rw [sm_s] at h1; omega
/-- c sides are told: how often each edge, and where -/
def PI (T tt fs ss : Nat → Int) (c : Int) : Prop := sm tt 18 = c ∧ ∀ e : Nat, e < 18 → 0 ≤ tt e ∧ tt e ≤ 2 ∧
  (tt e = 0 → ∀ s : Nat, (s : Int) < c → T s ≠ e) ∧
  (tt e = 1 → 0 ≤ fs e ∧ fs e < c ∧ T (fs e).toNat = e ∧ ∀ s : Nat, (s : Int) < c → T s = e → (s : Int) = fs e) ∧
  (tt e = 2 → 0 ≤ fs e ∧ fs e < ss e ∧ ss e < c ∧ T (fs e).toNat = e ∧ T (ss e).toNat = e ∧ ∀ s : Nat, (s : Int) < c → T s = e → (s : Int) = fs e ∨ (s : Int) = ss e)
theorem PI_n {T tt fs ss : Nat → Int} (h : ∀ e, e < 18 → tt e = 0) : PI T tt fs ss 0 := by
  constructor
  · rw [sm_c (f := fun _ => 0) (g := tt) 18 h]; decide
  · intro e he
    rw [h e he]
    exact ⟨by omega, by omega, fun _ s hs => absurd hs (by omega), fun q => absurd q (by omega), fun q => absurd q (by omega)⟩
theorem PI_0 {T tt fs ss T' tt' fs' : Nat → Int} {c : Int} {e : Nat} (h : PI T tt fs ss c) (he : e < 18) (h0 : tt e = 0) (c0 : 0 ≤ c)
    (hT : ∀ s : Nat, (s : Int) ≠ c → T' s = T s) (hTc : T' c.toNat = e) (ht : ∀ j, j ≠ e → tt' j = tt j) (hte : tt' e = 1) (hf : ∀ j, j ≠ e → fs' j = fs j) (hfe : fs' e = c) : PI T' tt' fs' ss (c + 1) := by
  obtain ⟨hs, hp⟩ := h
  constructor
  · rw [sm_u (f := tt) (g := tt') ht 18 he, hs, hte, h0]; omega
  · intro j hj
    obtain ⟨p1, p2, p3, p4, p5⟩ := hp j hj
    by_cases q : j = e
    · subst q
      rw [hte, hfe]
      refine ⟨by omega, by omega, fun k => absurd k (by omega), fun _ => ⟨c0, by omega, hTc, fun s hs2 k => ?_⟩, fun k => absurd k (by omega)⟩
      by_cases q2 : (s : Int) = c
      · exact q2
      · rw [hT s q2] at k; exact absurd k (p3 h0 s (by omega))
    · rw [ht j q, hf j q]
      have key : ∀ s : Nat, (s : Int) < c + 1 → T' s = j → (s : Int) < c ∧ T s = j := by
        intro s hs2 k
        by_cases q2 : (s : Int) = c
        · rw [show s = c.toNat by omega, hTc] at k; omega
        · rw [hT s q2] at k; exact ⟨by omega, k⟩
      refine ⟨p1, p2, fun k s hs2 k2 => ?_, fun k => ?_, fun k => ?_⟩
      · have := key s hs2 k2; exact p3 k s this.1 this.2
      · obtain ⟨a1, a2, a3, a4⟩ := p4 k
        refine ⟨a1, by omega, by rw [hT _ (by omega)]; exact a3, fun s hs2 k2 => ?_⟩
        have := key s hs2 k2; exact a4 s this.1 this.2
      · obtain ⟨a1, a2, a3, a4, a5, a6⟩ := p5 k
        refine ⟨a1, a2, by omega, by rw [hT _ (by omega)]; exact a4, by rw [hT _ (by omega)]; exact a5, fun s hs2 k2 => ?_⟩
        have := key s hs2 k2; exact a6 s this.1 this.2
theorem PI_1 {T tt fs ss T' tt' ss' : Nat → Int} {c : Int} {e : Nat} (h : PI T tt fs ss c) (he : e < 18) (h0 : tt e = 1) (c0 : 0 ≤ c)
    (hT : ∀ s : Nat, (s : Int) ≠ c → T' s = T s) (hTc : T' c.toNat = e) (ht : ∀ j, j ≠ e → tt' j = tt j) (hte : tt' e = 2) (hf : ∀ j, j ≠ e → ss' j = ss j) (hfe : ss' e = c) : PI T' tt' fs ss' (c + 1) := by
  obtain ⟨hs, hp⟩ := h
  constructor
  · rw [sm_u (f := tt) (g := tt') ht 18 he, hs, hte, h0]; omega
  · intro j hj
    obtain ⟨p1, p2, p3, p4, p5⟩ := hp j hj
    by_cases q : j = e
    · subst q
      rw [hte, hfe]
      obtain ⟨a1, a2, a3, a4⟩ := p4 h0
      refine ⟨by omega, by omega, fun k => absurd k (by omega), fun k => absurd k (by omega), fun _ => ⟨a1, a2, by omega, by rw [hT _ (by omega)]; exact a3, hTc, fun s hs2 k => ?_⟩⟩
      by_cases q2 : (s : Int) = c
      · exact Or.inr q2
      · rw [hT s q2] at k; exact Or.inl (a4 s (by omega) k)
    · rw [ht j q, hf j q]
      have key : ∀ s : Nat, (s : Int) < c + 1 → T' s = j → (s : Int) < c ∧ T s = j := by
        intro s hs2 k
        by_cases q2 : (s : Int) = c
        · rw [show s = c.toNat by omega, hTc] at k; omega
        · rw [hT s q2] at k; exact ⟨by omega, k⟩
      refine ⟨p1, p2, fun k s hs2 k2 => ?_, fun k => ?_, fun k => ?_⟩
      · have := key s hs2 k2; exact p3 k s this.1 this.2
      · obtain ⟨a1, a2, a3, a4⟩ := p4 k
        refine ⟨a1, by omega, by rw [hT _ (by omega)]; exact a3, fun s hs2 k2 => ?_⟩
        have := key s hs2 k2; exact a4 s this.1 this.2
      · obtain ⟨a1, a2, a3, a4, a5, a6⟩ := p5 k
        refine ⟨a1, a2, by omega, by rw [hT _ (by omega)]; exact a4, by rw [hT _ (by omega)]; exact a5, fun s hs2 k2 => ?_⟩
        have := key s hs2 k2; exact a6 s this.1 this.2
theorem PI_0' {T tt fs ss T' tt' fs' ss' : Nat → Int} {c : Int} {e : Nat} (h : PI T tt fs ss c) (he : e < 18) (h0 : tt e = 0) (c0 : 0 ≤ c)
    (hT : ∀ s : Nat, (s : Int) ≠ c → T' s = T s) (hTc : T' c.toNat = e) (ht : ∀ j, j ≠ e → tt' j = tt j) (hte : tt' e = 1) (hf : ∀ j, j ≠ e → fs' j = fs j) (hfe : fs' e = c) (hs : ∀ j, ss' j = ss j) : PI T' tt' fs' ss' (c + 1) := by
  rw [funext hs]
  exact PI_0 h he h0 c0 hT hTc ht hte hf hfe
theorem PI_1' {T tt fs ss T' tt' fs' ss' : Nat → Int} {c : Int} {e : Nat} (h : PI T tt fs ss c) (he : e < 18) (h0 : tt e = 1) (c0 : 0 ≤ c)
    (hT : ∀ s : Nat, (s : Int) ≠ c → T' s = T s) (hTc : T' c.toNat = e) (ht : ∀ j, j ≠ e → tt' j = tt j) (hte : tt' e = 2) (hf : ∀ j, j ≠ e → ss' j = ss j) (hfe : ss' e = c) (hs : ∀ j, fs' j = fs j) : PI T' tt' fs' ss' (c + 1) := by
  rw [funext hs]
  exact PI_1 h he h0 c0 hT hTc ht hte hf hfe
/-- a whole ground: m pieces, E edges; the edge at a slot, the slot over it, an edge's first slot -/
abbrev WT (m E : Int) (T o fs : Nat → Int) : Prop := (0 ≤ m) ∧ (2 * E = 3 * m) ∧ (m ≤ 12) ∧ (∀ s : Nat, (s : Int) < 3 * m → 0 ≤ T s ∧ T s < E) ∧ (∀ s : Nat, (s : Int) < 3 * m → 0 ≤ o s ∧ o s < 3 * m) ∧ (∀ s : Nat, (s : Int) < 3 * m → T (o s).toNat = T s) ∧ (∀ s : Nat, (s : Int) < 3 * m → o (o s).toNat = s) ∧ (∀ s : Nat, (s : Int) < 3 * m → o s ≠ s) ∧ (∀ e : Nat, (e : Int) < E → 0 ≤ fs e ∧ fs e < 3 * m ∧ T (fs e).toNat = e) ∧ (∀ s r : Nat, (s : Int) < 3 * m → (r : Int) < 3 * m → T s = T r → r = s ∨ (r : Int) = o s)
theorem WT.m0 {m E : Int} {T o fs : Nat → Int} (h : WT m E T o fs) : 0 ≤ m := h.1
theorem WT.hE {m E : Int} {T o fs : Nat → Int} (h : WT m E T o fs) : 2 * E = 3 * m := h.2.1
theorem WT.hm {m E : Int} {T o fs : Nat → Int} (h : WT m E T o fs) : m ≤ 12 := h.2.2.1
theorem WT.tE {m E : Int} {T o fs : Nat → Int} (h : WT m E T o fs) : ∀ s : Nat, (s : Int) < 3 * m → 0 ≤ T s ∧ T s < E := h.2.2.2.1
theorem WT.oL {m E : Int} {T o fs : Nat → Int} (h : WT m E T o fs) : ∀ s : Nat, (s : Int) < 3 * m → 0 ≤ o s ∧ o s < 3 * m := h.2.2.2.2.1
theorem WT.oT {m E : Int} {T o fs : Nat → Int} (h : WT m E T o fs) : ∀ s : Nat, (s : Int) < 3 * m → T (o s).toNat = T s := h.2.2.2.2.2.1
theorem WT.oo {m E : Int} {T o fs : Nat → Int} (h : WT m E T o fs) : ∀ s : Nat, (s : Int) < 3 * m → o (o s).toNat = s := h.2.2.2.2.2.2.1
theorem WT.on {m E : Int} {T o fs : Nat → Int} (h : WT m E T o fs) : ∀ s : Nat, (s : Int) < 3 * m → o s ≠ s := h.2.2.2.2.2.2.2.1
theorem WT.fL {m E : Int} {T o fs : Nat → Int} (h : WT m E T o fs) : ∀ e : Nat, (e : Int) < E → 0 ≤ fs e ∧ fs e < 3 * m ∧ T (fs e).toNat = e := h.2.2.2.2.2.2.2.2.1
theorem WT.tw {m E : Int} {T o fs : Nat → Int} (h : WT m E T o fs) : ∀ s r : Nat, (s : Int) < 3 * m → (r : Int) < 3 * m → T s = T r → r = s ∨ (r : Int) = o s := h.2.2.2.2.2.2.2.2.2
/-- glued: each edge that is told twice -/
theorem WT_of {m : Int} {T tt fs ss o : Nat → Int} (m0 : 0 ≤ m) (hm : m ≤ 12) (he : m % 2 = 0) (hT : ∀ s : Nat, (s : Int) < 3 * m → 0 ≤ T s ∧ T s ≤ 17) (p : PI T tt fs ss (3 * m)) (h2 : ∀ e : Nat, (e : Int) < m / 2 * 3 → tt e = 2) (ho : ∀ e : Nat, (e : Int) < m / 2 * 3 → o (fs e).toNat = ss e ∧ o (ss e).toNat = fs e) : WT m (m / 2 * 3) T o fs := by
  obtain ⟨hs, hp⟩ := p
  -- no other edge is told
  have tz : ∀ e : Nat, e < 18 → m / 2 * 3 ≤ (e : Int) → tt e = 0 := by
    intro e e1 e2
    have nn : ∀ j : Nat, j < 18 → 0 ≤ tt j := fun j hj => (hp j hj).1
    have k : ∀ N : Nat, (N : Int) ≤ m / 2 * 3 → N ≤ 18 → sm tt N = 2 * N := by
      intro N
      induction N with
      | zero => intro _ _; rfl
      | succ N ih =>
        intro a b
        have := ih (by omega) (by omega)
        rw [sm_s, this, h2 N (by omega)]; omega
    have k1 := k (m / 2 * 3).toNat (by omega) (by omega)
    apply Classical.byContradiction
    intro q
    have q1 := (hp e e1).1
    have k2 : ∀ N : Nat, e < N → N ≤ 18 → sm tt (m / 2 * 3).toNat + 1 ≤ sm tt N := by
      intro N
      induction N with
      | zero => intro a; omega
      | succ N ih =>
        intro a b
        rw [sm_s tt N]
        by_cases c : e = N
        · subst c
          have := sm_le (f := tt) (k := (m / 2 * 3).toNat) e (by omega) (fun j hj => nn j (by omega))
          omega
        · have := ih (by omega) (by omega)
          have := nn N (by omega)
          omega
    have := k2 18 e1 (by omega)
    omega
  have tE : ∀ s : Nat, (s : Int) < 3 * m → 0 ≤ T s ∧ T s < m / 2 * 3 := by
    intro s hs1
    have := hT s hs1
    refine ⟨this.1, ?_⟩
    apply Classical.byContradiction
    intro q
    have e1 : (T s).toNat < 18 := by omega
    have := tz (T s).toNat e1 (by omega)
    exact (hp _ e1).2.2.1 this s hs1 (by omega)
  have two : ∀ s : Nat, (s : Int) < 3 * m → (s : Int) = fs (T s).toNat ∨ (s : Int) = ss (T s).toNat := by
    intro s hs1
    have a := tE s hs1
    have := (hp (T s).toNat (by omega)).2.2.2.2 (h2 _ (by omega))
    exact this.2.2.2.2.2 s hs1 (by omega)
  have fss : ∀ e : Nat, (e : Int) < m / 2 * 3 → 0 ≤ fs e ∧ fs e < ss e ∧ ss e < 3 * m ∧ T (fs e).toNat = e ∧ T (ss e).toNat = e := by
    intro e e1
    have := (hp e (by omega)).2.2.2.2 (h2 _ e1)
    exact ⟨this.1, this.2.1, this.2.2.1, this.2.2.2.1, this.2.2.2.2.1⟩
  have os : ∀ s : Nat, (s : Int) < 3 * m → (((s : Int) = fs (T s).toNat ∧ o s = ss (T s).toNat) ∨ ((s : Int) = ss (T s).toNat ∧ o s = fs (T s).toNat)) := by
    intro s hs1
    have a := tE s hs1
    have b := ho (T s).toNat (by omega)
    rcases two s hs1 with q | q
    · left; refine ⟨q, ?_⟩
      rw [← b.1, ← q]; rfl
    · right; refine ⟨q, ?_⟩
      rw [← b.2, ← q]; rfl
  refine ⟨m0, by omega, hm, tE, ?_, ?_, ?_, ?_, ?_, ?_⟩
  · intro s hs1
    have a := tE s hs1
    have b := fss (T s).toNat (by omega)
    rcases os s hs1 with q | q <;> omega
  · intro s hs1
    have a := tE s hs1
    have b := fss (T s).toNat (by omega)
    rcases os s hs1 with q | q
    · rw [q.2, b.2.2.2.2]; omega
    · rw [q.2, b.2.2.2.1]; omega
  · intro s hs1
    have a := tE s hs1
    have b := ho (T s).toNat (by omega)
    rcases os s hs1 with q | q
    · rw [q.2, b.2]; omega
    · rw [q.2, b.1]; omega
  · intro s hs1 k
    have a := tE s hs1
    have b := fss (T s).toNat (by omega)
    rcases os s hs1 with q | q <;> omega
  · intro e e1
    have b := fss e e1
    exact ⟨b.1, by omega, b.2.2.2.1⟩
  · intro s r hs1 hr k
    rcases os s hs1 with q | q <;> rcases two r hr with q2 | q2 <;> rw [← k] at q2 <;> omega
/-- the same with numbers without sign -/
abbrev vT (f : Nat → Int) : Nat → Nat := fun s => (f s).toNat
section
variable {m E : Int} {T o fs : Nat → Int}
theorem WT.we (h : WT m E T o fs) : WE m.toNat (vT T) := by
  have m0 := h.m0
  intro s hs
  have l := h.oL s (by omega)
  refine ⟨(o s).toNat, by omega, ?_, ?_, ?_⟩
  · intro q; have := h.on s (by omega); omega
  · show (T (o s).toNat).toNat = (T s).toNat
    rw [h.oT s (by omega)]
  · intro r hr q
    have a := h.tE s (by omega); have b := h.tE r (by omega)
    have q : (T r).toNat = (T s).toNat := q
    rcases h.tw s r (by omega) (by omega) (by omega) with k | k
    · exact Or.inl k
    · right; omega
theorem WT.lt (h : WT m E T o fs) : ∀ s, s < 3 * m.toNat → vT T s < 18 := by
  have m0 := h.m0
  intro s hs
  have a := h.tE s (by omega); have := h.hE; have := h.hm
  show (T s).toNat < 18
  omega
theorem WT.or (h : WT m E T o fs) : OR m.toNat (vT T) (fun s => decide ((s : Int) = fs (T s).toNat)) := by
  have m0 := h.m0
  intro s r hs hr ne q
  have a := h.tE s (by omega); have b := h.tE r (by omega)
  have q : (T s).toNat = (T r).toNat := q
  have f := h.fL (T s).toNat (by omega)
  have k := h.tw s r (by omega) (by omega) (by omega)
  have k1 := h.tw (fs (T s).toNat).toNat s (by omega) (by omega) (by rw [f.2.2]; omega)
  have k2 := h.tw (fs (T s).toNat).toNat r (by omega) (by omega) (by rw [f.2.2]; omega)
  intro e
  have e : decide ((s : Int) = fs (T s).toNat) = decide ((r : Int) = fs (T r).toNat) := e
  rw [← q] at e
  by_cases c : (s : Int) = fs (T s).toNat
  · rw [decide_eq_true c] at e
    have := of_decide_eq_true e.symm
    omega
  · rw [decide_eq_false c] at e
    have := of_decide_eq_false e.symm
    omega
end
/-! reading: what holds of the pieces and lines told so far -/
theorem gl_s {T tt fs ss o o' : Nat → Int} {c x : Int} (p : PI T tt fs ss c) (x0 : 0 ≤ x) (x17 : x ≤ 17) (h2 : tt x.toNat = 2) (ih : ∀ e : Nat, (e : Int) < x → tt e = 2 ∧ o (fs e).toNat = ss e ∧ o (ss e).toNat = fs e) (ho : ∀ s : Nat, (s : Int) ≠ fs x.toNat → (s : Int) ≠ ss x.toNat → o' s = o s) (h1 : o' (fs x.toNat).toNat = ss x.toNat) (h3 : o' (ss x.toNat).toNat = fs x.toNat) : ∀ e : Nat, (e : Int) < x + 1 → tt e = 2 ∧ o' (fs e).toNat = ss e ∧ o' (ss e).toNat = fs e := by
  intro e he
  by_cases q : e = x.toNat
  · subst q; exact ⟨h2, h1, h3⟩
  · obtain ⟨i1, i2, i3⟩ := ih e (by omega)
    have p1 := (p.2 e (by omega)).2.2.2.2 i1
    have p2 := (p.2 x.toNat (by omega)).2.2.2.2 h2
    have d1 : (fs e).toNat ≠ (fs x.toNat).toNat := by
      intro k; have a := p1.2.2.2.1; rw [k, p2.2.2.2.1] at a; omega
    have d2 : (fs e).toNat ≠ (ss x.toNat).toNat := by
      intro k; have a := p1.2.2.2.1; rw [k, p2.2.2.2.2.1] at a; omega
    have d3 : (ss e).toNat ≠ (fs x.toNat).toNat := by
      intro k; have a := p1.2.2.2.2.1; rw [k, p2.2.2.2.1] at a; omega
    have d4 : (ss e).toNat ≠ (ss x.toNat).toNat := by
      intro k; have a := p1.2.2.2.2.1; rw [k, p2.2.2.2.2.1] at a; omega
    refine ⟨i1, ?_, ?_⟩
    · rw [ho _ (by omega) (by omega)]; exact i2
    · rw [ho _ (by omega) (by omega)]; exact i3
theorem FT_of {m : Nat} {T : Nat → Nat} {n : Nat → Int} (h0 : ∀ e, e < 18 → 0 ≤ n e) (h : ∀ q, q < m → tri (n (T (3 * q))) (n (T (3 * q + 1))) (n (T (3 * q + 2)))) : FT m T n := by
  refine ⟨h0, fun s hs => ?_⟩
  have k := h (s / 3) (by omega)
  have b := bh_cases s; have a := ah_cases s
  rcases (show s % 3 = 0 ∨ s % 3 = 1 ∨ s % 3 = 2 by omega) with q | q | q
  · rw [show bh s = 3 * (s / 3) + 1 by omega, show ah s = 3 * (s / 3) + 2 by omega]
    rw [show T s = T (3 * (s / 3)) by rw [show 3 * (s / 3) = s by omega]]
    exact k
  · rw [show bh s = 3 * (s / 3) + 2 by omega, show ah s = 3 * (s / 3) by omega]
    rw [show T s = T (3 * (s / 3) + 1) by rw [show 3 * (s / 3) + 1 = s by omega]]
    exact tri_r k
  · rw [show bh s = 3 * (s / 3) by omega, show ah s = 3 * (s / 3) + 1 by omega]
    rw [show T s = T (3 * (s / 3) + 2) by rw [show 3 * (s / 3) + 2 = s by omega]]
    exact tri_r (tri_r k)
def FTt (z : mZ) (t : Nat) (n : Nat → Int) : Prop := FT (z t 0).toNat (vT (z (t + 1))) n
def LF (z w : mZ) (t : Nat) : Prop := ∀ l : Nat, (l : Int) < z t 3 → FTt z t (w (t + 8 + l))
def WTt (z : mZ) (t : Nat) : Prop := WT (z t 0) (z t 1) (z (t + 1)) (z (t + 2)) (z (t + 5))
def RD (z w : mZ) (t : Nat) : Prop := (z 3 5 = 0 → PI (z (t + 1)) (z (t + 4)) (z (t + 5)) (z (t + 6)) (3 * z t 0) ∧ z t 3 = 0) ∧ (z 3 5 = 1 → WTt z t ∧ LF z w t)
def inD (t a i : Nat) : Prop := (a = 3 ∧ i = 5) ∨ (a = t ∧ (i = 0 ∨ i = 1 ∨ i = 3)) ∨ (t + 1 ≤ a ∧ a ≤ t + 2) ∨ (t + 4 ≤ a ∧ a ≤ t + 6) ∨ (t + 8 ≤ a ∧ a ≤ t + 15)
theorem RD_fr {S : mS} {z w z' w' : mZ} {t : Nat} (h : st_ S z w z' w') (h8 : z t 3 ≤ 8) (hs : ∀ a i, inD t a i → ¬ inS S a i) (r : RD z w t) : RD z' w' t := by
  have ez : ∀ a i, inD t a i → z' a i = z a i := fun a i q => h.2.2.1 a i (hs a i q)
  have ew : ∀ a i, inD t a i → w' a i = w a i := fun a i q => h.2.2.2 a i (hs a i q)
  have e0 : z' 3 5 = z 3 5 := ez _ _ (by unfold inD; omega)
  have e1 : z' t 0 = z t 0 := ez _ _ (by unfold inD; omega)
  have e2 : z' t 1 = z t 1 := ez _ _ (by unfold inD; omega)
  have e3 : z' t 3 = z t 3 := ez _ _ (by unfold inD; omega)
  have f1 : z' (t + 1) = z (t + 1) := funext fun i => ez _ _ (by unfold inD; omega)
  have f2 : z' (t + 2) = z (t + 2) := funext fun i => ez _ _ (by unfold inD; omega)
  have f4 : z' (t + 4) = z (t + 4) := funext fun i => ez _ _ (by unfold inD; omega)
  have f5 : z' (t + 5) = z (t + 5) := funext fun i => ez _ _ (by unfold inD; omega)
  have f6 : z' (t + 6) = z (t + 6) := funext fun i => ez _ _ (by unfold inD; omega)
  have g : ∀ l : Nat, l < 8 → w' (t + 8 + l) = w (t + 8 + l) := fun l hl => funext fun i => ew _ _ (by unfold inD; omega)
  unfold RD WTt LF FTt at *
  rw [e0, e1, e2, e3, f1, f2, f4, f5, f6]
  refine ⟨r.1, fun q => ⟨(r.2 q).1, fun l hl => ?_⟩⟩
  rw [g l (by omega)]
  exact (r.2 q).2 l hl
theorem PI_c {T tt fs ss : Nat → Int} {c c' : Int} (h : PI T tt fs ss c) (e : c = c') : PI T tt fs ss c' := e ▸ h
theorem nb_rd {w0 : mZ} {n : Nat} (h : ∀ e : Nat, e < 18 → 0 ≤ w0 n e ∧ w0 n e ≤ 100000000000000) (R : rw_ w0) {i : Nat} (hi : i < 18) : 0 ≤ w0 n i ∧ w0 n i ≤ 100000000000000 := h i hi
theorem RL_end {z w z0 w0 : mZ} {t : Nat} (r : RD z0 w0 t) (h5 : z0 3 5 = 1) (e5 : z 3 5 = z0 3 5) (e0 : z t 0 = z0 t 0) (e1 : z t 1 = z0 t 1) (e3 : z t 3 = z0 t 3 + 1) (h0 : 0 ≤ z0 t 3) (h7 : z0 t 3 ≤ 7) (f1 : z (t + 1) = z0 (t + 1)) (f2 : z (t + 2) = z0 (t + 2)) (f5 : z (t + 5) = z0 (t + 5))
    (rows : ∀ l : Nat, l < 8 → (l : Int) ≠ z0 t 3 → w (t + 8 + l) = w0 (t + 8 + l)) (new : FTt z0 t (w (t + 8 + (z0 t 3).toNat))) : RD z w t := by
  have q := r.2 h5
  unfold RD WTt LF FTt at *
  rw [e5, e0, e1, e3, f1, f2, f5]
  refine ⟨fun k => absurd k (by omega), fun _ => ⟨q.1, fun l hl => ?_⟩⟩
  by_cases c : (l : Int) = z0 t 3
  · rw [show l = (z0 t 3).toNat by omega]; exact new
  · rw [rows l (by omega) c]; exact q.2 l (by omega)
theorem FTt_fr {z z' : mZ} {t : Nat} {n : Nat → Int} (e0 : z' t 0 = z t 0) (f1 : z' (t + 1) = z (t + 1)) (h : FTt z t n) : FTt z' t n := by
  unfold FTt at *; rw [e0, f1]; exact h
end

/-! the reference reads a ground -/
def PIR (z : mZ) (c : Nat) : Prop := ∀ e : Nat, e < 18 → z 230 e = ct (z 229) e c
theorem PIR_c {z z' : mZ} {c c' : Nat} (h1 : z' 229 = z 229) (h2 : z' 230 = z 230) (hc : c' = c) (h : PIR z c) : PIR z' c' := by
  unfold PIR at *; rw [h1, h2, hc]; exact h
theorem PIR_s {z z' : mZ} {c c' : Nat} {e : Int} (h : PIR z c) (e0 : 0 ≤ e) (h230 : ∀ j : Nat, z' 230 j = if j = e.toNat then z 230 e.toNat + 1 else z 230 j) (h229 : ∀ s : Nat, z' 229 s = if s = c then e else z 229 s) (hc : c' = c + 1) : PIR z' c' := by
  intro j hj
  rw [hc, ct_s, ct_c (T := z 229) c (fun s hs => by rw [h229 s, if_neg (by omega)]), h230 j, h229 c, if_pos rfl]
  have k := h j hj
  by_cases q : j = e.toNat
  · rw [if_pos q, if_pos (by omega), ← q, k]
  · rw [if_neg q, if_neg (by omega), k]; omega
theorem PIR_0 {z : mZ} (h : ∀ e : Nat, e < 18 → z 230 e = 0) : PIR z 0 := h
abbrev nE (z : mZ) : Int := 3 * z 225 23 / 2
def WHn (z : mZ) : Prop := z 225 23 % 2 = 0 ∧ ∀ e : Nat, e < 18 → ct (z 229) e (3 * z 225 23).toNat = if (e : Int) < nE z then 2 else 0
def LFn (z : mZ) : Prop := ∀ l : Nat, (l : Int) < z 225 24 → FT (z 225 23).toNat (vT (z 229)) (tr (nE z) (fun e => z 231 (18 * l + e))) ∧ ∀ e : Nat, (e : Int) < nE z → z 231 (18 * l + e) ≤ 99
def WDn (z : mZ) : Prop := ∀ a : Nat, (a : Int) < z 225 25 → ∀ i : Nat, (i : Int) < z 234 a → z 232 (8 * a + i) < z 225 24
def RDr (z : mZ) : Prop := (z 225 24 + z 225 25 = 0 → PIR z (3 * z 225 23).toNat) ∧ (0 < z 225 24 + z 225 25 → WHn z) ∧ LFn z ∧ WDn z
theorem LY_n {z : mZ} (hz : rz z) (w : WHn z) : LY (z 225 23) (nE z) (z 229) := by
  have h23 := rd_225_23 hz
  refine LY_ct (by omega) (by omega) w.1 (fun s hs => rd_229 hz (i := s) (by omega)) (fun e he => ?_)
  have := w.2 e he
  rw [show (3 * z 225 23).toNat = 3 * (z 225 23).toNat by omega] at this
  exact this
theorem LFn_s {z z' : mZ} {n0 : Nat} (h : LFn z) (e23 : z' 225 23 = z 225 23) (e229 : z' 229 = z 229) (e24 : z' 225 24 = z 225 24 + 1) (hn : (n0 : Int) = z 225 24) (o : ∀ i : Nat, i < 18 * n0 → z' 231 i = z 231 i) (h18 : nE z ≤ 18)
    (new : FT (z 225 23).toNat (vT (z 229)) (tr (nE z) (fun e => z' 231 (18 * n0 + e)))) (n99 : ∀ e : Nat, (e : Int) < nE z → z' 231 (18 * n0 + e) ≤ 99) : LFn z' := by
  intro l hl
  unfold nE at *
  rw [e23, e229]
  by_cases c : l = n0
  · subst c; exact ⟨new, n99⟩
  · obtain ⟨h1, h2⟩ := h l (by omega)
    have f : (tr (3 * z 225 23 / 2) fun e => z' 231 (18 * l + e)) = tr (3 * z 225 23 / 2) fun e => z 231 (18 * l + e) := by
      funext e
      by_cases d : (e : Int) < 3 * z 225 23 / 2
      · rw [tr_l d, tr_l d]; exact o _ (by omega)
      · rw [tr_g (by omega), tr_g (by omega)]
    rw [f]
    exact ⟨h1, fun e he => by rw [o _ (by omega)]; exact h2 e he⟩
theorem FT_n {m : Nat} {T : Nat → Nat} {n : Nat → Int} (h0 : ∀ e, e < 18 → 0 ≤ n e) (h : ∀ q, q < m → tri (n (T (3 * q))) (n (T (3 * q + 1))) (n (T (3 * q + 2)))) : FT m T n := FT_of h0 h

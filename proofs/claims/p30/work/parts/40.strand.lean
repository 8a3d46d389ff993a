/-! strands: where they go, and what hangs together -/
abbrev oF (T fs : Nat → Int) : Nat → Bool := fun s => decide ((s : Int) = fs (T s).toNat)
def VS (m : Int) (T n : Nat → Int) (s i : Int) : Prop := 0 ≤ s ∧ s < 3 * m ∧ 0 ≤ i ∧ i < n (T s.toNat).toNat
def JN (m : Int) (T fs n : Nat → Int) (s i s' i' : Int) : Prop := ∀ A : Nat → Int → Prop, CL m.toNat (vT T) (oF T fs) n A → (BB (vT T) (oF T fs) n A s.toNat i ↔ BB (vT T) (oF T fs) n A s'.toNat i')
def JE (m : Int) (T fs n : Nat → Int) (e : Nat) (i : Int) (e' : Nat) (i' : Int) : Prop := ∀ A : Nat → Int → Prop, CL m.toNat (vT T) (oF T fs) n A → (A e i ↔ A e' i')
theorem bb_key {A : Nat → Int → Prop} {i : Int} {n : Nat → Int} {b1 b2 : Bool} (h : b1 ≠ b2) (x : Nat) : A x (if b1 = true then i else n x - 1 - i) ↔ A x (if b2 = true then n x - 1 - i else n x - 1 - (n x - 1 - i)) := by
  cases b1 <;> cases b2
  · exact absurd rfl h
  · rw [if_neg (by decide), if_pos rfl]
  · rw [if_pos rfl, if_neg (by decide), show n x - 1 - (n x - 1 - i) = i by omega]
  · exact absurd rfl h
theorem WT.oF_ne {m E : Int} {T o fs : Nat → Int} (h : WT m E T o fs) {s : Nat} (hs : (s : Int) < 3 * m) : oF T fs s ≠ oF T fs (o s).toNat := by
  have l := h.oL s hs
  have e : T (o s).toNat = T s := h.oT s hs
  have m0 := h.m0
  exact h.or s (o s).toNat (by omega) (by omega) (fun q => h.on s hs (by omega)) (by show (T s).toNat = (T (o s).toNat).toNat; rw [e])
theorem WT.ov {m E : Int} {T o fs n : Nat → Int} {A : Nat → Int → Prop} (h : WT m E T o fs) {s : Nat} {i : Int} (hs : (s : Int) < 3 * m) : BB (vT T) (oF T fs) n A s i ↔ BB (vT T) (oF T fs) n A (o s).toNat (n (vT T (o s).toNat) - 1 - i) := by
  have e2 : vT T (o s).toNat = vT T s := by show (T (o s).toNat).toNat = (T s).toNat; rw [h.oT s hs]
  unfold BB
  rw [e2]
  exact bb_key (h.oF_ne hs) _
theorem ST_ {m E : Int} {T o fs n : Nat → Int} (h : WT m E T o fs) (f : FT m.toNat (vT T) n) {s i ci ca cb b x : Int} (v : VS m T n s i) (hci : ci = n (T (o s.toNat).toNat).toNat) (hb : (o s.toNat % 3 = 0 → b = o s.toNat + 2) ∧ (o s.toNat % 3 ≠ 0 → b = o s.toNat - 1)) (hx : (o s.toNat % 3 = 2 → x = o s.toNat - 2) ∧ (o s.toNat % 3 ≠ 2 → x = o s.toNat + 1)) (hca : ca = n (T b.toNat).toNat) (hcb : cb = n (T x.toNat).toNat) :
    0 ≤ ca + ci - cb ∧ (∀ s' i' : Int, ci - 1 - i < (ca + ci - cb) / 2 → s' = b → i' = ca - 1 - (ci - 1 - i) → VS m T n s' i' ∧ JN m T fs n s i s' i') ∧ (∀ s' i' : Int, (ca + ci - cb) / 2 ≤ ci - 1 - i → s' = x → i' = ci - 1 - (ci - 1 - i) → VS m T n s' i' ∧ JN m T fs n s i s' i') := by
  obtain ⟨v1, v2, v3, v4⟩ := v
  have hs : ((s.toNat : Nat) : Int) < 3 * m := by omega
  have l := h.oL s.toNat hs
  have m0 := h.m0
  have q0 : (o s.toNat).toNat < 3 * m.toNat := by omega
  have tq := f.2 (o s.toNat).toNat q0
  have hbq : b.toNat = ah (o s.toNat).toNat := by have := ah_cases (o s.toNat).toNat; omega
  have hxq : x.toNat = bh (o s.toNat).toNat := by have := bh_cases (o s.toNat).toNat; omega
  have b0 : 0 ≤ b ∧ b < 3 * m := by have := ah_lt q0; have := ah_cases (o s.toNat).toNat; omega
  have x0 : 0 ≤ x ∧ x < 3 * m := by have := bh_lt q0; have := bh_cases (o s.toNat).toNat; omega
  have e1 : ci = n (vT T (o s.toNat).toNat) := hci
  have e2 : ca = n (vT T (ah (o s.toNat).toNat)) := by rw [hca, hbq]
  have e3 : cb = n (vT T (bh (o s.toNat).toNat)) := by rw [hcb, hxq]
  have e4 : n (T s.toNat).toNat = ci := by rw [hci, h.oT s.toNat hs]
  rw [← e1, ← e2, ← e3] at tq
  obtain ⟨t1, t2, t3, t4⟩ := tq
  refine ⟨by omega, fun s' i' k hs' hi' => ⟨⟨by omega, by omega, by omega, ?_⟩, fun A c => ?_⟩, fun s' i' k hs' hi' => ⟨⟨by omega, by omega, by omega, ?_⟩, fun A c => ?_⟩⟩
  · rw [hs', ← hca]; omega
  · have k1 := h.ov (n := n) (A := A) (i := i) hs
    have k2 := c (o s.toNat).toNat (ci - 1 - i) q0 (by omega) (by rw [← e1, ← e2, ← e3]; omega)
    rw [← e1] at k1
    rw [← e2] at k2
    rw [hs', hbq, hi']
    exact k1.trans k2
  · rw [hs', ← hcb]; omega
  · have k1 := h.ov (n := n) (A := A) (i := i) hs
    have k2 := c (bh (o s.toNat).toNat) i (bh_lt q0) v3 (by rw [ah_bh, bh_bh, ← e1, ← e2, ← e3]; omega)
    rw [ah_bh] at k2
    rw [hs', hxq, hi', show ci - 1 - (ci - 1 - i) = i by omega]
    exact k1.trans k2.symm
/-- the strand's number on its edge, from the first side -/
theorem BB_A {m E : Int} {T o fs n : Nat → Int} {A : Nat → Int → Prop} {s i k : Int} (hk : k = if s = fs (T s.toNat).toNat then i else n (T s.toNat).toNat - 1 - i) (s0 : 0 ≤ s) : BB (vT T) (oF T fs) n A s.toNat i ↔ A (T s.toNat).toNat k := by
  have e : ((s.toNat : Nat) : Int) = s := by omega
  unfold BB
  show A (T s.toNat).toNat (if decide (((s.toNat : Nat) : Int) = fs (T s.toNat).toNat) = true then i else n (T s.toNat).toNat - 1 - i) ↔ _
  rw [e, hk]
  by_cases c : s = fs (T s.toNat).toNat
  · rw [if_pos c, if_pos (decide_eq_true c)]
  · rw [if_neg c, if_neg (fun q => c (of_decide_eq_true q))]
theorem sm_inj {n : Nat → Int} (n0 : ∀ j, j < 18 → 0 ≤ n j) {e e' : Nat} {i i' : Int} (he : e < 18) (he' : e' < 18) (h0 : 0 ≤ i) (h1 : i < n e) (h0' : 0 ≤ i') (h1' : i' < n e') (q : sm n e + i = sm n e' + i') : e = e' ∧ i = i' := by
  have key : ∀ {a b : Nat} {x y : Int}, a < b → b < 18 → 0 ≤ y → x < n a → sm n a + x < sm n b + y := by
    intro a b x y hab hb hy hx
    have k := sm_le (f := n) (k := a + 1) b (by omega) (fun j hj => n0 j (by omega))
    rw [sm_s] at k; omega
  rcases Nat.lt_trichotomy e e' with c | c | c
  · have := key c he' h0' h1; omega
  · subst c; exact ⟨rfl, by omega⟩
  · have := key c he h0 h1'; omega
theorem sm_b {n : Nat → Int} (n0 : ∀ j, j < 18 → 0 ≤ n j) {e : Nat} {i : Int} (he : e < 18) (h0 : 0 ≤ i) (h1 : i < n e) : 0 ≤ sm n e + i ∧ sm n e + i < sm n 18 := by
  have k := sm_le (f := n) (k := e + 1) 18 (by omega) n0
  have k2 := sm_nn (f := n) e (fun j hj => n0 j (by omega))
  rw [sm_s] at k; omega
/-- all that were passed hang together with a strand -/
def PS (m : Int) (T fs n : Nat → Int) (P : Nat → Prop) (e0 : Nat) (i0 : Int) : Prop := ∀ e : Nat, e < 18 → ∀ i : Int, 0 ≤ i → i < n e → P (sm n e + i).toNat → JE m T fs n e i e0 i0
theorem PS_m {m : Int} {T fs n : Nat → Int} {P P' : Nat → Prop} {e0 e1 : Nat} {i0 i1 : Int} (n0 : ∀ j, j < 18 → 0 ≤ n j) (h : PS m T fs n P e0 i0) (he : e1 < 18) (h0 : 0 ≤ i1) (h1 : i1 < n e1) (j : JE m T fs n e1 i1 e0 i0) (hP : ∀ k, P' k → P k ∨ k = (sm n e1 + i1).toNat) : PS m T fs n P' e0 i0 := by
  intro e he' i hi hi' p
  rcases hP _ p with q | q
  · exact h e he' i hi hi' q
  · have b1 := sm_b n0 he h0 h1
    have b2 := sm_b n0 he' hi hi'
    obtain ⟨a, b⟩ := sm_inj n0 he' he hi hi' h0 h1 (by omega)
    subst a; subst b; exact j
def bef (e : Nat) (i x1 x2 : Int) : Prop := (e : Int) < x1 ∨ (e : Int) = x1 ∧ i < x2
def CI (m E : Int) (T fs n : Nat → Int) (P : Nat → Prop) (c x1 x2 : Int) : Prop := 0 ≤ c ∧ (c = 0 → (∀ k : Nat, (k : Int) < sm n 18 → ¬ P k) ∧ ∀ (e : Nat) (i : Int), (e : Int) < E → 0 ≤ i → i < n e → ¬ bef e i x1 x2) ∧
  (c = 1 → ∃ (e0 : Nat) (i0 : Int), (e0 : Int) < E ∧ 0 ≤ i0 ∧ i0 < n e0 ∧ PS m T fs n P e0 i0 ∧ ∀ (e : Nat) (i : Int), (e : Int) < E → 0 ≤ i → i < n e → bef e i x1 x2 → JE m T fs n e i e0 i0)
section
variable {m E : Int} {T fs n : Nat → Int} {P P' : Nat → Prop} {c c' x1 x2 : Int}
theorem CI_0 (h : ∀ k : Nat, (k : Int) < sm n 18 → ¬ P k) : CI m E T fs n P 0 0 0 := by
  refine ⟨by omega, fun _ => ⟨h, fun e i _ h0 _ b => ?_⟩, fun q => absurd q (by omega)⟩
  unfold bef at b; omega
theorem CI_p (n0 : ∀ j, j < 18 → 0 ≤ n j) (hE : E ≤ 18) (h : CI m E T fs n P c x1 x2) (a0 : 0 ≤ x1) (a1 : x1 < E) (b0 : 0 ≤ x2) (b1 : x2 < n x1.toNat) (p : P (sm n x1.toNat + x2).toNat) : CI m E T fs n P c x1 (x2 + 1) := by
  obtain ⟨c0, h0, h1⟩ := h
  have bd := sm_b n0 (e := x1.toNat) (by omega) b0 b1
  refine ⟨c0, fun q => absurd p ((h0 q).1 _ (by omega)), fun q => ?_⟩
  obtain ⟨e0, i0, k1, k2, k3, k4, k5⟩ := h1 q
  refine ⟨e0, i0, k1, k2, k3, k4, fun e i g1 g2 g3 g4 => ?_⟩
  by_cases d : bef e i x1 x2
  · exact k5 e i g1 g2 g3 d
  · unfold bef at d g4
    have e1 : e = x1.toNat := by omega
    have e2 : i = x2 := by omega
    subst e1; subst e2
    exact k4 _ (by omega) _ b0 b1 p
theorem CI_n (hE : E ≤ 18) (h : CI m E T fs n P c x1 x2) (a0 : 0 ≤ x1) (a1 : x1 < E) (b0 : 0 ≤ x2) (b1 : x2 < n x1.toNat) (hc : c' = c + 1) (n0 : ∀ j, j < 18 → 0 ≤ n j) (hP : PS m T fs n P x1.toNat x2 → PS m T fs n P' x1.toNat x2) : CI m E T fs n P' c' x1 (x2 + 1) := by
  obtain ⟨c0, h0, h1⟩ := h
  refine ⟨by omega, fun q => absurd q (by omega), fun q => ?_⟩
  obtain ⟨k1, k2⟩ := h0 (by omega)
  refine ⟨x1.toNat, x2, by omega, b0, b1, hP (fun e he i hi hi' p => absurd p (k1 _ ?_)), fun e i g1 g2 g3 g4 => ?_⟩
  · have bd := sm_b n0 he hi hi'; omega
  · have d := k2 e i g1 g2 g3
    unfold bef at d g4
    have e1 : e = x1.toNat := by omega
    have e2 : i = x2 := by omega
    subst e1; subst e2
    exact fun A _ => Iff.rfl
theorem CI_e (h : CI m E T fs n P c x1 x2) (a0 : 0 ≤ x1) (b1 : n x1.toNat ≤ x2) : CI m E T fs n P c (x1 + 1) 0 := by
  obtain ⟨c0, h0, h1⟩ := h
  have key : ∀ (e : Nat) (i : Int), 0 ≤ i → i < n e → bef e i (x1 + 1) 0 → bef e i x1 x2 := by
    intro e i g0 g1 b
    unfold bef at b ⊢
    by_cases d : (e : Int) = x1
    · right; refine ⟨d, ?_⟩
      have : e = x1.toNat := by omega
      subst this; omega
    · left; omega
  refine ⟨c0, fun q => ⟨(h0 q).1, fun e i g1 g2 g3 g4 => (h0 q).2 e i g1 g2 g3 (key e i g2 g3 g4)⟩, fun q => ?_⟩
  obtain ⟨e0, i0, k1, k2, k3, k4, k5⟩ := h1 q
  exact ⟨e0, i0, k1, k2, k3, k4, fun e i g1 g2 g3 g4 => k5 e i g1 g2 g3 (key e i g2 g3 g4)⟩
theorem CI_end {o : Nat → Int} (w : WT m E T o fs) (h : CI m E T fs n P 1 x1 x2) (a : E ≤ x1) : CN m.toNat (vT T) (oF T fs) n ∧ ∃ e : Nat, (e : Int) < E ∧ 0 < n e := by
  obtain ⟨e0, i0, k1, k2, k3, k4, k5⟩ := h.2.2 rfl
  have m0 := w.m0
  have hJ : ∀ s i, s < 3 * m.toNat → 0 ≤ i → i < n (vT T s) → JE m T fs n (vT T s) i e0 i0 := by
    intro s i hs hi hi'
    have t := w.tE s (by omega)
    exact k5 _ i (by show (((T s).toNat : Nat) : Int) < E; omega) hi hi' (Or.inl (by show (((T s).toNat : Nat) : Int) < x1; omega))
  refine ⟨fun A cl => ?_, e0, k1, by omega⟩
  rintro ⟨s, i, hs, hi, hi', ha⟩ s' i' hs' hj hj'
  exact (hJ s' i' hs' hj hj' A cl).mpr ((hJ s i hs hi hi' A cl).mp ha)
end
/-! bits -/
def pbit (v : Int) (j : Nat) : Prop := (Int64.ofInt v).toBitVec.getLsbD j = true
theorem pbit_0 (j : Nat) : ¬ pbit 0 j := by
  unfold pbit
  rw [show (Int64.ofInt 0).toBitVec = 0#64 by decide]
  simp
theorem sh_63 : ∀ b : Fin 64, ((((Int32.ofInt (b.val : Int)).toInt64 &&& 63)).toBitVec.smod 64).toNat = b.val := by decide +kernel
theorem shl_1 : ∀ b : Fin 64, (Int64.ofInt 1 <<< ((Int32.ofInt (b.val : Int)).toInt64 &&& 63)).toBitVec = BitVec.twoPow 64 b.val := by decide +kernel
theorem pbit_or {x y u b : Int} {j : Nat} (h1 : Int64.ofInt x = Int64.ofInt y ||| Int64.ofInt u) (h2 : Int64.ofInt u = Int64.ofInt 1 <<< ((Int32.ofInt b).toInt64 &&& 63)) (b0 : 0 ≤ b) (b1 : b ≤ 63) (h : pbit x j) : pbit y j ∨ j = b.toNat := by
  unfold pbit at *
  rw [h1, h2] at h
  have e := shl_1 ⟨b.toNat, by omega⟩
  have eb : ((b.toNat : Nat) : Int) = b := by omega
  dsimp only at e
  rw [eb] at e
  rw [show (Int64.ofInt y ||| Int64.ofInt 1 <<< ((Int32.ofInt b).toInt64 &&& 63)).toBitVec = (Int64.ofInt y).toBitVec ||| (Int64.ofInt 1 <<< ((Int32.ofInt b).toInt64 &&& 63)).toBitVec from rfl, e, BitVec.getLsbD_or, Bool.or_eq_true] at h
  rcases h with h | h
  · exact Or.inl h
  · right
    rw [BitVec.getLsbD_twoPow] at h
    simp at h
    omega
theorem pbit_sh {x y u b : Int} (h1 : Int64.ofInt u = Int64.ofInt y >>> ((Int32.ofInt b).toInt64 &&& 63)) (h2 : Int64.ofInt x = Int64.ofInt u &&& Int64.ofInt 1) (b0 : 0 ≤ b) (b1 : b ≤ 63) (h : ¬ x = 0) (hx : inL x) : pbit y b.toNat := by
  unfold pbit
  apply Classical.byContradiction
  intro q
  have q : (Int64.ofInt y).toBitVec.getLsbD b.toNat = false := by simpa using q
  have e := sh_63 ⟨b.toNat, by omega⟩
  have eb : ((b.toNat : Nat) : Int) = b := by omega
  dsimp only at e
  rw [eb] at e
  apply h
  have k : (Int64.ofInt x).toBitVec = 0#64 := by
    rw [h2, h1]
    show (Int64.ofInt y).toBitVec.sshiftRight ((((Int32.ofInt b).toInt64 &&& 63)).toBitVec.smod 64).toNat &&& 1#64 = 0#64
    rw [e]
    apply BitVec.eq_of_getLsbD_eq
    intro i hi
    rw [BitVec.getLsbD_and, BitVec.getLsbD_one, BitVec.getLsbD_zero]
    by_cases c : i = 0
    · subst c
      rw [BitVec.getLsbD_sshiftRight]
      rw [show b.toNat + 0 = b.toNat from rfl, q]
      simp
      omega
    · simp [c]
  have k2 : (Int64.ofInt x).toInt = 0 := by
    show (Int64.ofInt x).toBitVec.toInt = 0
    rw [k]; decide
  rw [ofL_toInt hx] at k2
  exact k2
theorem r_aLx {d k nL : Nat} {rt : Option FieldType} {Q : pm_R → Prop} {pc pc' len r1 r2 : Nat} {cst : Int} {hs : List (Nat × Nat)} {lv : pm_L} {st r : List Value} {h : pm_H} {i : Instr} {x : Int64} (h1 : pm_ins k pc = some (i, len, r1, r2, cst, hs)) (hg : pm_grp i = 0) (hp : pc + pm_aln i = pc') (ha : pm_alu i cst st = some (.long x :: r)) (w : ∀ e, inL e → Int64.ofInt e = x → wp_ d k nL rt (pc', lv, .long (Int64.ofInt e) :: r, h) Q) : wp_ d k nL rt (pc, lv, st, h) Q := by
  obtain ⟨e, e1, e2⟩ := hv_l x
  exact r_al h1 hg hp ha (e2 ▸ w e e1 e2.symm)
/-! reading -/
theorem RD_p {z w : mZ} {t : Nat} (h5 : z 3 5 = 0) (h : PI (z (t + 1)) (z (t + 4)) (z (t + 5)) (z (t + 6)) (3 * z t 0)) (h3 : z t 3 = 0) : RD z w t := ⟨fun _ => ⟨h, h3⟩, fun q => absurd q (by omega)⟩
theorem RD_c {z w : mZ} {t : Nat} (h5 : z 3 5 = 1) (h : WTt z t) (h3 : z t 3 = 0) : RD z w t := ⟨fun q => absurd q (by omega), fun _ => ⟨h, fun l hl => absurd hl (by omega)⟩⟩
/-! the class's tracer -/
def TL (z : mZ) (t : Nat) : Prop := FTt z t (z 7) ∧ (∀ e : Nat, e < 18 → z 6 e = sm (z 7) e) ∧ z 4 8 = sm (z 7) 18
abbrev VSt (z0 : mZ) (t : Nat) (s i : Int) : Prop := VS (z0 t 0) (z0 (t + 1)) (z0 7) s i
abbrev JNt (z0 : mZ) (t : Nat) (s i s' i' : Int) : Prop := JN (z0 t 0) (z0 (t + 1)) (z0 (t + 5)) (z0 7) s i s' i'
def JC (m : Int) (T fs n : Nat → Int) (s i : Int) (e0 : Nat) (i0 : Int) : Prop := ∀ A : Nat → Int → Prop, CL m.toNat (vT T) (oF T fs) n A → (BB (vT T) (oF T fs) n A s.toNat i ↔ A e0 i0)
abbrev JCt (z0 : mZ) (t : Nat) (s i : Int) (e0 : Nat) (i0 : Int) : Prop := JC (z0 t 0) (z0 (t + 1)) (z0 (t + 5)) (z0 7) s i e0 i0
theorem SN_ {z : mZ} {t : Nat} (hw : WTt z t) (hl : TL z t) {s i k : Int} (v : VSt z t s i) (hk : k = if s = z (t + 5) (z (t + 1) s.toNat).toNat then i else z 7 (z (t + 1) s.toNat).toNat - 1 - i) :
    z 6 (z (t + 1) s.toNat).toNat = sm (z 7) (z (t + 1) s.toNat).toNat ∧ 0 ≤ k ∧ k < z 7 (z (t + 1) s.toNat).toNat ∧ 0 ≤ z 6 (z (t + 1) s.toNat).toNat + k ∧ z 6 (z (t + 1) s.toNat).toNat + k < z 4 8 ∧ (z (t + 1) s.toNat).toNat < 18 ∧
      ∀ A : Nat → Int → Prop, BB (vT (z (t + 1))) (oF (z (t + 1)) (z (t + 5))) (z 7) A s.toNat i ↔ A (z (t + 1) s.toNat).toNat k := by
  obtain ⟨v1, v2, v3, v4⟩ := v
  have te := WT.tE hw s.toNat (by omega)
  have hm := WT.hm hw; have hE := WT.hE hw
  have e18 : (z (t + 1) s.toNat).toNat < 18 := by omega
  have e6 := hl.2.1 _ e18
  have kk : 0 ≤ k ∧ k < z 7 (z (t + 1) s.toNat).toNat := by
    rw [hk]; split <;> omega
  have b := sm_b (n := z 7) hl.1.1 e18 kk.1 kk.2
  have h8 := hl.2.2
  exact ⟨e6, kk.1, kk.2, by omega, by omega, e18, fun A => BB_A (m := z t 0) (E := z t 1) (o := z (t + 2)) hk v1⟩
def PB (w : mZ) : Nat → Prop := fun k => pbit (w 5 (k / 64)) (k % 64)
theorem PB_w {w w' : mZ} {v x u : Int} (hq : w' = mu w 5 (v / 64).toNat x) (h38 : Int64.ofInt x = Int64.ofInt (w 5 (v / 64).toNat) ||| Int64.ofInt u) (h37 : Int64.ofInt u = Int64.ofInt 1 <<< ((Int32.ofInt (v % 64)).toInt64 &&& 63)) (v0 : 0 ≤ v) : ∀ k, PB w' k → PB w k ∨ k = v.toNat := by
  intro k p
  unfold PB at *
  rw [hq] at p
  by_cases c : k / 64 = (v / 64).toNat
  · rw [c, mu_eq] at p
    rcases pbit_or h38 h37 (by omega) (by omega) p with q | q
    · left; rw [c]; exact q
    · right; omega
  · rw [mu_ne (by omega)] at p
    exact Or.inl p
theorem PB_r {w : mZ} {v x u : Int} (h13 : Int64.ofInt u = Int64.ofInt (w 5 (v / 64).toNat) >>> ((Int32.ofInt (v % 64)).toInt64 &&& 63)) (h15 : Int64.ofInt x = Int64.ofInt u &&& Int64.ofInt 1) (v0 : 0 ≤ v) (hx : ¬ x = 0) (hi : inL x) : PB w v.toNat := by
  have p := pbit_sh h13 h15 (by omega) (by omega) hx hi
  unfold PB
  rw [show v.toNat / 64 = (v / 64).toNat by omega, show v.toNat % 64 = (v % 64).toNat by omega]
  exact p
theorem PB_0 {w : mZ} {n : Int} (h : ∀ j : Nat, (j : Int) ≤ n / 64 → w 5 j = 0) : ∀ k : Nat, (k : Int) < n → ¬ PB w k := by
  intro k hk p
  unfold PB at p
  rw [h (k / 64) (by omega)] at p
  exact pbit_0 _ p
theorem PB_c {w w' : mZ} (h : ∀ j, w' 5 j = w 5 j) {k : Nat} (p : PB w' k) : PB w k := by
  unfold PB at *; rw [← h]; exact p
theorem PS_c {m : Int} {T fs n : Nat → Int} {P P' : Nat → Prop} {e0 : Nat} {i0 : Int} (h : ∀ k, P' k → P k) (p : PS m T fs n P e0 i0) : PS m T fs n P' e0 i0 := fun e he i hi hi' q => p e he i hi hi' (h _ q)
theorem VS_0 {z : mZ} {t : Nat} (hw : WTt z t) {e : Nat} (he : (e : Int) < z t 1) {s i : Int} (hs : s = z (t + 5) e) (h0 : 0 ≤ i) (h1 : i < z 7 e) : VSt z t s i := by
  have f := WT.fL hw e he
  refine ⟨by omega, by omega, h0, ?_⟩
  rw [hs, f.2.2]; exact h1
theorem JC_0 {z : mZ} {t : Nat} (hw : WTt z t) {e : Nat} (he : (e : Int) < z t 1) {s i : Int} (hs : s = z (t + 5) e) : JCt z t s i e i := by
  have f := WT.fL hw e he
  intro A _
  have e1 : (z (t + 1) s.toNat).toNat = e := by rw [hs, f.2.2]; omega
  have k := BB_A (m := z t 0) (E := z t 1) (o := z (t + 2)) (A := A) (T := z (t + 1)) (fs := z (t + 5)) (n := z 7) (s := s) (i := i) (k := i) (by rw [e1, if_pos hs]) (by omega)
  rw [e1] at k; exact k
theorem TL_of {z z0 w0 : mZ} {t n : Nat} (hw : WTt z0 t) (hft : FTt z0 t (w0 n)) (h0 : z t 0 = z0 t 0) (h1 : z (t + 1) = z0 (t + 1)) (a : ∀ e : Nat, e < 18 → z 7 e = w0 n e ∧ z 6 e = sm (w0 n) e) (b : z 4 8 = sm (w0 n) 18) : TL z t := by
  have c : ∀ k, k ≤ 18 → sm (z 7) k = sm (w0 n) k := fun k hk => sm_c k (fun j hj => (a j (by omega)).1)
  refine ⟨?_, fun e he => by rw [(a e he).2, c e (by omega)], by rw [b, c 18 (by omega)]⟩
  unfold FTt at *
  rw [h0, h1]
  exact FT_cg (WT.lt hw) (fun j hj => ((a j hj).1).symm) hft

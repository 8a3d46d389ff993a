/-! the class's tracer, step by step -/
theorem pbit_o2 {x y u b : Int} {j : Nat} (h1 : Int64.ofInt x = Int64.ofInt y ||| Int64.ofInt u) (h2 : Int64.ofInt u = Int64.ofInt 1 <<< ((Int32.ofInt b).toInt64 &&& 63)) (b0 : 0 ≤ b) (b1 : b ≤ 63) (h : pbit y j ∨ j = b.toNat) : pbit x j := by
  unfold pbit at *
  rw [h1, h2]
  have e := shl_1 ⟨b.toNat, by omega⟩
  have eb : ((b.toNat : Nat) : Int) = b := by omega
  dsimp only at e
  rw [eb] at e
  rw [show (Int64.ofInt y ||| Int64.ofInt 1 <<< ((Int32.ofInt b).toInt64 &&& 63)).toBitVec = (Int64.ofInt y).toBitVec ||| (Int64.ofInt 1 <<< ((Int32.ofInt b).toInt64 &&& 63)).toBitVec from rfl, e, BitVec.getLsbD_or, Bool.or_eq_true]
  rcases h with h | h
  · exact Or.inl h
  · right
    subst h
    rw [BitVec.getLsbD_twoPow]
    simp
    omega
theorem pbit_s2 {x y u b : Int} (h1 : Int64.ofInt u = Int64.ofInt y >>> ((Int32.ofInt b).toInt64 &&& 63)) (h2 : Int64.ofInt x = Int64.ofInt u &&& Int64.ofInt 1) (b0 : 0 ≤ b) (b1 : b ≤ 63) (p : pbit y b.toNat) : ¬ x = 0 := by
  unfold pbit at p
  intro h
  subst h
  have e := sh_63 ⟨b.toNat, by omega⟩
  have eb : ((b.toNat : Nat) : Int) = b := by omega
  dsimp only at e
  rw [eb] at e
  have k : (Int64.ofInt 0).toBitVec = (Int64.ofInt y).toBitVec.sshiftRight b.toNat &&& 1#64 := by
    rw [h2, h1]
    show (Int64.ofInt y).toBitVec.sshiftRight ((((Int32.ofInt b).toInt64 &&& 63)).toBitVec.smod 64).toNat &&& 1#64 = _
    rw [e]
  have k2 := congrArg (fun z => BitVec.getLsbD z 0) k
  rw [BitVec.getLsbD_and, BitVec.getLsbD_sshiftRight, show b.toNat + 0 = b.toNat from rfl, p, show (Int64.ofInt 0).toBitVec = 0#64 by decide] at k2
  have hb : b.toNat < 64 := by omega
  simp [hb] at k2
theorem PB_i {w w' : mZ} {v x u : Int} (hq : w' = mu w 5 (v / 64).toNat x) (h38 : Int64.ofInt x = Int64.ofInt (w 5 (v / 64).toNat) ||| Int64.ofInt u) (h37 : Int64.ofInt u = Int64.ofInt 1 <<< ((Int32.ofInt (v % 64)).toInt64 &&& 63)) (v0 : 0 ≤ v) : ∀ k, PB w' k ↔ PB w k ∨ k = v.toNat := by
  intro k
  refine ⟨PB_w hq h38 h37 v0 k, fun p => ?_⟩
  unfold PB at *
  rw [hq]
  by_cases c : k / 64 = (v / 64).toNat
  · rw [c, mu_eq]
    refine pbit_o2 h38 h37 (by omega) (by omega) ?_
    rcases p with p | p
    · left; rw [c] at p; exact p
    · right; omega
  · rw [mu_ne (by omega)]
    rcases p with p | p
    · exact p
    · exfalso; omega
theorem PB_s {w : mZ} {v x u : Int} (h13 : Int64.ofInt u = Int64.ofInt (w 5 (v / 64).toNat) >>> ((Int32.ofInt (v % 64)).toInt64 &&& 63)) (h15 : Int64.ofInt x = Int64.ofInt u &&& Int64.ofInt 1) (v0 : 0 ≤ v) (p : PB w v.toNat) : ¬ x = 0 := by
  unfold PB at p
  rw [show v.toNat / 64 = (v / 64).toNat by omega, show v.toNat % 64 = (v % 64).toNat by omega] at p
  exact pbit_s2 h13 h15 (by omega) (by omega) p
theorem PB_e {w w' : mZ} (h : ∀ j, w' 5 j = w 5 j) (k : Nat) : PB w' k ↔ PB w k := by
  unfold PB; rw [h]
abbrev cuc (z : mZ) : Nat × Int := ((z 4 9).toNat, z 4 10)
theorem VS_vd {m : Int} {T n : Nat → Int} {s i : Int} (v : VS m T n s i) : vd m T n (s.toNat, i) := ⟨by have := v.1; have := v.2.1; show ((s.toNat : Nat) : Int) < 3 * m; omega, v.2.2.1, v.2.2.2⟩
theorem SF_ {m E : Int} {T o fs n : Nat → Int} (h : WT m E T o fs) {s i ci ca cb b x : Int} (v : VS m T n s i) (hci : ci = n (T (o s.toNat).toNat).toNat) (hb : (o s.toNat % 3 = 0 → b = o s.toNat + 2) ∧ (o s.toNat % 3 ≠ 0 → b = o s.toNat - 1)) (hx : (o s.toNat % 3 = 2 → x = o s.toNat - 2) ∧ (o s.toNat % 3 ≠ 2 → x = o s.toNat + 1)) (hca : ca = n (T b.toNat).toNat) (hcb : cb = n (T x.toNat).toNat) :
    (∀ s' i' : Int, ci - 1 - i < (ca + ci - cb) / 2 → s' = b → i' = ca - 1 - (ci - 1 - i) → (s'.toNat, i') = gg T n (vv T o n (s.toNat, i)) ∧ hdx T o n (s.toNat, i)) ∧ (∀ s' i' : Int, (ca + ci - cb) / 2 ≤ ci - 1 - i → s' = x → i' = ci - 1 - (ci - 1 - i) → (s'.toNat, i') = gg T n (vv T o n (s.toNat, i)) ∧ ¬ hdx T o n (s.toNat, i)) := by
  obtain ⟨v1, v2, v3, v4⟩ := v
  have hs : ((s.toNat : Nat) : Int) < 3 * m := by omega
  have l := h.oL s.toNat hs
  have hbq : b.toNat = ah (o s.toNat).toNat := by have := ah_cases (o s.toNat).toNat; omega
  have hxq : x.toNat = bh (o s.toNat).toNat := by have := bh_cases (o s.toNat).toNat; omega
  have e1 : n (vT T (o s.toNat).toNat) = ci := hci.symm
  have e2 : n (vT T (ah (o s.toNat).toNat)) = ca := by rw [hca, hbq]
  have e3 : n (vT T (bh (o s.toNat).toNat)) = cb := by rw [hcb, hxq]
  have e4 : n (vT T s.toNat) = ci := by show n (T s.toNat).toNat = ci; rw [hci, h.oT s.toNat hs]
  have ev : vv T o n (s.toNat, i) = ((o s.toNat).toNat, ci - 1 - i) := by
    show ((o s.toNat).toNat, n (vT T s.toNat) - 1 - i) = _
    rw [e4]
  have eh : hdx T o n (s.toNat, i) ↔ ci - 1 - i < (ca + ci - cb) / 2 := by
    unfold hdx hcx
    rw [ev]
    show ci - 1 - i < (n (vT T (ah (o s.toNat).toNat)) + n (vT T (o s.toNat).toNat) - n (vT T (bh (o s.toNat).toNat))) / 2 ↔ _
    rw [e1, e2, e3]
  have eg : gg T n (vv T o n (s.toNat, i)) = if ci - 1 - i < (ca + ci - cb) / 2 then (b.toNat, ca - 1 - (ci - 1 - i)) else (x.toNat, ci - 1 - (ci - 1 - i)) := by
    rw [ev]
    show (if ci - 1 - i < (n (vT T (ah (o s.toNat).toNat)) + n (vT T (o s.toNat).toNat) - n (vT T (bh (o s.toNat).toNat))) / 2 then (ah (o s.toNat).toNat, n (vT T (ah (o s.toNat).toNat)) - 1 - (ci - 1 - i)) else (bh (o s.toNat).toNat, n (vT T (o s.toNat).toNat) - 1 - (ci - 1 - i))) = _
    rw [e1, e2, e3, hbq, hxq]
  constructor
  · intro s' i' c h1 h2
    rw [eg, if_pos c, h1, h2]
    exact ⟨rfl, eh.mpr c⟩
  · intro s' i' c h1 h2
    rw [eg, if_neg (by omega), h1, h2]
    exact ⟨rfl, fun q => absurd (eh.mp q) (by omega)⟩
theorem NC_ {z : mZ} {t : Nat} (hl : TL z t) {s i k : Int} (s0 : 0 ≤ s) (he : (z (t + 1) s.toNat).toNat < 18) (hk : k = if s = z (t + 5) (z (t + 1) s.toNat).toNat then i else z 7 (z (t + 1) s.toNat).toNat - 1 - i) : z 6 (z (t + 1) s.toNat).toNat + k = nu (z (t + 1)) (z (t + 5)) (z 7) (s.toNat, i) := by
  rw [hl.2.1 _ he, hk]
  show _ = sm (z 7) (z (t + 1) s.toNat).toNat + (if ((s.toNat : Nat) : Int) = z (t + 5) (z (t + 1) s.toNat).toNat then i else z 7 (z (t + 1) s.toNat).toNat - 1 - i)
  rw [show ((s.toNat : Nat) : Int) = s by omega]
/-- not back after all strands: that cannot be -/
theorem CK_x {m E : Int} {T o fs n : Nat → Int} (h : WT m E T o fs) (f : FT m.toNat (vT T) n) {x c : Nat × Int} (v : vd m T n x) {P0 P : Nat → Prop} {K : Nat} (k : CK T o fs n x P0 P K c) (nb : K = 0 ∨ c ≠ x) (hK : sm n 18 ≤ K) : False := by
  obtain ⟨k1, k2, k3⟩ := k
  have q := tk_n h f v (k := K + 1) (fun j h1 h2 => by
    by_cases d : j < K
    · exact k2 j h1 d
    · rw [show j = K by omega, ← k1]
      exact nb.resolve_left (by omega))
  omega
/-! the reference's -/
theorem GTh {z : mZ} (h : RW z) (f : FT (z 225 26).toNat (vT (z 235)) (nR z)) {s i a near : Int} (v : vdR z (s.toNat, i)) (ha : a.toNat = ah s.toNat) (hn : 0 ≤ z 243 (z 235 a.toNat).toNat + z 243 (z 235 (bh a.toNat)).toNat - z 243 (z 235 (ah a.toNat)).toNat → near = (z 243 (z 235 a.toNat).toNat + z 243 (z 235 (bh a.toNat)).toNat - z 243 (z 235 (ah a.toNat)).toNat) / 2) : hcx (z 235) (nR z) (s.toNat, i) ↔ i < near := by
  have m0 := WT.m0 h
  have v1 : ((s.toNat : Nat) : Int) < 3 * z 225 26 := v.1
  have hs : s.toNat < 3 * (z 225 26).toNat := by omega
  have la := ah_lt hs; have lb := bh_lt hs
  have e1 := nR_T h (s := s.toNat) (by omega)
  have e2 := nR_T h (s := ah s.toNat) (by omega)
  have e3 := nR_T h (s := bh s.toNat) (by omega)
  obtain ⟨t1, t2, t3, t4⟩ := f.2 s.toNat hs
  rw [ha, bh_ah, ah_ah, ← e1, ← e2, ← e3] at hn
  have hn := hn (by omega)
  unfold hcx
  show i < (nR z (vT (z 235) (ah s.toNat)) + nR z (vT (z 235) s.toNat) - nR z (vT (z 235) (bh s.toNat))) / 2 ↔ i < near
  rw [hn]
theorem WP_i {z z' : mZ} {v : Int} (hq : z' = mu z 245 v.toNat 1) : ∀ k, WP z' k ↔ WP z k ∨ k = v.toNat := by
  intro k
  unfold WP
  rw [hq]
  by_cases c : k = v.toNat
  · subst c
    rw [mu_eq]
    exact ⟨fun _ => Or.inr rfl, fun _ => by omega⟩
  · rw [mu_ne (by omega)]
    exact ⟨Or.inl, fun q => q.resolve_right c⟩
theorem WP_e {z z' : mZ} (h : z' 245 = z 245) (k : Nat) : WP z' k ↔ WP z k := by unfold WP; rw [h]

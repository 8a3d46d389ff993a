/-! the reference: its ground and its strands -/
abbrev rE (z : mZ) : Int := 3 * z 225 26 / 2
def RW (z : mZ) : Prop := WT (z 225 26) (rE z) (z 235) (z 240) (z 241)
def tr (E : Int) (f : Nat → Int) : Nat → Int := fun e => if (e : Int) < E then f e else 0
theorem tr_l {E : Int} {f : Nat → Int} {e : Nat} (h : (e : Int) < E) : tr E f e = f e := if_pos h
theorem tr_g {E : Int} {f : Nat → Int} {e : Nat} (h : E ≤ (e : Int)) : tr E f e = 0 := if_neg (by omega)
abbrev nR (z : mZ) : Nat → Int := tr (rE z) (z 243)
def RLd (z : mZ) : Prop := FT (z 225 26).toNat (vT (z 235)) (nR z) ∧ (∀ e : Nat, (e : Int) ≤ rE z → z 244 e = sm (nR z) e) ∧ sm (nR z) 18 ≤ 18000
abbrev cu (z : mZ) : Nat × Int := ((z 225 38).toNat, z 225 39)
abbrev vdR (z : mZ) (x : Nat × Int) : Prop := vd (z 225 26) (z 235) (nR z) x
theorem nR_T {z : mZ} (h : RW z) {s : Nat} (hs : (s : Int) < 3 * z 225 26) : nR z (vT (z 235) s) = z 243 (z 235 s).toNat := tr_l (by have := WT.tE h s hs; show (((z 235 s).toNat : Nat) : Int) < _; omega)
theorem GO_ {z : mZ} (h : RW z) {s i s' i' c : Int} (v : vdR z (s.toNat, i)) (hc : c = z 243 (z 235 s.toNat).toNat) (hs : s' = z 240 s.toNat) (hi : i' = c - 1 - i) : (s'.toNat, i') = vv (z 235) (z 240) (nR z) (s.toNat, i) := by
  have k := nR_T h (s := s.toNat) v.1
  unfold vv
  refine Prod.ext (by show s'.toNat = (z 240 s.toNat).toNat; rw [hs]) ?_
  show i' = nR z (vT (z 235) s.toNat) - 1 - i
  rw [k, hi, hc]
theorem GT_ {z : mZ} (h : RW z) (f : FT (z 225 26).toNat (vT (z 235)) (nR z)) {s i a near : Int} (v : vdR z (s.toNat, i)) (ha : a.toNat = ah s.toNat) (hn : 0 ≤ z 243 (z 235 a.toNat).toNat + z 243 (z 235 (bh a.toNat)).toNat - z 243 (z 235 (ah a.toNat)).toNat → near = (z 243 (z 235 a.toNat).toNat + z 243 (z 235 (bh a.toNat)).toNat - z 243 (z 235 (ah a.toNat)).toNat) / 2) :
    (∀ s' i' : Int, i < near → s'.toNat = a.toNat → i' = z 243 (z 235 a.toNat).toNat - 1 - i → (s'.toNat, i') = gg (z 235) (nR z) (s.toNat, i)) ∧ (∀ s' i' : Int, near ≤ i → s'.toNat = bh s.toNat → i' = z 243 (z 235 s.toNat).toNat - 1 - i → (s'.toNat, i') = gg (z 235) (nR z) (s.toNat, i)) := by
  have m0 := WT.m0 h
  have v1 : ((s.toNat : Nat) : Int) < 3 * z 225 26 := v.1
  have hs : s.toNat < 3 * (z 225 26).toNat := by omega
  have la := ah_lt hs; have lb := bh_lt hs
  have e1 := nR_T h (s := s.toNat) (by omega)
  have e2 := nR_T h (s := ah s.toNat) (by omega)
  have e3 := nR_T h (s := bh s.toNat) (by omega)
  obtain ⟨t1, t2, t3, t4⟩ := f.2 s.toNat hs
  rw [ha, bh_ah, ah_ah, ← e1, ← e2, ← e3] at hn
  have hn := hn (by omega)
  constructor
  · intro s' i' c d e
    unfold gg
    show _ = if i < (nR z (vT (z 235) (ah s.toNat)) + nR z (vT (z 235) s.toNat) - nR z (vT (z 235) (bh s.toNat))) / 2 then (ah s.toNat, nR z (vT (z 235) (ah s.toNat)) - 1 - i) else (bh s.toNat, nR z (vT (z 235) s.toNat) - 1 - i)
    rw [if_pos (by omega)]
    exact Prod.ext (by show s'.toNat = _; rw [d, ha]) (by show i' = _; rw [e, ha, e2])
  · intro s' i' c d e
    unfold gg
    show _ = if i < (nR z (vT (z 235) (ah s.toNat)) + nR z (vT (z 235) s.toNat) - nR z (vT (z 235) (bh s.toNat))) / 2 then (ah s.toNat, nR z (vT (z 235) (ah s.toNat)) - 1 - i) else (bh s.toNat, nR z (vT (z 235) s.toNat) - 1 - i)
    rw [if_neg (by omega)]
    exact Prod.ext (by show s'.toNat = _; rw [d]) (by show i' = _; rw [e, e1])
/-- a step hangs together with where it came from -/
theorem gv_J {m E : Int} {T o fs n : Nat → Int} (h : WT m E T o fs) (f : FT m.toNat (vT T) n) {x y : Nat × Int} (v : vd m T n x) (hy : y = gg T n (vv T o n x)) : vd m T n y ∧ JN m T fs n x.1 x.2 y.1 y.2 := by
  obtain ⟨s, i⟩ := x
  have v' := v
  obtain ⟨v1, v2, v3⟩ := v
  have v1 : (s : Int) < 3 * m := v1
  have v2 : 0 ≤ i := v2
  have v3 : i < n (vT T s) := v3
  have l := h.oL s v1
  have e : vT T (o s).toNat = vT T s := by show (T (o s).toNat).toNat = (T s).toNat; rw [h.oT s v1]
  have ST := ST_ h f (s := s) (i := i) (ci := n (vT T (o s).toNat)) (ca := n (vT T (ah (o s).toNat))) (cb := n (vT T (bh (o s).toNat))) (b := (ah (o s).toNat : Nat)) (x := (bh (o s).toNat : Nat)) ⟨by omega, v1, v2, v3⟩ rfl
    (by rw [Int.toNat_natCast]; have q := ah_cases (o s).toNat; omega) (by rw [Int.toNat_natCast]; have q := bh_cases (o s).toNat; omega) rfl rfl
  rw [hy]
  refine ⟨(gg_v h.m0 f (vv_v h v').1).1, ?_⟩
  unfold gg vv
  show JN m T fs n (s : Nat) i ((if n (vT T s) - 1 - i < (n (vT T (ah (o s).toNat)) + n (vT T (o s).toNat) - n (vT T (bh (o s).toNat))) / 2 then (ah (o s).toNat, n (vT T (ah (o s).toNat)) - 1 - (n (vT T s) - 1 - i)) else (bh (o s).toNat, n (vT T (o s).toNat) - 1 - (n (vT T s) - 1 - i))).1 : Nat) (if n (vT T s) - 1 - i < (n (vT T (ah (o s).toNat)) + n (vT T (o s).toNat) - n (vT T (bh (o s).toNat))) / 2 then (ah (o s).toNat, n (vT T (ah (o s).toNat)) - 1 - (n (vT T s) - 1 - i)) else (bh (o s).toNat, n (vT T (o s).toNat) - 1 - (n (vT T s) - 1 - i))).2
  rw [← e]
  by_cases c : n (vT T (o s).toNat) - 1 - i < (n (vT T (ah (o s).toNat)) + n (vT T (o s).toNat) - n (vT T (bh (o s).toNat))) / 2
  · rw [if_pos c]
    exact (ST.2.1 _ _ c rfl rfl).2
  · rw [if_neg c]
    exact (ST.2.2 _ _ (by omega) rfl rfl).2
theorem NU_ {z : mZ} (h : RW z) (r : RLd z) {s i k : Int} (s0 : 0 ≤ s) (v : vdR z (s.toNat, i)) (hk : k = if s = z 241 (z 235 s.toNat).toNat then i else z 243 (z 235 s.toNat).toNat - 1 - i) :
    z 244 (z 235 s.toNat).toNat = sm (nR z) (z 235 s.toNat).toNat ∧ 0 ≤ k ∧ k < nR z (z 235 s.toNat).toNat ∧ 0 ≤ z 244 (z 235 s.toNat).toNat + k ∧ z 244 (z 235 s.toNat).toNat + k ≤ 17999 ∧ (z 235 s.toNat).toNat < 18 ∧
      (∀ A : Nat → Int → Prop, BB (vT (z 235)) (oF (z 235) (z 241)) (nR z) A s.toNat i ↔ A (z 235 s.toNat).toNat k) := by
  obtain ⟨v1, v2, v3⟩ := v
  have v1 : ((s.toNat : Nat) : Int) < 3 * z 225 26 := v1
  have v2 : 0 ≤ i := v2
  have k1 := nR_T h (s := s.toNat) v1
  have v3 : i < nR z (vT (z 235) s.toNat) := v3
  have te := WT.tE h s.toNat (by omega)
  have hm := WT.hm h; have hE := WT.hE h
  have e18 : (z 235 s.toNat).toNat < 18 := by omega
  have e6 := r.2.1 (z 235 s.toNat).toNat (by omega)
  have k1 : nR z (z 235 s.toNat).toNat = z 243 (z 235 s.toNat).toNat := k1
  have v3 : i < nR z (z 235 s.toNat).toNat := v3
  have kk : 0 ≤ k ∧ k < nR z (z 235 s.toNat).toNat := by
    rw [hk, ← k1]; split <;> omega
  have b := sm_b (n := nR z) r.1.1 e18 kk.1 kk.2
  have h8 := r.2.2
  exact ⟨e6, kk.1, kk.2, by omega, by omega, e18, fun A => BB_A (m := z 225 26) (E := rE z) (o := z 240) (by rw [hk, ← k1]) s0⟩
def WP (z : mZ) : Nat → Prop := fun k => z 245 k ≠ 0
theorem WP_w {z z' : mZ} {v : Int} (hq : z' = mu z 245 v.toNat 1) : ∀ k, WP z' k → WP z k ∨ k = v.toNat := by
  intro k p
  by_cases c : k = v.toNat
  · exact Or.inr c
  · left; unfold WP at *; rw [hq, mu_ne (fun q => c q.2)] at p; exact p
def ngw (z : mZ) : Int := ngc (fun i => z 245 i - 1) 18000
theorem ngw_b (z : mZ) : 0 ≤ ngw z ∧ ngw z ≤ 18000 := ngc_b _ 18000
theorem ngw_w {z z' : mZ} {i : Nat} (h : z' = mu z 245 i 1) (h1 : z 245 i = 0) (hi : i < 18000) : ngw z' = ngw z - 1 := by
  unfold ngw
  refine ngc_w (i := i) (fun j hj => ?_) (by show z 245 i - 1 < 0; omega) (by show 0 ≤ z' 245 i - 1; rw [h, mu_eq]; omega) 18000 hi
  show z' 245 j - 1 = z 245 j - 1
  rw [h, mu_ne (fun q => hj q.2)]
theorem ngw_c {z z' : mZ} (h : z' 245 = z 245) : ngw z' = ngw z := by unfold ngw; rw [h]
abbrev JCr (z0 : mZ) (s i : Int) (e0 : Nat) (i0 : Int) : Prop := JC (z0 225 26) (z0 235) (z0 241) (nR z0) s i e0 i0
abbrev PSr (z0 : mZ) (P : Nat → Prop) (e0 : Nat) (i0 : Int) : Prop := PS (z0 225 26) (z0 235) (z0 241) (nR z0) P e0 i0
theorem VR_0 {z : mZ} (hw : RW z) {e : Nat} (he : (e : Int) < rE z) {s i : Int} (hs : s = z 241 e) (h0 : 0 ≤ i) (h1 : i < z 243 e) : vdR z (s.toNat, i) := by
  have f := WT.fL hw e he
  refine ⟨by show ((s.toNat : Nat) : Int) < _; omega, h0, ?_⟩
  show i < nR z (vT (z 235) s.toNat)
  rw [nR_T hw (by omega), hs, f.2.2, show (e : Int).toNat = e by omega]; exact h1
theorem JR_0 {z : mZ} (hw : RW z) {e : Nat} (he : (e : Int) < rE z) {s i : Int} (hs : s = z 241 e) : JCr z s i e i := by
  have f := WT.fL hw e he
  intro A _
  have e1 : (z 235 s.toNat).toNat = e := by rw [hs, f.2.2]; omega
  have k := BB_A (m := z 225 26) (E := rE z) (o := z 240) (A := A) (T := z 235) (fs := z 241) (n := nR z) (s := s) (i := i) (k := i) (by rw [e1, if_pos hs]) (by omega)
  rw [e1] at k; exact k
theorem gv_K {m E : Int} {T o fs n : Nat → Int} (h : WT m E T o fs) (f : FT m.toNat (vT T) n) {x y : Nat × Int} (v : vd m T n x) (hy : y = gg T n (vv T o n x)) : vd m T n y ∧ ∀ A : Nat → Int → Prop, CL m.toNat (vT T) (oF T fs) n A → (BB (vT T) (oF T fs) n A x.1 x.2 ↔ BB (vT T) (oF T fs) n A y.1 y.2) := by
  have k := gv_J h f v hy
  refine ⟨k.1, fun A c => ?_⟩
  have q := k.2 A c
  rw [Int.toNat_natCast, Int.toNat_natCast] at q
  exact q
theorem NU_n {z : mZ} {s i k : Int} (s0 : 0 ≤ s) (h : RW z) (v : ((s.toNat : Nat) : Int) < 3 * z 225 26) (hk : k = if s = z 241 (z 235 s.toNat).toNat then i else z 243 (z 235 s.toNat).toNat - 1 - i) : sm (nR z) (z 235 s.toNat).toNat + k = nu (z 235) (z 241) (nR z) (s.toNat, i) := by
  have k1 : nR z (vT (z 235) s.toNat) = z 243 (z 235 s.toNat).toNat := nR_T h v
  unfold nu
  show _ = sm (nR z) (vT (z 235) s.toNat) + if ((s.toNat : Nat) : Int) = z 241 (vT (z 235) s.toNat) then i else nR z (vT (z 235) s.toNat) - 1 - i
  rw [k1, show ((s.toNat : Nat) : Int) = s by omega, hk]
theorem RW_f {S : mS} {z w z' w' : mZ} (h : st_ S z w z' w') (h26 : ¬ inS S 225 26) (f1 : ∀ i, ¬ inS S 235 i) (f2 : ∀ i, ¬ inS S 240 i) (f5 : ∀ i, ¬ inS S 241 i) (k : RW z) : RW z' := by
  unfold RW rE at *
  rw [h.2.2.1 _ _ h26, show z' 235 = z 235 from funext fun i => h.2.2.1 _ _ (f1 i), show z' 240 = z 240 from funext fun i => h.2.2.1 _ _ (f2 i), show z' 241 = z 241 from funext fun i => h.2.2.1 _ _ (f5 i)]
  exact k
theorem nR_f {z z' : mZ} (h26 : z' 225 26 = z 225 26) (f3 : z' 243 = z 243) : nR z' = nR z := by unfold nR rE; rw [h26, f3]
theorem RL_f {S : mS} {z w z' w' : mZ} (h : st_ S z w z' w') (h26 : ¬ inS S 225 26) (f1 : ∀ i, ¬ inS S 235 i) (f3 : ∀ i, ¬ inS S 243 i) (f4 : ∀ i, ¬ inS S 244 i) (k : RLd z) : RLd z' := by
  have e26 := h.2.2.1 _ _ h26
  have e3 : z' 243 = z 243 := funext fun i => h.2.2.1 _ _ (f3 i)
  unfold RLd at *
  rw [nR_f e26 e3, show z' 235 = z 235 from funext fun i => h.2.2.1 _ _ (f1 i), show z' 244 = z 244 from funext fun i => h.2.2.1 _ _ (f4 i), e26]
  unfold rE at *
  rw [e26]
  exact k
theorem vdR_c {z z' : mZ} {x : Nat × Int} (h26 : z' 225 26 = z 225 26) (f1 : z' 235 = z 235) (f3 : z' 243 = z 243) (k : vdR z x) : vdR z' x := by
  unfold vdR; rw [nR_f h26 f3, h26, f1]; exact k
/-- where a row comes from -/
abbrev lnR (z : mZ) (l : Nat) : Nat → Int := fun e => z 236 (18 * l + e)
theorem nR_e {z z0 : mZ} {src : Nat → Int} (h26 : z 225 26 = z0 225 26) (h : ∀ e : Nat, (e : Int) < rE z0 → z 243 e = src e) : nR z = tr (rE z0) src := by
  funext e
  unfold nR rE
  rw [h26]
  by_cases c : (e : Int) < 3 * z0 225 26 / 2
  · rw [tr_l c, tr_l c]; exact h e c
  · rw [tr_g (by omega), tr_g (by omega)]
theorem sm_tr {E : Int} {f : Nat → Int} (h0 : 0 ≤ E) (h : E ≤ 18) : sm (tr E f) 18 = sm (tr E f) E.toNat := by
  have key : ∀ k : Nat, E.toNat ≤ k → sm (tr E f) k = sm (tr E f) E.toNat := by
    intro k
    induction k with
    | zero => intro q; rw [show E.toNat = 0 by omega]
    | succ k ih =>
      intro q
      by_cases c : E.toNat = k + 1
      · rw [c]
      · rw [sm_s, ih (by omega), tr_g (by omega)]; omega
  exact key 18 (by omega)
theorem RL_of {z z0 : mZ} {src : Nat → Int} (h26 : z 225 26 = z0 225 26) (h1 : z 235 = z0 235) (hf : FT (z0 225 26).toNat (vT (z0 235)) (tr (rE z0) src)) (hs : sm (tr (rE z0) src) 18 ≤ 18000) (h : ∀ e : Nat, (e : Int) < rE z0 → z 243 e = src e) (hb : ∀ e : Nat, (e : Int) ≤ rE z0 → z 244 e = sm (tr (rE z0) src) e) : RLd z ∧ nR z = tr (rE z0) src := by
  have k := nR_e h26 h
  refine ⟨?_, k⟩
  unfold RLd
  rw [k, h26, h1]
  unfold rE
  rw [h26]
  exact ⟨hf, hb, hs⟩

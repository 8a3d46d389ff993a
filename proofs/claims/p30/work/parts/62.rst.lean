section
/-! the reference: its ground and its strands -/
abbrev rE (z : mZ) : Int := 3 * z 225 26 / 2
def RW (z : mZ) : Prop := WT (z 225 26) (rE z) (z 235) (z 240) (z 241)
def tr (E : Int) (f : Nat → Int) : Nat → Int := fun e => if (e : Int) < E then f e else 0
theorem tr_l {E : Int} {f : Nat → Int} {e : Nat} (h : (e : Int) < E) : tr E f e = f e := if_pos h
theorem tr_g {E : Int} {f : Nat → Int} {e : Nat} (h : E ≤ (e : Int)) : tr E f e = 0 := if_neg (by omega)
abbrev nR (z : mZ) : Nat → Int := tr (rE z) (z 243)
def RLd (z : mZ) : Prop := FT (z 225 26).toNat (vT (z 235)) (nR z) ∧ (∀ e : Nat, (e : Int) ≤ rE z → z 244 e = sm (nR z) e) ∧ sm (nR z) 18 ≤ 18000
abbrev cu (z : mZ) : Nat × Int := ((z 225 38).toNat, z 225 39)
abbrev vdR (z : mZ) (x : Nat × Int) : Prop := vd (z 225 26) (z 235) (nR z) x
theorem nR_T {z : mZ} (h : RW z) {s : Nat} (hs : (s : Int) < 3 * z 225 26) : nR z (vT (z 235) s) = z 243 (z 235 s).toNat := tr_l (by have := WT.tE h s hs; show (((z 235 s).toNat : Nat) : Int) < _; omega)
theorem GO_ {z : mZ} (h : RW z) {s i s' i' c : Int} (v : vdR z (s.toNat, i)) (hc : c = z 243 (z 235 s.toNat).toNat) (hs : s' = z 240 s.toNat) (hi : i' = c - 1 - i) : (s'.toNat, i') = vv (z 235) (z 240) (nR z) (s.toNat, i) := by
  have k := nR_T h (s := s.toNat) v.1
  unfold vv
  refine Prod.ext (by show s'.toNat = (z 240 s.toNat).toNat; rw [hs]) ?_
  show i' = nR z (vT (z 235) s.toNat) - 1 - i
  rw [k, hi, hc]
theorem GT_ {z : mZ} (h : RW z) (f : FT (z 225 26).toNat (vT (z 235)) (nR z)) {s i a near : Int} (v : vdR z (s.toNat, i)) (ha : a.toNat = ah s.toNat) (hn : 0 ≤ z 243 (z 235 a.toNat).toNat + z 243 (z 235 (bh a.toNat)).toNat - z 243 (z 235 (ah a.toNat)).toNat → near = (z 243 (z 235 a.toNat).toNat + z 243 (z 235 (bh a.toNat)).toNat - z 243 (z 235 (ah a.toNat)).toNat) / 2) :
    (∀ s' i' : Int, i < near → s'.toNat = a.toNat → i' = z 243 (z 235 a.toNat).toNat - 1 - i → (s'.toNat, i') = gg (z 235) (nR z) (s.toNat, i)) ∧ (∀ s' i' : Int, near ≤ i → s'.toNat = bh s.toNat → i' = z 243 (z 235 s.toNat).toNat - 1 - i → (s'.toNat, i') = gg (z 235) (nR z) (s.toNat, i)) := by
  have m0 := WT.m0 h
  have v1 : ((s.toNat : Nat) : Int) < 3 * z 225 26 := v.1
  have hs : s.toNat < 3 * (z 225 26).toNat := by omega
  have la := ah_lt hs; have lb := bh_lt hs
  have e1 := nR_T h (s := s.toNat) (by omega)
  have e2 := nR_T h (s := ah s.toNat) (by omega)
  have e3 := nR_T h (s := bh s.toNat) (by omega)
  obtain ⟨t1, t2, t3, t4⟩ := f.2 s.toNat hs
  rw [ha, bh_ah, ah_ah, ← e1, ← e2, ← e3] at hn
  have hn := hn (by omega)
  constructor
  · intro s' i' c d e
    unfold gg
    show _ = if i < (nR z (vT (z 235) (ah s.toNat)) + nR z (vT (z 235) s.toNat) - nR z (vT (z 235) (bh s.toNat))) / 2 then (ah s.toNat, nR z (vT (z 235) (ah s.toNat)) - 1 - i) else (bh s.toNat, nR z (vT (z 235) s.toNat) - 1 - i)
    rw [if_pos (by omega)]
    exact Prod.ext (by show s'.toNat = _; rw [d, ha]) (by show i' = _; rw [e, ha, e2])
  · intro s' i' c d e
    unfold gg
    show _ = if i < (nR z (vT (z 235) (ah s.toNat)) + nR z (vT (z 235) s.toNat) - nR z (vT (z 235) (bh s.toNat))) / 2 then (ah s.toNat, nR z (vT (z 235) (ah s.toNat)) - 1 - i) else (bh s.toNat, nR z (vT (z 235) s.toNat) - 1 - i)
    rw [if_neg (by omega)]
    exact Prod.ext (by show s'.toNat = _; rw [d]) (by show i' = _; rw [e, e1])
/-- a step hangs together with where it came from -/
theorem gv_J {m E : Int} {T o fs n : Nat → Int} (h : WT m E T o fs) (f : FT m.toNat (vT T) n) {x y : Nat × Int} (v : vd m T n x) (hy : y = gg T n (vv T o n x)) : vd m T n y ∧ JN m T fs n x.1 x.2 y.1 y.2 := by
  obtain ⟨s, i⟩ := x
  have v' := v
  obtain ⟨v1, v2, v3⟩ := v
  have v1 : (s : Int) < 3 * m := v1
  have v2 : 0 ≤ i := v2
  have v3 : i < n (vT T s) := v3
  have l := h.oL s v1
  have e : vT T (o s).toNat = vT T s := by show (T (o s).toNat).toNat = (T s).toNat; rw [h.oT s v1]
  have ST := ST_ h f (s := s) (i := i) (ci := n (vT T (o s).toNat)) (ca := n (vT T (ah (o s).toNat))) (cb := n (vT T (bh (o s).toNat))) (b := (ah (o s).toNat : Nat)) (x := (bh (o s).toNat : Nat)) ⟨by omega, v1, v2, v3⟩ rfl
    (by rw [Int.toNat_natCast]; have q := ah_cases (o s).toNat; omega) (by rw [Int.toNat_natCast]; have q := bh_cases (o s).toNat; omega) rfl rfl
  rw [hy]
  refine ⟨(gg_v h.m0 f (vv_v h v').1).1, ?_⟩
  unfold gg vv
  show JN m T fs n (s : Nat) i ((if n (vT T s) - 1 - i < (n (vT T (ah (o s).toNat)) + n (vT T (o s).toNat) - n (vT T (bh (o s).toNat))) / 2 then (ah (o s).toNat, n (vT T (ah (o s).toNat)) - 1 - (n (vT T s) - 1 - i)) else (bh (o s).toNat, n (vT T (o s).toNat) - 1 - (n (vT T s) - 1 - i))).1 : Nat) (if n (vT T s) - 1 - i < (n (vT T (ah (o s).toNat)) + n (vT T (o s).toNat) - n (vT T (bh (o s).toNat))) / 2 then (ah (o s).toNat, n (vT T (ah (o s).toNat)) - 1 - (n (vT T s) - 1 - i)) else (bh (o s).toNat, n (vT T (o s).toNat) - 1 - (n (vT T s) - 1 - i))).2
  rw [← e]
  by_cases c : n (vT T (o s).toNat) - 1 - i < (n (vT T (ah (o s).toNat)) + n (vT T (o s).toNat) - n (vT T (bh (o s).toNat))) / 2
  · rw [if_pos c]
    exact (ST.2.1 _ _ c rfl rfl).2
  · rw [if_neg c]
    exact (ST.2.2 _ _ (by omega) rfl rfl).2
theorem NU_ {z : mZ} (h : RW z) (r : RLd z) {s i k : Int} (s0 : 0 ≤ s) (v : vdR z (s.toNat, i)) (hk : k = if s = z 241 (z 235 s.toNat).toNat then i else z 243 (z 235 s.toNat).toNat - 1 - i) :
    z 244 (z 235 s.toNat).toNat = sm (nR z) (z 235 s.toNat).toNat ∧ 0 ≤ k ∧ k < nR z (z 235 s.toNat).toNat ∧ 0 ≤ z 244 (z 235 s.toNat).toNat + k ∧ z 244 (z 235 s.toNat).toNat + k ≤ 17999 ∧ (z 235 s.toNat).toNat < 18 ∧
      (∀ A : Nat → Int → Prop, BB (vT (z 235)) (oF (z 235) (z 241)) (nR z) A s.toNat i ↔ A (z 235 s.toNat).toNat k) := by
  obtain ⟨v1, v2, v3⟩ := v
  have v1 : ((s.toNat : Nat) : Int) < 3 * z 225 26 := v1
  have v2 : 0 ≤ i := v2
  have k1 := nR_T h (s := s.toNat) v1
  have v3 : i < nR z (vT (z 235) s.toNat) := v3
  have te := WT.tE h s.toNat (by omega)
  have hm := WT.hm h; have hE := WT.hE h
  have e18 : (z 235 s.toNat).toNat < 18 := by omega
  have e6 := r.2.1 (z 235 s.toNat).toNat (by omega)
  have k1 : nR z (z 235 s.toNat).toNat = z 243 (z 235 s.toNat).toNat := k1
  have v3 : i < nR z (z 235 s.toNat).toNat := v3
  have kk : 0 ≤ k ∧ k < nR z (z 235 s.toNat).toNat := by
    rw [hk, ← k1]; split <;> omega
  have b := sm_b (n := nR z) r.1.1 e18 kk.1 kk.2
  have h8 := r.2.2
  exact ⟨e6, kk.1, kk.2, by omega, by omega, e18, fun A => BB_A (m := z 225 26) (E := rE z) (o := z 240) (by rw [hk, ← k1]) s0⟩
def WP (z : mZ) : Nat → Prop := fun k => z 245 k ≠ 0
theorem WP_w {z z' : mZ} {v : Int} (hq : z' = mu z 245 v.toNat 1) : ∀ k, WP z' k → WP z k ∨ k = v.toNat := by
  intro k p
  by_cases c : k = v.toNat
  · exact Or.inr c
  · left; unfold WP at *; rw [hq, mu_ne (fun q => c q.2)] at p; exact p
def ngw (z : mZ) : Int := ngc (fun i => z 245 i - 1) 18000
theorem ngw_b (z : mZ) : 0 ≤ ngw z ∧ ngw z ≤ 18000 := ngc_b _ 18000
theorem ngw_w {z z' : mZ} {i : Nat} (h : z' = mu z 245 i 1) (h1 : z 245 i = 0) (hi : i < 18000) : ngw z' = ngw z - 1 := by
  unfold ngw
  refine ngc_w (i := i) (fun j hj => ?_) (by show z 245 i - 1 < 0; omega) (by show 0 ≤ z' 245 i - 1; rw [h, mu_eq]; omega) 18000 hi
  show z' 245 j - 1 = z 245 j - 1
  rw [h, mu_ne (fun q => hj q.2)]
theorem ngw_c {z z' : mZ} (h : z' 245 = z 245) : ngw z' = ngw z := by unfold ngw; rw [h]
abbrev JCr (z0 : mZ) (s i : Int) (e0 : Nat) (i0 : Int) : Prop := JC (z0 225 26) (z0 235) (z0 241) (nR z0) s i e0 i0
abbrev PSr (z0 : mZ) (P : Nat → Prop) (e0 : Nat) (i0 : Int) : Prop := PS (z0 225 26) (z0 235) (z0 241) (nR z0) P e0 i0
theorem VR_0 {z : mZ} (hw : RW z) {e : Nat} (he : (e : Int) < rE z) {s i : Int} (hs : s = z 241 e) (h0 : 0 ≤ i) (h1 : i < z 243 e) : vdR z (s.toNat, i) := by
  have f := WT.fL hw e he
  refine ⟨by show ((s.toNat : Nat) : Int) < _; omega, h0, ?_⟩
  show i < nR z (vT (z 235) s.toNat)
  rw [nR_T hw (by omega), hs, f.2.2, show (e : Int).toNat = e by omega]; exact h1
theorem JR_0 {z : mZ} (hw : RW z) {e : Nat} (he : (e : Int) < rE z) {s i : Int} (hs : s = z 241 e) : JCr z s i e i := by
  have f := WT.fL hw e he
  intro A _
  have e1 : (z 235 s.toNat).toNat = e := by rw [hs, f.2.2]; omega
  have k := BB_A (m := z 225 26) (E := rE z) (o := z 240) (A := A) (T := z 235) (fs := z 241) (n := nR z) (s := s) (i := i) (k := i) (by rw [e1, if_pos hs]) (by omega)
  rw [e1] at k; exact k
theorem gv_K {m E : Int} {T o fs n : Nat → Int} (h : WT m E T o fs) (f : FT m.toNat (vT T) n) {x y : Nat × Int} (v : vd m T n x) (hy : y = gg T n (vv T o n x)) : vd m T n y ∧ ∀ A : Nat → Int → Prop, CL m.toNat (vT T) (oF T fs) n A → (BB (vT T) (oF T fs) n A x.1 x.2 ↔ BB (vT T) (oF T fs) n A y.1 y.2) := by
  have k := gv_J h f v hy
  refine ⟨k.1, fun A c => ?_⟩
  have q := k.2 A c
  rw [Int.toNat_natCast, Int.toNat_natCast] at q
  exact q
theorem NU_n {z : mZ} {s i k : Int} (s0 : 0 ≤ s) (h : RW z) (v : ((s.toNat : Nat) : Int) < 3 * z 225 26) (hk : k = if s = z 241 (z 235 s.toNat).toNat then i else z 243 (z 235 s.toNat).toNat - 1 - i) : sm (nR z) (z 235 s.toNat).toNat + k = nu (z 235) (z 241) (nR z) (s.toNat, i) := by
  have k1 : nR z (vT (z 235) s.toNat) = z 243 (z 235 s.toNat).toNat := nR_T h v
  unfold nu
  show _ = sm (nR z) (vT (z 235) s.toNat) + if ((s.toNat : Nat) : Int) = z 241 (vT (z 235) s.toNat) then i else nR z (vT (z 235) s.toNat) - 1 - i
  rw [k1, show ((s.toNat : Nat) : Int) = s by omega, hk]
theorem RW_f {S : mS} {z w z' w' : mZ} (h : st_ S z w z' w') (h26 : ¬ inS S 225 26) (f1 : ∀ i, ¬ inS S 235 i) (f2 : ∀ i, ¬ inS S 240 i) (f5 : ∀ i, ¬ inS S 241 i) (k : RW z) : RW z' := by
  unfold RW rE at *
  rw [h.2.2.1 _ _ h26, show z' 235 = z 235 from funext fun i => h.2.2.1 _ _ (f1 i), show z' 240 = z 240 from funext fun i => h.2.2.1 _ _ (f2 i), show z' 241 = z 241 from funext fun i => h.2.2.1 _ _ (f5 i)]
  exact k
theorem nR_f {z z' : mZ} (h26 : z' 225 26 = z 225 26) (f3 : z' 243 = z 243) : nR z' = nR z := by unfold nR rE; rw [h26, f3]
theorem RL_f {S : mS} {z w z' w' : mZ} (h : st_ S z w z' w') (h26 : ¬ inS S 225 26) (f1 : ∀ i, ¬ inS S 235 i) (f3 : ∀ i, ¬ inS S 243 i) (f4 : ∀ i, ¬ inS S 244 i) (k : RLd z) : RLd z' := by
  have e26 := h.2.2.1 _ _ h26
  have e3 : z' 243 = z 243 := funext fun i => h.2.2.1 _ _ (f3 i)
  unfold RLd at *
  rw [nR_f e26 e3, show z' 235 = z 235 from funext fun i => h.2.2.1 _ _ (f1 i), show z' 244 = z 244 from funext fun i => h.2.2.1 _ _ (f4 i), e26]
  unfold rE at *
  rw [e26]
  exact k
theorem vdR_c {z z' : mZ} {x : Nat × Int} (h26 : z' 225 26 = z 225 26) (f1 : z' 235 = z 235) (f3 : z' 243 = z 243) (k : vdR z x) : vdR z' x := by
  unfold vdR; rw [nR_f h26 f3, h26, f1]; exact k
/-- where a row comes from -/
abbrev lnR (z : mZ) (l : Nat) : Nat → Int := fun e => z 236 (18 * l + e)
theorem nR_e {z z0 : mZ} {src : Nat → Int} (h26 : z 225 26 = z0 225 26) (h : ∀ e : Nat, (e : Int) < rE z0 → z 243 e = src e) : nR z = tr (rE z0) src := by
  funext e
  unfold nR rE
  rw [h26]
  by_cases c : (e : Int) < 3 * z0 225 26 / 2
  · rw [tr_l c, tr_l c]; exact h e c
  · rw [tr_g (by omega), tr_g (by omega)]
theorem sm_tr {E : Int} {f : Nat → Int} (h0 : 0 ≤ E) (h : E ≤ 18) : sm (tr E f) 18 = sm (tr E f) E.toNat := by
  have key : ∀ k : Nat, E.toNat ≤ k → sm (tr E f) k = sm (tr E f) E.toNat := by
    intro k
    induction k with
    | zero => intro q; rw [show E.toNat = 0 by omega]
    | succ k ih =>
      intro q
      by_cases c : E.toNat = k + 1
      · rw [c]
      · rw [sm_s, ih (by omega), tr_g (by omega)]; omega
  exact key 18 (by omega)
theorem RL_of {z z0 : mZ} {src : Nat → Int} (h26 : z 225 26 = z0 225 26) (h1 : z 235 = z0 235) (hf : FT (z0 225 26).toNat (vT (z0 235)) (tr (rE z0) src)) (hs : sm (tr (rE z0) src) 18 ≤ 18000) (h : ∀ e : Nat, (e : Int) < rE z0 → z 243 e = src e) (hb : ∀ e : Nat, (e : Int) ≤ rE z0 → z 244 e = sm (tr (rE z0) src) e) : RLd z ∧ nR z = tr (rE z0) src := by
  have k := nR_e h26 h
  refine ⟨?_, k⟩
  unfold RLd
  rw [k, h26, h1]
  unfold rE
  rw [h26]
  exact ⟨hf, hb, hs⟩
end
section
/-! how many strands were not gone through yet: a number of which only this is known -/
theorem ngv_ex : ∃ g : mZ → Int, (∀ z, 0 ≤ g z ∧ g z ≤ 18000) ∧ (∀ (z z' : mZ) (i : Nat), z' = mu z 245 i 1 → z 245 i = 0 → i < 18000 → g z' = g z - 1) ∧ ∀ z z' : mZ, z' 245 = z 245 → g z' = g z :=
  ⟨ngw, ngw_b, fun _ _ _ h h1 hi => ngw_w h h1 hi, fun _ _ h => ngw_c h⟩
noncomputable def ngv : mZ → Int := Classical.choose ngv_ex
theorem ngv_b (z : mZ) : 0 ≤ ngv z ∧ ngv z ≤ 18000 := (Classical.choose_spec ngv_ex).1 z
theorem ngv_w {z z' : mZ} {i : Nat} (h : z' = mu z 245 i 1) (h1 : z 245 i = 0) (hi : i < 18000) : ngv z' = ngv z - 1 := (Classical.choose_spec ngv_ex).2.1 z z' i h h1 hi
theorem ngv_c {z z' : mZ} (h : z' 245 = z 245) : ngv z' = ngv z := (Classical.choose_spec ngv_ex).2.2 z z' h
end
section
/-! methods, printed by wip/tools/vcg.py -/
/-- LoopGroundModel turned -/
abbrev S_177v  : mS := []
abbrev E_177v (a0 : Int) (a1 : Int) (z0 w0 : mZ) (x y tx it mt tt ct : Option Nat) : Int → mZ → mZ → mP → Prop := fun v z w p => p = (pq x y tx it mt tt ct) ∧ z0 = z ∧ w0 = w ∧ 0 ≤ v ∧ v ≤ 35 ∧ ((a1 = 1 → v.toNat = bh a0.toNat) ∧ (a1 = 2 → v.toNat = ah a0.toNat))
theorem m_177v {d : Nat} {z0 w0 : mZ} {x y tx it mt tt ct : Option Nat} (a0 : Int) (a1 : Int) (hz : rz z0) (hw : rw_ w0) (ha0 : 0 ≤ a0 ∧ a0 ≤ 35) (ha1 : 1 ≤ a1 ∧ a1 ≤ 2) : wc (d + 1) 177 [.int (Int32.ofInt a0), .int (Int32.ofInt a1)] (mk z0 w0 (pq x y tx it mt tt ct)) (poI S_177v z0 w0 (E_177v a0 a1 z0 w0 x y tx it mt tt ct)) := by
  have hst : st_ S_177v z0 w0 z0 w0 := st_rf hz hw
  refine w_m rfl rfl ?_
  refine r_ld (pc' := 1) rfl rfl rfl rfl ?_
  refine r_c0 (pc' := 2) rfl rfl ?_
  refine r_dv (pc' := 3) (v := a0 / 3) rfl rfl ⟨by omega, by omega⟩ ⟨by decide, by decide⟩ (by decide) (tdiv_n (by omega)) ?_
  refine r_c0 (pc' := 4) rfl rfl ?_
  refine r_mul (pc' := 5) rfl rfl ?_
  refine r_ld (pc' := 6) rfl rfl rfl rfl ?_
  refine r_c0 (pc' := 7) rfl rfl ?_
  refine r_rm (pc' := 8) (v := a0 % 3) rfl rfl ⟨by omega, by omega⟩ ⟨by decide, by decide⟩ (by decide) (tmod_n (by omega)) ?_
  refine r_ld (pc' := 9) rfl rfl rfl rfl ?_
  refine r_add (pc' := 10) rfl rfl ?_
  refine r_c0 (pc' := 11) rfl rfl ?_
  refine r_rm (pc' := 12) (v := ((a0 % 3) + a1) % 3) rfl rfl ⟨by omega, by omega⟩ ⟨by decide, by decide⟩ (by decide) (tmod_n (by omega)) ?_
  refine r_add (pc' := 13) rfl rfl ?_
  exact r_ri rfl (po_I hst ⟨by omega, by omega⟩ ⟨rfl, rfl, rfl, by omega, by omega, (by exact ⟨fun h => by have := bh_cases a0.toNat; omega, fun h => by have := ah_cases a0.toNat; omega⟩)⟩)
/-- LoopGroundModel on -/
abbrev S_182v  : mS := []
abbrev E_182v (a1 : Int) (z0 w0 : mZ) (x y tx it mt tt ct : Option Nat) : Int → mZ → mZ → mP → Prop := fun v z w p => p = (pq x y tx it mt tt ct) ∧ z0 = z ∧ w0 = w ∧ 0 ≤ v ∧ v ≤ 18000 ∧ (v = z0 243 (z0 235 a1.toNat).toNat)
theorem m_182v {d : Nat} {z0 w0 : mZ} {x y tx it mt tt ct : Option Nat} (a1 : Int) (hz : rz z0) (hw : rw_ w0) (ha1 : 0 ≤ a1 ∧ a1 ≤ 35) : wc (d + 1) 182 [.ref 225, .int (Int32.ofInt a1)] (mk z0 w0 (pq x y tx it mt tt ct)) (poI S_182v z0 w0 (E_182v a1 z0 w0 x y tx it mt tt ct)) := by
  have hst : st_ S_182v z0 w0 z0 w0 := st_rf hz hw
  refine w_m rfl rfl ?_
  refine r_ld (pc' := 1) rfl rfl rfl rfl ?_
  refine r_gr (b := 243) (pc' := 4) rfl rfl sh_225 rfl pp_225_33 ?_
  refine r_ld (pc' := 5) rfl rfl rfl rfl ?_
  refine r_gr (b := 235) (pc' := 8) rfl rfl sh_225 rfl pp_225_18 ?_
  refine r_ld (pc' := 9) rfl rfl rfl rfl ?_
  have hb3 := rd_235 hz (i := a1.toNat) (by omega)
  refine r_ia (pc' := 10) rfl rfl sh_235 rfl (by omega) (by omega) rfl ?_
  have hb4 := rd_243 hz (i := (z0 235 a1.toNat).toNat) (by omega)
  refine r_ia (pc' := 11) rfl rfl sh_243 rfl (by omega) (by omega) rfl ?_
  exact r_ri rfl (po_I hst ⟨by omega, by omega⟩ ⟨rfl, rfl, rfl, by omega, by omega, (by first | omega | assumption)⟩)
/-- LoopGroundModel strand -/
abbrev S_186v  : mS := []
abbrev E_186v  (z0 w0 : mZ) (x y tx it mt tt ct : Option Nat) : Int → mZ → mZ → mP → Prop := fun v z w p => p = (pq x y tx it mt tt ct) ∧ z0 = z ∧ w0 = w ∧ 0 ≤ v ∧ v ≤ 17999 ∧ (v = nu (z0 235) (z0 241) (nR z0) (cu z0) ∧ ∃ k : Int, v = sm (nR z0) (z0 235 (z0 225 38).toNat).toNat + k ∧ 0 ≤ k ∧ k < nR z0 (z0 235 (z0 225 38).toNat).toNat ∧ (z0 235 (z0 225 38).toNat).toNat < 18 ∧ ∀ A : Nat → Int → Prop, BB (vT (z0 235)) (oF (z0 235) (z0 241)) (nR z0) A (z0 225 38).toNat (z0 225 39) ↔ A (z0 235 (z0 225 38).toNat).toNat k)
theorem m_186v {d : Nat} {z0 w0 : mZ} {x y tx it mt tt ct : Option Nat}  (hz : rz z0) (hw : rw_ w0) (hrw : RW z0) (hrl : RLd z0) (hvd : vdR z0 (cu z0)) : wc (d + 1) 186 [.ref 225] (mk z0 w0 (pq x y tx it mt tt ct)) (poI S_186v z0 w0 (E_186v  z0 w0 x y tx it mt tt ct)) := by
  have hst : st_ S_186v z0 w0 z0 w0 := st_rf hz hw
  have hz18 := rd_225_38 hz
  have hz19 := rd_225_39 hz
  have hm26 := rd_225_26 hz
  have hs38 := rd_225_38 hz
  have hv1 : (((z0 225 38).toNat : Nat) : Int) < 3 * z0 225 26 := hvd.1
  have hv2 : 0 ≤ z0 225 39 := hvd.2.1
  have hv3 : z0 225 39 < nR z0 (vT (z0 235) (z0 225 38).toNat) := hvd.2.2
  rw [nR_T hrw (by omega)] at hv3
  have hv4 := rd_235 hz (i := (z0 225 38).toNat) (by omega)
  have hv5 := rd_243 hz (i := (z0 235 (z0 225 38).toNat).toNat) (by omega)
  refine w_m rfl rfl ?_
  refine r_ld (pc' := 1) rfl rfl rfl rfl ?_
  refine r_gr (b := 235) (pc' := 4) rfl rfl sh_225 rfl pp_225_18 ?_
  refine r_ld (pc' := 5) rfl rfl rfl rfl ?_
  have hb20 := rd_225_38 hz
  refine r_gi (pc' := 8) rfl rfl sh_225 rfl rfl ?_
  have hb21 := rd_235 hz (i := (z0 225 38).toNat) (by omega)
  refine r_ia (pc' := 9) rfl rfl sh_235 rfl (by omega) (by omega) rfl ?_
  refine r_st (pc' := 10) (lv' := [(1, _), (0, _)]) rfl rfl rfl rfl ?_
  refine r_ld (pc' := 11) rfl rfl rfl rfl ?_
  refine r_gr (b := 244) (pc' := 14) rfl rfl sh_225 rfl pp_225_34 ?_
  refine r_ld (pc' := 15) rfl rfl rfl rfl ?_
  have hb22 := rd_244 hz (i := (z0 235 (z0 225 38).toNat).toNat) (by omega)
  refine r_ia (pc' := 16) rfl rfl sh_244 rfl (by omega) (by omega) rfl ?_
  refine r_ld (pc' := 17) rfl rfl rfl rfl ?_
  refine r_gr (b := 241) (pc' := 20) rfl rfl sh_225 rfl pp_225_30 ?_
  refine r_ld (pc' := 21) rfl rfl rfl rfl ?_
  have hb23 := rd_241 hz (i := (z0 235 (z0 225 38).toNat).toNat) (by omega)
  refine r_ia (pc' := 22) rfl rfl sh_241 rfl (by omega) (by omega) rfl ?_
  refine r_ld (pc' := 23) rfl rfl rfl rfl ?_
  refine r_gi (pc' := 26) rfl rfl sh_225 rfl rfl ?_
  refine r_ine (pc' := 29) rfl rfl ⟨by omega, by omega⟩ ⟨by omega, by omega⟩ (fun hc24 => ?_) (fun hc24 => ?_)
  · skip
    have hsn := NU_ hrw hrl (by omega) hvd (k := z0 243 (z0 235 (z0 225 38).toNat).toNat - 1 - z0 225 39) (by rw [if_neg (by omega)])
    have hsu := NU_n (k := z0 243 (z0 235 (z0 225 38).toNat).toNat - 1 - z0 225 39) (i := z0 225 39) (by omega) hrw hv1 (by rw [if_neg (by omega)])
    refine r_ld (pc' := 37) rfl rfl rfl rfl ?_
    refine r_gr (b := 243) (pc' := 40) rfl rfl sh_225 rfl pp_225_33 ?_
    refine r_ld (pc' := 41) rfl rfl rfl rfl ?_
    have hb25 := rd_243 hz (i := (z0 235 (z0 225 38).toNat).toNat) (by omega)
    refine r_ia (pc' := 42) rfl rfl sh_243 rfl (by omega) (by omega) rfl ?_
    refine r_c0 (pc' := 43) rfl rfl ?_
    refine r_sub (pc' := 44) rfl rfl ?_
    refine r_ld (pc' := 45) rfl rfl rfl rfl ?_
    have hb26 := rd_225_39 hz
    refine r_gi (pc' := 48) rfl rfl sh_225 rfl rfl ?_
    refine r_sub (pc' := 49) rfl rfl ?_
    refine w_hxi (fun v27 h28 h29 => ?_)
    refine r_add (pc' := 50) rfl rfl ?_
    refine w_hxi (fun v30 h31 h32 => ?_)
    exact r_ri rfl (po_I hst ⟨by omega, by omega⟩ ⟨rfl, rfl, rfl, by omega, by omega, (by exact ⟨by show _ = nu (z0 235) (z0 241) (nR z0) ((z0 225 38).toNat, z0 225 39); rw [← hsu]; have := hsn.1; omega, _, by have := hsn.1; omega, hsn.2.1, hsn.2.2.1, hsn.2.2.2.2.2.1, hsn.2.2.2.2.2.2⟩)⟩)
  · skip
    have hsn := NU_ hrw hrl (by omega) hvd (k := z0 225 39) (by rw [if_pos (by omega)])
    have hsu := NU_n (k := z0 225 39) (i := z0 225 39) (by omega) hrw hv1 (by rw [if_pos (by omega)])
    refine r_ld (pc' := 30) rfl rfl rfl rfl ?_
    have hb33 := rd_225_39 hz
    refine r_gi (pc' := 33) rfl rfl sh_225 rfl rfl ?_
    refine r_go rfl ?_
    refine r_add (pc' := 50) rfl rfl ?_
    refine w_hxi (fun v34 h35 h36 => ?_)
    exact r_ri rfl (po_I hst ⟨by omega, by omega⟩ ⟨rfl, rfl, rfl, by omega, by omega, (by exact ⟨by show _ = nu (z0 235) (z0 241) (nR z0) ((z0 225 38).toNat, z0 225 39); rw [← hsu]; have := hsn.1; omega, _, by have := hsn.1; omega, hsn.2.1, hsn.2.2.1, hsn.2.2.2.2.2.1, hsn.2.2.2.2.2.2⟩)⟩)
/-- LoopGroundModel round -/
abbrev S_183v  : mS := []
abbrev E_183v (a1 : Int) (z0 w0 : mZ) (x y tx it mt tt ct : Option Nat) : Int → mZ → mZ → mP → Prop := fun v z w p => p = (pq x y tx it mt tt ct) ∧ z0 = z ∧ w0 = w ∧ (-9000) ≤ v ∧ v ≤ 18000 ∧ (0 ≤ z0 243 (z0 235 a1.toNat).toNat + z0 243 (z0 235 (bh a1.toNat)).toNat - z0 243 (z0 235 (ah a1.toNat)).toNat → v = (z0 243 (z0 235 a1.toNat).toNat + z0 243 (z0 235 (bh a1.toNat)).toNat - z0 243 (z0 235 (ah a1.toNat)).toNat) / 2)
theorem m_183v {d : Nat} {z0 w0 : mZ} {x y tx it mt tt ct : Option Nat} (a1 : Int) (hz : rz z0) (hw : rw_ w0) (ha1 : 0 ≤ a1 ∧ a1 ≤ 35) : wc (d + 2) 183 [.ref 225, .int (Int32.ofInt a1)] (mk z0 w0 (pq x y tx it mt tt ct)) (poI S_183v z0 w0 (E_183v a1 z0 w0 x y tx it mt tt ct)) := by
  have hst : st_ S_183v z0 w0 z0 w0 := st_rf hz hw
  refine w_m rfl rfl ?_
  refine r_ld (pc' := 1) rfl rfl rfl rfl ?_
  refine r_ld (pc' := 2) rfl rfl rfl rfl ?_
  refine r_cVI (pc' := 5) rfl rfl rfl rfl rfl sh_225 (m_182v (d := d) a1 hst.1 hst.2.1 ⟨by omega, by omega⟩) (fun v44 z45 w46 p47 h48 hs49 hE50 => ?_)
  obtain ⟨rfl, rfl, rfl, hE50⟩ := hE50
  refine r_ld (pc' := 6) rfl rfl rfl rfl ?_
  refine r_ld (pc' := 7) rfl rfl rfl rfl ?_
  refine r_c0 (pc' := 8) rfl rfl ?_
  refine r_cSI (pc' := 11) rfl rfl rfl rfl rfl (m_177v (d := d) a1 1 hst.1 hst.2.1 ⟨by omega, by omega⟩ ⟨by omega, by omega⟩) (fun v52 z53 w54 p55 h56 hs57 hE58 => ?_)
  obtain ⟨rfl, rfl, rfl, hE58⟩ := hE58
  have ht8 := hE58.2.2
  refine r_cVI (pc' := 14) rfl rfl rfl rfl rfl sh_225 (m_182v (d := d) v52 hst.1 hst.2.1 ⟨by omega, by omega⟩) (fun v60 z61 w62 p63 h64 hs65 hE66 => ?_)
  obtain ⟨rfl, rfl, rfl, hE66⟩ := hE66
  have ho11 := hE66.2.2
  rw [ht8.1 rfl] at ho11
  refine r_add (pc' := 15) rfl rfl ?_
  refine r_ld (pc' := 16) rfl rfl rfl rfl ?_
  refine r_ld (pc' := 17) rfl rfl rfl rfl ?_
  refine r_c0 (pc' := 18) rfl rfl ?_
  refine r_cSI (pc' := 21) rfl rfl rfl rfl rfl (m_177v (d := d) a1 2 hst.1 hst.2.1 ⟨by omega, by omega⟩ ⟨by omega, by omega⟩) (fun v68 z69 w70 p71 h72 hs73 hE74 => ?_)
  obtain ⟨rfl, rfl, rfl, hE74⟩ := hE74
  have ht18 := hE74.2.2
  refine r_cVI (pc' := 24) rfl rfl rfl rfl rfl sh_225 (m_182v (d := d) v68 hst.1 hst.2.1 ⟨by omega, by omega⟩) (fun v76 z77 w78 p79 h80 hs81 hE82 => ?_)
  obtain ⟨rfl, rfl, rfl, hE82⟩ := hE82
  have ho21 := hE82.2.2
  rw [ht18.2 rfl] at ho21
  refine r_sub (pc' := 25) rfl rfl ?_
  refine r_c0 (pc' := 26) rfl rfl ?_
  refine r_dvg (pc' := 27) rfl rfl ⟨by omega, by omega⟩ ⟨by decide, by decide⟩ (by decide) (fun v84 h85 h86 => ?_)
  exact r_ri rfl (po_I hst ⟨by omega, by omega⟩ ⟨rfl, rfl, rfl, by omega, by omega, (by first | omega | assumption)⟩)
/-- LoopGroundModel goOver -/
abbrev S_185v  : mS := [(225, 225, 39, 39), (225, 225, 38, 38)]
abbrev E_185v  (z0 w0 : mZ) (x y tx it mt tt ct : Option Nat) : mZ → mZ → mP → Prop := fun z w p => p = (pq x y tx it mt tt ct) ∧ (cu z = vv (z0 235) (z0 240) (nR z0) (cu z0))
theorem m_185v {d : Nat} {z0 w0 : mZ} {x y tx it mt tt ct : Option Nat}  (hz : rz z0) (hw : rw_ w0) (hrw : RW z0) (hvd : vdR z0 (cu z0)) : wc (d + 2) 185 [.ref 225] (mk z0 w0 (pq x y tx it mt tt ct)) (poV S_185v z0 w0 (E_185v  z0 w0 x y tx it mt tt ct)) := by
  have hst : st_ S_185v z0 w0 z0 w0 := st_rf hz hw
  have hm26 := rd_225_26 hz
  have hs38 := rd_225_38 hz
  have hv1 : (((z0 225 38).toNat : Nat) : Int) < 3 * z0 225 26 := hvd.1
  have hv2 : 0 ≤ z0 225 39 := hvd.2.1
  have hv3 : z0 225 39 < nR z0 (vT (z0 235) (z0 225 38).toNat) := hvd.2.2
  rw [nR_T hrw (by omega)] at hv3
  have hv4 := rd_235 hz (i := (z0 225 38).toNat) (by omega)
  have hv5 := rd_243 hz (i := (z0 235 (z0 225 38).toNat).toNat) (by omega)
  refine w_m rfl rfl ?_
  refine r_ld (pc' := 1) rfl rfl rfl rfl ?_
  refine r_ld (pc' := 2) rfl rfl rfl rfl ?_
  refine r_ld (pc' := 3) rfl rfl rfl rfl ?_
  have hb23 := rd_225_38 hz
  refine r_gi (pc' := 6) rfl rfl sh_225 rfl rfl ?_
  refine r_cVI (pc' := 9) rfl rfl rfl rfl rfl sh_225 (m_182v (d := d) (z0 225 38) hst.1 hst.2.1 ⟨by omega, by omega⟩) (fun v24 z25 w26 p27 h28 hs29 hE30 => ?_)
  obtain ⟨rfl, rfl, rfl, hE30⟩ := hE30
  have hon := hE30.2.2
  refine r_c0 (pc' := 10) rfl rfl ?_
  refine r_sub (pc' := 11) rfl rfl ?_
  refine r_ld (pc' := 12) rfl rfl rfl rfl ?_
  have hb32 := rd_225_39 hz
  refine r_gi (pc' := 15) rfl rfl sh_225 rfl rfl ?_
  refine r_sub (pc' := 16) rfl rfl ?_
  refine w_hxi (fun v33 h34 h35 => ?_)
  refine r_pi (pc' := 19) rfl rfl sh_225 rfl rfl hst (inS_0 (by omega) (by omega) (by omega) (by omega)) (wr_225_39 ⟨by omega, by omega⟩) (fun z36 hq37 hs38 => ?_)
  refine r_ld (pc' := 20) rfl rfl rfl rfl ?_
  refine r_ld (pc' := 21) rfl rfl rfl rfl ?_
  refine r_gr (b := 240) (pc' := 24) rfl rfl sh_225 rfl pp_225_29 ?_
  refine r_ld (pc' := 25) rfl rfl rfl rfl ?_
  refine r_gi (pc' := 28) rfl rfl sh_225 rfl ((congrFun (congrFun hq37 _) _).trans (mu_ne (by omega))) ?_
  have hb39 := rd_240 hz (i := (z0 225 38).toNat) (by omega)
  refine r_ia (pc' := 29) rfl rfl sh_240 rfl (by omega) (by omega) ((congrFun (congrFun hq37 _) _).trans (mu_ne (by omega))) ?_
  refine r_pi (pc' := 32) rfl rfl sh_225 rfl rfl hs38 (inS_s (inS_0 (by omega) (by omega) (by omega) (by omega))) (wr_225_38 ⟨by omega, by omega⟩) (fun z40 hq41 hs42 => ?_)
  have hf43 : z40 225 38 = z0 240 (z0 225 38).toNat := ((congrFun (congrFun hq41 _) _).trans mu_eq)
  have hf44 : z40 225 39 = v33 := (((congrFun (congrFun hq41 _) _).trans (mu_ne (by omega))).trans ((congrFun (congrFun hq37 _) _).trans mu_eq))
  exact r_ret rfl (po_V hs42 ⟨rfl, (by exact GO_ hrw hvd hon (by omega) (by omega))⟩)
/-- LoopGroundModel goThrough -/
abbrev S_184v  : mS := [(225, 225, 39, 39), (225, 225, 38, 38), (225, 225, 40, 40)]
abbrev E_184v  (z0 w0 : mZ) (x y tx it mt tt ct : Option Nat) : mZ → mZ → mP → Prop := fun z w p => p = (pq x y tx it mt tt ct) ∧ (cu z = gg (z0 235) (nR z0) (cu z0))
theorem m_184v {d : Nat} {z0 w0 : mZ} {x y tx it mt tt ct : Option Nat}  (hz : rz z0) (hw : rw_ w0) (hrw : RW z0) (hrf : FT (z0 225 26).toNat (vT (z0 235)) (nR z0)) (hvd : vdR z0 (cu z0)) : wc (d + 3) 184 [.ref 225] (mk z0 w0 (pq x y tx it mt tt ct)) (poV S_184v z0 w0 (E_184v  z0 w0 x y tx it mt tt ct)) := by
  have hst : st_ S_184v z0 w0 z0 w0 := st_rf hz hw
  have hz69 := rd_225_26 hz
  have hm26 := rd_225_26 hz
  have hs38 := rd_225_38 hz
  have hv1 : (((z0 225 38).toNat : Nat) : Int) < 3 * z0 225 26 := hvd.1
  have hv2 : 0 ≤ z0 225 39 := hvd.2.1
  have hv3 : z0 225 39 < nR z0 (vT (z0 235) (z0 225 38).toNat) := hvd.2.2
  rw [nR_T hrw (by omega)] at hv3
  have hv4 := rd_235 hz (i := (z0 225 38).toNat) (by omega)
  have hv5 := rd_243 hz (i := (z0 235 (z0 225 38).toNat).toNat) (by omega)
  refine w_m rfl rfl ?_
  refine r_ld (pc' := 1) rfl rfl rfl rfl ?_
  have hb70 := rd_225_38 hz
  refine r_gi (pc' := 4) rfl rfl sh_225 rfl rfl ?_
  refine r_c0 (pc' := 5) rfl rfl ?_
  refine r_cSI (pc' := 8) rfl rfl rfl rfl rfl (m_177v (d := d + 1) (z0 225 38) 2 hst.1 hst.2.1 ⟨by omega, by omega⟩ ⟨by omega, by omega⟩) (fun v71 z72 w73 p74 h75 hs76 hE77 => ?_)
  obtain ⟨rfl, rfl, rfl, hE77⟩ := hE77
  have hta := (hE77.2.2).2 rfl
  refine r_st (pc' := 9) (lv' := [(1, _), (0, _)]) rfl rfl rfl rfl ?_
  refine r_ld (pc' := 10) rfl rfl rfl rfl ?_
  refine r_ld (pc' := 11) rfl rfl rfl rfl ?_
  refine r_cVI (pc' := 14) rfl rfl rfl rfl rfl sh_225 (m_183v (d := d) v71 hst.1 hst.2.1 ⟨by omega, by omega⟩) (fun v79 z80 w81 p82 h83 hs84 hE85 => ?_)
  obtain ⟨rfl, rfl, rfl, hE85⟩ := hE85
  have hgt := GT_ hrw hrf hvd hta hE85.2.2
  refine r_st (pc' := 15) (lv' := [(2, _), (1, _), (0, _)]) rfl rfl rfl rfl ?_
  refine r_ld (pc' := 16) rfl rfl rfl rfl ?_
  have hb87 := rd_225_39 hz
  refine r_gi (pc' := 19) rfl rfl sh_225 rfl rfl ?_
  refine r_ld (pc' := 20) rfl rfl rfl rfl ?_
  refine r_ige (pc' := 23) rfl rfl ⟨by omega, by omega⟩ ⟨by omega, by omega⟩ (fun hc88 => ?_) (fun hc88 => ?_)
  · skip
    refine r_ld (pc' := 53) rfl rfl rfl rfl ?_
    refine r_ld (pc' := 54) rfl rfl rfl rfl ?_
    refine r_ld (pc' := 55) rfl rfl rfl rfl ?_
    refine r_gi (pc' := 58) rfl rfl sh_225 rfl rfl ?_
    refine r_cVI (pc' := 61) rfl rfl rfl rfl rfl sh_225 (m_182v (d := d + 1) (z0 225 38) hst.1 hst.2.1 ⟨by omega, by omega⟩) (fun v89 z90 w91 p92 h93 hs94 hE95 => ?_)
    obtain ⟨rfl, rfl, rfl, hE95⟩ := hE95
    have hon := hE95.2.2
    refine r_c0 (pc' := 62) rfl rfl ?_
    refine r_sub (pc' := 63) rfl rfl ?_
    refine r_ld (pc' := 64) rfl rfl rfl rfl ?_
    refine r_gi (pc' := 67) rfl rfl sh_225 rfl rfl ?_
    refine r_sub (pc' := 68) rfl rfl ?_
    refine r_pi (pc' := 71) rfl rfl sh_225 rfl rfl hst (inS_0 (by omega) (by omega) (by omega) (by omega)) (wr_225_39 ⟨by omega, by omega⟩) (fun z97 hq98 hs99 => ?_)
    refine r_ld (pc' := 72) rfl rfl rfl rfl ?_
    refine r_ld (pc' := 73) rfl rfl rfl rfl ?_
    refine r_gi (pc' := 76) rfl rfl sh_225 rfl ((congrFun (congrFun hq98 _) _).trans (mu_ne (by omega))) ?_
    refine r_c0 (pc' := 77) rfl rfl ?_
    refine r_cSI (pc' := 80) rfl rfl rfl rfl rfl (m_177v (d := d + 1) (z0 225 38) 1 hs99.1 hs99.2.1 ⟨by omega, by omega⟩ ⟨by omega, by omega⟩) (fun v100 z101 w102 p103 h104 hs105 hE106 => ?_)
    obtain ⟨rfl, rfl, rfl, hE106⟩ := hE106
    have htb := (hE106.2.2).1 rfl
    refine r_pi (pc' := 83) rfl rfl sh_225 rfl rfl hs99 (inS_s (inS_0 (by omega) (by omega) (by omega) (by omega))) (wr_225_38 ⟨by omega, by omega⟩) (fun z108 hq109 hs110 => ?_)
    refine r_ld (pc' := 84) rfl rfl rfl rfl ?_
    refine r_c0 (pc' := 85) rfl rfl ?_
    refine r_pi (pc' := 88) rfl rfl sh_225 rfl rfl hs110 (inS_s (inS_s (inS_0 (by omega) (by omega) (by omega) (by omega)))) (wr_225_40 ⟨by omega, by omega⟩) (fun z111 hq112 hs113 => ?_)
    have hf114 : z111 225 38 = v100 := (((congrFun (congrFun hq112 _) _).trans (mu_ne (by omega))).trans ((congrFun (congrFun hq109 _) _).trans mu_eq))
    have hf115 : z111 225 39 = (v89 - 1) - (z0 225 39) := (((congrFun (congrFun hq112 _) _).trans (mu_ne (by omega))).trans (((congrFun (congrFun hq109 _) _).trans (mu_ne (by omega))).trans ((congrFun (congrFun hq98 _) _).trans mu_eq)))
    exact r_ret rfl (po_V hs113 ⟨rfl, (by first | exact hgt.1 _ _ (by omega) (by omega) (by omega) | exact hgt.2 _ _ (by omega) (by omega) (by omega))⟩)
  · skip
    refine r_ld (pc' := 24) rfl rfl rfl rfl ?_
    refine r_ld (pc' := 25) rfl rfl rfl rfl ?_
    refine r_ld (pc' := 26) rfl rfl rfl rfl ?_
    refine r_cVI (pc' := 29) rfl rfl rfl rfl rfl sh_225 (m_182v (d := d + 1) v71 hst.1 hst.2.1 ⟨by omega, by omega⟩) (fun v116 z117 w118 p119 h120 hs121 hE122 => ?_)
    obtain ⟨rfl, rfl, rfl, hE122⟩ := hE122
    have hon := hE122.2.2
    refine r_c0 (pc' := 30) rfl rfl ?_
    refine r_sub (pc' := 31) rfl rfl ?_
    refine r_ld (pc' := 32) rfl rfl rfl rfl ?_
    refine r_gi (pc' := 35) rfl rfl sh_225 rfl rfl ?_
    refine r_sub (pc' := 36) rfl rfl ?_
    refine w_hxi (fun v124 h125 h126 => ?_)
    refine r_pi (pc' := 39) rfl rfl sh_225 rfl rfl hst (inS_0 (by omega) (by omega) (by omega) (by omega)) (wr_225_39 ⟨by omega, by omega⟩) (fun z127 hq128 hs129 => ?_)
    refine r_ld (pc' := 40) rfl rfl rfl rfl ?_
    refine r_ld (pc' := 41) rfl rfl rfl rfl ?_
    refine r_pi (pc' := 44) rfl rfl sh_225 rfl rfl hs129 (inS_s (inS_0 (by omega) (by omega) (by omega) (by omega))) (wr_225_38 ⟨by omega, by omega⟩) (fun z130 hq131 hs132 => ?_)
    refine r_ld (pc' := 45) rfl rfl rfl rfl ?_
    refine r_c0 (pc' := 46) rfl rfl ?_
    refine r_pi (pc' := 49) rfl rfl sh_225 rfl rfl hs132 (inS_s (inS_s (inS_0 (by omega) (by omega) (by omega) (by omega)))) (wr_225_40 ⟨by omega, by omega⟩) (fun z133 hq134 hs135 => ?_)
    refine r_go rfl ?_
    have hf136 : z133 225 38 = v71 := (((congrFun (congrFun hq134 _) _).trans (mu_ne (by omega))).trans ((congrFun (congrFun hq131 _) _).trans mu_eq))
    have hf137 : z133 225 39 = v124 := (((congrFun (congrFun hq134 _) _).trans (mu_ne (by omega))).trans (((congrFun (congrFun hq131 _) _).trans (mu_ne (by omega))).trans ((congrFun (congrFun hq128 _) _).trans mu_eq)))
    exact r_ret rfl (po_V hs135 ⟨rfl, (by first | exact hgt.1 _ _ (by omega) (by omega) (by omega) | exact hgt.2 _ _ (by omega) (by omega) (by omega))⟩)
/-- LoopGroundModel isRing -/
abbrev S_188  : mS := [(225, 225, 38, 38), (225, 225, 39, 39), (245, 245, 0, 17999), (225, 225, 40, 40)]
abbrev E_188 (a1 : Int) (a2 : Int) (z0 w0 : mZ) (x y tx it mt tt ct : Option Nat) : Int → mZ → mZ → mP → Prop := fun v z w p => p = (pq x y tx it mt tt ct) ∧ 0 ≤ v ∧ v ≤ 1 ∧ (∀ (e0 : Nat) (i0 : Int), JE (z0 225 26) (z0 235) (z0 241) (nR z0) a1.toNat a2 e0 i0 → PSr z0 (WP z0) e0 i0 → PSr z0 (WP z) e0 i0)
theorem m_188 {d : Nat} {z0 w0 : mZ} {x y tx it mt tt ct : Option Nat} (a1 : Int) (a2 : Int) (hz : rz z0) (hw : rw_ w0) (ha1 : 0 ≤ a1 ∧ a1 ≤ 17) (ha2 : 0 ≤ a2 ∧ a2 ≤ 17999) (hrw : RW z0) (hrl : RLd z0) (he : a1 < rE z0) (hk : a2 < z0 243 a1.toNat) : wc (d + 4) 188 [.ref 225, .int (Int32.ofInt a1), .int (Int32.ofInt a2)] (mk z0 w0 (pq x y tx it mt tt ct)) (poI S_188 z0 w0 (E_188 a1 a2 z0 w0 x y tx it mt tt ct)) := by
  have hst : st_ S_188 z0 w0 z0 w0 := st_rf hz hw
  have hz66 := rd_225_26 hz
  have hm26 := rd_225_26 hz
  have hfl := WT.fL hrw a1.toNat (by omega)
  have key : ∀ N : Nat, (∀ (x3 x4 : Int) (z w : mZ), 0 ≤ x3 ∧ x3 ≤ 1 → 0 ≤ x4 ∧ x4 ≤ 1 → st_ S_188 z0 w0 z w → (vdR z0 (cu z)) → (∀ (e0 : Nat) (i0 : Int), JE (z0 225 26) (z0 235) (z0 241) (nR z0) a1.toNat a2 e0 i0 → PSr z0 (WP z0) e0 i0 → JCr z0 (z 225 38) (z 225 39) e0 i0 ∧ PSr z0 (WP z) e0 i0) → 10 * ngv z + 5 < (N : Int) → wp_ (d + 3) 188 5 (some .boolean) (20, [(0, .ref 225), (3, .int (Int32.ofInt x3)), (4, .int (Int32.ofInt x4))], [], mk z w (pq x y tx it mt tt ct)) (poI S_188 z0 w0 (E_188 a1 a2 z0 w0 x y tx it mt tt ct))) ∧ (∀ (x4 : Int) (z w : mZ), 0 ≤ x4 ∧ x4 ≤ 1 → st_ S_188 z0 w0 z w → (vdR z0 (cu z)) → (∀ (e0 : Nat) (i0 : Int), JE (z0 225 26) (z0 235) (z0 241) (nR z0) a1.toNat a2 e0 i0 → PSr z0 (WP z0) e0 i0 → JCr z0 (z 225 38) (z 225 39) e0 i0 ∧ PSr z0 (WP z) e0 i0) → 10 * ngv z + 9 < (N : Int) → wp_ (d + 3) 188 5 (some .boolean) (66, [(0, .ref 225), (4, .int (Int32.ofInt x4))], [], mk z w (pq x y tx it mt tt ct)) (poI S_188 z0 w0 (E_188 a1 a2 z0 w0 x y tx it mt tt ct))) := by
    intro N
    induction N with
    | zero =>
      refine ⟨?_, ?_⟩
      · intro x3 x4 z w
        have hzb := ngv_b z
        intros; exfalso; omega
      · intro x4 z w
        have hzb := ngv_b z
        intros; exfalso; omega
    | succ N ih =>
      obtain ⟨ih0, ih1⟩ := ih
      refine ⟨?_, ?_⟩
      · intro x3 x4 z w  hx3 hx4 hst as1 as2 hM
        have e235 : z 235 = z0 235 := funext fun i => hst.2.2.1 _ _ (notS_c (by omega) (notS_c (by omega) (notS_c (by omega) (notS_c (by omega) (notS_n)))))
        have e240 : z 240 = z0 240 := funext fun i => hst.2.2.1 _ _ (notS_c (by omega) (notS_c (by omega) (notS_c (by omega) (notS_c (by omega) (notS_n)))))
        have e241 : z 241 = z0 241 := funext fun i => hst.2.2.1 _ _ (notS_c (by omega) (notS_c (by omega) (notS_c (by omega) (notS_c (by omega) (notS_n)))))
        have e243 : z 243 = z0 243 := funext fun i => hst.2.2.1 _ _ (notS_c (by omega) (notS_c (by omega) (notS_c (by omega) (notS_c (by omega) (notS_n)))))
        have e26 : z 225 26 = z0 225 26 := hst.2.2.1 _ _ (notS_c (by omega) (notS_c (by omega) (notS_c (by omega) (notS_c (by omega) (notS_n)))))
        have eR := nR_f e26 e243
        have hnb0 := ngv_b z
        refine r_ld (pc' := 21) rfl rfl rfl rfl ?_
        refine r_gr (b := 245) (pc' := 24) rfl rfl sh_225 rfl pp_225_35 ?_
        refine r_ld (pc' := 25) rfl rfl rfl rfl ?_
        have hb67 := rd_225_38 hst.1
        have hb68 := rd_225_39 hst.1
        have hF69 : z 235 = z0 235 := (funext fun _ => hst.2.2.1 _ _ (notS_c (by omega) (notS_c (by omega) (notS_c (by omega) (notS_c (by omega) notS_n)))))
        have hF70 : z 241 = z0 241 := (funext fun _ => hst.2.2.1 _ _ (notS_c (by omega) (notS_c (by omega) (notS_c (by omega) (notS_c (by omega) notS_n)))))
        refine r_cVI (pc' := 28) rfl rfl rfl rfl rfl sh_225 (m_186v (d := d + 2)  hst.1 hst.2.1 (by exact RW_f hst (notS_c (by omega) (notS_c (by omega) (notS_c (by omega) (notS_c (by omega) (notS_n))))) (fun i => (notS_c (by omega) (notS_c (by omega) (notS_c (by omega) (notS_c (by omega) (notS_n)))))) (fun i => (notS_c (by omega) (notS_c (by omega) (notS_c (by omega) (notS_c (by omega) (notS_n)))))) (fun i => (notS_c (by omega) (notS_c (by omega) (notS_c (by omega) (notS_c (by omega) (notS_n)))))) hrw) (by exact RL_f hst (notS_c (by omega) (notS_c (by omega) (notS_c (by omega) (notS_c (by omega) (notS_n))))) (fun i => (notS_c (by omega) (notS_c (by omega) (notS_c (by omega) (notS_c (by omega) (notS_n)))))) (fun i => (notS_c (by omega) (notS_c (by omega) (notS_c (by omega) (notS_c (by omega) (notS_n)))))) (fun i => (notS_c (by omega) (notS_c (by omega) (notS_c (by omega) (notS_c (by omega) (notS_n)))))) hrl) (by exact vdR_c e26 e235 e243 as1)) (fun v71 z72 w73 p74 h75 hs76 hE77 => ?_)
        obtain ⟨rfl, rfl, rfl, hE77⟩ := hE77
        have hn25 := hE77.2.2.1
        have hb79 := rd_245 hst.1 (i := v71.toNat) (by omega)
        refine r_ba (pc' := 29) rfl rfl sh_245 (Or.inr rfl) rfl (by omega) (by omega) rfl ?_
        refine r_zne (pc' := 32) rfl rfl ⟨by omega, by omega⟩ (fun hc80 => ?_) (fun hc80 => ?_)
        · skip
          refine r_ld (pc' := 91) rfl rfl rfl rfl ?_
          refine r_zne (pc' := 94) rfl rfl ⟨by omega, by omega⟩ (fun hc81 => ?_) (fun hc81 => ?_)
          · skip
            refine r_c0 (pc' := 100) rfl rfl ?_
            refine r_go rfl ?_
            exact r_rz rfl (by omega) (po_I hst ⟨by decide, by decide⟩ ⟨rfl, by omega, by omega, (by exact fun e0 i0 j p => (as2 e0 i0 j p).2)⟩)
          · skip
            refine r_ld (pc' := 96) rfl rfl rfl rfl ?_
            refine r_zeq (pc' := 99) rfl rfl ⟨by omega, by omega⟩ (fun hc82 => ?_) (fun hc82 => ?_)
            · skip
              refine r_c0 (pc' := 104) rfl rfl ?_
              exact r_rz rfl (by omega) (po_I hst ⟨by decide, by decide⟩ ⟨rfl, by omega, by omega, (by exact fun e0 i0 j p => (as2 e0 i0 j p).2)⟩)
            · skip
              refine r_c0 (pc' := 100) rfl rfl ?_
              refine r_go rfl ?_
              exact r_rz rfl (by omega) (po_I hst ⟨by decide, by decide⟩ ⟨rfl, by omega, by omega, (by exact fun e0 i0 j p => (as2 e0 i0 j p).2)⟩)
        · skip
          refine r_ld (pc' := 33) rfl rfl rfl rfl ?_
          refine r_gr (b := 245) (pc' := 36) rfl rfl sh_225 rfl pp_225_35 ?_
          refine r_ld (pc' := 37) rfl rfl rfl rfl ?_
          have hF83 : z 235 = z0 235 := (funext fun _ => hst.2.2.1 _ _ (notS_c (by omega) (notS_c (by omega) (notS_c (by omega) (notS_c (by omega) notS_n)))))
          have hF84 : z 241 = z0 241 := (funext fun _ => hst.2.2.1 _ _ (notS_c (by omega) (notS_c (by omega) (notS_c (by omega) (notS_c (by omega) notS_n)))))
          refine r_cVI (pc' := 40) rfl rfl rfl rfl rfl sh_225 (m_186v (d := d + 2)  hst.1 hst.2.1 (by exact RW_f hst (notS_c (by omega) (notS_c (by omega) (notS_c (by omega) (notS_c (by omega) (notS_n))))) (fun i => (notS_c (by omega) (notS_c (by omega) (notS_c (by omega) (notS_c (by omega) (notS_n)))))) (fun i => (notS_c (by omega) (notS_c (by omega) (notS_c (by omega) (notS_c (by omega) (notS_n)))))) (fun i => (notS_c (by omega) (notS_c (by omega) (notS_c (by omega) (notS_c (by omega) (notS_n)))))) hrw) (by exact RL_f hst (notS_c (by omega) (notS_c (by omega) (notS_c (by omega) (notS_c (by omega) (notS_n))))) (fun i => (notS_c (by omega) (notS_c (by omega) (notS_c (by omega) (notS_c (by omega) (notS_n)))))) (fun i => (notS_c (by omega) (notS_c (by omega) (notS_c (by omega) (notS_c (by omega) (notS_n)))))) (fun i => (notS_c (by omega) (notS_c (by omega) (notS_c (by omega) (notS_c (by omega) (notS_n)))))) hrl) (by exact vdR_c e26 e235 e243 as1)) (fun v85 z86 w87 p88 h89 hs90 hE91 => ?_)
          obtain ⟨rfl, rfl, rfl, hE91⟩ := hE91
          have hn37 := hE91.2.2.1
          obtain ⟨kk, hk1, hk2, hk3, hk4, hk5⟩ := hE91.2.2.2
          rw [e235, eR] at hk1 hk3 hk5; rw [e235] at hk4; rw [e241] at hk5
          refine r_c0 (pc' := 41) rfl rfl ?_
          refine r_zs (pc' := 42) rfl rfl sh_245 rfl (by omega) (by omega) (by omega) hst (inS_s (inS_s (inS_0 (by omega) (by omega) (by omega) (by omega)))) (wr_245 ⟨by omega, by omega⟩) (fun z93 hq94 hs95 => ?_)
          have hqm := hq94
          have hng := ngv_w hqm (by rw [show v85.toNat = v71.toNat by omega]; omega) (by omega)
          refine r_ld (pc' := 43) rfl rfl rfl rfl ?_
          have q235 : z93 235 = z0 235 := funext fun i => hs95.2.2.1 _ _ (notS_c (by omega) (notS_c (by omega) (notS_c (by omega) (notS_c (by omega) (notS_n)))))
          have q240 : z93 240 = z0 240 := funext fun i => hs95.2.2.1 _ _ (notS_c (by omega) (notS_c (by omega) (notS_c (by omega) (notS_c (by omega) (notS_n)))))
          have q241 : z93 241 = z0 241 := funext fun i => hs95.2.2.1 _ _ (notS_c (by omega) (notS_c (by omega) (notS_c (by omega) (notS_c (by omega) (notS_n)))))
          have q243 : z93 243 = z0 243 := funext fun i => hs95.2.2.1 _ _ (notS_c (by omega) (notS_c (by omega) (notS_c (by omega) (notS_c (by omega) (notS_n)))))
          have q26 : z93 225 26 = z0 225 26 := hs95.2.2.1 _ _ (notS_c (by omega) (notS_c (by omega) (notS_c (by omega) (notS_c (by omega) (notS_n)))))
          have qR := nR_f q26 q243
          have c38 : z93 225 38 = z 225 38 := ((congrFun (congrFun hq94 _) _).trans (mu_ne (by omega)))
          have c39 : z93 225 39 = z 225 39 := ((congrFun (congrFun hq94 _) _).trans (mu_ne (by omega)))
          have hF96 : z93 235 = z0 235 := (((congrFun hq94 _).trans (mu_fn (by omega))).trans (funext fun _ => hst.2.2.1 _ _ (notS_c (by omega) (notS_c (by omega) (notS_c (by omega) (notS_c (by omega) notS_n))))))
          have hF97 : z93 240 = z0 240 := (((congrFun hq94 _).trans (mu_fn (by omega))).trans (funext fun _ => hst.2.2.1 _ _ (notS_c (by omega) (notS_c (by omega) (notS_c (by omega) (notS_c (by omega) notS_n))))))
          refine r_cVV (pc' := 46) rfl rfl rfl rfl rfl sh_225 (m_185v (d := d + 1)  hs95.1 hs95.2.1 (by exact RW_f hs95 (notS_c (by omega) (notS_c (by omega) (notS_c (by omega) (notS_c (by omega) (notS_n))))) (fun i => (notS_c (by omega) (notS_c (by omega) (notS_c (by omega) (notS_c (by omega) (notS_n)))))) (fun i => (notS_c (by omega) (notS_c (by omega) (notS_c (by omega) (notS_c (by omega) (notS_n)))))) (fun i => (notS_c (by omega) (notS_c (by omega) (notS_c (by omega) (notS_c (by omega) (notS_n)))))) hrw) (by unfold cu; rw [c38, c39]; exact vdR_c q26 q235 q243 as1)) (fun z99 w100 p101 hs103 hE104 => ?_)
          have hs105 := st_tr hs95 hs103 (sub_B rfl)
          obtain ⟨rfl, hE104⟩ := hE104
          have hgo := hE104
          rw [q235, q240, qR] at hgo
          unfold cu at hgo
          rw [c38, c39] at hgo
          have hv1 : vdR z0 (cu z99) := by unfold cu; rw [hgo]; exact (vv_v hrw as1).1
          refine r_ld (pc' := 47) rfl rfl rfl rfl ?_
          have r235 : z99 235 = z0 235 := funext fun i => hs105.2.2.1 _ _ (notS_c (by omega) (notS_c (by omega) (notS_c (by omega) (notS_c (by omega) (notS_n)))))
          have r240 : z99 240 = z0 240 := funext fun i => hs105.2.2.1 _ _ (notS_c (by omega) (notS_c (by omega) (notS_c (by omega) (notS_c (by omega) (notS_n)))))
          have r241 : z99 241 = z0 241 := funext fun i => hs105.2.2.1 _ _ (notS_c (by omega) (notS_c (by omega) (notS_c (by omega) (notS_c (by omega) (notS_n)))))
          have r243 : z99 243 = z0 243 := funext fun i => hs105.2.2.1 _ _ (notS_c (by omega) (notS_c (by omega) (notS_c (by omega) (notS_c (by omega) (notS_n)))))
          have r26 : z99 225 26 = z0 225 26 := hs105.2.2.1 _ _ (notS_c (by omega) (notS_c (by omega) (notS_c (by omega) (notS_c (by omega) (notS_n)))))
          have rR := nR_f r26 r243
          have hb106 := rd_225_26 hz
          have hf107 : z99 225 26 = z0 225 26 := ((hs103.2.2.1 _ _ (notS_c (by omega) (notS_c (by omega) notS_n))).trans (((congrFun (congrFun hq94 _) _).trans (mu_ne (by omega))).trans (hst.2.2.1 _ _ (notS_c (by omega) (notS_c (by omega) (notS_c (by omega) (notS_c (by omega) notS_n)))))))
          have hF108 : z99 235 = z0 235 := ((funext fun _ => hs103.2.2.1 _ _ (notS_c (by omega) (notS_c (by omega) notS_n))).trans (((congrFun hq94 _).trans (mu_fn (by omega))).trans (funext fun _ => hst.2.2.1 _ _ (notS_c (by omega) (notS_c (by omega) (notS_c (by omega) (notS_c (by omega) notS_n)))))))
          refine r_cVV (pc' := 50) rfl rfl rfl rfl rfl sh_225 (m_184v (d := d)  hs105.1 hs105.2.1 (by exact RW_f hs105 (notS_c (by omega) (notS_c (by omega) (notS_c (by omega) (notS_c (by omega) (notS_n))))) (fun i => (notS_c (by omega) (notS_c (by omega) (notS_c (by omega) (notS_c (by omega) (notS_n)))))) (fun i => (notS_c (by omega) (notS_c (by omega) (notS_c (by omega) (notS_c (by omega) (notS_n)))))) (fun i => (notS_c (by omega) (notS_c (by omega) (notS_c (by omega) (notS_c (by omega) (notS_n)))))) hrw) (by rw [rR, r26, r235]; exact hrl.1) (by exact vdR_c r26 r235 r243 hv1)) (fun z110 w111 p112 hs114 hE115 => ?_)
          have hs116 := st_tr hs105 hs114 (sub_B rfl)
          obtain ⟨rfl, hE115⟩ := hE115
          have hgt := hE115
          rw [r235, rR] at hgt
          unfold cu at hgt
          rw [hgo] at hgt
          have hJ := gv_K hrw hrl.1 as1 hgt
          have h245 : z110 245 = z93 245 := funext fun i => ((hs114.2.2.1 _ _ (notS_c (by omega) (notS_c (by omega) (notS_c (by omega) notS_n)))).trans (hs103.2.2.1 _ _ (notS_c (by omega) (notS_c (by omega) notS_n))))
          have hng2 := ngv_c h245
          refine r_ld (pc' := 51) rfl rfl rfl rfl ?_
          refine r_zeq (pc' := 54) rfl rfl ⟨by omega, by omega⟩ (fun hc117 => ?_) (fun hc117 => ?_)
          · skip
            have hb118 := rd_225_38 hs116.1
            have hb119 := rd_225_39 hs116.1
            have hjb := ngv_b z110
            exact w_lv (sub_c rfl (sub_c rfl sub_n)) rfl (ih1 x4 z110 w111 ⟨by omega, by omega⟩ hs116 (by first | exact hJ.1 | exact as1 | exact VR_0 hrw (e := a1.toNat) (by omega) (by omega) (by omega) (by omega) | (unfold cu; simp only []; exact VR_0 hrw (e := a1.toNat) (by omega) rfl (by omega) (by omega))) (by first | exact as2 | (intro e0 i0 j p; obtain ⟨j1, p1⟩ := as2 e0 i0 j p; refine ⟨fun A c => ((hJ.2 A c).symm.trans (j1 A c)), ?_⟩; exact PS_m hrl.1.1 p1 hk4 hk2 hk3 (fun A c => (hk5 A).symm.trans (j1 A c)) (fun k q => (WP_w hqm k (by unfold WP at q ⊢; rw [← h245]; exact q)).imp id (fun r => r.trans (by rw [hk1])))) | (intro e0 i0 j p; simp only []; exact ⟨fun A c => (JR_0 hrw (e := a1.toNat) (by omega) rfl A c).trans (j A c), PS_c (fun k q => by unfold WP at q ⊢; first | exact q | (rw [← (show z110 245 = z0 245 from funext fun i => ((hs114.2.2.1 _ _ (notS_c (by omega) (notS_c (by omega) (notS_c (by omega) notS_n)))).trans ((hs103.2.2.1 _ _ (notS_c (by omega) (notS_c (by omega) notS_n))).trans (((congrFun (congrFun hq94 _) _).trans (mu_ne (by omega))).trans (hst.2.2.1 _ _ (notS_c (by omega) (notS_c (by omega) (notS_c (by omega) (notS_c (by omega) notS_n)))))))))]; exact q)) p⟩)) (by omega))
          · skip
            refine r_ld (pc' := 55) rfl rfl rfl rfl ?_
            have hb120 := rd_225_40 hs116.1
            refine r_gi (pc' := 58) rfl rfl sh_225 rfl rfl ?_
            refine r_c0 (pc' := 59) rfl rfl ?_
            refine r_ine (pc' := 62) rfl rfl ⟨by omega, by omega⟩ ⟨by decide, by decide⟩ (fun hc121 => ?_) (fun hc121 => ?_)
            · skip
              have hb122 := rd_225_38 hs116.1
              have hb123 := rd_225_39 hs116.1
              have hjb := ngv_b z110
              exact w_lv (sub_c rfl (sub_c rfl sub_n)) rfl (ih1 x4 z110 w111 ⟨by omega, by omega⟩ hs116 (by first | exact hJ.1 | exact as1 | exact VR_0 hrw (e := a1.toNat) (by omega) (by omega) (by omega) (by omega) | (unfold cu; simp only []; exact VR_0 hrw (e := a1.toNat) (by omega) rfl (by omega) (by omega))) (by first | exact as2 | (intro e0 i0 j p; obtain ⟨j1, p1⟩ := as2 e0 i0 j p; refine ⟨fun A c => ((hJ.2 A c).symm.trans (j1 A c)), ?_⟩; exact PS_m hrl.1.1 p1 hk4 hk2 hk3 (fun A c => (hk5 A).symm.trans (j1 A c)) (fun k q => (WP_w hqm k (by unfold WP at q ⊢; rw [← h245]; exact q)).imp id (fun r => r.trans (by rw [hk1])))) | (intro e0 i0 j p; simp only []; exact ⟨fun A c => (JR_0 hrw (e := a1.toNat) (by omega) rfl A c).trans (j A c), PS_c (fun k q => by unfold WP at q ⊢; first | exact q | (rw [← (show z110 245 = z0 245 from funext fun i => ((hs114.2.2.1 _ _ (notS_c (by omega) (notS_c (by omega) (notS_c (by omega) notS_n)))).trans ((hs103.2.2.1 _ _ (notS_c (by omega) (notS_c (by omega) notS_n))).trans (((congrFun (congrFun hq94 _) _).trans (mu_ne (by omega))).trans (hst.2.2.1 _ _ (notS_c (by omega) (notS_c (by omega) (notS_c (by omega) (notS_c (by omega) notS_n)))))))))]; exact q)) p⟩)) (by omega))
            · skip
              refine r_c0 (pc' := 63) rfl rfl ?_
              refine r_go rfl ?_
              refine r_st (pc' := 68) (lv' := [(3, _), (0, _), (4, _)]) rfl rfl rfl rfl ?_
              refine r_ld (pc' := 70) rfl rfl rfl rfl ?_
              refine r_zeq (pc' := 73) rfl rfl ⟨by omega, by omega⟩ (fun hc124 => ?_) (fun hc124 => ?_)
              · skip
                refine r_c0 (pc' := 85) rfl rfl ?_
                refine r_st (pc' := 87) (lv' := [(4, _), (3, _), (0, _)]) rfl rfl rfl rfl ?_
                refine r_go rfl ?_
                have hb125 := rd_225_38 hs116.1
                have hb126 := rd_225_39 hs116.1
                have hjb := ngv_b z110
                exact w_lv (sub_c rfl (sub_c rfl (sub_c rfl sub_n))) rfl (ih0 1 0 z110 w111 ⟨by omega, by omega⟩ ⟨by omega, by omega⟩ hs116 (by first | exact hJ.1 | exact as1 | exact VR_0 hrw (e := a1.toNat) (by omega) (by omega) (by omega) (by omega) | (unfold cu; simp only []; exact VR_0 hrw (e := a1.toNat) (by omega) rfl (by omega) (by omega))) (by first | exact as2 | (intro e0 i0 j p; obtain ⟨j1, p1⟩ := as2 e0 i0 j p; refine ⟨fun A c => ((hJ.2 A c).symm.trans (j1 A c)), ?_⟩; exact PS_m hrl.1.1 p1 hk4 hk2 hk3 (fun A c => (hk5 A).symm.trans (j1 A c)) (fun k q => (WP_w hqm k (by unfold WP at q ⊢; rw [← h245]; exact q)).imp id (fun r => r.trans (by rw [hk1])))) | (intro e0 i0 j p; simp only []; exact ⟨fun A c => (JR_0 hrw (e := a1.toNat) (by omega) rfl A c).trans (j A c), PS_c (fun k q => by unfold WP at q ⊢; first | exact q | (rw [← (show z110 245 = z0 245 from funext fun i => ((hs114.2.2.1 _ _ (notS_c (by omega) (notS_c (by omega) (notS_c (by omega) notS_n)))).trans ((hs103.2.2.1 _ _ (notS_c (by omega) (notS_c (by omega) notS_n))).trans (((congrFun (congrFun hq94 _) _).trans (mu_ne (by omega))).trans (hst.2.2.1 _ _ (notS_c (by omega) (notS_c (by omega) (notS_c (by omega) (notS_c (by omega) notS_n)))))))))]; exact q)) p⟩)) (by omega))
              · skip
                refine r_ld (pc' := 74) rfl rfl rfl rfl ?_
                refine r_gi (pc' := 77) rfl rfl sh_225 rfl rfl ?_
                refine r_zne (pc' := 80) rfl rfl ⟨by omega, by omega⟩ (fun hc127 => ?_) (fun hc127 => ?_)
                · skip
                  refine r_c0 (pc' := 85) rfl rfl ?_
                  refine r_st (pc' := 87) (lv' := [(4, _), (3, _), (0, _)]) rfl rfl rfl rfl ?_
                  refine r_go rfl ?_
                  have hb128 := rd_225_38 hs116.1
                  have hb129 := rd_225_39 hs116.1
                  have hjb := ngv_b z110
                  exact w_lv (sub_c rfl (sub_c rfl (sub_c rfl sub_n))) rfl (ih0 1 0 z110 w111 ⟨by omega, by omega⟩ ⟨by omega, by omega⟩ hs116 (by first | exact hJ.1 | exact as1 | exact VR_0 hrw (e := a1.toNat) (by omega) (by omega) (by omega) (by omega) | (unfold cu; simp only []; exact VR_0 hrw (e := a1.toNat) (by omega) rfl (by omega) (by omega))) (by first | exact as2 | (intro e0 i0 j p; obtain ⟨j1, p1⟩ := as2 e0 i0 j p; refine ⟨fun A c => ((hJ.2 A c).symm.trans (j1 A c)), ?_⟩; exact PS_m hrl.1.1 p1 hk4 hk2 hk3 (fun A c => (hk5 A).symm.trans (j1 A c)) (fun k q => (WP_w hqm k (by unfold WP at q ⊢; rw [← h245]; exact q)).imp id (fun r => r.trans (by rw [hk1])))) | (intro e0 i0 j p; simp only []; exact ⟨fun A c => (JR_0 hrw (e := a1.toNat) (by omega) rfl A c).trans (j A c), PS_c (fun k q => by unfold WP at q ⊢; first | exact q | (rw [← (show z110 245 = z0 245 from funext fun i => ((hs114.2.2.1 _ _ (notS_c (by omega) (notS_c (by omega) (notS_c (by omega) notS_n)))).trans ((hs103.2.2.1 _ _ (notS_c (by omega) (notS_c (by omega) notS_n))).trans (((congrFun (congrFun hq94 _) _).trans (mu_ne (by omega))).trans (hst.2.2.1 _ _ (notS_c (by omega) (notS_c (by omega) (notS_c (by omega) (notS_c (by omega) notS_n)))))))))]; exact q)) p⟩)) (by omega))
                · exfalso; omega
      · intro x4 z w  hx4 hst as1 as2 hM
        refine r_c0 (pc' := 67) rfl rfl ?_
        refine r_st (pc' := 68) (lv' := [(3, _), (0, _), (4, _)]) rfl rfl rfl rfl ?_
        refine r_ld (pc' := 70) rfl rfl rfl rfl ?_
        refine r_zeq (pc' := 73) rfl rfl ⟨by omega, by omega⟩ (fun hc130 => ?_) (fun hc130 => ?_)
        · skip
          refine r_c0 (pc' := 85) rfl rfl ?_
          refine r_st (pc' := 87) (lv' := [(4, _), (3, _), (0, _)]) rfl rfl rfl rfl ?_
          refine r_go rfl ?_
          have hb131 := rd_225_38 hst.1
          have hb132 := rd_225_39 hst.1
          have hjb := ngv_b z
          exact w_lv (sub_c rfl (sub_c rfl (sub_c rfl sub_n))) rfl (ih0 0 0 z w ⟨by omega, by omega⟩ ⟨by omega, by omega⟩ hst (by first | exact hJ.1 | exact as1 | exact VR_0 hrw (e := a1.toNat) (by omega) (by omega) (by omega) (by omega) | (unfold cu; simp only []; exact VR_0 hrw (e := a1.toNat) (by omega) rfl (by omega) (by omega))) (by first | exact as2 | (intro e0 i0 j p; obtain ⟨j1, p1⟩ := as2 e0 i0 j p; refine ⟨fun A c => ((hJ.2 A c).symm.trans (j1 A c)), ?_⟩; exact PS_m hrl.1.1 p1 hk4 hk2 hk3 (fun A c => (hk5 A).symm.trans (j1 A c)) (fun k q => (WP_w hqm k (by unfold WP at q ⊢; rw [← h245]; exact q)).imp id (fun r => r.trans (by rw [hk1])))) | (intro e0 i0 j p; simp only []; exact ⟨fun A c => (JR_0 hrw (e := a1.toNat) (by omega) rfl A c).trans (j A c), PS_c (fun k q => by unfold WP at q ⊢; first | exact q | (rw [← (show z 245 = z0 245 from funext fun i => (hst.2.2.1 _ _ (notS_c (by omega) (notS_c (by omega) (notS_c (by omega) (notS_c (by omega) notS_n))))))]; exact q)) p⟩)) (by omega))
        · skip
          refine r_ld (pc' := 74) rfl rfl rfl rfl ?_
          have hb133 := rd_225_40 hst.1
          refine r_gi (pc' := 77) rfl rfl sh_225 rfl rfl ?_
          refine r_zne (pc' := 80) rfl rfl ⟨by omega, by omega⟩ (fun hc134 => ?_) (fun hc134 => ?_)
          · skip
            refine r_c0 (pc' := 85) rfl rfl ?_
            refine r_st (pc' := 87) (lv' := [(4, _), (3, _), (0, _)]) rfl rfl rfl rfl ?_
            refine r_go rfl ?_
            have hb135 := rd_225_38 hst.1
            have hb136 := rd_225_39 hst.1
            have hjb := ngv_b z
            exact w_lv (sub_c rfl (sub_c rfl (sub_c rfl sub_n))) rfl (ih0 0 0 z w ⟨by omega, by omega⟩ ⟨by omega, by omega⟩ hst (by first | exact hJ.1 | exact as1 | exact VR_0 hrw (e := a1.toNat) (by omega) (by omega) (by omega) (by omega) | (unfold cu; simp only []; exact VR_0 hrw (e := a1.toNat) (by omega) rfl (by omega) (by omega))) (by first | exact as2 | (intro e0 i0 j p; obtain ⟨j1, p1⟩ := as2 e0 i0 j p; refine ⟨fun A c => ((hJ.2 A c).symm.trans (j1 A c)), ?_⟩; exact PS_m hrl.1.1 p1 hk4 hk2 hk3 (fun A c => (hk5 A).symm.trans (j1 A c)) (fun k q => (WP_w hqm k (by unfold WP at q ⊢; rw [← h245]; exact q)).imp id (fun r => r.trans (by rw [hk1])))) | (intro e0 i0 j p; simp only []; exact ⟨fun A c => (JR_0 hrw (e := a1.toNat) (by omega) rfl A c).trans (j A c), PS_c (fun k q => by unfold WP at q ⊢; first | exact q | (rw [← (show z 245 = z0 245 from funext fun i => (hst.2.2.1 _ _ (notS_c (by omega) (notS_c (by omega) (notS_c (by omega) (notS_c (by omega) notS_n))))))]; exact q)) p⟩)) (by omega))
          · skip
            refine r_c0 (pc' := 81) rfl rfl ?_
            refine r_go rfl ?_
            refine r_st (pc' := 87) (lv' := [(4, _), (3, _), (0, _)]) rfl rfl rfl rfl ?_
            refine r_go rfl ?_
            have hb137 := rd_225_38 hst.1
            have hb138 := rd_225_39 hst.1
            have hjb := ngv_b z
            exact w_lv (sub_c rfl (sub_c rfl (sub_c rfl sub_n))) rfl (ih0 0 1 z w ⟨by omega, by omega⟩ ⟨by omega, by omega⟩ hst (by first | exact hJ.1 | exact as1 | exact VR_0 hrw (e := a1.toNat) (by omega) (by omega) (by omega) (by omega) | (unfold cu; simp only []; exact VR_0 hrw (e := a1.toNat) (by omega) rfl (by omega) (by omega))) (by first | exact as2 | (intro e0 i0 j p; obtain ⟨j1, p1⟩ := as2 e0 i0 j p; refine ⟨fun A c => ((hJ.2 A c).symm.trans (j1 A c)), ?_⟩; exact PS_m hrl.1.1 p1 hk4 hk2 hk3 (fun A c => (hk5 A).symm.trans (j1 A c)) (fun k q => (WP_w hqm k (by unfold WP at q ⊢; rw [← h245]; exact q)).imp id (fun r => r.trans (by rw [hk1])))) | (intro e0 i0 j p; simp only []; exact ⟨fun A c => (JR_0 hrw (e := a1.toNat) (by omega) rfl A c).trans (j A c), PS_c (fun k q => by unfold WP at q ⊢; first | exact q | (rw [← (show z 245 = z0 245 from funext fun i => (hst.2.2.1 _ _ (notS_c (by omega) (notS_c (by omega) (notS_c (by omega) (notS_c (by omega) notS_n))))))]; exact q)) p⟩)) (by omega))
  refine w_m rfl rfl ?_
  refine r_ld (pc' := 1) rfl rfl rfl rfl ?_
  refine r_ld (pc' := 2) rfl rfl rfl rfl ?_
  refine r_gr (b := 241) (pc' := 5) rfl rfl sh_225 rfl pp_225_30 ?_
  refine r_ld (pc' := 6) rfl rfl rfl rfl ?_
  have hb139 := rd_241 hz (i := a1.toNat) (by omega)
  refine r_ia (pc' := 7) rfl rfl sh_241 rfl (by omega) (by omega) rfl ?_
  refine r_pi (pc' := 10) rfl rfl sh_225 rfl rfl hst (inS_0 (by omega) (by omega) (by omega) (by omega)) (wr_225_38 ⟨by omega, by omega⟩) (fun z140 hq141 hs142 => ?_)
  refine r_ld (pc' := 11) rfl rfl rfl rfl ?_
  refine r_ld (pc' := 12) rfl rfl rfl rfl ?_
  refine r_pi (pc' := 15) rfl rfl sh_225 rfl rfl hs142 (inS_s (inS_0 (by omega) (by omega) (by omega) (by omega))) (wr_225_39 ⟨by omega, by omega⟩) (fun z143 hq144 hs145 => ?_)
  refine r_c0 (pc' := 16) rfl rfl ?_
  refine r_st (pc' := 17) (lv' := [(3, _), (0, _), (1, _), (2, _)]) rfl rfl rfl rfl ?_
  refine r_c0 (pc' := 18) rfl rfl ?_
  refine r_st (pc' := 20) (lv' := [(4, _), (3, _), (0, _), (1, _), (2, _)]) rfl rfl rfl rfl ?_
  have hf146 : z143 225 38 = z0 241 a1.toNat := (((congrFun (congrFun hq144 _) _).trans (mu_ne (by omega))).trans ((congrFun (congrFun hq141 _) _).trans mu_eq))
  have hf147 : z143 225 39 = a2 := ((congrFun (congrFun hq144 _) _).trans mu_eq)
  have hjb := ngv_b z143
  exact w_lv (sub_c rfl (sub_c rfl (sub_c rfl sub_n))) rfl ((key ((10 * ngv z143 + 5 : Int).toNat + 1)).1 1 1 z143 w0 ⟨by omega, by omega⟩ ⟨by omega, by omega⟩ hs145 (by first | exact hJ.1 | exact as1 | exact VR_0 hrw (e := a1.toNat) (by omega) (by omega) (by omega) (by omega) | (unfold cu; simp only [hf146, hf147]; exact VR_0 hrw (e := a1.toNat) (by omega) rfl (by omega) (by omega))) (by first | exact as2 | (intro e0 i0 j p; obtain ⟨j1, p1⟩ := as2 e0 i0 j p; refine ⟨fun A c => ((hJ.2 A c).symm.trans (j1 A c)), ?_⟩; exact PS_m hrl.1.1 p1 hk4 hk2 hk3 (fun A c => (hk5 A).symm.trans (j1 A c)) (fun k q => (WP_w hqm k (by unfold WP at q ⊢; rw [← h245]; exact q)).imp id (fun r => r.trans (by rw [hk1])))) | (intro e0 i0 j p; simp only [hf146, hf147]; exact ⟨fun A c => (JR_0 hrw (e := a1.toNat) (by omega) rfl A c).trans (j A c), PS_c (fun k q => by unfold WP at q ⊢; first | exact q | (rw [← (show z143 245 = z0 245 from funext fun i => (((congrFun (congrFun hq144 _) _).trans (mu_ne (by omega))).trans ((congrFun (congrFun hq141 _) _).trans (mu_ne (by omega)))))]; exact q)) p⟩)) (by omega))
end

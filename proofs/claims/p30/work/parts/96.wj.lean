section
/-! making short, exactly: for both walks -/
section
variable {m E : Int} {T lo hi n : Nat → Int}
theorem CD_at (sd : SD m E T lo hi) (tn : ∀ s : Nat, (s : Int) < 3 * m → 0 ≤ T s) {e : Nat} (he : (e : Int) < E) (c : CDd m.toNat (vT T) n e) : lo e / 3 ≠ hi e / 3 ∧ max (n (vT T (bh (lo e).toNat)) + n (vT T (bh (hi e).toNat))) (n (vT T (ah (lo e).toNat)) + n (vT T (ah (hi e).toNat))) - n e < n e := by
  obtain ⟨s1, s2, l1, l2, lt, e1, e2, d⟩ := c
  obtain ⟨a1, a2, a3, a4, a5, a6⟩ := sd e he
  have t1 := tn s1 (by omega)
  have t2 := tn s2 (by omega)
  have e1 : (T s1).toNat = e := e1
  have e2 : (T s2).toNat = e := e2
  have k1 := a6 s1 (by omega) (by omega)
  have k2 := a6 s2 (by omega) (by omega)
  have g1 : s1 = (lo e).toNat := by omega
  have g2 : s2 = (hi e).toNat := by omega
  rw [g1, g2] at d
  exact ⟨by omega, d⟩
theorem CD_no1 (sd : SD m E T lo hi) (tn : ∀ s : Nat, (s : Int) < 3 * m → 0 ≤ T s) {e : Nat} (he : (e : Int) < E) (q : lo e / 3 = hi e / 3) : ¬ CDd m.toNat (vT T) n e := fun c => (CD_at sd tn he c).1 q
theorem CD_no2 (sd : SD m E T lo hi) (tn : ∀ s : Nat, (s : Int) < 3 * m → 0 ≤ T s) {e : Nat} (he : (e : Int) < E) {x y z w v : Int} (hx : x = T (bh (lo e).toNat)) (hy : y = T (ah (lo e).toNat)) (hz : z = T (bh (hi e).toNat)) (hw : w = T (ah (hi e).toNat)) (hv : v = max (n x.toNat + n z.toNat) (n y.toNat + n w.toNat) - n e) (h : n e ≤ v) : ¬ CDd m.toNat (vT T) n e := by
  intro c
  have k : max (n (T (bh (lo e).toNat)).toNat + n (T (bh (hi e).toNat)).toNat) (n (T (ah (lo e).toNat)).toNat + n (T (ah (hi e).toNat)).toNat) - n e < n e := (CD_at sd tn he c).2
  rw [← hx, ← hy, ← hz, ← hw] at k
  omega
theorem CD_ge (ly : LY m E T) {e : Nat} (he : E ≤ (e : Int)) : ¬ CDd m.toNat (vT T) n e := by
  rintro ⟨s1, s2, l1, _, _, e1, _, _⟩
  have e1 : (T s1).toNat = e := e1
  have := ly.2.2.2.1 s1 (by omega)
  omega
/-- by the reference's sides -/
theorem CQ_at {s1 s2 : Int} {e : Nat} (sq : SQ m T e s1 s2) (tn : ∀ s : Nat, (s : Int) < 3 * m → 0 ≤ T s) (c : CDd m.toNat (vT T) n e) : s1 / 3 ≠ s2 / 3 ∧ max (n (vT T (bh s1.toNat)) + n (vT T (bh s2.toNat))) (n (vT T (ah s1.toNat)) + n (vT T (ah s2.toNat))) - n e < n e := by
  obtain ⟨r1, r2, l1, l2, lt, e1, e2, d⟩ := c
  obtain ⟨a1, a2, a3, a4, a5, a6⟩ := sq
  have t1 := tn r1 (by omega)
  have t2 := tn r2 (by omega)
  have e1 : (T r1).toNat = e := e1
  have e2 : (T r2).toNat = e := e2
  have k1 := a6 r1 (by omega) (by omega)
  have k2 := a6 r2 (by omega) (by omega)
  have g1 : r1 = s1.toNat := by omega
  have g2 : r2 = s2.toNat := by omega
  rw [g1, g2] at d
  exact ⟨by omega, d⟩
end
section
variable {m : Nat} {E : Int} {T T' T0 T0' : Nat → Nat} {n n' n0 n0' : Nat → Int} {cf cf' : Nat → Nat → Nat}
theorem CHN_0 {k : Nat} (hk : k = 0) : CHN m E T0 n0 cf k T0 n0 := by subst hk; exact ⟨fun _ _ => rfl, fun _ _ => rfl⟩
theorem CHN_g : ∀ (k : Nat) {T : Nat → Nat} {n : Nat → Int}, (∀ i j, i < k → j < 5 → cf' i j = cf i j) → CHN m E T0 n0 cf k T n → CHN m E T0 n0 cf' k T n
  | 0, _, _, _, c => c
  | k + 1, T, n, h, c => by
    obtain ⟨T1, n1, c1, c2, st⟩ := c
    exact ⟨T1, n1, CHN_g k (fun i j hi hj => h i j (by omega) hj) c1, c2, by rw [h k 0 (by omega) (by omega), h k 1 (by omega) (by omega), h k 2 (by omega) (by omega), h k 3 (by omega) (by omega), h k 4 (by omega) (by omega)]; exact st⟩
theorem CHN_s {k k' e x y z w : Nat} {T1 : Nat → Nat} {n1 : Nat → Int} (c : CHN m E T0 n0 cf k T1 n1) (ns : ¬ SHs E n1) (st : STP m T1 n1 e x y z w T n) (hc : ∀ i j, i < k → j < 5 → cf' i j = cf i j) (c0 : cf' k 0 = e) (c1 : cf' k 1 = x) (c2 : cf' k 2 = y) (c3 : cf' k 3 = z) (c4 : cf' k 4 = w) (hk : k' = k + 1) : CHN m E T0 n0 cf' k' T n := by
  subst hk
  exact ⟨T1, n1, CHN_g k hc c, ns, by rw [c0, c1, c2, c3, c4]; exact st⟩
theorem CHN_z (hT : ∀ s, s < 3 * m → T0 s = T0' s) (hn : ∀ j, j < 18 → n0 j = n0' j) : ∀ (k : Nat) {T : Nat → Nat} {n : Nat → Int}, CHN m E T0 n0 cf k T n → CHN m E T0' n0' cf k T n
  | 0, T, n, c => by
    obtain ⟨a, b⟩ := c
    exact ⟨fun s hs => (a s hs).trans (hT s hs), fun j hj => (b j hj).trans (hn j hj)⟩
  | k + 1, T, n, c => by
    obtain ⟨T1, n1, c1, c2, st⟩ := c
    exact ⟨T1, n1, CHN_z hT hn k c1, c2, st⟩
theorem CHN_b (hT : ∀ s, s < 3 * m → T0 s < 18) : ∀ (k : Nat) {T : Nat → Nat} {n : Nat → Int}, CHN m E T0 n0 cf k T n → (∀ i j, i < k → j < 5 → cf i j < 18) ∧ ∀ s, s < 3 * m → T s < 18
  | 0, T, n, c => by
    obtain ⟨a, b⟩ := c
    exact ⟨fun i j hi => absurd hi (by omega), fun s hs => by rw [a s hs]; exact hT s hs⟩
  | k + 1, T, n, c => by
    obtain ⟨T1, n1, c1, c2, st⟩ := c
    obtain ⟨i1, i2⟩ := CHN_b hT k c1
    obtain ⟨s1, s2, r1, r2, lt, f, en, d, le⟩ := st
    refine ⟨fun i j hi hj => ?_, f.lt i2⟩
    by_cases q : i < k
    · exact i1 i j q hj
    · have q : i = k := by omega
      subst q
      rcases (show j = 0 ∨ j = 1 ∨ j = 2 ∨ j = 3 ∨ j = 4 by omega) with rfl | rfl | rfl | rfl | rfl
      · rw [← f.e1]; exact i2 _ f.l1
      · rw [← f.hx]; exact i2 _ (bh_lt f.l1)
      · rw [← f.hy]; exact i2 _ (ah_lt f.l1)
      · rw [← f.hz]; exact i2 _ (bh_lt f.l2)
      · rw [← f.hw]; exact i2 _ (ah_lt f.l2)
end
/-- what comes of a single line: stuck, or a road -/
def RDX (m E : Int) (T0 : Nat → Nat) (n0 : Nat → Int) (kind : Int) (r : Rdt) : Prop := (kind = 1 ∧ ∃ (K : Nat) (cf : Nat → Nat → Nat) (T : Nat → Nat) (n : Nat → Int), CHN m.toNat E T0 n0 cf K T n ∧ ¬ SHs E n ∧ ∀ e, ¬ CDd m.toNat T n e) ∨
  (kind = 2 ∧ ∃ (T : Nat → Nat) (n : Nat → Int), CHN m.toNat E T0 n0 r.1 r.2.1 T n ∧ SHs E n ∧ ENa m.toNat T n r.2.2.1 r.2.2.2.1 r.2.2.2.2.1 r.2.2.2.2.2 ∧ EN2 m.toNat T n)
def RDY (m E : Int) (T0 : Nat → Nat) (n0 : Nat → Int) (kind : Int) (r : Rdt) : Prop := (kind = 1 ∧ ∃ (K : Nat) (cf : Nat → Nat → Nat) (T : Nat → Nat) (n : Nat → Int), CHN m.toNat E T0 n0 cf K T n ∧ ¬ SHs E n ∧ ∀ e, ¬ CDd m.toNat T n e) ∨
  (kind = 2 ∧ ∃ (T : Nat → Nat) (n : Nat → Int), CHN m.toNat E T0 n0 r.1 r.2.1 T n ∧ SHs E n ∧ ENb m.toNat T n r.2.2.1 r.2.2.2.1 r.2.2.2.2.1 r.2.2.2.2.2)
theorem RDX_z {m E : Int} {T0 T0' : Nat → Nat} {n0 n0' : Nat → Int} {k : Int} {r : Rdt} (hT : ∀ s, s < 3 * m.toNat → T0 s = T0' s) (hn : ∀ j, j < 18 → n0' j = n0 j) (h : RDX m E T0 n0 k r) : RDX m E T0' n0' k r := by
  have hn' : ∀ j, j < 18 → n0 j = n0' j := fun j hj => (hn j hj).symm
  rcases h with ⟨x0, K, cf, T, n, c, ns, nc⟩ | ⟨x0, T, n, c, s, ea, e2⟩
  · exact Or.inl ⟨x0, K, cf, T, n, CHN_z hT hn' K c, ns, nc⟩
  · exact Or.inr ⟨x0, T, n, CHN_z hT hn' _ c, s, ea, e2⟩
theorem RD_u {m E : Int} {T0 T0' : Nat → Nat} {n0 n0' : Nat → Int} (hE : E ≤ 18) (hT : ∀ s, s < 3 * m.toNat → T0 s < 18) (h : ROT m.toNat T0 T0') (hn : ∀ j, j < 18 → n0' j = n0 j) {k k' : Int} {r r' : Rdt} (x : RDX m E T0 n0 k r) (y : RDY m E T0' n0' k' r') : k' = k ∧ (k = 2 → Req r r') := by
  rcases x with ⟨x0, K, cf, T, n, c, ns, nc⟩ | ⟨x0, T, n, c, s, ea, e2⟩ <;> rcases y with ⟨y0, K', cf', T', n', c', ns', nc'⟩ | ⟨y0, T', n', c', s', eb⟩
  · exact ⟨by omega, fun q => by omega⟩
  · exfalso
    have l := CHN_l hE hT h hn c (Or.inr nc) c' (Or.inl s')
    rw [l] at c'
    obtain ⟨_, u2, u3, u4⟩ := CHN_u hT h hn K c c'
    exact ns (SHs_c hE (fun j hj => (u3 j hj).symm) s')
  · exfalso
    have l := CHN_l hE hT h hn c (Or.inl s) c' (Or.inr nc')
    rw [l] at c'
    obtain ⟨_, u2, u3, u4⟩ := CHN_u hT h hn _ c c'
    exact ns' (SHs_c hE u3 s)
  · refine ⟨by omega, fun _ => ?_⟩
    have l := CHN_l hE hT h hn c (Or.inl s) c' (Or.inl s')
    rw [l] at c'
    obtain ⟨u1, u2, u3, u4⟩ := CHN_u hT h hn _ c c'
    obtain ⟨g1, g2, g3, g4⟩ := EN_u u2 u4 u3 e2 ea eb
    obtain ⟨u, v, uv, hv, cu, cv, a1, a2, a3, a4⟩ := ea
    have hu : u < 3 * m.toNat := by omega
    exact ⟨(CHN_b hT _ c).1, u1, Prod.ext l (Prod.ext g1 (Prod.ext g2 (Prod.ext g3 g4))), by rw [a1]; exact u4 _ hu, by rw [a2]; exact u4 _ hv, by rw [a3]; exact u4 _ (ah_lt hu), by rw [a4]; exact u4 _ (bh_lt hu)⟩
/-- one loop, no ring -/
def SGL (E : Int) (T o fs n : Nat → Int) : Prop := sm n 18 ≤ 18000 ∧ (lpe T o fs n E.toNat).2.1 = 1 ∧ (lpe T o fs n E.toNat).2.2 = 0
theorem SGL_c {m E : Int} {T o fs n T' o' fs' n' : Nat → Int} (h : WT m E T o fs) (f : FT m.toNat (vT T) n) (g : GE m E T o fs n T' o' fs' n') (s : sm n' 18 = sm n 18) : SGL E T o fs n ↔ SGL E T' o' fs' n' := by
  have m0 := h.m0
  have m2 := h.hE
  unfold SGL
  rw [lpe_c h f g E.toNat (by omega), s]
theorem SGL_nr {m E : Int} {T o fs n : Nat → Int} (h : WT m E T o fs) (f : FT m.toNat (vT T) n) (s : SGL E T o fs n) : ¬ RNG m.toNat (vT T) n := sg_nr h f s.2.1 s.2.2
theorem GE_r {m E : Int} {T o fs n n' : Nat → Int} (h : ∀ e : Nat, (e : Int) < E → n e = n' e) : GE m E T o fs n T o fs n' := ⟨fun _ _ => ⟨rfl, rfl⟩, fun e he => ⟨rfl, h e he⟩⟩
theorem RNG_c {m : Nat} {T T' : Nat → Nat} {n n' : Nat → Int} (hT : ∀ s, s < 3 * m → T' s = T s) (hn : ∀ s, s < 3 * m → n' (T s) = n (T s)) (g : RNG m T' n') : RNG m T n := by
  obtain ⟨L, l01, lab, num⟩ := g
  refine ⟨L, l01, fun s r hs hr ne q => lab s r hs hr ne (by rw [hT s hs, hT r hr]; exact q), fun s hs => ?_⟩
  have k := num s hs
  rw [hT s hs, hn s hs] at k
  exact k
/-- a line as the class keeps it, as the reference keeps it -/
def CLQ (z0 w0 z : mZ) (t l k : Nat) : Prop := (z (17 + 2 * k) 0 = 0 ∧ ¬ SGL (z0 t 1) (z0 (t + 1)) (z0 (t + 2)) (z0 (t + 5)) (w0 (t + 8 + l))) ∨ (SGL (z0 t 1) (z0 (t + 1)) (z0 (t + 2)) (z0 (t + 5)) (w0 (t + 8 + l)) ∧ RDX (z0 t 0) (z0 t 1) (vT (z0 (t + 1))) (w0 (t + 8 + l)) (z (17 + 2 * k) 0) (rdc z k))
def CLR (z w : mZ) (t l : Nat) : Prop := CLQ z w z t l l
def RLQ (z0 z : mZ) (l : Nat) : Prop := (z 253 l = 0 ∧ z 254 l = 0 ∧ ¬ SGL (rE z0) (z0 235) (z0 240) (z0 241) (tr (rE z0) (lnR z0 l))) ∨ (z 253 l = 1 ∧ SGL (rE z0) (z0 235) (z0 240) (z0 241) (tr (rE z0) (lnR z0 l)) ∧ RDY (z0 225 26) (rE z0) (vT (z0 235)) (tr (rE z0) (lnR z0 l)) (1 + z 254 l) (rdr z l))
def RLR (z : mZ) (l : Nat) : Prop := RLQ z z l
theorem CLQ_g {z w z' w' y : mZ} {t l k : Nat} (e0 : z' t 0 = z t 0) (e1 : z' t 1 = z t 1) (f1 : z' (t + 1) = z (t + 1)) (f2 : z' (t + 2) = z (t + 2)) (f5 : z' (t + 5) = z (t + 5)) (fw : w' (t + 8 + l) = w (t + 8 + l)) (h : CLQ z w y t l k) : CLQ z' w' y t l k := by
  unfold CLQ at *
  rw [e0, e1, f1, f2, f5, fw]
  exact h
theorem CLQ_f {z w y y' : mZ} {t l k : Nat} (r : ∀ i, i ≤ 5 → y' (17 + 2 * k) i = y (17 + 2 * k) i) (rf : y' (18 + 2 * k) = y (18 + 2 * k)) (h : CLQ z w y t l k) : CLQ z w y' t l k := by
  unfold CLQ at *
  rw [r 0 (by omega), rdc_f r rf]
  exact h
theorem RLR_f {z z' : mZ} {l : Nat} (e : z' 225 26 = z 225 26) (h1 : z' 235 = z 235) (h2 : z' 236 = z 236) (h3 : z' 240 = z 240) (h4 : z' 241 = z 241) (hr : ∀ a, 247 ≤ a → a ≤ 252 → z' a = z a) (k3 : z' 253 l = z 253 l) (k4 : z' 254 l = z 254 l) (h : RLR z l) : RLR z' l := by
  unfold RLR RLQ lnR rE at *
  rw [e, h1, h2, h3, h4, k3, k4, rdr_f hr]
  exact h
/-- alike -/
def RDe (z : mZ) (l : Nat) : Prop := (z 253 l = 0 ∨ z 253 l = 1) ∧ (z 253 l = 0 → z (17 + 2 * l) 0 = 0 ∧ z 254 l = 0) ∧ (z 253 l = 1 → z (17 + 2 * l) 0 = 1 + z 254 l) ∧ (z (17 + 2 * l) 0 = 2 → z 253 l = 1 ∧ Req (rdc z l) (rdr z l)) ∧ (z 253 l = 1 → z 254 l = 0 ∨ z 254 l = 1)
theorem RDe_i {z w : mZ} {t l : Nat} (hw : WTt z t) (ft : FTt z t (w (t + 8 + l))) (g : GE (z t 0) (z t 1) (z (t + 1)) (z (t + 2)) (z (t + 5)) (w (t + 8 + l)) (z 235) (z 240) (z 241) (tr (rE z) (lnR z l))) (e0 : z 225 26 = z t 0) (eE : rE z = z t 1) (hn : ∀ j, j < 18 → tr (rE z) (lnR z l) j = w (t + 8 + l) j) (c : CLR z w t l) (r : RLR z l) : RDe z l := by
  have hE : z t 1 ≤ 18 := by have := WT.hE hw; have := WT.hm hw; omega
  have sc := SGL_c hw ft g (sm_c 18 hn)
  have hv : ∀ s, s < 3 * (z t 0).toNat → vT (z 235) s = vT (z (t + 1)) s := fun s hs => by
    show (z 235 s).toNat = (z (t + 1) s).toNat
    rw [(g.1 s (by omega)).1]
  unfold RLR RLQ at r
  rw [eE] at r
  rw [eE] at sc hn
  unfold CLR CLQ at c
  rcases c with ⟨c0, c1⟩ | ⟨c1, c2⟩ <;> rcases r with ⟨r0, rf, r1⟩ | ⟨r0, r1, r2⟩
  · exact ⟨Or.inl r0, fun _ => ⟨c0, rf⟩, fun q => by omega, fun q => by omega, fun q => by omega⟩
  · exact absurd (sc.mpr r1) c1
  · exact absurd (sc.mp c1) r1
  · rw [e0] at r2
    have u := RD_u hE (WT.lt hw) (ROT_e hv) hn c2 r2
    refine ⟨Or.inr r0, fun q => by omega, fun _ => u.1.symm, fun q => ⟨r0, u.2 q⟩, fun _ => ?_⟩
    rcases r2 with ⟨q, _⟩ | ⟨q, _⟩ <;> omega
/-- the look for the pieces, in their order -/
def NBo (m : Int) (T n : Nat → Int) (x2 x3 a b e f : Int) : Prop := (x2 = 0 → ∀ u : Nat, (u : Int) < x3 → ¬ CO (vT T) n u) ∧
  (x2 = 1 → ∃ u : Nat, (u : Int) < x3 ∧ CO (vT T) n u ∧ a = T u ∧ f = T (bh u) ∧ e = T (ah u) ∧ ((∀ v : Nat, (v : Int) < x3 → CO (vT T) n v → v = u) ∨ ∃ v : Nat, (v : Int) < x3 ∧ u < v ∧ CO (vT T) n v ∧ b = T v))
section
variable {m x2 x3 a b e f : Int} {T n : Nat → Int}
theorem NBo_0 : NBo m T n 0 0 a b e f := ⟨fun _ u hu => absurd hu (by omega), fun q => absurd q (by omega)⟩
theorem NBo_n (h : NBo m T n x2 x3 a b e f) (x0 : 0 ≤ x3) (c : ¬ CO (vT T) n x3.toNat) : NBo m T n x2 (x3 + 1) a b e f := by
  have key : ∀ u : Nat, (u : Int) < x3 + 1 → CO (vT T) n u → (u : Int) < x3 := by
    intro u hu q
    by_cases d : (u : Int) = x3
    · rw [show u = x3.toNat by omega] at q; exact absurd q c
    · omega
  refine ⟨fun q u hu k => h.1 q u (key u hu k) k, fun q => ?_⟩
  obtain ⟨u, u1, u2, u3, u4, u5, u6⟩ := h.2 q
  refine ⟨u, by omega, u2, u3, u4, u5, ?_⟩
  rcases u6 with g | ⟨v, g1, g2, g3, g4⟩
  · exact Or.inl (fun v hv k => g v (key v hv k) k)
  · exact Or.inr ⟨v, by omega, g2, g3, g4⟩
theorem NBo_a {a' e' f' : Int} (h : NBo m T n 0 x3 a b e f) (x0 : 0 ≤ x3) (c : CO (vT T) n x3.toNat) (ha : a' = T x3.toNat) (hf : f' = T (bh x3.toNat)) (he : e' = T (ah x3.toNat)) : NBo m T n 1 (x3 + 1) a' b e' f' := by
  refine ⟨fun q => absurd q (by omega), fun _ => ⟨x3.toNat, by omega, c, ha, hf, he, Or.inl (fun v hv k => ?_)⟩⟩
  by_cases d : (v : Int) = x3
  · omega
  · exact absurd k (h.1 rfl v (by omega))
theorem NBo_b {b' : Int} (h : NBo m T n 1 x3 a b e f) (x0 : 0 ≤ x3) (c : CO (vT T) n x3.toNat) (hb : b' = T x3.toNat) : NBo m T n 1 (x3 + 1) a b' e f := by
  refine ⟨fun q => absurd q (by omega), fun _ => ?_⟩
  obtain ⟨u, u1, u2, u3, u4, u5, u6⟩ := h.2 rfl
  exact ⟨u, by omega, u2, u3, u4, u5, Or.inr ⟨x3.toNat, by omega, by omega, c, hb⟩⟩
theorem NBo_e (h : NBo m T n x2 x3 a b e f) (hx : x2 = 0 ∨ x2 = 1) (m0 : 0 ≤ m) (h3 : x3 = 3 * m) (ex : ∃ u v, u < 3 * m.toNat ∧ v < 3 * m.toNat ∧ u ≠ v ∧ CO (vT T) n u ∧ CO (vT T) n v) : ENa m.toNat (vT T) n a.toNat b.toNat e.toNat f.toNat := by
  obtain ⟨u, v, u1, v1, uv, cu, cv⟩ := ex
  rcases hx with q | q
  · exact absurd cu (h.1 q u (by omega))
  · obtain ⟨p, p1, p2, p3, p4, p5, p6⟩ := h.2 q
    rcases p6 with g | ⟨r, g1, g2, g3, g4⟩
    · have := g u (by omega) cu; have := g v (by omega) cv; omega
    · exact ⟨p, r, g2, by omega, p2, g3, by rw [p3], by rw [g4], by rw [p5], by rw [p4]⟩
end
/-- the reference's -/
def NBq (T n : Nat → Int) (x p a b e f : Int) : Prop := (x = 1 → ∀ u : Nat, (u : Int) < 3 * p → ¬ CO (vT T) n u) ∧
  (x = 0 → ∃ u v : Nat, (u : Int) < 3 * p ∧ (v : Int) < 3 * p ∧ u ≤ v ∧ CO (vT T) n u ∧ CO (vT T) n v ∧ a = T u ∧ b = T v ∧ f = T (bh v) ∧ e = T (ah v) ∧ (u = v → ∀ s : Nat, (s : Int) < 3 * p → CO (vT T) n s → s = u))
section
variable {x p a b e f : Int} {T n : Nat → Int}
theorem NBq_0 : NBq T n 1 0 a b e f := ⟨fun _ u hu => absurd hu (by omega), fun q => absurd q (by omega)⟩
theorem NBq_n (h : NBq T n x p a b e f) (c : ∀ u : Nat, 3 * p ≤ (u : Int) → (u : Int) < 3 * p + 3 → ¬ CO (vT T) n u) : NBq T n x (p + 1) a b e f := by
  have key : ∀ s : Nat, (s : Int) < 3 * (p + 1) → CO (vT T) n s → (s : Int) < 3 * p := by
    intro s hs q
    apply Classical.byContradiction
    intro d
    exact c s (by omega) (by omega) q
  refine ⟨fun q u hu k => h.1 q u (key u hu k) k, fun q => ?_⟩
  obtain ⟨u, v, h1, h2, h3, h4, h5, h6, h7, h8, h9, h10⟩ := h.2 q
  exact ⟨u, v, by omega, by omega, h3, h4, h5, h6, h7, h8, h9, fun k s hs cs => h10 k s (key s hs cs) cs⟩
theorem NBq_s {a' b' e' f' : Int} {s : Nat} (h : NBq T n x p a b e f) (hx : x = 0 ∨ x = 1) (s0 : 3 * p ≤ (s : Int)) (s1 : (s : Int) < 3 * p + 3) (c : CO (vT T) n s) (un : ∀ u : Nat, 3 * p ≤ (u : Int) → (u : Int) < 3 * p + 3 → CO (vT T) n u → u = s) (ha : a' = if x = 1 then T s else a) (hb : b' = T s) (hf : f' = T (bh s)) (he : e' = T (ah s)) : NBq T n 0 (p + 1) a' b' e' f' := by
  refine ⟨fun q => absurd q (by omega), fun _ => ?_⟩
  by_cases d : x = 1
  · rw [if_pos d] at ha
    refine ⟨s, s, by omega, by omega, Nat.le_refl _, c, c, ha, hb, hf, he, fun _ r hr cr => ?_⟩
    by_cases g : (r : Int) < 3 * p
    · exact absurd cr (h.1 d r g)
    · exact un r (by omega) (by omega) cr
  · rw [if_neg d] at ha
    obtain ⟨u, v, h1, h2, h3, h4, h5, h6, _⟩ := h.2 (by omega)
    exact ⟨u, s, by omega, by omega, by omega, h4, c, ha.trans h6, hb, hf, he, fun k => by omega⟩
theorem NBq_e {m : Int} (h : NBq T n x p a b e f) (hx : x = 0 ∨ x = 1) (m0 : 0 ≤ m) (hp : p = m) (ex : ∃ u v, u < 3 * m.toNat ∧ v < 3 * m.toNat ∧ u ≠ v ∧ CO (vT T) n u ∧ CO (vT T) n v) : ENb m.toNat (vT T) n a.toNat b.toNat e.toNat f.toNat := by
  subst hp
  obtain ⟨u, v, u1, v1, uv, cu, cv⟩ := ex
  rcases hx with q | q
  · obtain ⟨s, r, h1, h2, h3, h4, h5, h6, h7, h8, h9, h10⟩ := h.2 q
    have ne : s ≠ r := by
      intro k
      have := h10 k u (by omega) cu
      have := h10 k v (by omega) cv
      omega
    exact ⟨s, r, by omega, by omega, h4, h5, by rw [h6], by rw [h7], by rw [h9], by rw [h8]⟩
  · exact absurd cu (h.1 q u (by omega))
end
/-- the reference's walk -/
def GT1 (f : Nat → Int) (k : Nat) : Prop := ∃ e, e < k ∧ 1 < f e
theorem GT1_k {f : Nat → Int} {k k' : Nat} (h : GT1 f k) (hk : k ≤ k') : GT1 f k' := by
  obtain ⟨e, h1, h2⟩ := h
  exact ⟨e, by omega, h2⟩
theorem GT1_n {f : Nat → Int} {e k' : Nat} (h : 1 < f e) (hk : e < k') : GT1 f k' := ⟨e, hk, h⟩
theorem GT1_x {E : Int} {f : Nat → Int} {k : Nat} (h : GT1 f k) (hk : (k : Int) ≤ E) : ¬ SHs E (tr E f) := by
  obtain ⟨e, h1, h2⟩ := h
  intro s
  have := s.1 e (by omega)
  rw [tr_l (by omega)] at this
  omega
theorem CQ_no1 {z : mZ} {e s1 s2 : Int} (ly : LY (z 225 26) (rE z) (z 255)) (e0 : 0 ≤ e) (sq : SQ (z 225 26) (z 255) e s1 s2) (q : s1 / 3 = s2 / 3) : ¬ CDd (z 225 26).toNat (vT (z 255)) (nS z) e.toNat := by
  intro c
  have sq' : SQ (z 225 26) (z 255) ((e.toNat : Nat) : Int) s1 s2 := by rw [show ((e.toNat : Nat) : Int) = e by omega]; exact sq
  exact (CQ_at sq' (fun s hs => (ly.2.2.2.1 s hs).1) c).1 q
theorem CQ_no2 {z : mZ} {e s1 s2 : Int} (ly : LY (z 225 26) (rE z) (z 255)) (e0 : 0 ≤ e) (he : e < rE z) (sq : SQ (z 225 26) (z 255) e s1 s2) (h : z 256 e.toNat ≤ FQ z s1 s2 e) : ¬ CDd (z 225 26).toNat (vT (z 255)) (nS z) e.toNat := by
  intro c
  have sq' : SQ (z 225 26) (z 255) ((e.toNat : Nat) : Int) s1 s2 := by rw [show ((e.toNat : Nat) : Int) = e by omega]; exact sq
  have k := (CQ_at sq' (fun s hs => (ly.2.2.2.1 s hs).1) c).2
  obtain ⟨a1, a2, a3, _, _, _⟩ := sq
  have b1 := bh_lt3 (s := s1.toNat) (m := z 225 26) (by omega)
  have b2 := bh_lt3 (s := s2.toNat) (m := z 225 26) (by omega)
  have b3 := ah_lt3 (s := s1.toNat) (m := z 225 26) (by omega)
  have b4 := ah_lt3 (s := s2.toNat) (m := z 225 26) (by omega)
  have ee : nS z e.toNat = z 256 e.toNat := tr_l (by omega)
  rw [nS_T ly b1, nS_T ly b2, nS_T ly b3, nS_T ly b4, ee] at k
  unfold FQ at h
  omega
theorem CHN_00 {m : Nat} {E : Int} {T0 T : Nat → Nat} {n0 n : Nat → Int} {cf : Nat → Nat → Nat} {k : Nat} (hk : k = 0) (hT : ∀ s, s < 3 * m → T s = T0 s) (hn : ∀ j, j < 18 → n j = n0 j) : CHN m E T0 n0 cf k T n := by subst hk; exact ⟨hT, hn⟩
theorem CHN_q {zc z' : mZ} {l e s1 s2 m E : Int} {T0 : Nat → Nat} {n0 : Nat → Int} (l0 : 0 ≤ l) (e0 : 0 ≤ e) (he : e < E) (ly : LY m E (zc 255)) (e26 : zc 225 26 = m) (sq : SQ m (zc 255) e s1 s2) (ne : s1 / 3 ≠ s2 / 3) (k0 : 0 ≤ zc 248 l.toNat) (c : CHN m.toNat E T0 n0 (cfQ zc l.toNat) (zc 248 l.toNat).toNat (vT (zc 255)) (tr E (zc 256))) (ns : ¬ SHs E (tr E (zc 256))) (le : ∀ e' : Nat, (e' : Int) < e → ¬ CDd m.toNat (vT (zc 255)) (tr E (zc 256)) e') (d : DF zc z' l e s1 s2) (dl : FQ zc s1 s2 e < zc 256 e.toNat) : CHN m.toNat E T0 n0 (cfQ z' l.toNat) (z' 248 l.toNat).toNat (vT (z' 255)) (tr E (z' 256)) := by
  obtain ⟨d1, d2, d3, d4, d5, d6, d7, d8, d9, d10⟩ := d
  obtain ⟨b1, b2, b3, b4⟩ := SQ_b ly sq
  have m12 := ly.2.1
  have mE := ly.2.2.1
  rw [e26] at d1
  have cf : ∀ j : Nat, cfQ z' l.toNat (zc 248 l.toNat).toNat j = (z' 247 (5 * (1782 * l + zc 248 l.toNat) + j).toNat).toNat := by
    intro j
    unfold cfQ
    rw [show 5 * (1782 * l.toNat + (zc 248 l.toNat).toNat) + j = (5 * (1782 * l + zc 248 l.toNat) + j).toNat by omega]
  have c0 : cfQ z' l.toNat (zc 248 l.toNat).toNat 0 = e.toNat := by rw [cf 0, show (5 * (1782 * l + zc 248 l.toNat) + ((0 : Nat) : Int)).toNat = (5 * (1782 * l + zc 248 l.toNat)).toNat by omega, d5]
  have c1 : cfQ z' l.toNat (zc 248 l.toNat).toNat 1 = (zc 255 (bh s1.toNat)).toNat := by rw [cf 1]; show (z' 247 (5 * (1782 * l + zc 248 l.toNat) + 1).toNat).toNat = _; rw [d6]
  have c2 : cfQ z' l.toNat (zc 248 l.toNat).toNat 2 = (zc 255 (ah s1.toNat)).toNat := by rw [cf 2]; show (z' 247 (5 * (1782 * l + zc 248 l.toNat) + 2).toNat).toNat = _; rw [d7]
  have c3 : cfQ z' l.toNat (zc 248 l.toNat).toNat 3 = (zc 255 (bh s2.toNat)).toNat := by rw [cf 3]; show (z' 247 (5 * (1782 * l + zc 248 l.toNat) + 3).toNat).toNat = _; rw [d8]
  have c4 : cfQ z' l.toNat (zc 248 l.toNat).toNat 4 = (zc 255 (ah s2.toNat)).toNat := by rw [cf 4]; show (z' 247 (5 * (1782 * l + zc 248 l.toNat) + 4).toNat).toNat = _; rw [d9]
  have hc : ∀ i j, i < (zc 248 l.toNat).toNat → j < 5 → cfQ z' l.toNat i j = cfQ zc l.toNat i j := by
    intro i j hi hj
    unfold cfQ
    rw [d10 _ (by omega)]
  have hn : tr E (z' 256) = fl e.toNat (zc 255 (bh s1.toNat)).toNat (zc 255 (ah s1.toNat)).toNat (zc 255 (bh s2.toNat)).toNat (zc 255 (ah s2.toNat)).toNat (tr E (zc 256)) := by
    funext j
    unfold fl
    by_cases c : (j : Int) < E
    · rw [tr_l c, d2 j]
      by_cases q : j = e.toNat
      · rw [if_pos q, if_pos q, tr_l (by omega), tr_l (by omega), tr_l (by omega), tr_l (by omega), tr_l (by omega)]
      · rw [if_neg q, if_neg q, tr_l c]
    · rw [tr_g (by omega), if_neg (by omega), tr_g (by omega)]
  refine CHN_s c ns ⟨_, _, _, _, ?_, d1, hn, ?_, fun e' he' => le e' (by omega)⟩ hc c0 c1 c2 c3 c4 (by rw [d3]; omega)
  · obtain ⟨a1, a2, a3, _, _, _⟩ := sq
    omega
  · rw [tr_l (by omega), tr_l (by omega), d2, if_pos rfl]; exact dl
theorem RLQ_o {z0 z y : mZ} {l k : Nat} (h : OTH z0 z l) (p : z 253 k = z0 253 k) (hk : k ≠ l) (hl : l < 8) (h8 : k < 8) (b : (z0 248 k).toNat ≤ 1782) (g : RLQ y z0 k) : RLQ y z k := by
  obtain ⟨g1, g2, g3, g4, g5, g6⟩ := h.1 k hk
  have cf : ∀ i j, i < (z0 248 k).toNat → j < 5 → cfQ z k i j = cfQ z0 k i j := by
    intro i j hi hj
    unfold cfQ
    rw [h.2 _ (by omega)]
  unfold RLQ at *
  rw [p, g6]
  rcases g with g | ⟨g1', g2', g3'⟩
  · exact Or.inl g
  · refine Or.inr ⟨g1', g2', ?_⟩
    rcases g3' with q | ⟨x0, T, n, c, s, eb⟩
    · exact Or.inl q
    · refine Or.inr ⟨x0, T, n, ?_, s, ?_⟩
      · show CHN _ _ _ _ (cfQ z k) (z 248 k).toNat T n
        rw [g1]
        exact CHN_g _ cf c
      · show ENb _ T n (z 251 k).toNat (z 252 k).toNat (z 249 k).toNat (z 250 k).toNat
        rw [g2, g3, g4, g5]
        exact eb
theorem RLQ_g {z z' y : mZ} {l : Nat} (e : z' 225 26 = z 225 26) (h1 : z' 235 = z 235) (h2 : z' 236 = z 236) (h3 : z' 240 = z 240) (h4 : z' 241 = z 241) (h : RLQ z y l) : RLQ z' y l := by
  unfold RLQ lnR rE at *
  rw [e, h1, h2, h3, h4]
  exact h
theorem lt3 {a b : Int} (h0 : 0 ≤ a) (h1 : a < b) (h2 : a / 3 ≠ b / 3) : a.toNat / 3 < b.toNat / 3 := by omega
end
section
/-! methods, printed by wip/tools/vcg.py -/
/-- Shortener isShort -/
abbrev S_56x  : mS := []
abbrev E_56x (t : Nat) (z0 w0 : mZ) (x y tx it mt tt ct : Option Nat) : Int → mZ → mZ → mP → Prop := fun v z w p => p = (pq x y tx it mt tt ct) ∧ z0 = z ∧ w0 = w ∧ 0 ≤ v ∧ v ≤ 1 ∧ ((v = 1 → SHs (z0 t 1) (w0 15)) ∧ (v = 0 → ¬ SHs (z0 t 1) (w0 15)))
theorem m_56x {d : Nat} {z0 w0 : mZ} {x y tx it mt tt ct : Option Nat} (t : Nat) (hz : rz z0) (hw : rw_ w0) (ht : isT t) (hsl : z0 11 4 = 3 * z0 t 0 ∧ z0 11 5 = z0 t 1) (hn0 : ∀ e : Nat, e < 18 → 0 ≤ w0 15 e ∧ w0 15 e ≤ 1782) : wc (d + 1) 56 [.ref 11] (mk z0 w0 (pq x y tx it mt tt ct)) (poI S_56x z0 w0 (E_56x t z0 w0 x y tx it mt tt ct)) := by
  have hst : st_ S_56x z0 w0 z0 w0 := st_rf hz hw
  have htb : 159 ≤ t ∧ t ≤ 192 := by have := ht; unfold isT at this; omega
  have hz12 := rd_11_4 hz
  have hz13 := rd_11_5 hz
  have hz14 := rd_T_0 ht hz
  have hz15 := rd_T_1 ht hz
  have hzt0 := rd_T_0 ht hz
  have hzt1 := rd_T_1 ht hz
  have key : ∀ N : Nat, (∀ (x1 x2 : Int) , 0 ≤ x1 ∧ x1 ≤ 18 → 0 ≤ x2 ∧ x2 ≤ 18 → (x1 = sm (w0 15) x2.toNat ∧ x1 ≤ x2) → (∀ e : Nat, (e : Int) < x2 → w0 15 e ≤ 1) → (x2 ≤ z0 11 5) → 34 * (18 - x2) + 29 < (N : Int) → wp_ (d) 56 3 (some .boolean) (4, [(0, .ref 11), (1, .int (Int32.ofInt x1)), (2, .int (Int32.ofInt x2))], [], mk z0 w0 (pq x y tx it mt tt ct)) (poI S_56x z0 w0 (E_56x t z0 w0 x y tx it mt tt ct))) := by
    intro N
    induction N with
    | zero =>
      intro x1 x2 
      intros; exfalso; omega
    | succ N ih =>
      have ih0 := ih; clear ih
      intro x1 x2  hx1 hx2 as1 as2 as3 hM
      refine r_ld (pc' := 5) rfl rfl rfl rfl ?_
      refine r_ld (pc' := 6) rfl rfl rfl rfl ?_
      have hb16 := rd_11_5 hz
      refine r_gi (pc' := 9) rfl rfl sh_11 rfl rfl ?_
      refine r_ige (pc' := 12) rfl rfl ⟨by omega, by omega⟩ ⟨by omega, by omega⟩ (fun hc17 => ?_) (fun hc17 => ?_)
      · skip
        refine r_ld (pc' := 42) rfl rfl rfl rfl ?_
        refine r_c0 (pc' := 43) rfl rfl ?_
        refine r_ine (pc' := 46) rfl rfl ⟨by omega, by omega⟩ ⟨by decide, by decide⟩ (fun hc18 => ?_) (fun hc18 => ?_)
        · skip
          refine r_c0 (pc' := 51) rfl rfl ?_
          exact r_rz rfl (by omega) (po_I hst ⟨by decide, by decide⟩ ⟨rfl, rfl, rfl, by omega, by omega, (by first | exact ⟨fun h => by exfalso; omega, fun _ q => by have := q.1 x2.toNat (by omega); omega⟩ | exact ⟨fun h => by exfalso; omega, fun _ q => by have := q.2; rw [show (z0 t 1).toNat = x2.toNat by omega] at this; omega⟩ | exact ⟨fun _ => ⟨fun e he => as2 e (by omega), by rw [show (z0 t 1).toNat = x2.toNat by omega]; omega⟩, fun h => by exfalso; omega⟩)⟩)
        · skip
          refine r_c0 (pc' := 47) rfl rfl ?_
          refine r_go rfl ?_
          exact r_rz rfl (by omega) (po_I hst ⟨by decide, by decide⟩ ⟨rfl, rfl, rfl, by omega, by omega, (by first | exact ⟨fun h => by exfalso; omega, fun _ q => by have := q.1 x2.toNat (by omega); omega⟩ | exact ⟨fun h => by exfalso; omega, fun _ q => by have := q.2; rw [show (z0 t 1).toNat = x2.toNat by omega] at this; omega⟩ | exact ⟨fun _ => ⟨fun e he => as2 e (by omega), by rw [show (z0 t 1).toNat = x2.toNat by omega]; omega⟩, fun h => by exfalso; omega⟩)⟩)
      · skip
        have hge := hn0 x2.toNat (by omega)
        refine r_ld (pc' := 13) rfl rfl rfl rfl ?_
        refine r_gr (b := 15) (pc' := 16) rfl rfl sh_11 rfl pp_11_3 ?_
        refine r_ld (pc' := 17) rfl rfl rfl rfl ?_
        have hb19 := rd_15 hw (i := x2.toNat) (by omega)
        refine r_la (pc' := 18) rfl rfl sh_15 rfl (by omega) (by omega) rfl ?_
        refine r_lc1 (pc' := 19) rfl rfl ?_
        refine r_lle (pc' := 23) rfl rfl rfl ⟨by omega, by omega⟩ ⟨by decide, by decide⟩ (fun hc20 => ?_) (fun hc20 => ?_)
        · skip
          refine r_ld (pc' := 26) rfl rfl rfl rfl ?_
          refine r_ld (pc' := 27) rfl rfl rfl rfl ?_
          refine r_gr (b := 15) (pc' := 30) rfl rfl sh_11 rfl pp_11_3 ?_
          refine r_ld (pc' := 31) rfl rfl rfl rfl ?_
          refine r_la (pc' := 32) rfl rfl sh_15 rfl (by omega) (by omega) rfl ?_
          refine r_l2i (pc' := 33) rfl rfl ?_
          refine w_hxi (fun v21 h22 h23 => ?_)
          refine r_add (pc' := 34) rfl rfl ?_
          refine w_hxi (fun v24 h25 h26 => ?_)
          refine r_st (pc' := 35) (lv' := [(1, _), (0, _), (2, _)]) rfl rfl rfl rfl ?_
          refine r_inc (pc' := 38) (lv' := [(1, _), (0, _)]) rfl rfl rfl rfl rfl ?_
          refine r_go rfl ?_
          exact w_lv (sub_c rfl (sub_c rfl (sub_c rfl sub_n))) rfl (ih0 v24 (x2 + 1) ⟨by omega, by omega⟩ ⟨by omega, by omega⟩ (by first | exact ⟨rfl, by omega⟩ | (refine ⟨?_, by omega⟩; rw [show (x2 + 1).toNat = x2.toNat + 1 by omega, sm_s]; omega)) (by first | (intro e he; exfalso; omega) | (intro e he; by_cases c : e = x2.toNat; (subst c; omega); exact as2 e (by omega))) (by first | omega | assumption) (by omega))
        · skip
          refine r_c0 (pc' := 24) rfl rfl ?_
          exact r_rz rfl (by omega) (po_I hst ⟨by decide, by decide⟩ ⟨rfl, rfl, rfl, by omega, by omega, (by first | exact ⟨fun h => by exfalso; omega, fun _ q => by have := q.1 x2.toNat (by omega); omega⟩ | exact ⟨fun h => by exfalso; omega, fun _ q => by have := q.2; rw [show (z0 t 1).toNat = x2.toNat by omega] at this; omega⟩ | exact ⟨fun _ => ⟨fun e he => as2 e (by omega), by rw [show (z0 t 1).toNat = x2.toNat by omega]; omega⟩, fun h => by exfalso; omega⟩)⟩)
  refine w_m rfl rfl ?_
  refine r_c0 (pc' := 1) rfl rfl ?_
  refine r_st (pc' := 2) (lv' := [(1, _), (0, _)]) rfl rfl rfl rfl ?_
  refine r_c0 (pc' := 3) rfl rfl ?_
  refine r_st (pc' := 4) (lv' := [(2, _), (1, _), (0, _)]) rfl rfl rfl rfl ?_
  exact w_lv (sub_c rfl (sub_c rfl (sub_c rfl sub_n))) rfl ((key ((34 * (18 - 0) + 29 : Int).toNat + 1)) 0 0 ⟨by omega, by omega⟩ ⟨by omega, by omega⟩ (by first | exact ⟨rfl, by omega⟩ | (refine ⟨?_, by omega⟩; rw [show (x2 + 1).toNat = x2.toNat + 1 by omega, sm_s]; omega)) (by first | (intro e he; exfalso; omega) | (intro e he; by_cases c : e = x2.toNat; (subst c; omega); exact as2 e (by omega))) (by first | omega | assumption) (by omega))
/-- Tracer isSingle -/
abbrev S_96x  : mS := []
abbrev E_96x  (z0 w0 : mZ) (x y tx it mt tt ct : Option Nat) : Int → mZ → mZ → mP → Prop := fun v z w p => p = (pq x y tx it mt tt ct) ∧ z0 = z ∧ w0 = w ∧ 0 ≤ v ∧ v ≤ 1 ∧ ((v = 1 → z0 4 0 = 1 ∧ z0 4 1 = 0) ∧ (v = 0 → ¬ (z0 4 0 = 1 ∧ z0 4 1 = 0)))
theorem m_96x {d : Nat} {z0 w0 : mZ} {x y tx it mt tt ct : Option Nat}  (hz : rz z0) (hw : rw_ w0) : wc (d + 1) 96 [.ref 4] (mk z0 w0 (pq x y tx it mt tt ct)) (poI S_96x z0 w0 (E_96x  z0 w0 x y tx it mt tt ct)) := by
  have hst : st_ S_96x z0 w0 z0 w0 := st_rf hz hw
  have hz5 := rd_4_0 hz
  have hz6 := rd_4_1 hz
  refine w_m rfl rfl ?_
  refine r_ld (pc' := 1) rfl rfl rfl rfl ?_
  have hb7 := rd_4_0 hz
  refine r_gi (pc' := 4) rfl rfl sh_4 rfl rfl ?_
  refine r_c0 (pc' := 5) rfl rfl ?_
  refine r_ine (pc' := 8) rfl rfl ⟨by omega, by omega⟩ ⟨by decide, by decide⟩ (fun hc8 => ?_) (fun hc8 => ?_)
  · skip
    refine r_c0 (pc' := 20) rfl rfl ?_
    exact r_rz rfl (by omega) (po_I hst ⟨by decide, by decide⟩ ⟨rfl, rfl, rfl, by omega, by omega, (by first | omega | assumption)⟩)
  · skip
    refine r_ld (pc' := 9) rfl rfl rfl rfl ?_
    have hb9 := rd_4_1 hz
    refine r_gi (pc' := 12) rfl rfl sh_4 rfl rfl ?_
    refine r_zne (pc' := 15) rfl rfl ⟨by omega, by omega⟩ (fun hc10 => ?_) (fun hc10 => ?_)
    · skip
      refine r_c0 (pc' := 20) rfl rfl ?_
      exact r_rz rfl (by omega) (po_I hst ⟨by decide, by decide⟩ ⟨rfl, rfl, rfl, by omega, by omega, (by first | omega | assumption)⟩)
    · skip
      refine r_c0 (pc' := 16) rfl rfl ?_
      refine r_go rfl ?_
      exact r_rz rfl (by omega) (po_I hst ⟨by decide, by decide⟩ ⟨rfl, rfl, rfl, by omega, by omega, (by first | omega | assumption)⟩)
/-- Shortener findNeighbours -/
abbrev S_60x (rk : Nat) : mS := [(17 + 2 * rk, 17 + 2 * rk, 2, 2), (17 + 2 * rk, 17 + 2 * rk, 5, 5), (17 + 2 * rk, 17 + 2 * rk, 4, 4), (17 + 2 * rk, 17 + 2 * rk, 3, 3)]
abbrev E_60x (t : Nat) (rk : Nat) (z0 w0 : mZ) (x y tx it mt tt ct : Option Nat) : mZ → mZ → mP → Prop := fun z w p => p = (pq x y tx it mt tt ct) ∧ (((∃ u v, u < 3 * (z0 t 0).toNat ∧ v < 3 * (z0 t 0).toNat ∧ u ≠ v ∧ CO (vT (z0 12)) (w0 15) u ∧ CO (vT (z0 12)) (w0 15) v) → ENa (z0 t 0).toNat (vT (z0 12)) (w0 15) (z (17 + 2 * rk) 2).toNat (z (17 + 2 * rk) 3).toNat (z (17 + 2 * rk) 4).toNat (z (17 + 2 * rk) 5).toNat))
theorem m_60x {d : Nat} {z0 w0 : mZ} {x y tx it mt tt ct : Option Nat} (t : Nat) (rk : Nat) (hz : rz z0) (hw : rw_ w0) (hrk : rk < 8) (ht : isT t) (hsl : z0 11 4 = 3 * z0 t 0 ∧ z0 11 5 = z0 t 1) : wc (d + 2) 60 [.ref 11, .ref (17 + 2 * rk)] (mk z0 w0 (pq x y tx it mt tt ct)) (poV (S_60x rk) z0 w0 (E_60x t rk z0 w0 x y tx it mt tt ct)) := by
  have hst : st_ (S_60x rk) z0 w0 z0 w0 := st_rf hz hw
  have htb : 159 ≤ t ∧ t ≤ 192 := by have := ht; unfold isT at this; omega
  have hz45 := rd_11_4 hz
  have hz46 := rd_11_5 hz
  have hz47 := rd_T_0 ht hz
  have hz48 := rd_T_1 ht hz
  have hzt0 := rd_T_0 ht hz
  have hzt1 := rd_T_1 ht hz
  have key : ∀ N : Nat, (∀ (x2 x3 : Int) (z w : mZ), 0 ≤ x2 ∧ x2 ≤ 1 → 0 ≤ x3 ∧ x3 ≤ 36 → st_ (S_60x rk) z0 w0 z w → (NBo (z0 t 0) (z0 12) (w0 15) x2 x3 (z (17 + 2 * rk) 2) (z (17 + 2 * rk) 3) (z (17 + 2 * rk) 4) (z (17 + 2 * rk) 5)) → (x3 ≤ z0 11 4) → 70 * (36 - x3) + 65 < (N : Int) → wp_ (d + 1) 60 6 none (4, [(0, .ref 11), (1, .ref (17 + 2 * rk)), (2, .int (Int32.ofInt x2)), (3, .int (Int32.ofInt x3))], [], mk z w (pq x y tx it mt tt ct)) (poV (S_60x rk) z0 w0 (E_60x t rk z0 w0 x y tx it mt tt ct))) := by
    intro N
    induction N with
    | zero =>
      intro x2 x3 z w
      intros; exfalso; omega
    | succ N ih =>
      have ih0 := ih; clear ih
      intro x2 x3 z w  hx2 hx3 hst as1 as2 hM
      refine r_ld (pc' := 5) rfl rfl rfl rfl ?_
      refine r_ld (pc' := 6) rfl rfl rfl rfl ?_
      have hb49 := rd_11_4 hz
      refine r_gi (pc' := 9) rfl rfl sh_11 rfl (hst.2.2.1 _ _ (notS_c (by omega) (notS_c (by omega) (notS_c (by omega) (notS_c (by omega) notS_n))))) ?_
      refine r_ige (pc' := 12) rfl rfl ⟨by omega, by omega⟩ ⟨by omega, by omega⟩ (fun hc50 => ?_) (fun hc50 => ?_)
      · skip
        have hb51 := rd_R_2 (k := rk) (by omega) hst.1
        have hb52 := rd_R_3 (k := rk) (by omega) hst.1
        have hb53 := rd_R_4 (k := rk) (by omega) hst.1
        have hb54 := rd_R_5 (k := rk) (by omega) hst.1
        exact r_ret rfl (po_V hst ⟨rfl, (by exact NBo_e as1 (by omega) (by omega) (by omega))⟩)
      · skip
        refine r_ld (pc' := 13) rfl rfl rfl rfl ?_
        refine r_gr (b := 12) (pc' := 16) rfl rfl sh_11 rfl pp_11_0 ?_
        refine r_ld (pc' := 17) rfl rfl rfl rfl ?_
        refine r_cSI (pc' := 20) rfl rfl rfl rfl rfl (m_143 (d := d) x3 hst.1 hst.2.1 ⟨by omega, by omega⟩) (fun v55 z56 w57 p58 h59 hs60 hE61 => ?_)
        obtain ⟨rfl, rfl, rfl, hE61⟩ := hE61
        have hb17 : v55.toNat = bh x3.toNat := by have := bh_cases x3.toNat; omega
        have hb63 := rd_12 hz (i := v55.toNat) (by omega)
        refine r_ia (pc' := 21) rfl rfl sh_12 rfl (by omega) (by omega) (hst.2.2.1 _ _ (notS_c (by omega) (notS_c (by omega) (notS_c (by omega) (notS_c (by omega) notS_n))))) ?_
        refine r_st (pc' := 23) (lv' := [(4, _), (0, _), (1, _), (2, _), (3, _)]) rfl rfl rfl rfl ?_
        refine r_ld (pc' := 24) rfl rfl rfl rfl ?_
        refine r_gr (b := 12) (pc' := 27) rfl rfl sh_11 rfl pp_11_0 ?_
        refine r_ld (pc' := 28) rfl rfl rfl rfl ?_
        refine r_cSI (pc' := 31) rfl rfl rfl rfl rfl (m_144 (d := d) x3 hst.1 hst.2.1 ⟨by omega, by omega⟩) (fun v64 z65 w66 p67 h68 hs69 hE70 => ?_)
        obtain ⟨rfl, rfl, rfl, hE70⟩ := hE70
        have hb28 : v64.toNat = ah x3.toNat := by have := ah_cases x3.toNat; omega
        have hco : CO (vT (z0 12)) (w0 15) x3.toNat ↔ (w0 15 (z0 12 x3.toNat).toNat = 0 ∧ w0 15 (z0 12 (bh x3.toNat)).toNat = 1 ∧ w0 15 (z0 12 (ah x3.toNat)).toNat = 1) := Iff.rfl
        rw [← hb17, ← hb28] at hco
        have hb72 := rd_12 hz (i := v64.toNat) (by omega)
        refine r_ia (pc' := 32) rfl rfl sh_12 rfl (by omega) (by omega) (hst.2.2.1 _ _ (notS_c (by omega) (notS_c (by omega) (notS_c (by omega) (notS_c (by omega) notS_n))))) ?_
        refine r_st (pc' := 34) (lv' := [(5, _), (4, _), (0, _), (1, _), (2, _), (3, _)]) rfl rfl rfl rfl ?_
        refine r_ld (pc' := 35) rfl rfl rfl rfl ?_
        refine r_gr (b := 15) (pc' := 38) rfl rfl sh_11 rfl pp_11_3 ?_
        refine r_ld (pc' := 39) rfl rfl rfl rfl ?_
        refine r_gr (b := 12) (pc' := 42) rfl rfl sh_11 rfl pp_11_0 ?_
        refine r_ld (pc' := 43) rfl rfl rfl rfl ?_
        have hb73 := rd_12 hz (i := x3.toNat) (by omega)
        refine r_ia (pc' := 44) rfl rfl sh_12 rfl (by omega) (by omega) (hst.2.2.1 _ _ (notS_c (by omega) (notS_c (by omega) (notS_c (by omega) (notS_c (by omega) notS_n))))) ?_
        have hb74 := rd_15 hw (i := (z0 12 x3.toNat).toNat) (by omega)
        refine r_la (pc' := 45) rfl rfl sh_15 rfl (by omega) (by omega) (hst.2.2.2 _ _ (notS_c (by omega) (notS_c (by omega) (notS_c (by omega) (notS_c (by omega) notS_n))))) ?_
        refine r_lc0 (pc' := 46) rfl rfl ?_
        refine r_lne (pc' := 50) rfl rfl rfl ⟨by omega, by omega⟩ ⟨by decide, by decide⟩ (fun hc75 => ?_) (fun hc75 => ?_)
        · skip
          refine r_inc (pc' := 118) (lv' := [(5, _), (4, _), (0, _), (1, _), (2, _)]) rfl rfl rfl rfl rfl ?_
          refine r_go rfl ?_
          have hb76 := rd_R_2 (k := rk) (by omega) hst.1
          have hb77 := rd_R_3 (k := rk) (by omega) hst.1
          have hb78 := rd_R_4 (k := rk) (by omega) hst.1
          have hb79 := rd_R_5 (k := rk) (by omega) hst.1
          exact w_lv (sub_c rfl (sub_c rfl (sub_c rfl (sub_c rfl sub_n)))) rfl (ih0 x2 (x3 + 1) z w ⟨by omega, by omega⟩ ⟨by omega, by omega⟩ hst (by first | exact NBo_0 | exact NBo_n as1 (by omega) (fun q => by have := hco.mp q; omega) | (have hx2 : x2 = 1 := by omega); (subst hx2; simp only []; exact NBo_b as1 (by omega) (hco.mpr ⟨by omega, by omega, by omega⟩) rfl) | (have hx2 : x2 = 0 := by omega); (subst hx2; simp only []; exact NBo_a as1 (by omega) (hco.mpr ⟨by omega, by omega, by omega⟩) rfl (by rw [hb17]) (by rw [hb28]))) (by first | omega | assumption) (by omega))
        · skip
          refine r_ld (pc' := 51) rfl rfl rfl rfl ?_
          refine r_gr (b := 15) (pc' := 54) rfl rfl sh_11 rfl pp_11_3 ?_
          refine r_ld (pc' := 56) rfl rfl rfl rfl ?_
          have hb80 := rd_15 hw (i := (z0 12 v55.toNat).toNat) (by omega)
          refine r_la (pc' := 57) rfl rfl sh_15 rfl (by omega) (by omega) (hst.2.2.2 _ _ (notS_c (by omega) (notS_c (by omega) (notS_c (by omega) (notS_c (by omega) notS_n))))) ?_
          refine r_lc1 (pc' := 58) rfl rfl ?_
          refine r_lne (pc' := 62) rfl rfl rfl ⟨by omega, by omega⟩ ⟨by decide, by decide⟩ (fun hc81 => ?_) (fun hc81 => ?_)
          · skip
            refine r_inc (pc' := 118) (lv' := [(5, _), (4, _), (0, _), (1, _), (2, _)]) rfl rfl rfl rfl rfl ?_
            refine r_go rfl ?_
            have hb82 := rd_R_2 (k := rk) (by omega) hst.1
            have hb83 := rd_R_3 (k := rk) (by omega) hst.1
            have hb84 := rd_R_4 (k := rk) (by omega) hst.1
            have hb85 := rd_R_5 (k := rk) (by omega) hst.1
            exact w_lv (sub_c rfl (sub_c rfl (sub_c rfl (sub_c rfl sub_n)))) rfl (ih0 x2 (x3 + 1) z w ⟨by omega, by omega⟩ ⟨by omega, by omega⟩ hst (by first | exact NBo_0 | exact NBo_n as1 (by omega) (fun q => by have := hco.mp q; omega) | (have hx2 : x2 = 1 := by omega); (subst hx2; simp only []; exact NBo_b as1 (by omega) (hco.mpr ⟨by omega, by omega, by omega⟩) rfl) | (have hx2 : x2 = 0 := by omega); (subst hx2; simp only []; exact NBo_a as1 (by omega) (hco.mpr ⟨by omega, by omega, by omega⟩) rfl (by rw [hb17]) (by rw [hb28]))) (by first | omega | assumption) (by omega))
          · skip
            refine r_ld (pc' := 63) rfl rfl rfl rfl ?_
            refine r_gr (b := 15) (pc' := 66) rfl rfl sh_11 rfl pp_11_3 ?_
            refine r_ld (pc' := 68) rfl rfl rfl rfl ?_
            have hb86 := rd_15 hw (i := (z0 12 v64.toNat).toNat) (by omega)
            refine r_la (pc' := 69) rfl rfl sh_15 rfl (by omega) (by omega) (hst.2.2.2 _ _ (notS_c (by omega) (notS_c (by omega) (notS_c (by omega) (notS_c (by omega) notS_n))))) ?_
            refine r_lc1 (pc' := 70) rfl rfl ?_
            refine r_lne (pc' := 74) rfl rfl rfl ⟨by omega, by omega⟩ ⟨by decide, by decide⟩ (fun hc87 => ?_) (fun hc87 => ?_)
            · skip
              refine r_inc (pc' := 118) (lv' := [(5, _), (4, _), (0, _), (1, _), (2, _)]) rfl rfl rfl rfl rfl ?_
              refine r_go rfl ?_
              have hb88 := rd_R_2 (k := rk) (by omega) hst.1
              have hb89 := rd_R_3 (k := rk) (by omega) hst.1
              have hb90 := rd_R_4 (k := rk) (by omega) hst.1
              have hb91 := rd_R_5 (k := rk) (by omega) hst.1
              exact w_lv (sub_c rfl (sub_c rfl (sub_c rfl (sub_c rfl sub_n)))) rfl (ih0 x2 (x3 + 1) z w ⟨by omega, by omega⟩ ⟨by omega, by omega⟩ hst (by first | exact NBo_0 | exact NBo_n as1 (by omega) (fun q => by have := hco.mp q; omega) | (have hx2 : x2 = 1 := by omega); (subst hx2; simp only []; exact NBo_b as1 (by omega) (hco.mpr ⟨by omega, by omega, by omega⟩) rfl) | (have hx2 : x2 = 0 := by omega); (subst hx2; simp only []; exact NBo_a as1 (by omega) (hco.mpr ⟨by omega, by omega, by omega⟩) rfl (by rw [hb17]) (by rw [hb28]))) (by first | omega | assumption) (by omega))
            · skip
              refine r_ld (pc' := 75) rfl rfl rfl rfl ?_
              refine r_zeq (pc' := 78) rfl rfl ⟨by omega, by omega⟩ (fun hc92 => ?_) (fun hc92 => ?_)
              · skip
                refine r_ld (pc' := 92) rfl rfl rfl rfl ?_
                refine r_ld (pc' := 93) rfl rfl rfl rfl ?_
                refine r_gr (b := 12) (pc' := 96) rfl rfl sh_11 rfl pp_11_0 ?_
                refine r_ld (pc' := 97) rfl rfl rfl rfl ?_
                refine r_ia (pc' := 98) rfl rfl sh_12 rfl (by omega) (by omega) (hst.2.2.1 _ _ (notS_c (by omega) (notS_c (by omega) (notS_c (by omega) (notS_c (by omega) notS_n))))) ?_
                refine r_pi (pc' := 101) rfl rfl (sh_R (k := rk) (by omega)) rfl rfl hst (inS_0 (by omega) (by omega) (by omega) (by omega)) (wr_R_2 (k := rk) (by omega) ⟨by omega, by omega⟩) (fun z93 hq94 hs95 => ?_)
                refine r_ld (pc' := 102) rfl rfl rfl rfl ?_
                refine r_ld (pc' := 104) rfl rfl rfl rfl ?_
                refine r_pi (pc' := 107) rfl rfl (sh_R (k := rk) (by omega)) rfl rfl hs95 (inS_s (inS_0 (by omega) (by omega) (by omega) (by omega))) (wr_R_5 (k := rk) (by omega) ⟨by omega, by omega⟩) (fun z96 hq97 hs98 => ?_)
                refine r_ld (pc' := 108) rfl rfl rfl rfl ?_
                refine r_ld (pc' := 110) rfl rfl rfl rfl ?_
                refine r_pi (pc' := 113) rfl rfl (sh_R (k := rk) (by omega)) rfl rfl hs98 (inS_s (inS_s (inS_0 (by omega) (by omega) (by omega) (by omega)))) (wr_R_4 (k := rk) (by omega) ⟨by omega, by omega⟩) (fun z99 hq100 hs101 => ?_)
                refine r_c0 (pc' := 114) rfl rfl ?_
                refine r_st (pc' := 115) (lv' := [(2, _), (5, _), (4, _), (0, _), (1, _), (3, _)]) rfl rfl rfl rfl ?_
                refine r_inc (pc' := 118) (lv' := [(2, _), (5, _), (4, _), (0, _), (1, _)]) rfl rfl rfl rfl rfl ?_
                refine r_go rfl ?_
                have hf102 : z99 (17 + 2 * rk) 2 = z0 12 x3.toNat := (((congrFun (congrFun hq100 _) _).trans (mu_ne (by omega))).trans (((congrFun (congrFun hq97 _) _).trans (mu_ne (by omega))).trans ((congrFun (congrFun hq94 _) _).trans mu_eq)))
                have hb103 := rd_R_3 (k := rk) (by omega) hst.1
                have hf104 : z99 (17 + 2 * rk) 3 = z (17 + 2 * rk) 3 := (((congrFun (congrFun hq100 _) _).trans (mu_ne (by omega))).trans (((congrFun (congrFun hq97 _) _).trans (mu_ne (by omega))).trans ((congrFun (congrFun hq94 _) _).trans (mu_ne (by omega)))))
                have hf105 : z99 (17 + 2 * rk) 4 = z0 12 v64.toNat := ((congrFun (congrFun hq100 _) _).trans mu_eq)
                have hf106 : z99 (17 + 2 * rk) 5 = z0 12 v55.toNat := (((congrFun (congrFun hq100 _) _).trans (mu_ne (by omega))).trans ((congrFun (congrFun hq97 _) _).trans mu_eq))
                exact w_lv (sub_c rfl (sub_c rfl (sub_c rfl (sub_c rfl sub_n)))) rfl (ih0 1 (x3 + 1) z99 w ⟨by omega, by omega⟩ ⟨by omega, by omega⟩ hs101 (by first | exact NBo_0 | exact NBo_n as1 (by omega) (fun q => by have := hco.mp q; omega) | (have hx2 : x2 = 1 := by omega); (subst hx2; simp only [hf102, hf104, hf105, hf106]; exact NBo_b as1 (by omega) (hco.mpr ⟨by omega, by omega, by omega⟩) rfl) | (have hx2 : x2 = 0 := by omega); (subst hx2; simp only [hf102, hf104, hf105, hf106]; exact NBo_a as1 (by omega) (hco.mpr ⟨by omega, by omega, by omega⟩) rfl (by rw [hb17]) (by rw [hb28]))) (by first | omega | assumption | (simp only [hf102, hf104, hf105, hf106]; assumption)) (by omega))
              · skip
                refine r_ld (pc' := 79) rfl rfl rfl rfl ?_
                refine r_ld (pc' := 80) rfl rfl rfl rfl ?_
                refine r_gr (b := 12) (pc' := 83) rfl rfl sh_11 rfl pp_11_0 ?_
                refine r_ld (pc' := 84) rfl rfl rfl rfl ?_
                refine r_ia (pc' := 85) rfl rfl sh_12 rfl (by omega) (by omega) (hst.2.2.1 _ _ (notS_c (by omega) (notS_c (by omega) (notS_c (by omega) (notS_c (by omega) notS_n))))) ?_
                refine r_pi (pc' := 88) rfl rfl (sh_R (k := rk) (by omega)) rfl rfl hst (inS_s (inS_s (inS_s (inS_0 (by omega) (by omega) (by omega) (by omega))))) (wr_R_3 (k := rk) (by omega) ⟨by omega, by omega⟩) (fun z107 hq108 hs109 => ?_)
                refine r_go rfl ?_
                refine r_inc (pc' := 118) (lv' := [(5, _), (4, _), (0, _), (1, _), (2, _)]) rfl rfl rfl rfl rfl ?_
                refine r_go rfl ?_
                have hb110 := rd_R_2 (k := rk) (by omega) hst.1
                have hf111 : z107 (17 + 2 * rk) 2 = z (17 + 2 * rk) 2 := ((congrFun (congrFun hq108 _) _).trans (mu_ne (by omega)))
                have hf112 : z107 (17 + 2 * rk) 3 = z0 12 x3.toNat := ((congrFun (congrFun hq108 _) _).trans mu_eq)
                have hb113 := rd_R_4 (k := rk) (by omega) hst.1
                have hf114 : z107 (17 + 2 * rk) 4 = z (17 + 2 * rk) 4 := ((congrFun (congrFun hq108 _) _).trans (mu_ne (by omega)))
                have hb115 := rd_R_5 (k := rk) (by omega) hst.1
                have hf116 : z107 (17 + 2 * rk) 5 = z (17 + 2 * rk) 5 := ((congrFun (congrFun hq108 _) _).trans (mu_ne (by omega)))
                exact w_lv (sub_c rfl (sub_c rfl (sub_c rfl (sub_c rfl sub_n)))) rfl (ih0 x2 (x3 + 1) z107 w ⟨by omega, by omega⟩ ⟨by omega, by omega⟩ hs109 (by first | exact NBo_0 | exact NBo_n as1 (by omega) (fun q => by have := hco.mp q; omega) | (have hx2 : x2 = 1 := by omega); (subst hx2; simp only [hf111, hf112, hf114, hf116]; exact NBo_b as1 (by omega) (hco.mpr ⟨by omega, by omega, by omega⟩) rfl) | (have hx2 : x2 = 0 := by omega); (subst hx2; simp only [hf111, hf112, hf114, hf116]; exact NBo_a as1 (by omega) (hco.mpr ⟨by omega, by omega, by omega⟩) rfl (by rw [hb17]) (by rw [hb28]))) (by first | omega | assumption | (simp only [hf111, hf112, hf114, hf116]; assumption)) (by omega))
  refine w_m rfl rfl ?_
  refine r_c0 (pc' := 1) rfl rfl ?_
  refine r_st (pc' := 2) (lv' := [(2, _), (0, _), (1, _)]) rfl rfl rfl rfl ?_
  refine r_c0 (pc' := 3) rfl rfl ?_
  refine r_st (pc' := 4) (lv' := [(3, _), (2, _), (0, _), (1, _)]) rfl rfl rfl rfl ?_
  have hb117 := rd_R_2 (k := rk) (by omega) hz
  have hb118 := rd_R_3 (k := rk) (by omega) hz
  have hb119 := rd_R_4 (k := rk) (by omega) hz
  have hb120 := rd_R_5 (k := rk) (by omega) hz
  exact w_lv (sub_c rfl (sub_c rfl (sub_c rfl (sub_c rfl sub_n)))) rfl ((key ((70 * (36 - 0) + 65 : Int).toNat + 1)) 0 0 z0 w0 ⟨by omega, by omega⟩ ⟨by omega, by omega⟩ hst (by first | exact NBo_0 | exact NBo_n as1 (by omega) (fun q => by have := hco.mp q; omega) | (have hx2 : x2 = 1 := by omega); (subst hx2; simp only []; exact NBo_b as1 (by omega) (hco.mpr ⟨by omega, by omega, by omega⟩) rfl) | (have hx2 : x2 = 0 := by omega); (subst hx2; simp only []; exact NBo_a as1 (by omega) (hco.mpr ⟨by omega, by omega, by omega⟩) rfl (by rw [hb17]) (by rw [hb28]))) (by first | omega | assumption) (by omega))
/-- Tracer load -/
abbrev S_86x  : mS := [(4, 4, 8, 8), (7, 7, 0, 17), (6, 6, 0, 17)]
abbrev E_86x (t : Nat) (n : Nat) (z0 w0 : mZ) (x y tx it mt tt ct : Option Nat) : Int → mZ → mZ → mP → Prop := fun v z w p => p = (pq x y tx it mt (some t) ct) ∧ 0 ≤ v ∧ v ≤ 1 ∧ (((v = 1 → TL z t ∧ ∀ e : Nat, e < 18 → z 7 e = w0 n e)) ∧ (v = 1 → sm (w0 n) 18 ≤ 18000) ∧ (v = 0 → ¬ sm (w0 n) 18 ≤ 18000))
theorem m_86x {d : Nat} {z0 w0 : mZ} {x y tx it mt tt ct : Option Nat} (t : Nat) (n : Nat) (hz : rz z0) (hw : rw_ w0) (ht : isT t) (hwt : WTt z0 t) (hft : FTt z0 t (w0 n)) (hn : lr n) (b15n : 15 ≤ n) (hnb : ∀ e : Nat, e < 18 → 0 ≤ w0 n e ∧ w0 n e ≤ 100000000000000) : wc (d + 2) 86 [.ref 4, .ref t, .ref n] (mk z0 w0 (pq x y tx it mt tt ct)) (poI S_86x z0 w0 (E_86x t n z0 w0 x y tx it mt tt ct)) := by
  have hst : st_ S_86x z0 w0 z0 w0 := st_rf hz hw
  have htb : 159 ≤ t ∧ t ≤ 192 := by have := ht; unfold isT at this; omega
  have key : ∀ N : Nat, (∀ (x5 : Int) (z w : mZ), 0 ≤ x5 ∧ x5 ≤ 18 → st_ S_86x z0 w0 z w → (∀ e : Nat, (e : Int) < x5 → z 7 e = w0 n e ∧ z 6 e = sm (w0 n) e) → (z 4 8 = sm (w0 n) x5.toNat) → (sm (w0 n) 18 ≤ 18000) → 47 * (18 - x5) + 29 < (N : Int) → wp_ (d + 1) 86 6 (some .boolean) (28, [(0, .ref 4), (2, .ref n), (5, .int (Int32.ofInt x5))], [], mk z w (pq x y tx it mt (some t) ct)) (poI S_86x z0 w0 (E_86x t n z0 w0 x y tx it mt tt ct))) := by
    intro N
    induction N with
    | zero =>
      intro x5 z w
      intros; exfalso; omega
    | succ N ih =>
      have ih0 := ih; clear ih
      intro x5 z w  hx5 hst as1 as2 as3 hM
      refine r_ld (pc' := 30) rfl rfl rfl rfl ?_
      refine r_cb (pc' := 32) rfl (by decide) rfl ?_
      refine r_ige (pc' := 35) rfl rfl ⟨by omega, by omega⟩ ⟨by decide, by decide⟩ (fun hc39 => ?_) (fun hc39 => ?_)
      · skip
        refine r_c0 (pc' := 81) rfl rfl ?_
        have hb40 := rd_T_0 ht hz
        have hf41 : z t 0 = z0 t 0 := (hst.2.2.1 _ _ (notS_c (by omega) (notS_c (by omega) (notS_c (by omega) notS_n))))
        have hb42 := rd_4_8 hst.1
        have hF43 : z (t + 1) = z0 (t + 1) := (funext fun _ => hst.2.2.1 _ _ (notS_c (by omega) (notS_c (by omega) (notS_c (by omega) notS_n))))
        exact r_rz rfl (by omega) (po_I hst ⟨by decide, by decide⟩ ⟨rfl, by omega, by omega, (by refine ⟨?_, ?_, ?_⟩; (first | (intro h; exfalso; omega) | (intro _; exact ⟨TL_of hwt hft (by omega) (by simp only [hF43, hf41]) (fun e he => as1 e (by omega)) (by rw [as2, show x5.toNat = 18 by omega]), fun e he => (as1 e (by omega)).1⟩)); (intro h; omega); (intro h; omega))⟩)
      · skip
        have hge := hnb x5.toNat (by omega)
        have hle := sm_le (f := w0 n) (k := x5.toNat + 1) 18 (by omega) (fun j hj => (hnb j hj).1)
        rw [sm_s] at hle
        have hnn := sm_nn (f := w0 n) x5.toNat (fun j hj => (hnb j (by omega)).1)
        refine r_ld (pc' := 36) rfl rfl rfl rfl ?_
        refine r_gr (b := 7) (pc' := 39) rfl rfl sh_4 rfl pp_4_4 ?_
        refine r_ld (pc' := 41) rfl rfl rfl rfl ?_
        refine r_ld (pc' := 42) rfl rfl rfl rfl ?_
        refine r_ld (pc' := 44) rfl rfl rfl rfl ?_
        have hb44 := nb_rd hnb hw (i := x5.toNat) (by omega)
        refine r_la (pc' := 45) rfl rfl hn.1 rfl (by omega) (by omega) (hst.2.2.2 _ _ (notS_c (by omega) (notS_c (by omega) (notS_c (by omega) notS_n)))) ?_
        refine r_l2i (pc' := 46) rfl rfl ?_
        refine w_hxi (fun v45 h46 h47 => ?_)
        refine r_is (pc' := 47) rfl rfl sh_7 rfl (by omega) (by omega) hst (inS_s (inS_0 (by omega) (by omega) (by omega) (by omega))) (wr_7 ⟨by omega, by omega⟩) (fun z48 hq49 hs50 => ?_)
        have hq7 := hq49
        refine r_ld (pc' := 48) rfl rfl rfl rfl ?_
        refine r_gr (b := 6) (pc' := 51) rfl rfl sh_4 rfl pp_4_3 ?_
        refine r_ld (pc' := 53) rfl rfl rfl rfl ?_
        refine r_ld (pc' := 54) rfl rfl rfl rfl ?_
        have hb51 := rd_4_8 hst.1
        refine r_gi (pc' := 57) rfl rfl sh_4 rfl ((congrFun (congrFun hq49 _) _).trans (mu_ne (by omega))) ?_
        refine r_is (pc' := 58) rfl rfl sh_6 rfl (by omega) (by omega) hs50 (inS_s (inS_s (inS_0 (by omega) (by omega) (by omega) (by omega)))) (wr_6 ⟨by omega, by omega⟩) (fun z52 hq53 hs54 => ?_)
        have hq6 := hq53
        refine r_ld (pc' := 59) rfl rfl rfl rfl ?_
        refine r_al (pc' := 60) rfl rfl rfl rfl ?_
        refine r_gi (pc' := 63) rfl rfl sh_4 rfl (((congrFun (congrFun hq53 _) _).trans (mu_ne (by omega))).trans ((congrFun (congrFun hq49 _) _).trans (mu_ne (by omega)))) ?_
        refine r_ld (pc' := 64) rfl rfl rfl rfl ?_
        refine r_gr (b := 7) (pc' := 67) rfl rfl sh_4 rfl pp_4_4 ?_
        refine r_ld (pc' := 69) rfl rfl rfl rfl ?_
        refine r_ia (pc' := 70) rfl rfl sh_7 rfl (by omega) (by omega) (((congrFun (congrFun hq53 _) _).trans (mu_ne (by omega))).trans ((congrFun (congrFun hq49 _) _).trans mu_eq)) ?_
        refine r_add (pc' := 71) rfl rfl ?_
        refine w_hxi (fun v55 h56 h57 => ?_)
        refine r_pi (pc' := 74) rfl rfl sh_4 rfl rfl hs54 (inS_0 (by omega) (by omega) (by omega) (by omega)) (wr_4_8 ⟨by omega, by omega⟩) (fun z58 hq59 hs60 => ?_)
        have hq4 := hq59
        refine r_inc (pc' := 77) (lv' := [(0, _), (2, _)]) rfl rfl rfl rfl rfl ?_
        refine r_go rfl ?_
        have hf61 : z58 4 8 = v55 := ((congrFun (congrFun hq59 _) _).trans mu_eq)
        exact w_lv (sub_c rfl (sub_c rfl (sub_c rfl sub_n))) rfl (ih0 (x5 + 1) z58 w ⟨by omega, by omega⟩ hs60 (by first | (intro e he; exfalso; omega) | (intro e he; by_cases c : e = x5.toNat; (subst c; exact ⟨by rw [hq4, mu_ne (by omega), hq6, mu_ne (by omega), hq7, mu_eq]; omega, by rw [hq4, mu_ne (by omega), hq6, mu_eq]; omega⟩); exact ⟨by rw [hq4, mu_ne (by omega), hq6, mu_ne (by omega), hq7, mu_ne (by omega)]; exact (as1 e (by omega)).1, by rw [hq4, mu_ne (by omega), hq6, mu_ne (by omega), hq7, mu_ne (by omega)]; exact (as1 e (by omega)).2⟩)) (by first | (rw [show (0 : Int).toNat = 0 from rfl]; show _ = (0 : Int); omega) | (rw [show (x5 + 1).toNat = x5.toNat + 1 by omega, sm_s]; omega)) (by omega) (by omega))
  refine w_m rfl rfl ?_
  refine r_ld (pc' := 1) rfl rfl rfl rfl ?_
  refine r_ld (pc' := 2) rfl rfl rfl rfl ?_
  refine r_pr (b := some t) (pc' := 5) rfl rfl sh_4 rfl rfl pq_u5 ?_
  refine r_ld (pc' := 6) rfl rfl rfl rfl ?_
  refine r_c0 (pc' := 7) rfl rfl ?_
  refine r_pi (pc' := 10) rfl rfl sh_4 rfl rfl hst (inS_0 (by omega) (by omega) (by omega) (by omega)) (wr_4_8 ⟨by omega, by omega⟩) (fun z62 hq63 hs64 => ?_)
  refine r_ld (pc' := 11) rfl rfl rfl rfl ?_
  refine r_cSL (pc' := 14) rfl rfl rfl rfl rfl (m_142s (d := d) n hs64.1 hs64.2.1 hn (by first | omega | assumption) (by first | omega | assumption)) (fun v65 z66 w67 p68 h69 hs70 hE71 => ?_)
  obtain ⟨rfl, rfl, rfl, hE71⟩ := hE71
  have htt := hE71
  refine r_st (pc' := 15) (lv' := [(3, _), (0, _), (1, _), (2, _)]) rfl rfl rfl rfl ?_
  refine r_ld (pc' := 16) rfl rfl rfl rfl ?_
  refine r_al (pc' := 19) rfl rfl rfl rfl ?_
  refine r_lle (pc' := 23) rfl rfl rfl ⟨by omega, by omega⟩ ⟨by decide, by decide⟩ (fun hc73 => ?_) (fun hc73 => ?_)
  · skip
    refine r_c0 (pc' := 26) rfl rfl ?_
    refine r_st (pc' := 28) (lv' := [(5, _), (3, _), (0, _), (1, _), (2, _)]) rfl rfl rfl rfl ?_
    have hf74 : z62 4 8 = 0 := ((congrFun (congrFun hq63 _) _).trans mu_eq)
    exact w_lv (sub_c rfl (sub_c rfl (sub_c rfl sub_n))) rfl ((key ((47 * (18 - 0) + 29 : Int).toNat + 1)) 0 z62 w0 ⟨by omega, by omega⟩ hs64 (by first | (intro e he; exfalso; omega) | (intro e he; by_cases c : e = x5.toNat; (subst c; exact ⟨by rw [hq4, mu_ne (by omega), hq6, mu_ne (by omega), hq7, mu_eq]; omega, by rw [hq4, mu_ne (by omega), hq6, mu_eq]; omega⟩); exact ⟨by rw [hq4, mu_ne (by omega), hq6, mu_ne (by omega), hq7, mu_ne (by omega)]; exact (as1 e (by omega)).1, by rw [hq4, mu_ne (by omega), hq6, mu_ne (by omega), hq7, mu_ne (by omega)]; exact (as1 e (by omega)).2⟩)) (by first | (rw [show (0 : Int).toNat = 0 from rfl]; show _ = (0 : Int); omega) | (rw [show (x5 + 1).toNat = x5.toNat + 1 by omega, sm_s]; omega)) (by omega) (by omega))
  · skip
    refine r_c0 (pc' := 24) rfl rfl ?_
    have hb75 := rd_T_0 ht hz
    have hf76 : z62 t 0 = z0 t 0 := ((congrFun (congrFun hq63 _) _).trans (mu_ne (by omega)))
    have hf77 : z62 4 8 = 0 := ((congrFun (congrFun hq63 _) _).trans mu_eq)
    have hF78 : z62 (t + 1) = z0 (t + 1) := ((congrFun hq63 _).trans (mu_fn (by omega)))
    exact r_rz rfl (by omega) (po_I hs64 ⟨by decide, by decide⟩ ⟨rfl, by omega, by omega, (by refine ⟨?_, ?_, ?_⟩; (first | (intro h; exfalso; omega) | (intro _; exact ⟨TL_of hwt hft (by omega) (by simp only [hF78, hf76, hf77]) (fun e he => as1 e (by omega)) (by rw [as2, show x5.toNat = 18 by omega]), fun e he => (as1 e (by omega)).1⟩)); (intro h; omega); (intro h; omega))⟩)
/-- Shortener firstToFlip -/
abbrev S_57x  : mS := [(11, 11, 6, 6), (11, 11, 7, 7), (11, 11, 8, 8), (11, 11, 9, 9), (11, 11, 10, 10)]
abbrev E_57x (t : Nat) (z0 w0 : mZ) (x y tx it mt tt ct : Option Nat) : Int → mZ → mZ → mP → Prop := fun v z w p => p = (pq x y tx it mt tt ct) ∧ (-1) ≤ v ∧ v ≤ 17 ∧ ((v = -1 ∧ ∀ e : Nat, (e : Int) < z0 t 1 → ¬ CDd (z0 t 0).toNat (vT (z0 12)) (w0 15) e) ∨ (0 ≤ v ∧ v < z0 t 1 ∧ z0 13 v.toNat / 3 ≠ z0 14 v.toNat / 3 ∧ LRq z0 z w0 w v.toNat ∧ w 11 10 < w0 15 v.toNat ∧ ∀ e : Nat, (e : Int) < v → ¬ CDd (z0 t 0).toNat (vT (z0 12)) (w0 15) e))
theorem m_57x {d : Nat} {z0 w0 : mZ} {x y tx it mt tt ct : Option Nat} (t : Nat) (hz : rz z0) (hw : rw_ w0) (ht : isT t) (hsd : SD (z0 t 0) (z0 t 1) (z0 12) (z0 13) (z0 14)) (hsl : z0 11 4 = 3 * z0 t 0 ∧ z0 11 5 = z0 t 1) (hn0 : ∀ e : Nat, e < 18 → 0 ≤ w0 15 e ∧ w0 15 e ≤ 1782) : wc (d + 3) 57 [.ref 11] (mk z0 w0 (pq x y tx it mt tt ct)) (poI S_57x z0 w0 (E_57x t z0 w0 x y tx it mt tt ct)) := by
  have hst : st_ S_57x z0 w0 z0 w0 := st_rf hz hw
  have htb : 159 ≤ t ∧ t ≤ 192 := by have := ht; unfold isT at this; omega
  have hz28 := rd_11_4 hz
  have hz29 := rd_11_5 hz
  have hz30 := rd_T_0 ht hz
  have hz31 := rd_T_1 ht hz
  have hzt0 := rd_T_0 ht hz
  have hzt1 := rd_T_1 ht hz
  have key : ∀ N : Nat, (∀ (x1 : Int) (z w : mZ), 0 ≤ x1 ∧ x1 ≤ 18 → st_ S_57x z0 w0 z w → (∀ e : Nat, (e : Int) < x1 → ¬ CDd (z0 t 0).toNat (vT (z0 12)) (w0 15) e) → 36 * (18 - x1) + 33 < (N : Int) → wp_ (d + 2) 57 2 (some .int) (2, [(0, .ref 11), (1, .int (Int32.ofInt x1))], [], mk z w (pq x y tx it mt tt ct)) (poI S_57x z0 w0 (E_57x t z0 w0 x y tx it mt tt ct))) := by
    intro N
    induction N with
    | zero =>
      intro x1 z w
      intros; exfalso; omega
    | succ N ih =>
      have ih0 := ih; clear ih
      intro x1 z w  hx1 hst as9 hM
      have e12 : z 12 = z0 12 := funext fun i => hst.2.2.1 _ _ (notS_c (by omega) (notS_c (by omega) (notS_c (by omega) (notS_c (by omega) (notS_c (by omega) (notS_n))))))
      have e13 : z 13 = z0 13 := funext fun i => hst.2.2.1 _ _ (notS_c (by omega) (notS_c (by omega) (notS_c (by omega) (notS_c (by omega) (notS_c (by omega) (notS_n))))))
      have e14 : z 14 = z0 14 := funext fun i => hst.2.2.1 _ _ (notS_c (by omega) (notS_c (by omega) (notS_c (by omega) (notS_c (by omega) (notS_c (by omega) (notS_n))))))
      have e15 : w 15 = w0 15 := funext fun i => hst.2.2.2 _ _ (notS_c (by omega) (notS_c (by omega) (notS_c (by omega) (notS_c (by omega) (notS_c (by omega) (notS_n))))))
      have gt0 : z t 0 = z0 t 0 := hst.2.2.1 _ _ (notS_c (by omega) (notS_c (by omega) (notS_c (by omega) (notS_c (by omega) (notS_c (by omega) (notS_n))))))
      have gt1 : z t 1 = z0 t 1 := hst.2.2.1 _ _ (notS_c (by omega) (notS_c (by omega) (notS_c (by omega) (notS_c (by omega) (notS_c (by omega) (notS_n))))))
      refine r_ld (pc' := 3) rfl rfl rfl rfl ?_
      refine r_ld (pc' := 4) rfl rfl rfl rfl ?_
      have hb32 := rd_11_5 hz
      refine r_gi (pc' := 7) rfl rfl sh_11 rfl (hst.2.2.1 _ _ (notS_c (by omega) (notS_c (by omega) (notS_c (by omega) (notS_c (by omega) (notS_c (by omega) notS_n)))))) ?_
      refine r_ige (pc' := 10) rfl rfl ⟨by omega, by omega⟩ ⟨by omega, by omega⟩ (fun hc33 => ?_) (fun hc33 => ?_)
      · skip
        refine r_c0 (pc' := 57) rfl rfl ?_
        have hb34 := rd_11_10 hst.2.1
        exact r_ri rfl (po_I hst ⟨by decide, by decide⟩ ⟨rfl, by omega, by omega, (by first | exact Or.inl ⟨by omega, fun e he => as9 e (by omega)⟩ | exact Or.inr ⟨by omega, by omega, by omega, hlr, by omega, fun e he => as9 e (by omega)⟩)⟩)
      · skip
        refine r_ld (pc' := 11) rfl rfl rfl rfl ?_
        refine r_gr (b := 13) (pc' := 14) rfl rfl sh_11 rfl pp_11_1 ?_
        refine r_ld (pc' := 15) rfl rfl rfl rfl ?_
        have hb35 := rd_13 hz (i := x1.toNat) (by omega)
        refine r_ia (pc' := 16) rfl rfl sh_13 rfl (by omega) (by omega) (hst.2.2.1 _ _ (notS_c (by omega) (notS_c (by omega) (notS_c (by omega) (notS_c (by omega) (notS_c (by omega) notS_n)))))) ?_
        refine r_c0 (pc' := 17) rfl rfl ?_
        refine r_dvg (pc' := 18) rfl rfl ⟨by omega, by omega⟩ ⟨by decide, by decide⟩ (by decide) (fun v36 h37 h38 => ?_)
        refine r_ld (pc' := 19) rfl rfl rfl rfl ?_
        refine r_gr (b := 14) (pc' := 22) rfl rfl sh_11 rfl pp_11_2 ?_
        refine r_ld (pc' := 23) rfl rfl rfl rfl ?_
        have hb39 := rd_14 hz (i := x1.toNat) (by omega)
        refine r_ia (pc' := 24) rfl rfl sh_14 rfl (by omega) (by omega) (hst.2.2.1 _ _ (notS_c (by omega) (notS_c (by omega) (notS_c (by omega) (notS_c (by omega) (notS_c (by omega) notS_n)))))) ?_
        refine r_c0 (pc' := 25) rfl rfl ?_
        refine r_dv (pc' := 26) (v := (z0 14 x1.toNat) / 3) rfl rfl ⟨by omega, by omega⟩ ⟨by decide, by decide⟩ (by decide) (tdiv_n (by omega)) ?_
        refine r_ieq (pc' := 29) rfl rfl ⟨by omega, by omega⟩ ⟨by omega, by omega⟩ (fun hc40 => ?_) (fun hc40 => ?_)
        · skip
          refine r_inc (pc' := 53) (lv' := [(0, _)]) rfl rfl rfl rfl rfl ?_
          refine r_go rfl ?_
          exact w_lv (sub_c rfl (sub_c rfl sub_n)) rfl (ih0 (x1 + 1) z w ⟨by omega, by omega⟩ hst (by first | (intro e he; exfalso; omega) | (intro e he; by_cases c : e = x1.toNat; (subst c; first | exact CD_no1 hsd (fun s hs => (rd_12 hz (i := s) (by omega)).1) (by omega) (by have q9 := (hsd x1.toNat (by omega)).1; omega) | exact CD_no2 hsd (fun s hs => (rd_12 hz (i := s) (by omega)).1) (by omega) hlr.1 hlr.2.1 hlr.2.2.1 hlr.2.2.2.1 hlr.2.2.2.2 (by omega)); exact as9 e (by omega))) (by omega))
        · skip
          refine r_ld (pc' := 30) rfl rfl rfl rfl ?_
          refine r_ld (pc' := 31) rfl rfl rfl rfl ?_
          have hb41 := rd_T_0 ht hz
          have hf42 : z t 0 = z0 t 0 := (hst.2.2.1 _ _ (notS_c (by omega) (notS_c (by omega) (notS_c (by omega) (notS_c (by omega) (notS_c (by omega) notS_n))))))
          have hb43 := rd_T_1 ht hz
          have hf44 : z t 1 = z0 t 1 := (hst.2.2.1 _ _ (notS_c (by omega) (notS_c (by omega) (notS_c (by omega) (notS_c (by omega) (notS_c (by omega) notS_n))))))
          have hF45 : z 12 = z0 12 := (funext fun _ => hst.2.2.1 _ _ (notS_c (by omega) (notS_c (by omega) (notS_c (by omega) (notS_c (by omega) (notS_c (by omega) notS_n))))))
          have hF46 : z 13 = z0 13 := (funext fun _ => hst.2.2.1 _ _ (notS_c (by omega) (notS_c (by omega) (notS_c (by omega) (notS_c (by omega) (notS_c (by omega) notS_n))))))
          have hF47 : z 14 = z0 14 := (funext fun _ => hst.2.2.1 _ _ (notS_c (by omega) (notS_c (by omega) (notS_c (by omega) (notS_c (by omega) (notS_c (by omega) notS_n))))))
          refine r_cVV (pc' := 34) rfl rfl rfl rfl rfl sh_11 (m_58v (d := d) t x1 hst.1 hst.2.1 ⟨by omega, by omega⟩ ht (by rw [gt0, gt1, e12, e13, e14]; exact hsd) (by first | omega | assumption | (simp only [hF45, hF46, hF47, hf42, hf44]; assumption)) (by rw [e15]; exact hn0)) (fun z49 w50 p51 hs53 hE54 => ?_)
          have hs55 := st_tr hst hs53 (sub_B rfl)
          obtain ⟨rfl, hE54⟩ := hE54
          have hlr := hE54
          unfold LRq at hlr
          rw [e12, e13, e14, e15] at hlr
          refine r_ld (pc' := 35) rfl rfl rfl rfl ?_
          have hb56 := rd_11_10 hs55.2.1
          refine r_gl (pc' := 38) rfl rfl sh_11 rfl rfl ?_
          refine r_ld (pc' := 39) rfl rfl rfl rfl ?_
          refine r_gr (b := 15) (pc' := 42) rfl rfl sh_11 rfl pp_11_3 ?_
          refine r_ld (pc' := 43) rfl rfl rfl rfl ?_
          have hb57 := rd_15 hw (i := x1.toNat) (by omega)
          refine r_la (pc' := 44) rfl rfl sh_15 rfl (by omega) (by omega) ((hs53.2.2.2 _ _ (notS_c (by omega) (notS_c (by omega) (notS_c (by omega) (notS_c (by omega) (notS_c (by omega) notS_n)))))).trans (hst.2.2.2 _ _ (notS_c (by omega) (notS_c (by omega) (notS_c (by omega) (notS_c (by omega) (notS_c (by omega) notS_n))))))) ?_
          refine r_lge (pc' := 48) rfl rfl rfl ⟨by omega, by omega⟩ ⟨by omega, by omega⟩ (fun hc58 => ?_) (fun hc58 => ?_)
          · skip
            refine r_inc (pc' := 53) (lv' := [(0, _)]) rfl rfl rfl rfl rfl ?_
            refine r_go rfl ?_
            exact w_lv (sub_c rfl (sub_c rfl sub_n)) rfl (ih0 (x1 + 1) z49 w50 ⟨by omega, by omega⟩ hs55 (by first | (intro e he; exfalso; omega) | (intro e he; by_cases c : e = x1.toNat; (subst c; first | exact CD_no1 hsd (fun s hs => (rd_12 hz (i := s) (by omega)).1) (by omega) (by have q9 := (hsd x1.toNat (by omega)).1; omega) | exact CD_no2 hsd (fun s hs => (rd_12 hz (i := s) (by omega)).1) (by omega) hlr.1 hlr.2.1 hlr.2.2.1 hlr.2.2.2.1 hlr.2.2.2.2 (by omega)); exact as9 e (by omega))) (by omega))
          · skip
            refine r_ld (pc' := 49) rfl rfl rfl rfl ?_
            exact r_ri rfl (po_I hs55 ⟨by omega, by omega⟩ ⟨rfl, by omega, by omega, (by first | exact Or.inl ⟨by omega, fun e he => as9 e (by omega)⟩ | exact Or.inr ⟨by omega, by omega, by omega, hlr, by omega, fun e he => as9 e (by omega)⟩)⟩)
  refine w_m rfl rfl ?_
  refine r_c0 (pc' := 1) rfl rfl ?_
  refine r_st (pc' := 2) (lv' := [(1, _), (0, _)]) rfl rfl rfl rfl ?_
  exact w_lv (sub_c rfl (sub_c rfl sub_n)) rfl ((key ((36 * (18 - 0) + 33 : Int).toNat + 1)) 0 z0 w0 ⟨by omega, by omega⟩ hst (by first | (intro e he; exfalso; omega) | (intro e he; by_cases c : e = x1.toNat; (subst c; first | exact CD_no1 hsd (fun s hs => (rd_12 hz (i := s) (by omega)).1) (by omega) (by have q9 := (hsd x1.toNat (by omega)).1; omega) | exact CD_no2 hsd (fun s hs => (rd_12 hz (i := s) (by omega)).1) (by omega) hlr.1 hlr.2.1 hlr.2.2.1 hlr.2.2.2.1 hlr.2.2.2.2 (by omega)); exact as9 e (by omega))) (by omega))
end
section
/-! a flip that shortens, put together of what both tell -/
theorem lt_i {e : Nat} {v : Int} (h : e < v.toNat) : (e : Int) < v := by omega
theorem lt_n {v b : Int} (h0 : 0 ≤ v) (h1 : v < b) : (v.toNat : Int) < b := by omega
theorem lt_m {p q c v a : Int} (h : v = max p q - c) (h2 : v < c) (h3 : a = max p q - c) : a < c := by omega
theorem STP_i {m : Nat} {T : Nat → Nat} {n : Nat → Int} {e x y z w : Nat} {T1 : Nat → Nat} {n1 : Nat → Int} {a b : Int} (h0 : 0 ≤ a) (h1 : a < b) (h2 : a / 3 ≠ b / 3) (hf : FLP m T T1 e x y z w a.toNat b.toNat a.toNat b.toNat) (hn : n1 = fl e x y z w n) (hl : n1 e < n e) (hc : ∀ e', e' < e → ¬ CDd m T n e') : STP m T n e x y z w T1 n1 :=
  ⟨a.toNat, b.toNat, a.toNat, b.toNat, lt3 h0 h1 h2, hf, hn, hl, hc⟩
end

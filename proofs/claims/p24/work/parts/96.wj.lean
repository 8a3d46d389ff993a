/-! making short, exactly: for both walks -/
section
variable {m E : Int} {T lo hi n : Nat → Int}
theorem CD_at (sd : SD m E T lo hi) (tn : ∀ s : Nat, (s : Int) < 3 * m → 0 ≤ T s) {e : Nat} (he : (e : Int) < E) (c : CDd m.toNat (vT T) n e) : lo e / 3 ≠ hi e / 3 ∧ max (n (vT T (bh (lo e).toNat)) + n (vT T (bh (hi e).toNat))) (n (vT T (ah (lo e).toNat)) + n (vT T (ah (hi e).toNat))) - n e < n e := by
  obtain ⟨s1, s2, l1, l2, lt, e1, e2, d⟩ := c
  obtain ⟨a1, a2, a3, a4, a5, a6⟩ := sd e he
  have t1 := tn s1 (by omega)
  have t2 := tn s2 (by omega)
  have e1 : (T s1).toNat = e := e1
  have e2 : (T s2).toNat = e := e2
  have k1 := a6 s1 (by omega) (by omega)
  have k2 := a6 s2 (by omega) (by omega)
  have g1 : s1 = (lo e).toNat := by omega
  have g2 : s2 = (hi e).toNat := by omega
  rw [g1, g2] at d
  exact ⟨by omega, d⟩
theorem CD_no1 (sd : SD m E T lo hi) (tn : ∀ s : Nat, (s : Int) < 3 * m → 0 ≤ T s) {e : Nat} (he : (e : Int) < E) (q : lo e / 3 = hi e / 3) : ¬ CDd m.toNat (vT T) n e := fun c => (CD_at sd tn he c).1 q
theorem CD_no2 (sd : SD m E T lo hi) (tn : ∀ s : Nat, (s : Int) < 3 * m → 0 ≤ T s) {e : Nat} (he : (e : Int) < E) {x y z w v : Int} (hx : x = T (bh (lo e).toNat)) (hy : y = T (ah (lo e).toNat)) (hz : z = T (bh (hi e).toNat)) (hw : w = T (ah (hi e).toNat)) (hv : v = max (n x.toNat + n z.toNat) (n y.toNat + n w.toNat) - n e) (h : n e ≤ v) : ¬ CDd m.toNat (vT T) n e := by
  intro c
  have k : max (n (T (bh (lo e).toNat)).toNat + n (T (bh (hi e).toNat)).toNat) (n (T (ah (lo e).toNat)).toNat + n (T (ah (hi e).toNat)).toNat) - n e < n e := (CD_at sd tn he c).2
  rw [← hx, ← hy, ← hz, ← hw] at k
  omega
theorem CD_ge (ly : LY m E T) {e : Nat} (he : E ≤ (e : Int)) : ¬ CDd m.toNat (vT T) n e := by
  rintro ⟨s1, s2, l1, _, _, e1, _, _⟩
  have e1 : (T s1).toNat = e := e1
  have := ly.2.2.2.1 s1 (by omega)
  omega
/-- by the reference's sides -/
theorem CQ_at {s1 s2 : Int} {e : Nat} (sq : SQ m T e s1 s2) (tn : ∀ s : Nat, (s : Int) < 3 * m → 0 ≤ T s) (c : CDd m.toNat (vT T) n e) : s1 / 3 ≠ s2 / 3 ∧ max (n (vT T (bh s1.toNat)) + n (vT T (bh s2.toNat))) (n (vT T (ah s1.toNat)) + n (vT T (ah s2.toNat))) - n e < n e := by
  obtain ⟨r1, r2, l1, l2, lt, e1, e2, d⟩ := c
  obtain ⟨a1, a2, a3, a4, a5, a6⟩ := sq
  have t1 := tn r1 (by omega)
  have t2 := tn r2 (by omega)
  have e1 : (T r1).toNat = e := e1
  have e2 : (T r2).toNat = e := e2
  have k1 := a6 r1 (by omega) (by omega)
  have k2 := a6 r2 (by omega) (by omega)
  have g1 : r1 = s1.toNat := by omega
  have g2 : r2 = s2.toNat := by omega
  rw [g1, g2] at d
  exact ⟨by omega, d⟩
end
section
variable {m : Nat} {E : Int} {T T' T0 T0' : Nat → Nat} {n n' n0 n0' : Nat → Int} {cf cf' : Nat → Nat → Nat}
theorem CHN_0 {k : Nat} (hk : k = 0) : CHN m E T0 n0 cf k T0 n0 := by subst hk; exact ⟨fun _ _ => rfl, fun _ _ => rfl⟩
theorem CHN_g : ∀ (k : Nat) {T : Nat → Nat} {n : Nat → Int}, (∀ i j, i < k → j < 5 → cf' i j = cf i j) → CHN m E T0 n0 cf k T n → CHN m E T0 n0 cf' k T n
  | 0, _, _, _, c => c
  | k + 1, T, n, h, c => by
    obtain ⟨T1, n1, c1, c2, st⟩ := c
    exact ⟨T1, n1, CHN_g k (fun i j hi hj => h i j (by omega) hj) c1, c2, by rw [h k 0 (by omega) (by omega), h k 1 (by omega) (by omega), h k 2 (by omega) (by omega), h k 3 (by omega) (by omega), h k 4 (by omega) (by omega)]; exact st⟩
theorem CHN_s {k k' e x y z w : Nat} {T1 : Nat → Nat} {n1 : Nat → Int} (c : CHN m E T0 n0 cf k T1 n1) (ns : ¬ SHs E n1) (st : STP m T1 n1 e x y z w T n) (hc : ∀ i j, i < k → j < 5 → cf' i j = cf i j) (c0 : cf' k 0 = e) (c1 : cf' k 1 = x) (c2 : cf' k 2 = y) (c3 : cf' k 3 = z) (c4 : cf' k 4 = w) (hk : k' = k + 1) : CHN m E T0 n0 cf' k' T n := by
  subst hk
  exact ⟨T1, n1, CHN_g k hc c, ns, by rw [c0, c1, c2, c3, c4]; exact st⟩
theorem CHN_z (hT : ∀ s, s < 3 * m → T0 s = T0' s) (hn : ∀ j, j < 18 → n0 j = n0' j) : ∀ (k : Nat) {T : Nat → Nat} {n : Nat → Int}, CHN m E T0 n0 cf k T n → CHN m E T0' n0' cf k T n
  | 0, T, n, c => by
    obtain ⟨a, b⟩ := c
    exact ⟨fun s hs => (a s hs).trans (hT s hs), fun j hj => (b j hj).trans (hn j hj)⟩
  | k + 1, T, n, c => by
    obtain ⟨T1, n1, c1, c2, st⟩ := c
    exact ⟨T1, n1, CHN_z hT hn k c1, c2, st⟩
theorem CHN_b (hT : ∀ s, s < 3 * m → T0 s < 18) : ∀ (k : Nat) {T : Nat → Nat} {n : Nat → Int}, CHN m E T0 n0 cf k T n → (∀ i j, i < k → j < 5 → cf i j < 18) ∧ ∀ s, s < 3 * m → T s < 18
  | 0, T, n, c => by
    obtain ⟨a, b⟩ := c
    exact ⟨fun i j hi => absurd hi (by omega), fun s hs => by rw [a s hs]; exact hT s hs⟩
  | k + 1, T, n, c => by
    obtain ⟨T1, n1, c1, c2, st⟩ := c
    obtain ⟨i1, i2⟩ := CHN_b hT k c1
    obtain ⟨s1, s2, r1, r2, lt, f, en, d, le⟩ := st
    refine ⟨fun i j hi hj => ?_, f.lt i2⟩
    by_cases q : i < k
    · exact i1 i j q hj
    · have q : i = k := by omega
      subst q
      rcases (show j = 0 ∨ j = 1 ∨ j = 2 ∨ j = 3 ∨ j = 4 by omega) with rfl | rfl | rfl | rfl | rfl
      · rw [← f.e1]; exact i2 _ f.l1
      · rw [← f.hx]; exact i2 _ (bh_lt f.l1)
      · rw [← f.hy]; exact i2 _ (ah_lt f.l1)
      · rw [← f.hz]; exact i2 _ (bh_lt f.l2)
      · rw [← f.hw]; exact i2 _ (ah_lt f.l2)
end
/-- what comes of a single line: stuck, or a road -/
def RDX (m E : Int) (T0 : Nat → Nat) (n0 : Nat → Int) (kind : Int) (r : Rdt) : Prop := (kind = 1 ∧ ∃ (K : Nat) (cf : Nat → Nat → Nat) (T : Nat → Nat) (n : Nat → Int), CHN m.toNat E T0 n0 cf K T n ∧ ¬ SHs E n ∧ ∀ e, ¬ CDd m.toNat T n e) ∨
  (kind = 2 ∧ ∃ (T : Nat → Nat) (n : Nat → Int), CHN m.toNat E T0 n0 r.1 r.2.1 T n ∧ SHs E n ∧ ENa m.toNat T n r.2.2.1 r.2.2.2.1 r.2.2.2.2.1 r.2.2.2.2.2 ∧ EN2 m.toNat T n)
def RDY (m E : Int) (T0 : Nat → Nat) (n0 : Nat → Int) (kind : Int) (r : Rdt) : Prop := (kind = 1 ∧ ∃ (K : Nat) (cf : Nat → Nat → Nat) (T : Nat → Nat) (n : Nat → Int), CHN m.toNat E T0 n0 cf K T n ∧ ¬ SHs E n ∧ ∀ e, ¬ CDd m.toNat T n e) ∨
  (kind = 2 ∧ ∃ (T : Nat → Nat) (n : Nat → Int), CHN m.toNat E T0 n0 r.1 r.2.1 T n ∧ SHs E n ∧ ENb m.toNat T n r.2.2.1 r.2.2.2.1 r.2.2.2.2.1 r.2.2.2.2.2)
theorem RDX_z {m E : Int} {T0 T0' : Nat → Nat} {n0 n0' : Nat → Int} {k : Int} {r : Rdt} (hT : ∀ s, s < 3 * m.toNat → T0 s = T0' s) (hn : ∀ j, j < 18 → n0' j = n0 j) (h : RDX m E T0 n0 k r) : RDX m E T0' n0' k r := by
  have hn' : ∀ j, j < 18 → n0 j = n0' j := fun j hj => (hn j hj).symm
  rcases h with ⟨x0, K, cf, T, n, c, ns, nc⟩ | ⟨x0, T, n, c, s, ea, e2⟩
  · exact Or.inl ⟨x0, K, cf, T, n, CHN_z hT hn' K c, ns, nc⟩
  · exact Or.inr ⟨x0, T, n, CHN_z hT hn' _ c, s, ea, e2⟩
theorem RD_u {m E : Int} {T0 T0' : Nat → Nat} {n0 n0' : Nat → Int} (hE : E ≤ 18) (hT : ∀ s, s < 3 * m.toNat → T0 s < 18) (h : ROT m.toNat T0 T0') (hn : ∀ j, j < 18 → n0' j = n0 j) {k k' : Int} {r r' : Rdt} (x : RDX m E T0 n0 k r) (y : RDY m E T0' n0' k' r') : k' = k ∧ (k = 2 → Req r r') := by
  rcases x with ⟨x0, K, cf, T, n, c, ns, nc⟩ | ⟨x0, T, n, c, s, ea, e2⟩ <;> rcases y with ⟨y0, K', cf', T', n', c', ns', nc'⟩ | ⟨y0, T', n', c', s', eb⟩
  · exact ⟨by omega, fun q => by omega⟩
  · exfalso
    have l := CHN_l hE hT h hn c (Or.inr nc) c' (Or.inl s')
    rw [l] at c'
    obtain ⟨_, u2, u3, u4⟩ := CHN_u hT h hn K c c'
    exact ns (SHs_c hE (fun j hj => (u3 j hj).symm) s')
  · exfalso
    have l := CHN_l hE hT h hn c (Or.inl s) c' (Or.inr nc')
    rw [l] at c'
    obtain ⟨_, u2, u3, u4⟩ := CHN_u hT h hn _ c c'
    exact ns' (SHs_c hE u3 s)
  · refine ⟨by omega, fun _ => ?_⟩
    have l := CHN_l hE hT h hn c (Or.inl s) c' (Or.inl s')
    rw [l] at c'
    obtain ⟨u1, u2, u3, u4⟩ := CHN_u hT h hn _ c c'
    obtain ⟨g1, g2, g3, g4⟩ := EN_u u2 u4 u3 e2 ea eb
    obtain ⟨u, v, uv, hv, cu, cv, a1, a2, a3, a4⟩ := ea
    have hu : u < 3 * m.toNat := by omega
    exact ⟨(CHN_b hT _ c).1, u1, Prod.ext l (Prod.ext g1 (Prod.ext g2 (Prod.ext g3 g4))), by rw [a1]; exact u4 _ hu, by rw [a2]; exact u4 _ hv, by rw [a3]; exact u4 _ (ah_lt hu), by rw [a4]; exact u4 _ (bh_lt hu)⟩
/-- one loop, no ring -/
def SGL (E : Int) (T o fs n : Nat → Int) : Prop := sm n 18 ≤ 18000 ∧ (lpe T o fs n E.toNat).2.1 = 1 ∧ (lpe T o fs n E.toNat).2.2 = 0
theorem SGL_c {m E : Int} {T o fs n T' o' fs' n' : Nat → Int} (h : WT m E T o fs) (f : FT m.toNat (vT T) n) (g : GE m E T o fs n T' o' fs' n') (s : sm n' 18 = sm n 18) : SGL E T o fs n ↔ SGL E T' o' fs' n' := by
  have m0 := h.m0
  have m2 := h.hE
  unfold SGL
  rw [lpe_c h f g E.toNat (by omega), s]
theorem SGL_nr {m E : Int} {T o fs n : Nat → Int} (h : WT m E T o fs) (f : FT m.toNat (vT T) n) (s : SGL E T o fs n) : ¬ RNG m.toNat (vT T) n := sg_nr h f s.2.1 s.2.2
theorem GE_r {m E : Int} {T o fs n n' : Nat → Int} (h : ∀ e : Nat, (e : Int) < E → n e = n' e) : GE m E T o fs n T o fs n' := ⟨fun _ _ => ⟨rfl, rfl⟩, fun e he => ⟨rfl, h e he⟩⟩
theorem RNG_c {m : Nat} {T T' : Nat → Nat} {n n' : Nat → Int} (hT : ∀ s, s < 3 * m → T' s = T s) (hn : ∀ s, s < 3 * m → n' (T s) = n (T s)) (g : RNG m T' n') : RNG m T n := by
  obtain ⟨L, l01, lab, num⟩ := g
  refine ⟨L, l01, fun s r hs hr ne q => lab s r hs hr ne (by rw [hT s hs, hT r hr]; exact q), fun s hs => ?_⟩
  have k := num s hs
  rw [hT s hs, hn s hs] at k
  exact k
/-- a line as the class keeps it, as the reference keeps it -/
def CLQ (z0 w0 z : mZ) (t l k : Nat) : Prop := (z (17 + 2 * k) 0 = 0 ∧ ¬ SGL (z0 t 1) (z0 (t + 1)) (z0 (t + 2)) (z0 (t + 5)) (w0 (t + 8 + l))) ∨ (SGL (z0 t 1) (z0 (t + 1)) (z0 (t + 2)) (z0 (t + 5)) (w0 (t + 8 + l)) ∧ RDX (z0 t 0) (z0 t 1) (vT (z0 (t + 1))) (w0 (t + 8 + l)) (z (17 + 2 * k) 0) (rdc z k))
def CLR (z w : mZ) (t l : Nat) : Prop := CLQ z w z t l l
def RLQ (z0 z : mZ) (l : Nat) : Prop := (z 253 l = 0 ∧ z 254 l = 0 ∧ ¬ SGL (rE z0) (z0 235) (z0 240) (z0 241) (tr (rE z0) (lnR z0 l))) ∨ (z 253 l = 1 ∧ SGL (rE z0) (z0 235) (z0 240) (z0 241) (tr (rE z0) (lnR z0 l)) ∧ RDY (z0 225 26) (rE z0) (vT (z0 235)) (tr (rE z0) (lnR z0 l)) (1 + z 254 l) (rdr z l))
def RLR (z : mZ) (l : Nat) : Prop := RLQ z z l
theorem CLQ_g {z w z' w' y : mZ} {t l k : Nat} (e0 : z' t 0 = z t 0) (e1 : z' t 1 = z t 1) (f1 : z' (t + 1) = z (t + 1)) (f2 : z' (t + 2) = z (t + 2)) (f5 : z' (t + 5) = z (t + 5)) (fw : w' (t + 8 + l) = w (t + 8 + l)) (h : CLQ z w y t l k) : CLQ z' w' y t l k := by
  unfold CLQ at *
  rw [e0, e1, f1, f2, f5, fw]
  exact h
theorem CLQ_f {z w y y' : mZ} {t l k : Nat} (r : ∀ i, i ≤ 5 → y' (17 + 2 * k) i = y (17 + 2 * k) i) (rf : y' (18 + 2 * k) = y (18 + 2 * k)) (h : CLQ z w y t l k) : CLQ z w y' t l k := by
  unfold CLQ at *
  rw [r 0 (by omega), rdc_f r rf]
  exact h
theorem RLR_f {z z' : mZ} {l : Nat} (e : z' 225 26 = z 225 26) (h1 : z' 235 = z 235) (h2 : z' 236 = z 236) (h3 : z' 240 = z 240) (h4 : z' 241 = z 241) (hr : ∀ a, 247 ≤ a → a ≤ 252 → z' a = z a) (k3 : z' 253 l = z 253 l) (k4 : z' 254 l = z 254 l) (h : RLR z l) : RLR z' l := by
  unfold RLR RLQ lnR rE at *
  rw [e, h1, h2, h3, h4, k3, k4, rdr_f hr]
  exact h
/-- alike -/
def RDe (z : mZ) (l : Nat) : Prop := (z 253 l = 0 ∨ z 253 l = 1) ∧ (z 253 l = 0 → z (17 + 2 * l) 0 = 0 ∧ z 254 l = 0) ∧ (z 253 l = 1 → z (17 + 2 * l) 0 = 1 + z 254 l) ∧ (z (17 + 2 * l) 0 = 2 → z 253 l = 1 ∧ Req (rdc z l) (rdr z l)) ∧ (z 253 l = 1 → z 254 l = 0 ∨ z 254 l = 1)
theorem RDe_i {z w : mZ} {t l : Nat} (hw : WTt z t) (ft : FTt z t (w (t + 8 + l))) (g : GE (z t 0) (z t 1) (z (t + 1)) (z (t + 2)) (z (t + 5)) (w (t + 8 + l)) (z 235) (z 240) (z 241) (tr (rE z) (lnR z l))) (e0 : z 225 26 = z t 0) (eE : rE z = z t 1) (hn : ∀ j, j < 18 → tr (rE z) (lnR z l) j = w (t + 8 + l) j) (c : CLR z w t l) (r : RLR z l) : RDe z l := by
  have hE : z t 1 ≤ 18 := by have := WT.hE hw; have := WT.hm hw; omega
  have sc := SGL_c hw ft g (sm_c 18 hn)
  have hv : ∀ s, s < 3 * (z t 0).toNat → vT (z 235) s = vT (z (t + 1)) s := fun s hs => by
    show (z 235 s).toNat = (z (t + 1) s).toNat
    rw [(g.1 s (by omega)).1]
  unfold RLR RLQ at r
  rw [eE] at r
  rw [eE] at sc hn
  unfold CLR CLQ at c
  rcases c with ⟨c0, c1⟩ | ⟨c1, c2⟩ <;> rcases r with ⟨r0, rf, r1⟩ | ⟨r0, r1, r2⟩
  · exact ⟨Or.inl r0, fun _ => ⟨c0, rf⟩, fun q => by omega, fun q => by omega, fun q => by omega⟩
  · exact absurd (sc.mpr r1) c1
  · exact absurd (sc.mp c1) r1
  · rw [e0] at r2
    have u := RD_u hE (WT.lt hw) (ROT_e hv) hn c2 r2
    refine ⟨Or.inr r0, fun q => by omega, fun _ => u.1.symm, fun q => ⟨r0, u.2 q⟩, fun _ => ?_⟩
    rcases r2 with ⟨q, _⟩ | ⟨q, _⟩ <;> omega
/-- the look for the pieces, in their order -/
def NBo (m : Int) (T n : Nat → Int) (x2 x3 a b e f : Int) : Prop := (x2 = 0 → ∀ u : Nat, (u : Int) < x3 → ¬ CO (vT T) n u) ∧
  (x2 = 1 → ∃ u : Nat, (u : Int) < x3 ∧ CO (vT T) n u ∧ a = T u ∧ f = T (bh u) ∧ e = T (ah u) ∧ ((∀ v : Nat, (v : Int) < x3 → CO (vT T) n v → v = u) ∨ ∃ v : Nat, (v : Int) < x3 ∧ u < v ∧ CO (vT T) n v ∧ b = T v))
section
variable {m x2 x3 a b e f : Int} {T n : Nat → Int}
theorem NBo_0 : NBo m T n 0 0 a b e f := ⟨fun _ u hu => absurd hu (by omega), fun q => absurd q (by omega)⟩
theorem NBo_n (h : NBo m T n x2 x3 a b e f) (x0 : 0 ≤ x3) (c : ¬ CO (vT T) n x3.toNat) : NBo m T n x2 (x3 + 1) a b e f := by
  have key : ∀ u : Nat, (u : Int) < x3 + 1 → CO (vT T) n u → (u : Int) < x3 := by
    intro u hu q
    by_cases d : (u : Int) = x3
    · rw [show u = x3.toNat by omega] at q; exact absurd q c
    · omega
  refine ⟨fun q u hu k => h.1 q u (key u hu k) k, fun q => ?_⟩
  obtain ⟨u, u1, u2, u3, u4, u5, u6⟩ := h.2 q
  refine ⟨u, by omega, u2, u3, u4, u5, ?_⟩
  rcases u6 with g | ⟨v, g1, g2, g3, g4⟩
  · exact Or.inl (fun v hv k => g v (key v hv k) k)
  · exact Or.inr ⟨v, by omega, g2, g3, g4⟩
theorem NBo_a {a' e' f' : Int} (h : NBo m T n 0 x3 a b e f) (x0 : 0 ≤ x3) (c : CO (vT T) n x3.toNat) (ha : a' = T x3.toNat) (hf : f' = T (bh x3.toNat)) (he : e' = T (ah x3.toNat)) : NBo m T n 1 (x3 + 1) a' b e' f' := by
  refine ⟨fun q => absurd q (by omega), fun _ => ⟨x3.toNat, by omega, c, ha, hf, he, Or.inl (fun v hv k => ?_)⟩⟩
  by_cases d : (v : Int) = x3
  · omega
  · exact absurd k (h.1 rfl v (by omega))
theorem NBo_b {b' : Int} (h : NBo m T n 1 x3 a b e f) (x0 : 0 ≤ x3) (c : CO (vT T) n x3.toNat) (hb : b' = T x3.toNat) : NBo m T n 1 (x3 + 1) a b' e f := by
  refine ⟨fun q => absurd q (by omega), fun _ => ?_⟩
  obtain ⟨u, u1, u2, u3, u4, u5, u6⟩ := h.2 rfl
  exact ⟨u, by omega, u2, u3, u4, u5, Or.inr ⟨x3.toNat, by omega, by omega, c, hb⟩⟩
theorem NBo_e (h : NBo m T n x2 x3 a b e f) (hx : x2 = 0 ∨ x2 = 1) (m0 : 0 ≤ m) (h3 : x3 = 3 * m) (ex : ∃ u v, u < 3 * m.toNat ∧ v < 3 * m.toNat ∧ u ≠ v ∧ CO (vT T) n u ∧ CO (vT T) n v) : ENa m.toNat (vT T) n a.toNat b.toNat e.toNat f.toNat := by
  obtain ⟨u, v, u1, v1, uv, cu, cv⟩ := ex
  rcases hx with q | q
  · exact absurd cu (h.1 q u (by omega))
  · obtain ⟨p, p1, p2, p3, p4, p5, p6⟩ := h.2 q
    rcases p6 with g | ⟨r, g1, g2, g3, g4⟩
    · have := g u (by omega) cu; have := g v (by omega) cv; omega
    · exact ⟨p, r, g2, by omega, p2, g3, by rw [p3], by rw [g4], by rw [p5], by rw [p4]⟩
end
/-- the reference's -/
def NBq (T n : Nat → Int) (x p a b e f : Int) : Prop := (x = 1 → ∀ u : Nat, (u : Int) < 3 * p → ¬ CO (vT T) n u) ∧
  (x = 0 → ∃ u v : Nat, (u : Int) < 3 * p ∧ (v : Int) < 3 * p ∧ u ≤ v ∧ CO (vT T) n u ∧ CO (vT T) n v ∧ a = T u ∧ b = T v ∧ f = T (bh v) ∧ e = T (ah v) ∧ (u = v → ∀ s : Nat, (s : Int) < 3 * p → CO (vT T) n s → s = u))
section
variable {x p a b e f : Int} {T n : Nat → Int}
theorem NBq_0 : NBq T n 1 0 a b e f := ⟨fun _ u hu => absurd hu (by omega), fun q => absurd q (by omega)⟩
theorem NBq_n (h : NBq T n x p a b e f) (c : ∀ u : Nat, 3 * p ≤ (u : Int) → (u : Int) < 3 * p + 3 → ¬ CO (vT T) n u) : NBq T n x (p + 1) a b e f := by
  have key : ∀ s : Nat, (s : Int) < 3 * (p + 1) → CO (vT T) n s → (s : Int) < 3 * p := by
    intro s hs q
    apply Classical.byContradiction
    intro d
    exact c s (by omega) (by omega) q
  refine ⟨fun q u hu k => h.1 q u (key u hu k) k, fun q => ?_⟩
  obtain ⟨u, v, h1, h2, h3, h4, h5, h6, h7, h8, h9, h10⟩ := h.2 q
  exact ⟨u, v, by omega, by omega, h3, h4, h5, h6, h7, h8, h9, fun k s hs cs => h10 k s (key s hs cs) cs⟩
theorem NBq_s {a' b' e' f' : Int} {s : Nat} (h : NBq T n x p a b e f) (hx : x = 0 ∨ x = 1) (s0 : 3 * p ≤ (s : Int)) (s1 : (s : Int) < 3 * p + 3) (c : CO (vT T) n s) (un : ∀ u : Nat, 3 * p ≤ (u : Int) → (u : Int) < 3 * p + 3 → CO (vT T) n u → u = s) (ha : a' = if x = 1 then T s else a) (hb : b' = T s) (hf : f' = T (bh s)) (he : e' = T (ah s)) : NBq T n 0 (p + 1) a' b' e' f' := by
  refine ⟨fun q => absurd q (by omega), fun _ => ?_⟩
  by_cases d : x = 1
  · rw [if_pos d] at ha
    refine ⟨s, s, by omega, by omega, Nat.le_refl _, c, c, ha, hb, hf, he, fun _ r hr cr => ?_⟩
    by_cases g : (r : Int) < 3 * p
    · exact absurd cr (h.1 d r g)
    · exact un r (by omega) (by omega) cr
  · rw [if_neg d] at ha
    obtain ⟨u, v, h1, h2, h3, h4, h5, h6, _⟩ := h.2 (by omega)
    exact ⟨u, s, by omega, by omega, by omega, h4, c, ha.trans h6, hb, hf, he, fun k => by omega⟩
theorem NBq_e {m : Int} (h : NBq T n x p a b e f) (hx : x = 0 ∨ x = 1) (m0 : 0 ≤ m) (hp : p = m) (ex : ∃ u v, u < 3 * m.toNat ∧ v < 3 * m.toNat ∧ u ≠ v ∧ CO (vT T) n u ∧ CO (vT T) n v) : ENb m.toNat (vT T) n a.toNat b.toNat e.toNat f.toNat := by
  subst hp
  obtain ⟨u, v, u1, v1, uv, cu, cv⟩ := ex
  rcases hx with q | q
  · obtain ⟨s, r, h1, h2, h3, h4, h5, h6, h7, h8, h9, h10⟩ := h.2 q
    have ne : s ≠ r := by
      intro k
      have := h10 k u (by omega) cu
      have := h10 k v (by omega) cv
      omega
    exact ⟨s, r, by omega, by omega, h4, h5, by rw [h6], by rw [h7], by rw [h9], by rw [h8]⟩
  · exact absurd cu (h.1 q u (by omega))
end
/-- the reference's walk -/
def GT1 (f : Nat → Int) (k : Nat) : Prop := ∃ e, e < k ∧ 1 < f e
theorem GT1_k {f : Nat → Int} {k k' : Nat} (h : GT1 f k) (hk : k ≤ k') : GT1 f k' := by
  obtain ⟨e, h1, h2⟩ := h
  exact ⟨e, by omega, h2⟩
theorem GT1_n {f : Nat → Int} {e k' : Nat} (h : 1 < f e) (hk : e < k') : GT1 f k' := ⟨e, hk, h⟩
theorem GT1_x {E : Int} {f : Nat → Int} {k : Nat} (h : GT1 f k) (hk : (k : Int) ≤ E) : ¬ SHs E (tr E f) := by
  obtain ⟨e, h1, h2⟩ := h
  intro s
  have := s.1 e (by omega)
  rw [tr_l (by omega)] at this
  omega
theorem CQ_no1 {z : mZ} {e s1 s2 : Int} (ly : LY (z 225 26) (rE z) (z 255)) (e0 : 0 ≤ e) (sq : SQ (z 225 26) (z 255) e s1 s2) (q : s1 / 3 = s2 / 3) : ¬ CDd (z 225 26).toNat (vT (z 255)) (nS z) e.toNat := by
  intro c
  have sq' : SQ (z 225 26) (z 255) ((e.toNat : Nat) : Int) s1 s2 := by rw [show ((e.toNat : Nat) : Int) = e by omega]; exact sq
  exact (CQ_at sq' (fun s hs => (ly.2.2.2.1 s hs).1) c).1 q
theorem CQ_no2 {z : mZ} {e s1 s2 : Int} (ly : LY (z 225 26) (rE z) (z 255)) (e0 : 0 ≤ e) (he : e < rE z) (sq : SQ (z 225 26) (z 255) e s1 s2) (h : z 256 e.toNat ≤ FQ z s1 s2 e) : ¬ CDd (z 225 26).toNat (vT (z 255)) (nS z) e.toNat := by
  intro c
  have sq' : SQ (z 225 26) (z 255) ((e.toNat : Nat) : Int) s1 s2 := by rw [show ((e.toNat : Nat) : Int) = e by omega]; exact sq
  have k := (CQ_at sq' (fun s hs => (ly.2.2.2.1 s hs).1) c).2
  obtain ⟨a1, a2, a3, _, _, _⟩ := sq
  have b1 := bh_lt3 (s := s1.toNat) (m := z 225 26) (by omega)
  have b2 := bh_lt3 (s := s2.toNat) (m := z 225 26) (by omega)
  have b3 := ah_lt3 (s := s1.toNat) (m := z 225 26) (by omega)
  have b4 := ah_lt3 (s := s2.toNat) (m := z 225 26) (by omega)
  have ee : nS z e.toNat = z 256 e.toNat := tr_l (by omega)
  rw [nS_T ly b1, nS_T ly b2, nS_T ly b3, nS_T ly b4, ee] at k
  unfold FQ at h
  omega
theorem CHN_00 {m : Nat} {E : Int} {T0 T : Nat → Nat} {n0 n : Nat → Int} {cf : Nat → Nat → Nat} {k : Nat} (hk : k = 0) (hT : ∀ s, s < 3 * m → T s = T0 s) (hn : ∀ j, j < 18 → n j = n0 j) : CHN m E T0 n0 cf k T n := by subst hk; exact ⟨hT, hn⟩
theorem CHN_q {zc z' : mZ} {l e s1 s2 m E : Int} {T0 : Nat → Nat} {n0 : Nat → Int} (l0 : 0 ≤ l) (e0 : 0 ≤ e) (he : e < E) (ly : LY m E (zc 255)) (e26 : zc 225 26 = m) (sq : SQ m (zc 255) e s1 s2) (ne : s1 / 3 ≠ s2 / 3) (k0 : 0 ≤ zc 248 l.toNat) (c : CHN m.toNat E T0 n0 (cfQ zc l.toNat) (zc 248 l.toNat).toNat (vT (zc 255)) (tr E (zc 256))) (ns : ¬ SHs E (tr E (zc 256))) (le : ∀ e' : Nat, (e' : Int) < e → ¬ CDd m.toNat (vT (zc 255)) (tr E (zc 256)) e') (d : DF zc z' l e s1 s2) (dl : FQ zc s1 s2 e < zc 256 e.toNat) : CHN m.toNat E T0 n0 (cfQ z' l.toNat) (z' 248 l.toNat).toNat (vT (z' 255)) (tr E (z' 256)) := by
  obtain ⟨d1, d2, d3, d4, d5, d6, d7, d8, d9, d10⟩ := d
  obtain ⟨b1, b2, b3, b4⟩ := SQ_b ly sq
  have m12 := ly.2.1
  have mE := ly.2.2.1
  rw [e26] at d1
  have cf : ∀ j : Nat, cfQ z' l.toNat (zc 248 l.toNat).toNat j = (z' 247 (5 * (1782 * l + zc 248 l.toNat) + j).toNat).toNat := by
    intro j
    unfold cfQ
    rw [show 5 * (1782 * l.toNat + (zc 248 l.toNat).toNat) + j = (5 * (1782 * l + zc 248 l.toNat) + j).toNat by omega]
  have c0 : cfQ z' l.toNat (zc 248 l.toNat).toNat 0 = e.toNat := by rw [cf 0, show (5 * (1782 * l + zc 248 l.toNat) + ((0 : Nat) : Int)).toNat = (5 * (1782 * l + zc 248 l.toNat)).toNat by omega, d5]
  have c1 : cfQ z' l.toNat (zc 248 l.toNat).toNat 1 = (zc 255 (bh s1.toNat)).toNat := by rw [cf 1]; show (z' 247 (5 * (1782 * l + zc 248 l.toNat) + 1).toNat).toNat = _; rw [d6]
  have c2 : cfQ z' l.toNat (zc 248 l.toNat).toNat 2 = (zc 255 (ah s1.toNat)).toNat := by rw [cf 2]; show (z' 247 (5 * (1782 * l + zc 248 l.toNat) + 2).toNat).toNat = _; rw [d7]
  have c3 : cfQ z' l.toNat (zc 248 l.toNat).toNat 3 = (zc 255 (bh s2.toNat)).toNat := by rw [cf 3]; show (z' 247 (5 * (1782 * l + zc 248 l.toNat) + 3).toNat).toNat = _; rw [d8]
  have c4 : cfQ z' l.toNat (zc 248 l.toNat).toNat 4 = (zc 255 (ah s2.toNat)).toNat := by rw [cf 4]; show (z' 247 (5 * (1782 * l + zc 248 l.toNat) + 4).toNat).toNat = _; rw [d9]
  have hc : ∀ i j, i < (zc 248 l.toNat).toNat → j < 5 → cfQ z' l.toNat i j = cfQ zc l.toNat i j := by
    intro i j hi hj
    unfold cfQ
    rw [d10 _ (by omega)]
  have hn : tr E (z' 256) = fl e.toNat (zc 255 (bh s1.toNat)).toNat (zc 255 (ah s1.toNat)).toNat (zc 255 (bh s2.toNat)).toNat (zc 255 (ah s2.toNat)).toNat (tr E (zc 256)) := by
    funext j
    unfold fl
    by_cases c : (j : Int) < E
    · rw [tr_l c, d2 j]
      by_cases q : j = e.toNat
      · rw [if_pos q, if_pos q, tr_l (by omega), tr_l (by omega), tr_l (by omega), tr_l (by omega), tr_l (by omega)]
      · rw [if_neg q, if_neg q, tr_l c]
    · rw [tr_g (by omega), if_neg (by omega), tr_g (by omega)]
  refine CHN_s c ns ⟨_, _, _, _, ?_, d1, hn, ?_, fun e' he' => le e' (by omega)⟩ hc c0 c1 c2 c3 c4 (by rw [d3]; omega)
  · obtain ⟨a1, a2, a3, _, _, _⟩ := sq
    omega
  · rw [tr_l (by omega), tr_l (by omega), d2, if_pos rfl]; exact dl
theorem RLQ_o {z0 z y : mZ} {l k : Nat} (h : OTH z0 z l) (p : z 253 k = z0 253 k) (hk : k ≠ l) (hl : l < 8) (h8 : k < 8) (b : (z0 248 k).toNat ≤ 1782) (g : RLQ y z0 k) : RLQ y z k := by
  obtain ⟨g1, g2, g3, g4, g5, g6⟩ := h.1 k hk
  have cf : ∀ i j, i < (z0 248 k).toNat → j < 5 → cfQ z k i j = cfQ z0 k i j := by
    intro i j hi hj
    unfold cfQ
    rw [h.2 _ (by omega)]
  unfold RLQ at *
  rw [p, g6]
  rcases g with g | ⟨g1', g2', g3'⟩
  · exact Or.inl g
  · refine Or.inr ⟨g1', g2', ?_⟩
    rcases g3' with q | ⟨x0, T, n, c, s, eb⟩
    · exact Or.inl q
    · refine Or.inr ⟨x0, T, n, ?_, s, ?_⟩
      · show CHN _ _ _ _ (cfQ z k) (z 248 k).toNat T n
        rw [g1]
        exact CHN_g _ cf c
      · show ENb _ T n (z 251 k).toNat (z 252 k).toNat (z 249 k).toNat (z 250 k).toNat
        rw [g2, g3, g4, g5]
        exact eb
theorem RLQ_g {z z' y : mZ} {l : Nat} (e : z' 225 26 = z 225 26) (h1 : z' 235 = z 235) (h2 : z' 236 = z 236) (h3 : z' 240 = z 240) (h4 : z' 241 = z 241) (h : RLQ z y l) : RLQ z' y l := by
  unfold RLQ lnR rE at *
  rw [e, h1, h2, h3, h4]
  exact h
theorem lt3 {a b : Int} (h0 : 0 ≤ a) (h1 : a < b) (h2 : a / 3 ≠ b / 3) : a.toNat / 3 < b.toNat / 3 := by omega

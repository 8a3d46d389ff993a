/-! making a line SHORT -/
def cfR (f : Nat → Int) (i j : Nat) : Nat := (f i / 32 ^ j % 32).toNat
def SD (m E : Int) (T lo hi : Nat → Int) : Prop := ∀ e : Nat, (e : Int) < E → 0 ≤ lo e ∧ lo e < hi e ∧ hi e < 3 * m ∧ T (lo e).toNat = e ∧ T (hi e).toNat = e ∧ ∀ s : Nat, (s : Int) < 3 * m → T s = e → (s : Int) = lo e ∨ (s : Int) = hi e
/-- pieces as they lie: each edge twice -/
def LY (m E : Int) (T : Nat → Int) : Prop := 0 ≤ m ∧ m ≤ 12 ∧ 2 * E = 3 * m ∧ (∀ s : Nat, (s : Int) < 3 * m → 0 ≤ T s ∧ T s < E) ∧ (∀ e : Nat, (e : Int) < E → ∃ s : Nat, (s : Int) < 3 * m ∧ T s = e) ∧ WE m.toNat (vT T)
theorem WT.ly {m E : Int} {T o fs : Nat → Int} (h : WT m E T o fs) : LY m E T := ⟨h.m0, h.hm, h.hE, h.tE, fun e he => ⟨(fs e).toNat, by have := h.fL e he; omega, (h.fL e he).2.2⟩, h.we⟩
theorem LY_cg {m E : Int} {T T' : Nat → Int} (h : LY m E T) (e : ∀ s : Nat, (s : Int) < 3 * m → T' s = T s) : LY m E T' := by
  obtain ⟨a, b, c, d, f, g⟩ := h
  refine ⟨a, b, c, fun s hs => by rw [e s hs]; exact d s hs, fun q hq => ?_, fun s hs => ?_⟩
  · obtain ⟨s, h1, h2⟩ := f q hq
    exact ⟨s, h1, by rw [e s h1]; exact h2⟩
  · obtain ⟨s', h1, h2, h3, h4⟩ := g s hs
    refine ⟨s', h1, h2, ?_, fun r hr q => h4 r hr ?_⟩
    · show (T' s').toNat = (T' s).toNat
      rw [e s' (by omega), e s (by omega)]; exact h3
    · have q : (T' r).toNat = (T' s).toNat := q
      rw [e r (by omega), e s (by omega)] at q; exact q
/-- of three sides of one edge two are the same -/
theorem LY.two {m E : Int} {T : Nat → Int} (h : LY m E T) {a b c : Nat} (ha : (a : Int) < 3 * m) (hb : (b : Int) < 3 * m) (hc : (c : Int) < 3 * m) (e1 : T a = T b) (e2 : T a = T c) : a = b ∨ a = c ∨ b = c := by
  obtain ⟨m0, _, _, _, _, g⟩ := h
  obtain ⟨s', h1, h2, h3, h4⟩ := g a (by omega)
  have k1 := h4 b (by omega) (by show (T b).toNat = (T a).toNat; rw [e1])
  have k2 := h4 c (by omega) (by show (T c).toNat = (T a).toNat; rw [e2])
  omega
theorem LY.oth {m E : Int} {T : Nat → Int} (h : LY m E T) {a : Nat} (ha : (a : Int) < 3 * m) : ∃ b : Nat, (b : Int) < 3 * m ∧ b ≠ a ∧ T b = T a := by
  obtain ⟨m0, _, _, d, _, g⟩ := h
  obtain ⟨s', h1, h2, h3, h4⟩ := g a (by omega)
  have d1 := d a ha; have d2 := d s' (by omega)
  have h3 : (T s').toNat = (T a).toNat := h3
  exact ⟨s', by omega, h2, by omega⟩
def FS (E : Int) (T lo hi : Nat → Int) (x : Int) : Prop := ∀ e : Nat, (e : Int) < E → (lo e = -1 ∧ ∀ s : Nat, (s : Int) < x → T s ≠ e) ∨ (0 ≤ lo e ∧ lo e < x ∧ T (lo e).toNat = e ∧ ∀ s : Nat, (s : Int) < x → T s = e → (s : Int) = lo e) ∨ (0 ≤ lo e ∧ lo e < hi e ∧ hi e < x ∧ T (lo e).toNat = e ∧ T (hi e).toNat = e)
theorem FS_0 {E : Int} {T lo hi : Nat → Int} (h : ∀ e : Nat, (e : Int) < E → lo e = -1) : FS E T lo hi 0 := fun e he => Or.inl ⟨h e he, fun s hs => absurd hs (by omega)⟩
theorem FS_lo {E x : Int} {T lo hi lo' hi' : Nat → Int} (h : FS E T lo hi x) (x0 : 0 ≤ x) {e0 : Nat} (h0 : T x.toNat = e0) (h1 : lo e0 = -1) (l1 : ∀ j : Nat, j ≠ e0 → lo' j = lo j) (l2 : lo' e0 = x) (l3 : ∀ j : Nat, hi' j = hi j) : FS E T lo' hi' (x + 1) := by
  intro e he
  by_cases c : e = e0
  · subst c
    rcases h e he with ⟨a1, a2⟩ | ⟨a1, _⟩ | ⟨a1, _⟩
    · right; left
      rw [l2]
      refine ⟨x0, by omega, h0, fun s hs q => ?_⟩
      by_cases d : (s : Int) = x
      · exact d
      · exact absurd q (a2 s (by omega))
    · omega
    · omega
  · rw [l1 e c, l3 e]
    have nx : ∀ s : Nat, (s : Int) < x + 1 → T s = e → (s : Int) < x := by
      intro s hs q
      by_cases d : (s : Int) = x
      · rw [show s = x.toNat by omega, h0] at q; omega
      · omega
    rcases h e he with ⟨a1, a2⟩ | ⟨a1, a2, a3, a4⟩ | ⟨a1, a2, a3, a4, a5⟩
    · exact Or.inl ⟨a1, fun s hs q => a2 s (nx s hs q) q⟩
    · exact Or.inr (Or.inl ⟨a1, by omega, a3, fun s hs q => a4 s (nx s hs q) q⟩)
    · exact Or.inr (Or.inr ⟨a1, a2, by omega, a4, a5⟩)
theorem FS_hi {m E x : Int} {T lo hi lo' hi' : Nat → Int} (ly : LY m E T) (h : FS E T lo hi x) (x0 : 0 ≤ x) (x1 : x < 3 * m) {e0 : Nat} (h0 : T x.toNat = e0) (h1 : ¬ lo e0 = -1) (l1 : ∀ j : Nat, j ≠ e0 → hi' j = hi j) (l2 : hi' e0 = x) (l3 : ∀ j : Nat, lo' j = lo j) : FS E T lo' hi' (x + 1) := by
  intro e he
  by_cases c : e = e0
  · subst c
    rw [l3 e, l2]
    rcases h e he with ⟨a1, a2⟩ | ⟨a1, a2, a3, a4⟩ | ⟨a1, a2, a3, a4, a5⟩
    · omega
    · exact Or.inr (Or.inr ⟨a1, a2, by omega, a3, h0⟩)
    · have k := ly.two (a := (lo e).toNat) (b := (hi e).toNat) (c := x.toNat) (by omega) (by omega) (by omega) (by rw [a4, a5]) (by rw [a4, h0])
      omega
  · rw [l1 e c, l3 e]
    have nx : ∀ s : Nat, (s : Int) < x + 1 → T s = e → (s : Int) < x := by
      intro s hs q
      by_cases d : (s : Int) = x
      · rw [show s = x.toNat by omega, h0] at q; omega
      · omega
    rcases h e he with ⟨a1, a2⟩ | ⟨a1, a2, a3, a4⟩ | ⟨a1, a2, a3, a4, a5⟩
    · exact Or.inl ⟨a1, fun s hs q => a2 s (nx s hs q) q⟩
    · exact Or.inr (Or.inl ⟨a1, by omega, a3, fun s hs q => a4 s (nx s hs q) q⟩)
    · exact Or.inr (Or.inr ⟨a1, a2, by omega, a4, a5⟩)
theorem FS_end {m E x : Int} {T lo hi : Nat → Int} (ly : LY m E T) (h : FS E T lo hi x) (hx : x = 3 * m) : SD m E T lo hi := by
  intro e he
  subst hx
  obtain ⟨s0, q1, q2⟩ := ly.2.2.2.2.1 e he
  rcases h e he with ⟨a1, a2⟩ | ⟨a1, a2, a3, a4⟩ | ⟨a1, a2, a3, a4, a5⟩
  · exact absurd q2 (a2 s0 q1)
  · obtain ⟨b, b1, b2, b3⟩ := ly.oth (a := (lo e).toNat) (by omega)
    have := a4 b b1 (by rw [b3, a3]); omega
  · refine ⟨a1, a2, a3, a4, a5, fun s hs q => ?_⟩
    have := ly.two (a := (lo e).toNat) (b := (hi e).toNat) (c := s) (by omega) (by omega) hs (by rw [a4, a5]) (by rw [a4, q])
    omega
/-- the pieces behind a flip that leaves the edge where it is -/
theorem FLP_of {m E : Int} {T T' lo hi : Nat → Int} {e : Nat} {x y z w p1 p2 p3 p4 : Int} (m0 : 0 ≤ m) (tn : ∀ s : Nat, (s : Int) < 3 * m → 0 ≤ T s) (sd : SD m E T lo hi) (he : (e : Int) < E) (ne : lo e / 3 ≠ hi e / 3)
    (hp1 : p1.toNat = bh (lo e).toNat) (hp2 : p2.toNat = ah (lo e).toNat) (hp3 : p3.toNat = bh (hi e).toNat) (hp4 : p4.toNat = ah (hi e).toNat)
    (hx : x = T (bh (lo e).toNat)) (hy : y = T (ah (lo e).toNat)) (hz : z = T (bh (hi e).toNat)) (hw : w = T (ah (hi e).toNat))
    (ht : ∀ s : Nat, T' s = if s = p4.toNat then x else if s = p3.toNat then w else if s = p2.toNat then z else if s = p1.toNat then y else T s) :
    FLP m.toNat (vT T) (vT T') e x.toNat y.toNat z.toNat w.toNat (lo e).toNat (hi e).toNat (lo e).toNat (hi e).toNat := by
  obtain ⟨a1, a2, a3, a4, a5, a6⟩ := sd e he
  have b1 := bh_cases (lo e).toNat; have b2 := ah_cases (lo e).toNat; have b3 := bh_cases (hi e).toNat; have b4 := ah_cases (hi e).toNat
  rw [hp1, hp2, hp3, hp4] at ht
  have tv : ∀ s : Nat, vT T' s = (if s = ah (hi e).toNat then x else if s = bh (hi e).toNat then w else if s = ah (lo e).toNat then z else if s = bh (lo e).toNat then y else T s).toNat := fun s => by show (T' s).toNat = _; rw [ht s]
  refine ⟨by omega, by omega, by omega, by show (T _).toNat = e; rw [a4]; omega, by show (T _).toNat = e; rw [a5]; omega, fun s hs q => ?_, by rw [hx], by rw [hy], by rw [hz], by rw [hw], rfl, rfl, ?_, ?_, ?_, ?_, ?_, ?_, fun s h1 h2 => ?_⟩
  · have q : (T s).toNat = e := q
    have t0 := tn s (by omega)
    have := a6 s (by omega) (by omega); omega
  · rw [tv, if_neg (by omega), if_neg (by omega), if_neg (by omega), if_neg (by omega), a4]; omega
  · rw [tv, if_neg (by omega), if_neg (by omega), if_neg (by omega), if_neg (by omega), a5]; omega
  · rw [tv, if_neg (by omega), if_neg (by omega), if_neg (by omega), if_pos rfl]
  · rw [tv, if_neg (by omega), if_neg (by omega), if_pos rfl]
  · rw [tv, if_neg (by omega), if_pos rfl]
  · rw [tv, if_pos rfl]
  · have e1 := bh_div (lo e).toNat; have e2 := ah_div (lo e).toNat; have e3 := bh_div (hi e).toNat; have e4 := ah_div (hi e).toNat
    rw [tv, if_neg (by intro q; subst q; omega), if_neg (by intro q; subst q; omega), if_neg (by intro q; subst q; omega), if_neg (by intro q; subst q; omega)]
def SHI (m E : Int) (T0 T n : Nat → Int) (cf : Nat → Nat → Nat) (k : Int) : Prop := LY m E T ∧ FT m.toNat (vT T) n ∧ (∃ o, OR m.toNat (vT T) o ∧ CN m.toNat (vT T) o n) ∧ GX m.toNat (vT T0) cf k.toNat (vT T) ∧ (∃ e : Nat, (e : Int) < E ∧ 0 < n e) ∧ sm n 18 ≤ 1782 - k ∧ 0 ≤ k
section
variable {m E k : Int} {T0 T n : Nat → Int} {cf : Nat → Nat → Nat}
theorem LY.lt {m E : Int} {T : Nat → Int} (h : LY m E T) : ∀ s, s < 3 * m.toNat → vT T s < 18 := by
  intro s hs
  have a := h.2.2.2.1 s (by omega); have := h.2.2.1; have := h.2.1
  show (T s).toNat < 18
  omega
theorem SHI_0 {o fs : Nat → Int} (w : WT m E T0 o fs) (f : FT m.toNat (vT T0) n) (c : CN m.toNat (vT T0) (oF T0 fs) n) (nz : ∃ e : Nat, (e : Int) < E ∧ 0 < n e) (hs : sm n 18 ≤ 1782) (hT : ∀ s : Nat, (s : Int) < 3 * m → T s = T0 s) : SHI m E T0 T n cf 0 := by
  have m0 := w.m0
  have e : ∀ s, s < 3 * m.toNat → vT T s = vT T0 s := fun s q => by show (T s).toNat = (T0 s).toNat; rw [hT s (by omega)]
  refine ⟨LY_cg w.ly hT, ?_, ⟨oF T0 fs, ?_, ?_⟩, ?_, nz, by omega, by omega⟩
  · refine ⟨f.1, fun s q => ?_⟩
    rw [e s q, e _ (bh_lt q), e _ (ah_lt q)]; exact f.2 s q
  · intro s r h1 h2 h3 h4
    rw [e s h1, e r h2] at h4
    exact w.or s r h1 h2 h3 h4
  · intro A cl ex s i h1 h2 h3
    have cl' : CL m.toNat (vT T0) (oF T0 fs) n A := by
      intro s i h1 h2 h3
      have q := cl s i h1 h2 (by rw [e s h1, e _ (bh_lt h1), e _ (ah_lt h1)]; exact h3)
      unfold BB at q ⊢
      rw [e s h1, e _ (ah_lt h1)] at q; exact q
    obtain ⟨s2, i2, a1, a2, a3, a4⟩ := ex
    rw [e s2 a1] at a3 a4
    rw [e s h1] at h3 ⊢
    exact c A cl' ⟨s2, i2, a1, a2, a3, a4⟩ s i h1 h2 h3
  · exact GX_cg (GX_0 (cf := cf) w.lt) (fun s _ => rfl) (fun i j h => absurd h (by omega)) e
theorem SHI_s {T' n' : Nat → Int} {cf' : Nat → Nat → Nat} {e x y z w s1 s2 : Nat} (h : SHI m E T0 T n cf k) (f : FLP m.toNat (vT T) (vT T') e x y z w s1 s2 s1 s2) (hT' : ∀ s : Nat, (s : Int) < 3 * m → 0 ≤ T' s) (hn : n' = fl e x y z w n) (dec : n' e < n e)
    (c0 : cf' k.toNat 0 = e) (c1 : cf' k.toNat 1 = x) (c2 : cf' k.toNat 2 = y) (c3 : cf' k.toNat 3 = z) (c4 : cf' k.toNat 4 = w) (hc : ∀ i j, i < k.toNat → j < 5 → cf' i j = cf i j) : LY m E T' ∧ SHI m E T0 T' n' cf' (k + 1) := by
  obtain ⟨ly, ft, ⟨o, oo, cn⟩, gx, ⟨e1, n1, n2⟩, sb, k0⟩ := h
  have lt18 := ly.lt
  obtain ⟨m0, m12, mE, tE, on, we⟩ := ly
  have hes : e < 18 := by have := lt18 s1 f.l1; rw [f.e1] at this; exact this
  have tE' : ∀ s : Nat, (s : Int) < 3 * m → 0 ≤ T' s ∧ T' s < E := by
    intro s hs
    have a := hT' s hs
    have b := f.sgT s
    have c := f.sgl (s := s) (by omega)
    have d := tE _ (show (((sg s1 s2 s1 s2 s : Nat)) : Int) < 3 * m by omega)
    have b : (T' s).toNat = (T (sg s1 s2 s1 s2 s)).toNat := b
    omega
  have on' : ∀ e : Nat, (e : Int) < E → ∃ s : Nat, (s : Int) < 3 * m ∧ T' s = e := by
    intro q hq
    obtain ⟨p, p1, p2⟩ := on q hq
    obtain ⟨s, g1, g2⟩ := f.sgsur p
    have g2 := g2 (by omega)
    refine ⟨s, by omega, ?_⟩
    have b := f.sgT s
    have b : (T' s).toNat = (T (sg s1 s2 s1 s2 s)).toNat := b
    rw [g1, p2] at b
    have := hT' s (by omega)
    omega
  have ly' : LY m E T' := ⟨m0, m12, mE, tE', on', f.we we⟩
  refine ⟨ly', ly', by rw [hn]; exact f.ft ft, ⟨_, f.or oo, by rw [hn]; exact f.cn ft oo cn⟩, ?_, ?_, ?_, by omega⟩
  · have g := GX_cg (cf1 := cf') gx (fun _ _ => rfl) hc (fun _ _ => rfl)
    rw [show (k + 1).toNat = k.toNat + 1 by omega]
    exact GX_s g lt18 (by rw [c0, c1, c2, c3, c4]; exact f)
  · have bE : ∀ {p : Nat}, p < 3 * m.toNat → ((vT T p : Nat) : Int) < E := by
      intro p hp
      have := tE p (by omega)
      show (((T p).toNat : Nat) : Int) < E
      omega
    by_cases c : e1 = e
    · subst c
      have tr := ft.2 s1 f.l1
      rw [f.e1, f.hx, f.hy] at tr
      have nnx : 0 ≤ n x := by have := lt18 _ (bh_lt f.l1); rw [f.hx] at this; exact ft.1 x this
      rcases (show 0 < n x ∨ 0 < n y by unfold tri at tr; omega) with q | q
      · exact ⟨x, by have := bE (bh_lt f.l1); rw [f.hx] at this; exact this, by rw [hn, fl_ne f.nx]; exact q⟩
      · exact ⟨y, by have := bE (ah_lt f.l1); rw [f.hy] at this; exact this, by rw [hn, fl_ne f.ny]; exact q⟩
    · exact ⟨e1, n1, by rw [hn, fl_ne c]; exact n2⟩
  · have := sm_u (f := n) (g := n') (i := e) (fun j hj => by rw [hn, fl_ne hj]) 18 hes
    omega
theorem SHI_b (h : SHI m E T0 T n cf k) : ∀ e : Nat, e < 18 → 0 ≤ n e ∧ n e ≤ 1782 := by
  obtain ⟨ly, ft, _, _, _, sb, k0⟩ := h
  intro e he
  have := sm_at (f := n) 18 he ft.1
  exact ⟨ft.1 e he, by omega⟩
theorem SHI_max (h : SHI m E T0 T n cf k) (hk : 1782 ≤ k) : False := by
  obtain ⟨ly, ft, _, _, ⟨e, e1, e2⟩, sb, k0⟩ := h
  have := ly.2.2.1; have := ly.2.1
  have := sm_at (f := n) (k := e) 18 (by omega) ft.1
  omega
theorem sm_two {f : Nat → Int} : ∀ N : Nat, (∀ j, j < N → 0 ≤ f j ∧ f j ≤ 1) → sm f N = 2 → ∃ a b, a < N ∧ b < N ∧ a ≠ b ∧ f a = 1 ∧ f b = 1 := by
  have one : ∀ N : Nat, (∀ j, j < N → 0 ≤ f j ∧ f j ≤ 1) → sm f N = 1 → ∃ a, a < N ∧ f a = 1 := by
    intro N
    induction N with
    | zero => intro _ h; have h : (0 : Int) = 1 := h; omega
    | succ N ih =>
      intro h q
      rw [sm_s] at q
      by_cases c : f N = 1
      · exact ⟨N, by omega, c⟩
      · have := h N (by omega)
        obtain ⟨a, a1, a2⟩ := ih (fun j hj => h j (by omega)) (by omega)
        exact ⟨a, by omega, a2⟩
  intro N
  induction N with
  | zero => intro _ h; have h : (0 : Int) = 2 := h; omega
  | succ N ih =>
    intro h q
    rw [sm_s] at q
    by_cases c : f N = 1
    · obtain ⟨a, a1, a2⟩ := one N (fun j hj => h j (by omega)) (by omega)
      exact ⟨a, N, by omega, by omega, by omega, a2, c⟩
    · have := h N (by omega)
      obtain ⟨a, b, a1, a2, a3, a4⟩ := ih (fun j hj => h j (by omega)) (by omega)
      exact ⟨a, b, by omega, by omega, a3, a4⟩
theorem sm_three {f : Nat → Int} {N a b c : Nat} (h : ∀ j, j < N → 0 ≤ f j) (ab : a < b) (bc : b < c) (cN : c < N) (fa : f a = 1) (fb : f b = 1) (fc : f c = 1) : 3 ≤ sm f N := by
  have k1 := sm_le (f := f) (k := c + 1) N (by omega) h
  have k2 := sm_le (f := f) (k := b + 1) c (by omega) (fun j hj => h j (by omega))
  have k3 := sm_le (f := f) (k := a + 1) b (by omega) (fun j hj => h j (by omega))
  have k4 := sm_nn (f := f) a (fun j hj => h j (by omega))
  rw [sm_s] at k1 k2 k3
  omega
/-- short: two edges crossed, once each -/
theorem SHI_c (h : SHI m E T0 T n cf k) (s1 : ∀ e : Nat, (e : Int) < E → n e ≤ 1) (s2 : sm n E.toNat = 2) :
    (∀ s, s < 3 * m.toNat → n (vT T s) ≤ 1) ∧ (∃ s r, s < 3 * m.toNat ∧ r < 3 * m.toNat ∧ n (vT T s) = 1 ∧ n (vT T r) = 1 ∧ vT T s ≠ vT T r) ∧
    (∀ s r t, s < 3 * m.toNat → r < 3 * m.toNat → t < 3 * m.toNat → n (vT T s) = 1 → n (vT T r) = 1 → n (vT T t) = 1 → vT T s = vT T r ∨ vT T s = vT T t ∨ vT T r = vT T t) := by
  obtain ⟨⟨m0, m12, mE, tE, on, we⟩, ft, _, _, _, sb, k0⟩ := h
  have vE : ∀ s, s < 3 * m.toNat → ((vT T s : Nat) : Int) < E := by
    intro s hs
    have := tE s (by omega)
    show (((T s).toNat : Nat) : Int) < E
    omega
  have nn : ∀ j, j < E.toNat → 0 ≤ n j ∧ n j ≤ 1 := fun j hj => ⟨ft.1 j (by omega), s1 j (by omega)⟩
  refine ⟨fun s hs => s1 _ (vE s hs), ?_, ?_⟩
  · obtain ⟨a, b, a1, b1, ab, fa, fb⟩ := sm_two E.toNat nn s2
    obtain ⟨s, q1, q2⟩ := on a (by omega)
    obtain ⟨r, q3, q4⟩ := on b (by omega)
    have e1 : vT T s = a := by show (T s).toNat = a; rw [q2]; omega
    have e2 : vT T r = b := by show (T r).toNat = b; rw [q4]; omega
    exact ⟨s, r, by omega, by omega, by rw [e1]; exact fa, by rw [e2]; exact fb, by rw [e1, e2]; exact ab⟩
  · intro s r t hs hr ht n1 n2 n3
    have v1 := vE s hs; have v2 := vE r hr; have v3 := vE t ht
    generalize vT T s = a at *
    generalize vT T r = b at *
    generalize vT T t = c at *
    have key : ∀ {a b c : Nat}, a < b → b < c → (c : Int) < E → n a = 1 → n b = 1 → n c = 1 → False := by
      intro a b c ab bc cE fa fb fc
      have := sm_three (f := n) (N := E.toNat) (fun j hj => (nn j hj).1) ab bc (by omega) fa fb fc
      omega
    apply Classical.byContradiction
    intro q
    rcases (show a < b ∨ b < a by omega) with p1 | p1 <;> rcases (show b < c ∨ c < b by omega) with p2 | p2 <;> rcases (show a < c ∨ c < a by omega) with p3 | p3
    · exact key p1 p2 v3 n1 n2 n3
    · omega
    · exact key p3 p2 v2 n1 n3 n2
    · exact key p3 p1 v2 n3 n1 n2
    · exact key p1 p3 v3 n2 n1 n3
    · exact key p2 p3 v1 n2 n3 n1
    · omega
    · exact key p2 p1 v1 n3 n2 n1
theorem SHI_two (h : SHI m E T0 T n cf k) (s1 : ∀ e : Nat, (e : Int) < E → n e ≤ 1) (s2 : sm n E.toNat = 2) : ∃ u v, u < 3 * m.toNat ∧ v < 3 * m.toNat ∧ u ≠ v ∧ CO (vT T) n u ∧ CO (vT T) n v := by
  obtain ⟨c1, c2, c3⟩ := SHI_c h s1 s2
  obtain ⟨ly, ft, ⟨o, oo, cn⟩, gx, _, sb, k0⟩ := h
  obtain ⟨u, v, h1, h2, h3, h4, h5⟩ := co_two ft ly.lt c1 cn ly.2.2.2.2.2 c2
  exact ⟨u, v, h1, h2, fun q => h3 (by rw [q]), h4, h5⟩
theorem SHI_gr (h : SHI m E T0 T n cf k) (s1 : ∀ e : Nat, (e : Int) < E → n e ≤ 1) (s2 : sm n E.toNat = 2) {u v : Nat} (hu : u < 3 * m.toNat) (hv : v < 3 * m.toNat) (uv : u ≠ v) (uc : CO (vT T) n u) (vc : CO (vT T) n v) : GR m.toNat (vT T0) cf k.toNat (vT T u) (vT T v) (vT T (ah u)) (vT T (bh u)) := by
  obtain ⟨c1, c2, c3⟩ := SHI_c h s1 s2
  obtain ⟨ly, ft, ⟨o, oo, cn⟩, gx, _, sb, k0⟩ := h
  exact GR_of gx ly.lt (co_twp ft ly.lt c1 cn ly.2.2.2.2.2 c2 c3 hu hv uv uc vc)
end
theorem LY_fl {m E : Int} {T T' : Nat → Int} {e x y z w s1 s2 : Nat} (h : LY m E T) (f : FLP m.toNat (vT T) (vT T') e x y z w s1 s2 s1 s2) (hT' : ∀ s : Nat, (s : Int) < 3 * m → 0 ≤ T' s) : LY m E T' := by
  obtain ⟨m0, m12, mE, tE, on, we⟩ := h
  refine ⟨m0, m12, mE, ?_, ?_, f.we we⟩
  · intro s hs
    have a := hT' s hs
    have b := f.sgT s
    have c := f.sgl (s := s) (by omega)
    have d := tE _ (show (((sg s1 s2 s1 s2 s : Nat)) : Int) < 3 * m by omega)
    have b : (T' s).toNat = (T (sg s1 s2 s1 s2 s)).toNat := b
    omega
  · intro q hq
    obtain ⟨p, p1, p2⟩ := on q hq
    obtain ⟨s, g1, g2⟩ := f.sgsur p
    have g2 := g2 (by omega)
    refine ⟨s, by omega, ?_⟩
    have b := f.sgT s
    have b : (T' s).toNat = (T (sg s1 s2 s1 s2 s)).toNat := b
    rw [g1, p2] at b
    have := hT' s (by omega)
    omega
def LRq (z0 z w0 w : mZ) (e : Nat) : Prop := z 11 6 = z0 12 (bh (z0 13 e).toNat) ∧ z 11 7 = z0 12 (ah (z0 13 e).toNat) ∧ z 11 8 = z0 12 (bh (z0 14 e).toNat) ∧ z 11 9 = z0 12 (ah (z0 14 e).toNat) ∧ w 11 10 = max (w0 15 (z 11 6).toNat + w0 15 (z 11 8).toNat) (w0 15 (z 11 7).toNat + w0 15 (z 11 9).toNat) - w0 15 e
theorem cf_dec {f : Nat → Int} {i : Nat} {e x y z w : Int} (h : f i = e + x * 2 ^ 5 + y * 2 ^ 10 + z * 2 ^ 15 + w * 2 ^ 20) (he : 0 ≤ e ∧ e ≤ 17) (hx : 0 ≤ x ∧ x ≤ 17) (hy : 0 ≤ y ∧ y ≤ 17) (hz : 0 ≤ z ∧ z ≤ 17) (hw : 0 ≤ w ∧ w ≤ 17) : cfR f i 0 = e.toNat ∧ cfR f i 1 = x.toNat ∧ cfR f i 2 = y.toNat ∧ cfR f i 3 = z.toNat ∧ cfR f i 4 = w.toNat := by
  have h : f i = e + x * 32 + y * 1024 + z * 32768 + w * 1048576 := h
  unfold cfR
  rw [h]
  refine ⟨?_, ?_, ?_, ?_, ?_⟩
  · show ((e + x * 32 + y * 1024 + z * 32768 + w * 1048576) / 1 % 32).toNat = _; omega
  · show ((e + x * 32 + y * 1024 + z * 32768 + w * 1048576) / 32 % 32).toNat = _; omega
  · show ((e + x * 32 + y * 1024 + z * 32768 + w * 1048576) / 1024 % 32).toNat = _; omega
  · show ((e + x * 32 + y * 1024 + z * 32768 + w * 1048576) / 32768 % 32).toNat = _; omega
  · show ((e + x * 32 + y * 1024 + z * 32768 + w * 1048576) / 1048576 % 32).toNat = _; omega
section
variable {m x2 x3 a b e f : Int} {T n : Nat → Int}
end
theorem CN_cg {m : Nat} {T : Nat → Nat} {o : Nat → Bool} {n n' : Nat → Int} (hT : ∀ s, s < 3 * m → T s < 18) (h : ∀ j, j < 18 → n' j = n j) (c : CN m T o n) : CN m T o n' := by
  have e : ∀ s, s < 3 * m → n' (T s) = n (T s) := fun s hs => h _ (hT s hs)
  intro A cl ex s i h1 h2 h3
  have cl' : CL m T o n A := by
    intro s i h1 h2 h3
    have q := cl s i h1 h2 (by rw [e s h1, e _ (bh_lt h1), e _ (ah_lt h1)]; exact h3)
    unfold BB at q ⊢
    rw [e s h1, e _ (ah_lt h1)] at q; exact q
  obtain ⟨s2, i2, a1, a2, a3, a4⟩ := ex
  rw [e s2 a1] at a3
  rw [e s h1] at h3
  exact c A cl' ⟨s2, i2, a1, a2, a3, a4⟩ s i h1 h2 h3
/-- the road of the line k, as the class keeps it -/
def GRt (z0 z : mZ) (t k : Nat) : Prop := z (17 + 2 * k) 0 = 2 → GR (z0 t 0).toNat (vT (z0 (t + 1))) (cfR (z (18 + 2 * k))) (z (17 + 2 * k) 1).toNat (z (17 + 2 * k) 2).toNat (z (17 + 2 * k) 3).toNat (z (17 + 2 * k) 4).toNat (z (17 + 2 * k) 5).toNat
theorem sm_99 {f : Nat → Int} (h : ∀ j, j < 18 → f j ≤ 99) : sm f 18 ≤ 1782 := by
  have key : ∀ N : Nat, N ≤ 18 → sm f N ≤ 99 * N := by
    intro N
    induction N with
    | zero => intro _; exact Int.le_refl _
    | succ N ih =>
      intro hN
      have := ih (by omega); have := h N (by omega)
      rw [sm_s]; omega
  have := key 18 (by omega)
  omega
theorem GRt_cg {z0 z1 z z' : mZ} {t k : Nat} (h : GRt z1 z t k) (e0 : z1 t 0 = z0 t 0) (e1 : z1 (t + 1) = z0 (t + 1)) (f : ∀ i, i ≤ 5 → z' (17 + 2 * k) i = z (17 + 2 * k) i) (g : z' (18 + 2 * k) = z (18 + 2 * k)) : GRt z0 z' t k := by
  unfold GRt at *
  rw [f 0 (by omega), f 1 (by omega), f 2 (by omega), f 3 (by omega), f 4 (by omega), f 5 (by omega), g, ← e0, ← e1]
  exact h

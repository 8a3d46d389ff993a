section
/-! making a line SHORT -/
def cfR (f : Nat → Int) (i j : Nat) : Nat := (f i / 32 ^ j % 32).toNat
def SD (m E : Int) (T lo hi : Nat → Int) : Prop := ∀ e : Nat, (e : Int) < E → 0 ≤ lo e ∧ lo e < hi e ∧ hi e < 3 * m ∧ T (lo e).toNat = e ∧ T (hi e).toNat = e ∧ ∀ s : Nat, (s : Int) < 3 * m → T s = e → (s : Int) = lo e ∨ (s : Int) = hi e
/-- pieces as they lie: each edge twice -/
def LY (m E : Int) (T : Nat → Int) : Prop := 0 ≤ m ∧ m ≤ 12 ∧ 2 * E = 3 * m ∧ (∀ s : Nat, (s : Int) < 3 * m → 0 ≤ T s ∧ T s < E) ∧ (∀ e : Nat, (e : Int) < E → ∃ s : Nat, (s : Int) < 3 * m ∧ T s = e) ∧ WE m.toNat (vT T)
theorem WT.ly {m E : Int} {T o fs : Nat → Int} (h : WT m E T o fs) : LY m E T := ⟨h.m0, h.hm, h.hE, h.tE, fun e he => ⟨(fs e).toNat, by have := h.fL e he; omega, (h.fL e he).2.2⟩, h.we⟩
theorem LY_cg {m E : Int} {T T' : Nat → Int} (h : LY m E T) (e : ∀ s : Nat, (s : Int) < 3 * m → T' s = T s) : LY m E T' := by
  obtain ⟨a, b, c, d, f, g⟩ := h
  refine ⟨a, b, c, fun s hs => by rw [e s hs]; exact d s hs, fun q hq => ?_, fun s hs => ?_⟩
  · obtain ⟨s, h1, h2⟩ := f q hq
    exact ⟨s, h1, by rw [e s h1]; exact h2⟩
  · obtain ⟨s', h1, h2, h3, h4⟩ := g s hs
    refine ⟨s', h1, h2, ?_, fun r hr q => h4 r hr ?_⟩
    · show (T' s').toNat = (T' s).toNat
      rw [e s' (by omega), e s (by omega)]; exact h3
    · have q : (T' r).toNat = (T' s).toNat := q
      rw [e r (by omega), e s (by omega)] at q; exact q
/-- of three sides of one edge two are the same -/
theorem LY.two {m E : Int} {T : Nat → Int} (h : LY m E T) {a b c : Nat} (ha : (a : Int) < 3 * m) (hb : (b : Int) < 3 * m) (hc : (c : Int) < 3 * m) (e1 : T a = T b) (e2 : T a = T c) : a = b ∨ a = c ∨ b = c := by
  obtain ⟨m0, _, _, _, _, g⟩ := h
  obtain ⟨s', h1, h2, h3, h4⟩ := g a (by omega)
  have k1 := h4 b (by omega) (by show (T b).toNat = (T a).toNat; rw [e1])
  have k2 := h4 c (by omega) (by show (T c).toNat = (T a).toNat; rw [e2])
  omega
theorem LY.oth {m E : Int} {T : Nat → Int} (h : LY m E T) {a : Nat} (ha : (a : Int) < 3 * m) : ∃ b : Nat, (b : Int) < 3 * m ∧ b ≠ a ∧ T b = T a := by
  obtain ⟨m0, _, _, d, _, g⟩ := h
  obtain ⟨s', h1, h2, h3, h4⟩ := g a (by omega)
  have d1 := d a ha; have d2 := d s' (by omega)
  have h3 : (T s').toNat = (T a).toNat := h3
  exact ⟨s', by omega, h2, by omega⟩
def FS (E : Int) (T lo hi : Nat → Int) (x : Int) : Prop := ∀ e : Nat, (e : Int) < E → (lo e = -1 ∧ ∀ s : Nat, (s : Int) < x → T s ≠ e) ∨ (0 ≤ lo e ∧ lo e < x ∧ T (lo e).toNat = e ∧ ∀ s : Nat, (s : Int) < x → T s = e → (s : Int) = lo e) ∨ (0 ≤ lo e ∧ lo e < hi e ∧ hi e < x ∧ T (lo e).toNat = e ∧ T (hi e).toNat = e)
theorem FS_0 {E : Int} {T lo hi : Nat → Int} (h : ∀ e : Nat, (e : Int) < E → lo e = -1) : FS E T lo hi 0 := fun e he => Or.inl ⟨h e he, fun s hs => absurd hs (by omega)⟩
theorem FS_lo {E x : Int} {T lo hi lo' hi' : Nat → Int} (h : FS E T lo hi x) (x0 : 0 ≤ x) {e0 : Nat} (h0 : T x.toNat = e0) (h1 : lo e0 = -1) (l1 : ∀ j : Nat, j ≠ e0 → lo' j = lo j) (l2 : lo' e0 = x) (l3 : ∀ j : Nat, hi' j = hi j) : FS E T lo' hi' (x + 1) := by
  intro e he
  by_cases c : e = e0
  · subst c
    rcases h e he with ⟨a1, a2⟩ | ⟨a1, _⟩ | ⟨a1, _⟩
    · right; left
      rw [l2]
      refine ⟨x0, by omega, h0, fun s hs q => ?_⟩
      by_cases d : (s : Int) = x
      · exact d
      · exact absurd q (a2 s (by omega))
    · omega
    · omega
  · rw [l1 e c, l3 e]
    have nx : ∀ s : Nat, (s : Int) < x + 1 → T s = e → (s : Int) < x := by
      intro s hs q
      by_cases d : (s : Int) = x
      · rw [show s = x.toNat by omega, h0] at q; omega
      · omega
    rcases h e he with ⟨a1, a2⟩ | ⟨a1, a2, a3, a4⟩ | ⟨a1, a2, a3, a4, a5⟩
    · exact Or.inl ⟨a1, fun s hs q => a2 s (nx s hs q) q⟩
    · exact Or.inr (Or.inl ⟨a1, by omega, a3, fun s hs q => a4 s (nx s hs q) q⟩)
    · exact Or.inr (Or.inr ⟨a1, a2, by omega, a4, a5⟩)
theorem FS_hi {m E x : Int} {T lo hi lo' hi' : Nat → Int} (ly : LY m E T) (h : FS E T lo hi x) (x0 : 0 ≤ x) (x1 : x < 3 * m) {e0 : Nat} (h0 : T x.toNat = e0) (h1 : ¬ lo e0 = -1) (l1 : ∀ j : Nat, j ≠ e0 → hi' j = hi j) (l2 : hi' e0 = x) (l3 : ∀ j : Nat, lo' j = lo j) : FS E T lo' hi' (x + 1) := by
  intro e he
  by_cases c : e = e0
  · subst c
    rw [l3 e, l2]
    rcases h e he with ⟨a1, a2⟩ | ⟨a1, a2, a3, a4⟩ | ⟨a1, a2, a3, a4, a5⟩
    · omega
    · exact Or.inr (Or.inr ⟨a1, a2, by omega, a3, h0⟩)
    · have k := ly.two (a := (lo e).toNat) (b := (hi e).toNat) (c := x.toNat) (by omega) (by omega) (by omega) (by rw [a4, a5]) (by rw [a4, h0])
      omega
  · rw [l1 e c, l3 e]
    have nx : ∀ s : Nat, (s : Int) < x + 1 → T s = e → (s : Int) < x := by
      intro s hs q
      by_cases d : (s : Int) = x
      · rw [show s = x.toNat by omega, h0] at q; omega
      · omega
    rcases h e he with ⟨a1, a2⟩ | ⟨a1, a2, a3, a4⟩ | ⟨a1, a2, a3, a4, a5⟩
    · exact Or.inl ⟨a1, fun s hs q => a2 s (nx s hs q) q⟩
    · exact Or.inr (Or.inl ⟨a1, by omega, a3, fun s hs q => a4 s (nx s hs q) q⟩)
    · exact Or.inr (Or.inr ⟨a1, a2, by omega, a4, a5⟩)
theorem FS_end {m E x : Int} {T lo hi : Nat → Int} (ly : LY m E T) (h : FS E T lo hi x) (hx : x = 3 * m) : SD m E T lo hi := by
  intro e he
  subst hx
  obtain ⟨s0, q1, q2⟩ := ly.2.2.2.2.1 e he
  rcases h e he with ⟨a1, a2⟩ | ⟨a1, a2, a3, a4⟩ | ⟨a1, a2, a3, a4, a5⟩
  · exact absurd q2 (a2 s0 q1)
  · obtain ⟨b, b1, b2, b3⟩ := ly.oth (a := (lo e).toNat) (by omega)
    have := a4 b b1 (by rw [b3, a3]); omega
  · refine ⟨a1, a2, a3, a4, a5, fun s hs q => ?_⟩
    have := ly.two (a := (lo e).toNat) (b := (hi e).toNat) (c := s) (by omega) (by omega) hs (by rw [a4, a5]) (by rw [a4, q])
    omega
/-- the pieces behind a flip that leaves the edge where it is -/
theorem FLP_of {m E : Int} {T T' lo hi : Nat → Int} {e : Nat} {x y z w p1 p2 p3 p4 : Int} (m0 : 0 ≤ m) (tn : ∀ s : Nat, (s : Int) < 3 * m → 0 ≤ T s) (sd : SD m E T lo hi) (he : (e : Int) < E) (ne : lo e / 3 ≠ hi e / 3)
    (hp1 : p1.toNat = bh (lo e).toNat) (hp2 : p2.toNat = ah (lo e).toNat) (hp3 : p3.toNat = bh (hi e).toNat) (hp4 : p4.toNat = ah (hi e).toNat)
    (hx : x = T (bh (lo e).toNat)) (hy : y = T (ah (lo e).toNat)) (hz : z = T (bh (hi e).toNat)) (hw : w = T (ah (hi e).toNat))
    (ht : ∀ s : Nat, T' s = if s = p4.toNat then x else if s = p3.toNat then w else if s = p2.toNat then z else if s = p1.toNat then y else T s) :
    FLP m.toNat (vT T) (vT T') e x.toNat y.toNat z.toNat w.toNat (lo e).toNat (hi e).toNat (lo e).toNat (hi e).toNat := by
  obtain ⟨a1, a2, a3, a4, a5, a6⟩ := sd e he
  have b1 := bh_cases (lo e).toNat; have b2 := ah_cases (lo e).toNat; have b3 := bh_cases (hi e).toNat; have b4 := ah_cases (hi e).toNat
  rw [hp1, hp2, hp3, hp4] at ht
  have tv : ∀ s : Nat, vT T' s = (if s = ah (hi e).toNat then x else if s = bh (hi e).toNat then w else if s = ah (lo e).toNat then z else if s = bh (lo e).toNat then y else T s).toNat := fun s => by show (T' s).toNat = _; rw [ht s]
  refine ⟨by omega, by omega, by omega, by show (T _).toNat = e; rw [a4]; omega, by show (T _).toNat = e; rw [a5]; omega, fun s hs q => ?_, by rw [hx], by rw [hy], by rw [hz], by rw [hw], rfl, rfl, ?_, ?_, ?_, ?_, ?_, ?_, fun s h1 h2 => ?_⟩
  · have q : (T s).toNat = e := q
    have t0 := tn s (by omega)
    have := a6 s (by omega) (by omega); omega
  · rw [tv, if_neg (by omega), if_neg (by omega), if_neg (by omega), if_neg (by omega), a4]; omega
  · rw [tv, if_neg (by omega), if_neg (by omega), if_neg (by omega), if_neg (by omega), a5]; omega
  · rw [tv, if_neg (by omega), if_neg (by omega), if_neg (by omega), if_pos rfl]
  · rw [tv, if_neg (by omega), if_neg (by omega), if_pos rfl]
  · rw [tv, if_neg (by omega), if_pos rfl]
  · rw [tv, if_pos rfl]
  · have e1 := bh_div (lo e).toNat; have e2 := ah_div (lo e).toNat; have e3 := bh_div (hi e).toNat; have e4 := ah_div (hi e).toNat
    rw [tv, if_neg (by intro q; subst q; omega), if_neg (by intro q; subst q; omega), if_neg (by intro q; subst q; omega), if_neg (by intro q; subst q; omega)]
def SHI (m E : Int) (T0 T n : Nat → Int) (cf : Nat → Nat → Nat) (k : Int) : Prop := LY m E T ∧ FT m.toNat (vT T) n ∧ (∃ o, OR m.toNat (vT T) o ∧ CN m.toNat (vT T) o n) ∧ GX m.toNat (vT T0) cf k.toNat (vT T) ∧ (∃ e : Nat, (e : Int) < E ∧ 0 < n e) ∧ sm n 18 ≤ 1782 - k ∧ 0 ≤ k
section
variable {m E k : Int} {T0 T n : Nat → Int} {cf : Nat → Nat → Nat}
theorem LY.lt {m E : Int} {T : Nat → Int} (h : LY m E T) : ∀ s, s < 3 * m.toNat → vT T s < 18 := by
  intro s hs
  have a := h.2.2.2.1 s (by omega); have := h.2.2.1; have := h.2.1
  show (T s).toNat < 18
  omega
theorem SHI_0 {o fs : Nat → Int} (w : WT m E T0 o fs) (f : FT m.toNat (vT T0) n) (c : CN m.toNat (vT T0) (oF T0 fs) n) (nz : ∃ e : Nat, (e : Int) < E ∧ 0 < n e) (hs : sm n 18 ≤ 1782) (hT : ∀ s : Nat, (s : Int) < 3 * m → T s = T0 s) : SHI m E T0 T n cf 0 := by
  have m0 := w.m0
  have e : ∀ s, s < 3 * m.toNat → vT T s = vT T0 s := fun s q => by show (T s).toNat = (T0 s).toNat; rw [hT s (by omega)]
  refine ⟨LY_cg w.ly hT, ?_, ⟨oF T0 fs, ?_, ?_⟩, ?_, nz, by omega, by omega⟩
  · refine ⟨f.1, fun s q => ?_⟩
    rw [e s q, e _ (bh_lt q), e _ (ah_lt q)]; exact f.2 s q
  · intro s r h1 h2 h3 h4
    rw [e s h1, e r h2] at h4
    exact w.or s r h1 h2 h3 h4
  · intro A cl ex s i h1 h2 h3
    have cl' : CL m.toNat (vT T0) (oF T0 fs) n A := by
      intro s i h1 h2 h3
      have q := cl s i h1 h2 (by rw [e s h1, e _ (bh_lt h1), e _ (ah_lt h1)]; exact h3)
      unfold BB at q ⊢
      rw [e s h1, e _ (ah_lt h1)] at q; exact q
    obtain ⟨s2, i2, a1, a2, a3, a4⟩ := ex
    rw [e s2 a1] at a3 a4
    rw [e s h1] at h3 ⊢
    exact c A cl' ⟨s2, i2, a1, a2, a3, a4⟩ s i h1 h2 h3
  · exact GX_cg (GX_0 (cf := cf) w.lt) (fun s _ => rfl) (fun i j h => absurd h (by omega)) e
theorem SHI_s {T' n' : Nat → Int} {cf' : Nat → Nat → Nat} {e x y z w s1 s2 : Nat} (h : SHI m E T0 T n cf k) (f : FLP m.toNat (vT T) (vT T') e x y z w s1 s2 s1 s2) (hT' : ∀ s : Nat, (s : Int) < 3 * m → 0 ≤ T' s) (hn : n' = fl e x y z w n) (dec : n' e < n e)
    (c0 : cf' k.toNat 0 = e) (c1 : cf' k.toNat 1 = x) (c2 : cf' k.toNat 2 = y) (c3 : cf' k.toNat 3 = z) (c4 : cf' k.toNat 4 = w) (hc : ∀ i j, i < k.toNat → j < 5 → cf' i j = cf i j) : LY m E T' ∧ SHI m E T0 T' n' cf' (k + 1) := by
  obtain ⟨ly, ft, ⟨o, oo, cn⟩, gx, ⟨e1, n1, n2⟩, sb, k0⟩ := h
  have lt18 := ly.lt
  obtain ⟨m0, m12, mE, tE, on, we⟩ := ly
  have hes : e < 18 := by have := lt18 s1 f.l1; rw [f.e1] at this; exact this
  have tE' : ∀ s : Nat, (s : Int) < 3 * m → 0 ≤ T' s ∧ T' s < E := by
    intro s hs
    have a := hT' s hs
    have b := f.sgT s
    have c := f.sgl (s := s) (by omega)
    have d := tE _ (show (((sg s1 s2 s1 s2 s : Nat)) : Int) < 3 * m by omega)
    have b : (T' s).toNat = (T (sg s1 s2 s1 s2 s)).toNat := b
    omega
  have on' : ∀ e : Nat, (e : Int) < E → ∃ s : Nat, (s : Int) < 3 * m ∧ T' s = e := by
    intro q hq
    obtain ⟨p, p1, p2⟩ := on q hq
    obtain ⟨s, g1, g2⟩ := f.sgsur p
    have g2 := g2 (by omega)
    refine ⟨s, by omega, ?_⟩
    have b := f.sgT s
    have b : (T' s).toNat = (T (sg s1 s2 s1 s2 s)).toNat := b
    rw [g1, p2] at b
    have := hT' s (by omega)
    omega
  have ly' : LY m E T' := ⟨m0, m12, mE, tE', on', f.we we⟩
  refine ⟨ly', ly', by rw [hn]; exact f.ft ft, ⟨_, f.or oo, by rw [hn]; exact f.cn ft oo cn⟩, ?_, ?_, ?_, by omega⟩
  · have g := GX_cg (cf1 := cf') gx (fun _ _ => rfl) hc (fun _ _ => rfl)
    rw [show (k + 1).toNat = k.toNat + 1 by omega]
    exact GX_s g lt18 (by rw [c0, c1, c2, c3, c4]; exact f)
  · have bE : ∀ {p : Nat}, p < 3 * m.toNat → ((vT T p : Nat) : Int) < E := by
      intro p hp
      have := tE p (by omega)
      show (((T p).toNat : Nat) : Int) < E
      omega
    by_cases c : e1 = e
    · subst c
      have tr := ft.2 s1 f.l1
      rw [f.e1, f.hx, f.hy] at tr
      have nnx : 0 ≤ n x := by have := lt18 _ (bh_lt f.l1); rw [f.hx] at this; exact ft.1 x this
      rcases (show 0 < n x ∨ 0 < n y by unfold tri at tr; omega) with q | q
      · exact ⟨x, by have := bE (bh_lt f.l1); rw [f.hx] at this; exact this, by rw [hn, fl_ne f.nx]; exact q⟩
      · exact ⟨y, by have := bE (ah_lt f.l1); rw [f.hy] at this; exact this, by rw [hn, fl_ne f.ny]; exact q⟩
    · exact ⟨e1, n1, by rw [hn, fl_ne c]; exact n2⟩
  · have := sm_u (f := n) (g := n') (i := e) (fun j hj => by rw [hn, fl_ne hj]) 18 hes
    omega
theorem SHI_b (h : SHI m E T0 T n cf k) : ∀ e : Nat, e < 18 → 0 ≤ n e ∧ n e ≤ 1782 := by
  obtain ⟨ly, ft, _, _, _, sb, k0⟩ := h
  intro e he
  have := sm_at (f := n) 18 he ft.1
  exact ⟨ft.1 e he, by omega⟩
theorem SHI_max (h : SHI m E T0 T n cf k) (hk : 1782 ≤ k) : False := by
  obtain ⟨ly, ft, _, _, ⟨e, e1, e2⟩, sb, k0⟩ := h
  have := ly.2.2.1; have := ly.2.1
  have := sm_at (f := n) (k := e) 18 (by omega) ft.1
  omega
theorem sm_two {f : Nat → Int} : ∀ N : Nat, (∀ j, j < N → 0 ≤ f j ∧ f j ≤ 1) → sm f N = 2 → ∃ a b, a < N ∧ b < N ∧ a ≠ b ∧ f a = 1 ∧ f b = 1 := by
  have one : ∀ N : Nat, (∀ j, j < N → 0 ≤ f j ∧ f j ≤ 1) → sm f N = 1 → ∃ a, a < N ∧ f a = 1 := by
    intro N
    induction N with
    | zero => intro _ h; have h : (0 : Int) = 1 := h; omega
    | succ N ih =>
      intro h q
      rw [sm_s] at q
      by_cases c : f N = 1
      · exact ⟨N, by omega, c⟩
      · have := h N (by omega)
        obtain ⟨a, a1, a2⟩ := ih (fun j hj => h j (by omega)) (by omega)
        exact ⟨a, by omega, a2⟩
  intro N
  induction N with
  | zero => intro _ h; have h : (0 : Int) = 2 := h; omega
  | succ N ih =>
    intro h q
    rw [sm_s] at q
    by_cases c : f N = 1
    · obtain ⟨a, a1, a2⟩ := one N (fun j hj => h j (by omega)) (by omega)
      exact ⟨a, N, by omega, by omega, by omega, a2, c⟩
    · have := h N (by omega)
      obtain ⟨a, b, a1, a2, a3, a4⟩ := ih (fun j hj => h j (by omega)) (by omega)
      exact ⟨a, b, by omega, by omega, a3, a4⟩
theorem sm_three {f : Nat → Int} {N a b c : Nat} (h : ∀ j, j < N → 0 ≤ f j) (ab : a < b) (bc : b < c) (cN : c < N) (fa : f a = 1) (fb : f b = 1) (fc : f c = 1) : 3 ≤ sm f N := by
  have k1 := sm_le (f := f) (k := c + 1) N (by omega) h
  have k2 := sm_le (f := f) (k := b + 1) c (by omega) (fun j hj => h j (by omega))
  have k3 := sm_le (f := f) (k := a + 1) b (by omega) (fun j hj => h j (by omega))
  have k4 := sm_nn (f := f) a (fun j hj => h j (by omega))
  rw [sm_s] at k1 k2 k3
  omega
/-- short: two edges crossed, once each -/
theorem SHI_c (h : SHI m E T0 T n cf k) (s1 : ∀ e : Nat, (e : Int) < E → n e ≤ 1) (s2 : sm n E.toNat = 2) :
    (∀ s, s < 3 * m.toNat → n (vT T s) ≤ 1) ∧ (∃ s r, s < 3 * m.toNat ∧ r < 3 * m.toNat ∧ n (vT T s) = 1 ∧ n (vT T r) = 1 ∧ vT T s ≠ vT T r) ∧
    (∀ s r t, s < 3 * m.toNat → r < 3 * m.toNat → t < 3 * m.toNat → n (vT T s) = 1 → n (vT T r) = 1 → n (vT T t) = 1 → vT T s = vT T r ∨ vT T s = vT T t ∨ vT T r = vT T t) := by
  obtain ⟨⟨m0, m12, mE, tE, on, we⟩, ft, _, _, _, sb, k0⟩ := h
  have vE : ∀ s, s < 3 * m.toNat → ((vT T s : Nat) : Int) < E := by
    intro s hs
    have := tE s (by omega)
    show (((T s).toNat : Nat) : Int) < E
    omega
  have nn : ∀ j, j < E.toNat → 0 ≤ n j ∧ n j ≤ 1 := fun j hj => ⟨ft.1 j (by omega), s1 j (by omega)⟩
  refine ⟨fun s hs => s1 _ (vE s hs), ?_, ?_⟩
  · obtain ⟨a, b, a1, b1, ab, fa, fb⟩ := sm_two E.toNat nn s2
    obtain ⟨s, q1, q2⟩ := on a (by omega)
    obtain ⟨r, q3, q4⟩ := on b (by omega)
    have e1 : vT T s = a := by show (T s).toNat = a; rw [q2]; omega
    have e2 : vT T r = b := by show (T r).toNat = b; rw [q4]; omega
    exact ⟨s, r, by omega, by omega, by rw [e1]; exact fa, by rw [e2]; exact fb, by rw [e1, e2]; exact ab⟩
  · intro s r t hs hr ht n1 n2 n3
    have v1 := vE s hs; have v2 := vE r hr; have v3 := vE t ht
    generalize vT T s = a at *
    generalize vT T r = b at *
    generalize vT T t = c at *
    have key : ∀ {a b c : Nat}, a < b → b < c → (c : Int) < E → n a = 1 → n b = 1 → n c = 1 → False := by
      intro a b c ab bc cE fa fb fc
      have := sm_three (f := n) (N := E.toNat) (fun j hj => (nn j hj).1) ab bc (by omega) fa fb fc
      omega
    apply Classical.byContradiction
    intro q
    rcases (show a < b ∨ b < a by omega) with p1 | p1 <;> rcases (show b < c ∨ c < b by omega) with p2 | p2 <;> rcases (show a < c ∨ c < a by omega) with p3 | p3
    · exact key p1 p2 v3 n1 n2 n3
    · omega
    · exact key p3 p2 v2 n1 n3 n2
    · exact key p3 p1 v2 n3 n1 n2
    · exact key p1 p3 v3 n2 n1 n3
    · exact key p2 p3 v1 n2 n3 n1
    · omega
    · exact key p2 p1 v1 n3 n2 n1
theorem SHI_two (h : SHI m E T0 T n cf k) (s1 : ∀ e : Nat, (e : Int) < E → n e ≤ 1) (s2 : sm n E.toNat = 2) : ∃ u v, u < 3 * m.toNat ∧ v < 3 * m.toNat ∧ u ≠ v ∧ CO (vT T) n u ∧ CO (vT T) n v := by
  obtain ⟨c1, c2, c3⟩ := SHI_c h s1 s2
  obtain ⟨ly, ft, ⟨o, oo, cn⟩, gx, _, sb, k0⟩ := h
  obtain ⟨u, v, h1, h2, h3, h4, h5⟩ := co_two ft ly.lt c1 cn ly.2.2.2.2.2 c2
  exact ⟨u, v, h1, h2, fun q => h3 (by rw [q]), h4, h5⟩
theorem SHI_gr (h : SHI m E T0 T n cf k) (s1 : ∀ e : Nat, (e : Int) < E → n e ≤ 1) (s2 : sm n E.toNat = 2) {u v : Nat} (hu : u < 3 * m.toNat) (hv : v < 3 * m.toNat) (uv : u ≠ v) (uc : CO (vT T) n u) (vc : CO (vT T) n v) : GR m.toNat (vT T0) cf k.toNat (vT T u) (vT T v) (vT T (ah u)) (vT T (bh u)) := by
  obtain ⟨c1, c2, c3⟩ := SHI_c h s1 s2
  obtain ⟨ly, ft, ⟨o, oo, cn⟩, gx, _, sb, k0⟩ := h
  exact GR_of gx ly.lt (co_twp ft ly.lt c1 cn ly.2.2.2.2.2 c2 c3 hu hv uv uc vc)
end
theorem LY_fl {m E : Int} {T T' : Nat → Int} {e x y z w s1 s2 : Nat} (h : LY m E T) (f : FLP m.toNat (vT T) (vT T') e x y z w s1 s2 s1 s2) (hT' : ∀ s : Nat, (s : Int) < 3 * m → 0 ≤ T' s) : LY m E T' := by
  obtain ⟨m0, m12, mE, tE, on, we⟩ := h
  refine ⟨m0, m12, mE, ?_, ?_, f.we we⟩
  · intro s hs
    have a := hT' s hs
    have b := f.sgT s
    have c := f.sgl (s := s) (by omega)
    have d := tE _ (show (((sg s1 s2 s1 s2 s : Nat)) : Int) < 3 * m by omega)
    have b : (T' s).toNat = (T (sg s1 s2 s1 s2 s)).toNat := b
    omega
  · intro q hq
    obtain ⟨p, p1, p2⟩ := on q hq
    obtain ⟨s, g1, g2⟩ := f.sgsur p
    have g2 := g2 (by omega)
    refine ⟨s, by omega, ?_⟩
    have b := f.sgT s
    have b : (T' s).toNat = (T (sg s1 s2 s1 s2 s)).toNat := b
    rw [g1, p2] at b
    have := hT' s (by omega)
    omega
def LRq (z0 z w0 w : mZ) (e : Nat) : Prop := z 11 6 = z0 12 (bh (z0 13 e).toNat) ∧ z 11 7 = z0 12 (ah (z0 13 e).toNat) ∧ z 11 8 = z0 12 (bh (z0 14 e).toNat) ∧ z 11 9 = z0 12 (ah (z0 14 e).toNat) ∧ w 11 10 = max (w0 15 (z 11 6).toNat + w0 15 (z 11 8).toNat) (w0 15 (z 11 7).toNat + w0 15 (z 11 9).toNat) - w0 15 e
theorem cf_dec {f : Nat → Int} {i : Nat} {e x y z w : Int} (h : f i = e + x * 2 ^ 5 + y * 2 ^ 10 + z * 2 ^ 15 + w * 2 ^ 20) (he : 0 ≤ e ∧ e ≤ 17) (hx : 0 ≤ x ∧ x ≤ 17) (hy : 0 ≤ y ∧ y ≤ 17) (hz : 0 ≤ z ∧ z ≤ 17) (hw : 0 ≤ w ∧ w ≤ 17) : cfR f i 0 = e.toNat ∧ cfR f i 1 = x.toNat ∧ cfR f i 2 = y.toNat ∧ cfR f i 3 = z.toNat ∧ cfR f i 4 = w.toNat := by
  have h : f i = e + x * 32 + y * 1024 + z * 32768 + w * 1048576 := h
  unfold cfR
  rw [h]
  refine ⟨?_, ?_, ?_, ?_, ?_⟩
  · show ((e + x * 32 + y * 1024 + z * 32768 + w * 1048576) / 1 % 32).toNat = _; omega
  · show ((e + x * 32 + y * 1024 + z * 32768 + w * 1048576) / 32 % 32).toNat = _; omega
  · show ((e + x * 32 + y * 1024 + z * 32768 + w * 1048576) / 1024 % 32).toNat = _; omega
  · show ((e + x * 32 + y * 1024 + z * 32768 + w * 1048576) / 32768 % 32).toNat = _; omega
  · show ((e + x * 32 + y * 1024 + z * 32768 + w * 1048576) / 1048576 % 32).toNat = _; omega
section
variable {m x2 x3 a b e f : Int} {T n : Nat → Int}
end
theorem CN_cg {m : Nat} {T : Nat → Nat} {o : Nat → Bool} {n n' : Nat → Int} (hT : ∀ s, s < 3 * m → T s < 18) (h : ∀ j, j < 18 → n' j = n j) (c : CN m T o n) : CN m T o n' := by
  have e : ∀ s, s < 3 * m → n' (T s) = n (T s) := fun s hs => h _ (hT s hs)
  intro A cl ex s i h1 h2 h3
  have cl' : CL m T o n A := by
    intro s i h1 h2 h3
    have q := cl s i h1 h2 (by rw [e s h1, e _ (bh_lt h1), e _ (ah_lt h1)]; exact h3)
    unfold BB at q ⊢
    rw [e s h1, e _ (ah_lt h1)] at q; exact q
  obtain ⟨s2, i2, a1, a2, a3, a4⟩ := ex
  rw [e s2 a1] at a3
  rw [e s h1] at h3
  exact c A cl' ⟨s2, i2, a1, a2, a3, a4⟩ s i h1 h2 h3
/-- the road of the line k, as the class keeps it -/
def GRt (z0 z : mZ) (t k : Nat) : Prop := z (17 + 2 * k) 0 = 2 → GR (z0 t 0).toNat (vT (z0 (t + 1))) (cfR (z (18 + 2 * k))) (z (17 + 2 * k) 1).toNat (z (17 + 2 * k) 2).toNat (z (17 + 2 * k) 3).toNat (z (17 + 2 * k) 4).toNat (z (17 + 2 * k) 5).toNat
theorem sm_99 {f : Nat → Int} (h : ∀ j, j < 18 → f j ≤ 99) : sm f 18 ≤ 1782 := by
  have key : ∀ N : Nat, N ≤ 18 → sm f N ≤ 99 * N := by
    intro N
    induction N with
    | zero => intro _; exact Int.le_refl _
    | succ N ih =>
      intro hN
      have := ih (by omega); have := h N (by omega)
      rw [sm_s]; omega
  have := key 18 (by omega)
  omega
theorem GRt_cg {z0 z1 z z' : mZ} {t k : Nat} (h : GRt z1 z t k) (e0 : z1 t 0 = z0 t 0) (e1 : z1 (t + 1) = z0 (t + 1)) (f : ∀ i, i ≤ 5 → z' (17 + 2 * k) i = z (17 + 2 * k) i) (g : z' (18 + 2 * k) = z (18 + 2 * k)) : GRt z0 z' t k := by
  unfold GRt at *
  rw [f 0 (by omega), f 1 (by omega), f 2 (by omega), f 3 (by omega), f 4 (by omega), f 5 (by omega), g, ← e0, ← e1]
  exact h
end
section
/-! methods, printed by wip/tools/vcg.py -/
/-- Shortener findSides -/
abbrev S_55v  : mS := [(13, 13, 0, 17), (14, 14, 0, 17)]
abbrev E_55v (t : Nat) (z0 w0 : mZ) (x y tx it mt tt ct : Option Nat) : mZ → mZ → mP → Prop := fun z w p => p = (pq x y tx it mt tt ct) ∧ (SD (z0 t 0) (z0 t 1) (z0 12) (z 13) (z 14))
theorem m_55v {d : Nat} {z0 w0 : mZ} {x y tx it mt tt ct : Option Nat} (t : Nat) (hz : rz z0) (hw : rw_ w0) (ht : isT t) (hly : LY (z0 t 0) (z0 t 1) (z0 12)) (hsl : z0 11 4 = 3 * z0 t 0 ∧ z0 11 5 = z0 t 1) : wc (d + 1) 55 [.ref 11] (mk z0 w0 (pq x y tx it mt tt ct)) (poV S_55v z0 w0 (E_55v t z0 w0 x y tx it mt tt ct)) := by
  have hst : st_ S_55v z0 w0 z0 w0 := st_rf hz hw
  have htb : 159 ≤ t ∧ t ≤ 192 := by have := ht; unfold isT at this; omega
  have hz17 := rd_11_4 hz
  have hz18 := rd_11_5 hz
  have hz19 := rd_T_0 ht hz
  have hz20 := rd_T_1 ht hz
  have hzt0 := rd_T_0 ht hz
  have hzt1 := rd_T_1 ht hz
  have key : ∀ N : Nat, (∀ (x1 : Int) (z w : mZ), 0 ≤ x1 ∧ x1 ≤ 18 → st_ S_55v z0 w0 z w → (∀ e : Nat, (e : Int) < x1 → z 13 e = -1) → 44 * (18 - x1) + 1713 < (N : Int) → wp_ (d) 55 3 none (2, [(0, .ref 11), (1, .int (Int32.ofInt x1))], [], mk z w (pq x y tx it mt tt ct)) (poV S_55v z0 w0 (E_55v t z0 w0 x y tx it mt tt ct))) ∧ (∀ (x1 : Int) (z w : mZ), 0 ≤ x1 ∧ x1 ≤ 36 → st_ S_55v z0 w0 z w → (FS (z0 t 1) (z0 12) (z 13) (z 14) x1) → (x1 ≤ z0 11 4) → 44 * (36 - x1) + 28 < (N : Int) → wp_ (d) 55 3 none (25, [(0, .ref 11), (1, .int (Int32.ofInt x1))], [], mk z w (pq x y tx it mt tt ct)) (poV S_55v z0 w0 (E_55v t z0 w0 x y tx it mt tt ct))) := by
    intro N
    induction N with
    | zero =>
      refine ⟨?_, ?_⟩
      · intro x1 z w
        intros; exfalso; omega
      · intro x1 z w
        intros; exfalso; omega
    | succ N ih =>
      obtain ⟨ih0, ih1⟩ := ih
      refine ⟨?_, ?_⟩
      · intro x1 z w  hx1 hst as1 hM
        refine r_ld (pc' := 3) rfl rfl rfl rfl ?_
        refine r_ld (pc' := 4) rfl rfl rfl rfl ?_
        have hb21 := rd_11_5 hz
        refine r_gi (pc' := 7) rfl rfl sh_11 rfl (hst.2.2.1 _ _ (notS_c (by omega) (notS_c (by omega) notS_n))) ?_
        refine r_ige (pc' := 10) rfl rfl ⟨by omega, by omega⟩ ⟨by omega, by omega⟩ (fun hc22 => ?_) (fun hc22 => ?_)
        · skip
          refine r_c0 (pc' := 24) rfl rfl ?_
          refine r_st (pc' := 25) (lv' := [(1, _), (0, _)]) rfl rfl rfl rfl ?_
          exact w_lv (sub_c rfl (sub_c rfl sub_n)) rfl (ih1 0 z w ⟨by omega, by omega⟩ hst (by first | exact FS_0 (fun e he => as1 e (by omega)) | exact FS_lo as1 (by omega) (e0 := (z0 12 x1.toNat).toNat) (by omega) (by assumption) (fun j hj => by rw [hqa]; exact mu_ne (by omega)) (by rw [hqa]; exact mu_eq) (fun j => by rw [hqa]; exact mu_ne (by omega)) | exact FS_hi hly as1 (by omega) (by omega) (e0 := (z0 12 x1.toNat).toNat) (by omega) (by assumption) (fun j hj => by rw [hqb]; exact mu_ne (by omega)) (by rw [hqb]; exact mu_eq) (fun j => by rw [hqb]; exact mu_ne (by omega))) (by first | omega | assumption) (by omega))
        · skip
          refine r_ld (pc' := 11) rfl rfl rfl rfl ?_
          refine r_gr (b := 13) (pc' := 14) rfl rfl sh_11 rfl pp_11_1 ?_
          refine r_ld (pc' := 15) rfl rfl rfl rfl ?_
          refine r_c0 (pc' := 16) rfl rfl ?_
          refine r_is (pc' := 17) rfl rfl sh_13 rfl (by omega) (by omega) hst (inS_0 (by omega) (by omega) (by omega) (by omega)) (wr_13 ⟨by omega, by omega⟩) (fun z23 hq24 hs25 => ?_)
          have hqm := hq24
          refine r_inc (pc' := 20) (lv' := [(0, _)]) rfl rfl rfl rfl rfl ?_
          refine r_go rfl ?_
          exact w_lv (sub_c rfl (sub_c rfl sub_n)) rfl (ih0 (x1 + 1) z23 w ⟨by omega, by omega⟩ hs25 (by first | (intro e he; exfalso; omega) | (intro e he; rw [hqm]; by_cases c : e = x1.toNat; (subst c; exact mu_eq); (rw [mu_ne (by omega)]; exact as1 e (by omega)))) (by omega))
      · intro x1 z w  hx1 hst as1 as2 hM
        refine r_ld (pc' := 26) rfl rfl rfl rfl ?_
        refine r_ld (pc' := 27) rfl rfl rfl rfl ?_
        have hb26 := rd_11_4 hz
        refine r_gi (pc' := 30) rfl rfl sh_11 rfl (hst.2.2.1 _ _ (notS_c (by omega) (notS_c (by omega) notS_n))) ?_
        refine r_ige (pc' := 33) rfl rfl ⟨by omega, by omega⟩ ⟨by omega, by omega⟩ (fun hc27 => ?_) (fun hc27 => ?_)
        · skip
          exact r_ret rfl (po_V hst ⟨rfl, (by exact FS_end hly as1 (by omega))⟩)
        · skip
          refine r_ld (pc' := 34) rfl rfl rfl rfl ?_
          refine r_gr (b := 12) (pc' := 37) rfl rfl sh_11 rfl pp_11_0 ?_
          refine r_ld (pc' := 38) rfl rfl rfl rfl ?_
          have hb28 := rd_12 hz (i := x1.toNat) (by omega)
          refine r_ia (pc' := 39) rfl rfl sh_12 rfl (by omega) (by omega) (hst.2.2.1 _ _ (notS_c (by omega) (notS_c (by omega) notS_n))) ?_
          refine r_st (pc' := 40) (lv' := [(2, _), (0, _), (1, _)]) rfl rfl rfl rfl ?_
          refine r_ld (pc' := 41) rfl rfl rfl rfl ?_
          refine r_gr (b := 13) (pc' := 44) rfl rfl sh_11 rfl pp_11_1 ?_
          refine r_ld (pc' := 45) rfl rfl rfl rfl ?_
          have hb29 := rd_13 hst.1 (i := (z0 12 x1.toNat).toNat) (by omega)
          refine r_ia (pc' := 46) rfl rfl sh_13 rfl (by omega) (by omega) rfl ?_
          refine r_c0 (pc' := 47) rfl rfl ?_
          refine r_ine (pc' := 50) rfl rfl ⟨by omega, by omega⟩ ⟨by decide, by decide⟩ (fun hc30 => ?_) (fun hc30 => ?_)
          · skip
            refine r_ld (pc' := 61) rfl rfl rfl rfl ?_
            refine r_gr (b := 14) (pc' := 64) rfl rfl sh_11 rfl pp_11_2 ?_
            refine r_ld (pc' := 65) rfl rfl rfl rfl ?_
            refine r_ld (pc' := 66) rfl rfl rfl rfl ?_
            refine r_is (pc' := 67) rfl rfl sh_14 rfl (by omega) (by omega) hst (inS_s (inS_0 (by omega) (by omega) (by omega) (by omega))) (wr_14 ⟨by omega, by omega⟩) (fun z31 hq32 hs33 => ?_)
            have hqb := hq32
            refine r_inc (pc' := 70) (lv' := [(2, _), (0, _)]) rfl rfl rfl rfl rfl ?_
            refine r_go rfl ?_
            have hF34 : z31 13 = z 13 := ((congrFun hq32 _).trans (mu_fn (by omega)))
            exact w_lv (sub_c rfl (sub_c rfl sub_n)) rfl (ih1 (x1 + 1) z31 w ⟨by omega, by omega⟩ hs33 (by first | exact FS_0 (fun e he => as1 e (by omega)) | exact FS_lo as1 (by omega) (e0 := (z0 12 x1.toNat).toNat) (by omega) (by assumption) (fun j hj => by rw [hqa]; exact mu_ne (by omega)) (by rw [hqa]; exact mu_eq) (fun j => by rw [hqa]; exact mu_ne (by omega)) | exact FS_hi hly as1 (by omega) (by omega) (e0 := (z0 12 x1.toNat).toNat) (by omega) (by assumption) (fun j hj => by rw [hqb]; exact mu_ne (by omega)) (by rw [hqb]; exact mu_eq) (fun j => by rw [hqb]; exact mu_ne (by omega))) (by first | omega | assumption | (simp only [hF34]; assumption)) (by omega))
          · skip
            refine r_ld (pc' := 51) rfl rfl rfl rfl ?_
            refine r_gr (b := 13) (pc' := 54) rfl rfl sh_11 rfl pp_11_1 ?_
            refine r_ld (pc' := 55) rfl rfl rfl rfl ?_
            refine r_ld (pc' := 56) rfl rfl rfl rfl ?_
            refine r_is (pc' := 57) rfl rfl sh_13 rfl (by omega) (by omega) hst (inS_0 (by omega) (by omega) (by omega) (by omega)) (wr_13 ⟨by omega, by omega⟩) (fun z35 hq36 hs37 => ?_)
            have hqa := hq36
            refine r_go rfl ?_
            refine r_inc (pc' := 70) (lv' := [(2, _), (0, _)]) rfl rfl rfl rfl rfl ?_
            refine r_go rfl ?_
            have hF38 : z35 14 = z 14 := ((congrFun hq36 _).trans (mu_fn (by omega)))
            exact w_lv (sub_c rfl (sub_c rfl sub_n)) rfl (ih1 (x1 + 1) z35 w ⟨by omega, by omega⟩ hs37 (by first | exact FS_0 (fun e he => as1 e (by omega)) | exact FS_lo as1 (by omega) (e0 := (z0 12 x1.toNat).toNat) (by omega) (by assumption) (fun j hj => by rw [hqa]; exact mu_ne (by omega)) (by rw [hqa]; exact mu_eq) (fun j => by rw [hqa]; exact mu_ne (by omega)) | exact FS_hi hly as1 (by omega) (by omega) (e0 := (z0 12 x1.toNat).toNat) (by omega) (by assumption) (fun j hj => by rw [hqb]; exact mu_ne (by omega)) (by rw [hqb]; exact mu_eq) (fun j => by rw [hqb]; exact mu_ne (by omega))) (by first | omega | assumption | (simp only [hF38]; assumption)) (by omega))
  refine w_m rfl rfl ?_
  refine r_c0 (pc' := 1) rfl rfl ?_
  refine r_st (pc' := 2) (lv' := [(1, _), (0, _)]) rfl rfl rfl rfl ?_
  exact w_lv (sub_c rfl (sub_c rfl sub_n)) rfl ((key ((44 * (18 - 0) + 1713 : Int).toNat + 1)).1 0 z0 w0 ⟨by omega, by omega⟩ hst (by first | (intro e he; exfalso; omega) | (intro e he; rw [hqm]; by_cases c : e = x1.toNat; (subst c; exact mu_eq); (rw [mu_ne (by omega)]; exact as1 e (by omega)))) (by omega))
/-- Shortener lookRound -/
abbrev S_58v  : mS := [(11, 11, 6, 6), (11, 11, 7, 7), (11, 11, 8, 8), (11, 11, 9, 9), (11, 11, 10, 10)]
abbrev E_58v (t : Nat) (a1 : Int) (z0 w0 : mZ) (x y tx it mt tt ct : Option Nat) : mZ → mZ → mP → Prop := fun z w p => p = (pq x y tx it mt tt ct) ∧ (LRq z0 z w0 w a1.toNat)
theorem m_58v {d : Nat} {z0 w0 : mZ} {x y tx it mt tt ct : Option Nat} (t : Nat) (a1 : Int) (hz : rz z0) (hw : rw_ w0) (ha1 : 0 ≤ a1 ∧ a1 ≤ 17) (ht : isT t) (hsd : SD (z0 t 0) (z0 t 1) (z0 12) (z0 13) (z0 14)) (hlt : a1 < z0 t 1) (hn0 : ∀ e : Nat, e < 18 → 0 ≤ w0 15 e ∧ w0 15 e ≤ 1782) : wc (d + 2) 58 [.ref 11, .int (Int32.ofInt a1)] (mk z0 w0 (pq x y tx it mt tt ct)) (poV S_58v z0 w0 (E_58v t a1 z0 w0 x y tx it mt tt ct)) := by
  have hst : st_ S_58v z0 w0 z0 w0 := st_rf hz hw
  have htb : 159 ≤ t ∧ t ≤ 192 := by have := ht; unfold isT at this; omega
  have hz81 := rd_T_0 ht hz
  have hz82 := rd_T_1 ht hz
  have hzt0 := rd_T_0 ht hz
  have hzt1 := rd_T_1 ht hz
  have hs1 := hsd a1.toNat (by omega)
  have hna := hn0 a1.toNat (by omega)
  refine w_m rfl rfl ?_
  refine r_ld (pc' := 1) rfl rfl rfl rfl ?_
  refine r_ld (pc' := 2) rfl rfl rfl rfl ?_
  refine r_gr (b := 12) (pc' := 5) rfl rfl sh_11 rfl pp_11_0 ?_
  refine r_ld (pc' := 6) rfl rfl rfl rfl ?_
  refine r_gr (b := 13) (pc' := 9) rfl rfl sh_11 rfl pp_11_1 ?_
  refine r_ld (pc' := 10) rfl rfl rfl rfl ?_
  have hb83 := rd_13 hz (i := a1.toNat) (by omega)
  refine r_ia (pc' := 11) rfl rfl sh_13 rfl (by omega) (by omega) rfl ?_
  refine r_cSI (pc' := 14) rfl rfl rfl rfl rfl (m_143 (d := d) (z0 13 a1.toNat) hst.1 hst.2.1 ⟨by omega, by omega⟩) (fun v84 z85 w86 p87 h88 hs89 hE90 => ?_)
  obtain ⟨rfl, rfl, rfl, hE90⟩ := hE90
  have hb11 : v84.toNat = bh (z0 13 a1.toNat).toNat := by have := bh_cases (z0 13 a1.toNat).toNat; omega
  have hr11 := rd_12 hz (i := v84.toNat) (by omega)
  have hn11 := hn0 (z0 12 v84.toNat).toNat (by omega)
  have hb92 := rd_12 hz (i := v84.toNat) (by omega)
  refine r_ia (pc' := 15) rfl rfl sh_12 rfl (by omega) (by omega) rfl ?_
  refine r_pi (pc' := 18) rfl rfl sh_11 rfl rfl hst (inS_0 (by omega) (by omega) (by omega) (by omega)) (wr_11_6 ⟨by omega, by omega⟩) (fun z93 hq94 hs95 => ?_)
  refine r_ld (pc' := 19) rfl rfl rfl rfl ?_
  refine r_ld (pc' := 20) rfl rfl rfl rfl ?_
  refine r_gr (b := 12) (pc' := 23) rfl rfl sh_11 rfl pp_11_0 ?_
  refine r_ld (pc' := 24) rfl rfl rfl rfl ?_
  refine r_gr (b := 13) (pc' := 27) rfl rfl sh_11 rfl pp_11_1 ?_
  refine r_ld (pc' := 28) rfl rfl rfl rfl ?_
  refine r_ia (pc' := 29) rfl rfl sh_13 rfl (by omega) (by omega) ((congrFun (congrFun hq94 _) _).trans (mu_ne (by omega))) ?_
  refine r_cSI (pc' := 32) rfl rfl rfl rfl rfl (m_144 (d := d) (z0 13 a1.toNat) hs95.1 hs95.2.1 ⟨by omega, by omega⟩) (fun v96 z97 w98 p99 h100 hs101 hE102 => ?_)
  obtain ⟨rfl, rfl, rfl, hE102⟩ := hE102
  have hb29 : v96.toNat = ah (z0 13 a1.toNat).toNat := by have := ah_cases (z0 13 a1.toNat).toNat; omega
  have hr29 := rd_12 hz (i := v96.toNat) (by omega)
  have hn29 := hn0 (z0 12 v96.toNat).toNat (by omega)
  have hb104 := rd_12 hz (i := v96.toNat) (by omega)
  refine r_ia (pc' := 33) rfl rfl sh_12 rfl (by omega) (by omega) ((congrFun (congrFun hq94 _) _).trans (mu_ne (by omega))) ?_
  refine r_pi (pc' := 36) rfl rfl sh_11 rfl rfl hs95 (inS_s (inS_0 (by omega) (by omega) (by omega) (by omega))) (wr_11_7 ⟨by omega, by omega⟩) (fun z105 hq106 hs107 => ?_)
  refine r_ld (pc' := 37) rfl rfl rfl rfl ?_
  refine r_ld (pc' := 38) rfl rfl rfl rfl ?_
  refine r_gr (b := 12) (pc' := 41) rfl rfl sh_11 rfl pp_11_0 ?_
  refine r_ld (pc' := 42) rfl rfl rfl rfl ?_
  refine r_gr (b := 14) (pc' := 45) rfl rfl sh_11 rfl pp_11_2 ?_
  refine r_ld (pc' := 46) rfl rfl rfl rfl ?_
  have hb108 := rd_14 hz (i := a1.toNat) (by omega)
  refine r_ia (pc' := 47) rfl rfl sh_14 rfl (by omega) (by omega) (((congrFun (congrFun hq106 _) _).trans (mu_ne (by omega))).trans ((congrFun (congrFun hq94 _) _).trans (mu_ne (by omega)))) ?_
  refine r_cSI (pc' := 50) rfl rfl rfl rfl rfl (m_143 (d := d) (z0 14 a1.toNat) hs107.1 hs107.2.1 ⟨by omega, by omega⟩) (fun v109 z110 w111 p112 h113 hs114 hE115 => ?_)
  obtain ⟨rfl, rfl, rfl, hE115⟩ := hE115
  have hb47 : v109.toNat = bh (z0 14 a1.toNat).toNat := by have := bh_cases (z0 14 a1.toNat).toNat; omega
  have hr47 := rd_12 hz (i := v109.toNat) (by omega)
  have hn47 := hn0 (z0 12 v109.toNat).toNat (by omega)
  have hb117 := rd_12 hz (i := v109.toNat) (by omega)
  refine r_ia (pc' := 51) rfl rfl sh_12 rfl (by omega) (by omega) (((congrFun (congrFun hq106 _) _).trans (mu_ne (by omega))).trans ((congrFun (congrFun hq94 _) _).trans (mu_ne (by omega)))) ?_
  refine r_pi (pc' := 54) rfl rfl sh_11 rfl rfl hs107 (inS_s (inS_s (inS_0 (by omega) (by omega) (by omega) (by omega)))) (wr_11_8 ⟨by omega, by omega⟩) (fun z118 hq119 hs120 => ?_)
  refine r_ld (pc' := 55) rfl rfl rfl rfl ?_
  refine r_ld (pc' := 56) rfl rfl rfl rfl ?_
  refine r_gr (b := 12) (pc' := 59) rfl rfl sh_11 rfl pp_11_0 ?_
  refine r_ld (pc' := 60) rfl rfl rfl rfl ?_
  refine r_gr (b := 14) (pc' := 63) rfl rfl sh_11 rfl pp_11_2 ?_
  refine r_ld (pc' := 64) rfl rfl rfl rfl ?_
  refine r_ia (pc' := 65) rfl rfl sh_14 rfl (by omega) (by omega) (((congrFun (congrFun hq119 _) _).trans (mu_ne (by omega))).trans (((congrFun (congrFun hq106 _) _).trans (mu_ne (by omega))).trans ((congrFun (congrFun hq94 _) _).trans (mu_ne (by omega))))) ?_
  refine r_cSI (pc' := 68) rfl rfl rfl rfl rfl (m_144 (d := d) (z0 14 a1.toNat) hs120.1 hs120.2.1 ⟨by omega, by omega⟩) (fun v121 z122 w123 p124 h125 hs126 hE127 => ?_)
  obtain ⟨rfl, rfl, rfl, hE127⟩ := hE127
  have hb65 : v121.toNat = ah (z0 14 a1.toNat).toNat := by have := ah_cases (z0 14 a1.toNat).toNat; omega
  have hr65 := rd_12 hz (i := v121.toNat) (by omega)
  have hn65 := hn0 (z0 12 v121.toNat).toNat (by omega)
  have hb129 := rd_12 hz (i := v121.toNat) (by omega)
  refine r_ia (pc' := 69) rfl rfl sh_12 rfl (by omega) (by omega) (((congrFun (congrFun hq119 _) _).trans (mu_ne (by omega))).trans (((congrFun (congrFun hq106 _) _).trans (mu_ne (by omega))).trans ((congrFun (congrFun hq94 _) _).trans (mu_ne (by omega))))) ?_
  refine r_pi (pc' := 72) rfl rfl sh_11 rfl rfl hs120 (inS_s (inS_s (inS_s (inS_0 (by omega) (by omega) (by omega) (by omega))))) (wr_11_9 ⟨by omega, by omega⟩) (fun z130 hq131 hs132 => ?_)
  refine r_ld (pc' := 73) rfl rfl rfl rfl ?_
  refine r_ld (pc' := 74) rfl rfl rfl rfl ?_
  refine r_gr (b := 15) (pc' := 77) rfl rfl sh_11 rfl pp_11_3 ?_
  refine r_ld (pc' := 78) rfl rfl rfl rfl ?_
  refine r_gi (pc' := 81) rfl rfl sh_11 rfl (((congrFun (congrFun hq131 _) _).trans (mu_ne (by omega))).trans (((congrFun (congrFun hq119 _) _).trans (mu_ne (by omega))).trans (((congrFun (congrFun hq106 _) _).trans (mu_ne (by omega))).trans ((congrFun (congrFun hq94 _) _).trans mu_eq)))) ?_
  have hb133 := rd_15 hw (i := (z0 12 v84.toNat).toNat) (by omega)
  refine r_la (pc' := 82) rfl rfl sh_15 rfl (by omega) (by omega) rfl ?_
  refine r_ld (pc' := 83) rfl rfl rfl rfl ?_
  refine r_gr (b := 15) (pc' := 86) rfl rfl sh_11 rfl pp_11_3 ?_
  refine r_ld (pc' := 87) rfl rfl rfl rfl ?_
  refine r_gi (pc' := 90) rfl rfl sh_11 rfl (((congrFun (congrFun hq131 _) _).trans (mu_ne (by omega))).trans ((congrFun (congrFun hq119 _) _).trans mu_eq)) ?_
  have hb134 := rd_15 hw (i := (z0 12 v109.toNat).toNat) (by omega)
  refine r_la (pc' := 91) rfl rfl sh_15 rfl (by omega) (by omega) rfl ?_
  refine r_ladd (pc' := 92) rfl rfl ?_
  refine w_hxl (fun v135 h136 h137 => ?_)
  refine r_ld (pc' := 93) rfl rfl rfl rfl ?_
  refine r_gr (b := 15) (pc' := 96) rfl rfl sh_11 rfl pp_11_3 ?_
  refine r_ld (pc' := 97) rfl rfl rfl rfl ?_
  refine r_gi (pc' := 100) rfl rfl sh_11 rfl (((congrFun (congrFun hq131 _) _).trans (mu_ne (by omega))).trans (((congrFun (congrFun hq119 _) _).trans (mu_ne (by omega))).trans ((congrFun (congrFun hq106 _) _).trans mu_eq))) ?_
  have hb138 := rd_15 hw (i := (z0 12 v96.toNat).toNat) (by omega)
  refine r_la (pc' := 101) rfl rfl sh_15 rfl (by omega) (by omega) rfl ?_
  refine r_ld (pc' := 102) rfl rfl rfl rfl ?_
  refine r_gr (b := 15) (pc' := 105) rfl rfl sh_11 rfl pp_11_3 ?_
  refine r_ld (pc' := 106) rfl rfl rfl rfl ?_
  refine r_gi (pc' := 109) rfl rfl sh_11 rfl ((congrFun (congrFun hq131 _) _).trans mu_eq) ?_
  have hb139 := rd_15 hw (i := (z0 12 v121.toNat).toNat) (by omega)
  refine r_la (pc' := 110) rfl rfl sh_15 rfl (by omega) (by omega) rfl ?_
  refine r_ladd (pc' := 111) rfl rfl ?_
  refine w_hxl (fun v140 h141 h142 => ?_)
  refine r_cSL (pc' := 114) rfl rfl rfl rfl rfl (m_262 (d := d) v135 v140 hs132.1 hs132.2.1 ⟨by omega, by omega⟩ ⟨by omega, by omega⟩) (fun v143 z144 w145 p146 h147 hs148 hE149 => ?_)
  obtain ⟨rfl, rfl, rfl, hE149⟩ := hE149
  refine r_ld (pc' := 115) rfl rfl rfl rfl ?_
  refine r_gr (b := 15) (pc' := 118) rfl rfl sh_11 rfl pp_11_3 ?_
  refine r_ld (pc' := 119) rfl rfl rfl rfl ?_
  have hb151 := rd_15 hw (i := a1.toNat) (by omega)
  refine r_la (pc' := 120) rfl rfl sh_15 rfl (by omega) (by omega) rfl ?_
  refine r_lsub (pc' := 121) rfl rfl ?_
  refine w_hxl (fun v152 h153 h154 => ?_)
  refine r_pl (pc' := 124) rfl rfl sh_11 rfl rfl hs132 (inS_s (inS_s (inS_s (inS_s (inS_0 (by omega) (by omega) (by omega) (by omega)))))) (wr_11_10 ⟨by omega, by omega⟩) (fun w155 hq156 hs157 => ?_)
  have hf158 : z130 11 6 = z0 12 v84.toNat := (((congrFun (congrFun hq131 _) _).trans (mu_ne (by omega))).trans (((congrFun (congrFun hq119 _) _).trans (mu_ne (by omega))).trans (((congrFun (congrFun hq106 _) _).trans (mu_ne (by omega))).trans ((congrFun (congrFun hq94 _) _).trans mu_eq))))
  have hf159 : z130 11 7 = z0 12 v96.toNat := (((congrFun (congrFun hq131 _) _).trans (mu_ne (by omega))).trans (((congrFun (congrFun hq119 _) _).trans (mu_ne (by omega))).trans ((congrFun (congrFun hq106 _) _).trans mu_eq)))
  have hf160 : z130 11 8 = z0 12 v109.toNat := (((congrFun (congrFun hq131 _) _).trans (mu_ne (by omega))).trans ((congrFun (congrFun hq119 _) _).trans mu_eq))
  have hf161 : z130 11 9 = z0 12 v121.toNat := ((congrFun (congrFun hq131 _) _).trans mu_eq)
  have hf162 : w155 11 10 = v152 := ((congrFun (congrFun hq156 _) _).trans mu_eq)
  exact r_ret rfl (po_V hs157 ⟨rfl, (by unfold LRq; refine ⟨by rw [← hb11]; omega, by rw [← hb29]; omega, by rw [← hb47]; omega, by rw [← hb65]; omega, ?_⟩; simp only [hf158, hf159, hf160, hf161, hf162]; omega)⟩)
/-- Shortener turnEdge -/
abbrev S_59v  : mS := [(15, 15, 0, 17), (12, 12, 0, 35), (13, 13, 0, 17), (14, 14, 0, 17)]
abbrev E_59v (t : Nat) (a1 : Int) (z0 w0 : mZ) (x y tx it mt tt ct : Option Nat) : mZ → mZ → mP → Prop := fun z w p => p = (pq x y tx it mt tt ct) ∧ (FLP (z0 t 0).toNat (vT (z0 12)) (vT (z 12)) a1.toNat (z0 11 6).toNat (z0 11 7).toNat (z0 11 8).toNat (z0 11 9).toNat (z0 13 a1.toNat).toNat (z0 14 a1.toNat).toNat (z0 13 a1.toNat).toNat (z0 14 a1.toNat).toNat ∧ w 15 = fl a1.toNat (z0 11 6).toNat (z0 11 7).toNat (z0 11 8).toNat (z0 11 9).toNat (w0 15) ∧ SD (z0 t 0) (z0 t 1) (z 12) (z 13) (z 14) ∧ LY (z0 t 0) (z0 t 1) (z 12))
theorem m_59v {d : Nat} {z0 w0 : mZ} {x y tx it mt tt ct : Option Nat} (t : Nat) (a1 : Int) (hz : rz z0) (hw : rw_ w0) (ha1 : 0 ≤ a1 ∧ a1 ≤ 17) (ht : isT t) (hly : LY (z0 t 0) (z0 t 1) (z0 12)) (hsl : z0 11 4 = 3 * z0 t 0 ∧ z0 11 5 = z0 t 1) (hsd : SD (z0 t 0) (z0 t 1) (z0 12) (z0 13) (z0 14)) (hlt : a1 < z0 t 1) (hne : z0 13 a1.toNat / 3 ≠ z0 14 a1.toNat / 3) (hlr : LRq z0 z0 w0 w0 a1.toNat) : wc (d + 2) 59 [.ref 11, .int (Int32.ofInt a1)] (mk z0 w0 (pq x y tx it mt tt ct)) (poV S_59v z0 w0 (E_59v t a1 z0 w0 x y tx it mt tt ct)) := by
  have hst : st_ S_59v z0 w0 z0 w0 := st_rf hz hw
  have htb : 159 ≤ t ∧ t ≤ 192 := by have := ht; unfold isT at this; omega
  have hz72 := rd_11_4 hz
  have hz73 := rd_11_5 hz
  have hz74 := rd_11_6 hz
  have hz75 := rd_11_7 hz
  have hz76 := rd_11_8 hz
  have hz77 := rd_11_9 hz
  have hz78 := rd_T_0 ht hz
  have hz79 := rd_T_1 ht hz
  have hzt0 := rd_T_0 ht hz
  have hzt1 := rd_T_1 ht hz
  have hs1 := hsd a1.toNat (by omega)
  refine w_m rfl rfl ?_
  refine r_ld (pc' := 1) rfl rfl rfl rfl ?_
  refine r_gr (b := 15) (pc' := 4) rfl rfl sh_11 rfl pp_11_3 ?_
  refine r_ld (pc' := 5) rfl rfl rfl rfl ?_
  refine r_ld (pc' := 6) rfl rfl rfl rfl ?_
  have hb80 := rd_11_10 hw
  refine r_gl (pc' := 9) rfl rfl sh_11 rfl rfl ?_
  refine r_ls (pc' := 10) rfl rfl sh_15 rfl (by omega) (by omega) hst (inS_0 (by omega) (by omega) (by omega) (by omega)) (wr_15 ⟨by omega, by omega⟩) (fun w81 hq82 hs83 => ?_)
  have hqw := hq82
  refine r_ld (pc' := 11) rfl rfl rfl rfl ?_
  refine r_gr (b := 12) (pc' := 14) rfl rfl sh_11 rfl pp_11_0 ?_
  refine r_ld (pc' := 15) rfl rfl rfl rfl ?_
  refine r_gr (b := 13) (pc' := 18) rfl rfl sh_11 rfl pp_11_1 ?_
  refine r_ld (pc' := 19) rfl rfl rfl rfl ?_
  have hb84 := rd_13 hz (i := a1.toNat) (by omega)
  refine r_ia (pc' := 20) rfl rfl sh_13 rfl (by omega) (by omega) rfl ?_
  refine r_cSI (pc' := 23) rfl rfl rfl rfl rfl (m_143 (d := d) (z0 13 a1.toNat) hs83.1 hs83.2.1 ⟨by omega, by omega⟩) (fun v85 z86 w87 p88 h89 hs90 hE91 => ?_)
  obtain ⟨rfl, rfl, rfl, hE91⟩ := hE91
  have hb20 : v85.toNat = bh (z0 13 a1.toNat).toNat := by have := bh_cases (z0 13 a1.toNat).toNat; omega
  refine r_ld (pc' := 24) rfl rfl rfl rfl ?_
  have hb93 := rd_11_7 hz
  refine r_gi (pc' := 27) rfl rfl sh_11 rfl rfl ?_
  refine r_is (pc' := 28) rfl rfl sh_12 rfl (by omega) (by omega) hs83 (inS_s (inS_0 (by omega) (by omega) (by omega) (by omega))) (wr_12 ⟨by omega, by omega⟩) (fun z94 hq95 hs96 => ?_)
  have hq27 := hq95
  refine r_ld (pc' := 29) rfl rfl rfl rfl ?_
  refine r_gr (b := 12) (pc' := 32) rfl rfl sh_11 rfl pp_11_0 ?_
  refine r_ld (pc' := 33) rfl rfl rfl rfl ?_
  refine r_gr (b := 13) (pc' := 36) rfl rfl sh_11 rfl pp_11_1 ?_
  refine r_ld (pc' := 37) rfl rfl rfl rfl ?_
  refine r_ia (pc' := 38) rfl rfl sh_13 rfl (by omega) (by omega) ((congrFun (congrFun hq95 _) _).trans (mu_ne (by omega))) ?_
  refine r_cSI (pc' := 41) rfl rfl rfl rfl rfl (m_144 (d := d) (z0 13 a1.toNat) hs96.1 hs96.2.1 ⟨by omega, by omega⟩) (fun v97 z98 w99 p100 h101 hs102 hE103 => ?_)
  obtain ⟨rfl, rfl, rfl, hE103⟩ := hE103
  have hb38 : v97.toNat = ah (z0 13 a1.toNat).toNat := by have := ah_cases (z0 13 a1.toNat).toNat; omega
  refine r_ld (pc' := 42) rfl rfl rfl rfl ?_
  have hb105 := rd_11_8 hz
  refine r_gi (pc' := 45) rfl rfl sh_11 rfl ((congrFun (congrFun hq95 _) _).trans (mu_ne (by omega))) ?_
  refine r_is (pc' := 46) rfl rfl sh_12 rfl (by omega) (by omega) hs96 (inS_s (inS_0 (by omega) (by omega) (by omega) (by omega))) (wr_12 ⟨by omega, by omega⟩) (fun z106 hq107 hs108 => ?_)
  have hq45 := hq107
  refine r_ld (pc' := 47) rfl rfl rfl rfl ?_
  refine r_gr (b := 12) (pc' := 50) rfl rfl sh_11 rfl pp_11_0 ?_
  refine r_ld (pc' := 51) rfl rfl rfl rfl ?_
  refine r_gr (b := 14) (pc' := 54) rfl rfl sh_11 rfl pp_11_2 ?_
  refine r_ld (pc' := 55) rfl rfl rfl rfl ?_
  have hb109 := rd_14 hz (i := a1.toNat) (by omega)
  refine r_ia (pc' := 56) rfl rfl sh_14 rfl (by omega) (by omega) (((congrFun (congrFun hq107 _) _).trans (mu_ne (by omega))).trans ((congrFun (congrFun hq95 _) _).trans (mu_ne (by omega)))) ?_
  refine r_cSI (pc' := 59) rfl rfl rfl rfl rfl (m_143 (d := d) (z0 14 a1.toNat) hs108.1 hs108.2.1 ⟨by omega, by omega⟩) (fun v110 z111 w112 p113 h114 hs115 hE116 => ?_)
  obtain ⟨rfl, rfl, rfl, hE116⟩ := hE116
  have hb56 : v110.toNat = bh (z0 14 a1.toNat).toNat := by have := bh_cases (z0 14 a1.toNat).toNat; omega
  refine r_ld (pc' := 60) rfl rfl rfl rfl ?_
  have hb118 := rd_11_9 hz
  refine r_gi (pc' := 63) rfl rfl sh_11 rfl (((congrFun (congrFun hq107 _) _).trans (mu_ne (by omega))).trans ((congrFun (congrFun hq95 _) _).trans (mu_ne (by omega)))) ?_
  refine r_is (pc' := 64) rfl rfl sh_12 rfl (by omega) (by omega) hs108 (inS_s (inS_0 (by omega) (by omega) (by omega) (by omega))) (wr_12 ⟨by omega, by omega⟩) (fun z119 hq120 hs121 => ?_)
  have hq63 := hq120
  refine r_ld (pc' := 65) rfl rfl rfl rfl ?_
  refine r_gr (b := 12) (pc' := 68) rfl rfl sh_11 rfl pp_11_0 ?_
  refine r_ld (pc' := 69) rfl rfl rfl rfl ?_
  refine r_gr (b := 14) (pc' := 72) rfl rfl sh_11 rfl pp_11_2 ?_
  refine r_ld (pc' := 73) rfl rfl rfl rfl ?_
  refine r_ia (pc' := 74) rfl rfl sh_14 rfl (by omega) (by omega) (((congrFun (congrFun hq120 _) _).trans (mu_ne (by omega))).trans (((congrFun (congrFun hq107 _) _).trans (mu_ne (by omega))).trans ((congrFun (congrFun hq95 _) _).trans (mu_ne (by omega))))) ?_
  refine r_cSI (pc' := 77) rfl rfl rfl rfl rfl (m_144 (d := d) (z0 14 a1.toNat) hs121.1 hs121.2.1 ⟨by omega, by omega⟩) (fun v122 z123 w124 p125 h126 hs127 hE128 => ?_)
  obtain ⟨rfl, rfl, rfl, hE128⟩ := hE128
  have hb74 : v122.toNat = ah (z0 14 a1.toNat).toNat := by have := ah_cases (z0 14 a1.toNat).toNat; omega
  refine r_ld (pc' := 78) rfl rfl rfl rfl ?_
  have hb130 := rd_11_6 hz
  refine r_gi (pc' := 81) rfl rfl sh_11 rfl (((congrFun (congrFun hq120 _) _).trans (mu_ne (by omega))).trans (((congrFun (congrFun hq107 _) _).trans (mu_ne (by omega))).trans ((congrFun (congrFun hq95 _) _).trans (mu_ne (by omega))))) ?_
  refine r_is (pc' := 82) rfl rfl sh_12 rfl (by omega) (by omega) hs121 (inS_s (inS_0 (by omega) (by omega) (by omega) (by omega))) (wr_12 ⟨by omega, by omega⟩) (fun z131 hq132 hs133 => ?_)
  have hq81 := hq132
  refine r_ld (pc' := 83) rfl rfl rfl rfl ?_
  have gt0 : z131 t 0 = z0 t 0 := hs133.2.2.1 _ _ (notS_c (by omega) (notS_c (by omega) (notS_c (by omega) (notS_c (by omega) (notS_n)))))
  have gt1 : z131 t 1 = z0 t 1 := hs133.2.2.1 _ _ (notS_c (by omega) (notS_c (by omega) (notS_c (by omega) (notS_c (by omega) (notS_n)))))
  have hfl : FLP (z0 t 0).toNat (vT (z0 12)) (vT (z131 12)) a1.toNat (z0 11 6).toNat (z0 11 7).toNat (z0 11 8).toNat (z0 11 9).toNat (z0 13 a1.toNat).toNat (z0 14 a1.toNat).toNat (z0 13 a1.toNat).toNat (z0 14 a1.toNat).toNat := FLP_of (by omega) (fun s hs => (hly.2.2.2.1 s hs).1) hsd (by omega) hne hb20 hb38 hb56 hb74 hlr.1 hlr.2.1 hlr.2.2.1 hlr.2.2.2.1 (fun s => by rw [hq81, mu_sf, hq63, mu_sf, hq45, mu_sf, hq27, mu_sf])
  have hly2 : LY (z0 t 0) (z0 t 1) (z131 12) := LY_fl hly hfl (fun s hs => by have := rd_12 hs133.1 (i := s) (by omega); omega)
  have hb134 := rd_T_0 ht hz
  have hf135 : z131 t 0 = z0 t 0 := (((congrFun (congrFun hq132 _) _).trans (mu_ne (by omega))).trans (((congrFun (congrFun hq120 _) _).trans (mu_ne (by omega))).trans (((congrFun (congrFun hq107 _) _).trans (mu_ne (by omega))).trans ((congrFun (congrFun hq95 _) _).trans (mu_ne (by omega))))))
  have hb136 := rd_T_1 ht hz
  have hf137 : z131 t 1 = z0 t 1 := (((congrFun (congrFun hq132 _) _).trans (mu_ne (by omega))).trans (((congrFun (congrFun hq120 _) _).trans (mu_ne (by omega))).trans (((congrFun (congrFun hq107 _) _).trans (mu_ne (by omega))).trans ((congrFun (congrFun hq95 _) _).trans (mu_ne (by omega))))))
  have hb138 := rd_11_4 hz
  have hf139 : z131 11 4 = z0 11 4 := (((congrFun (congrFun hq132 _) _).trans (mu_ne (by omega))).trans (((congrFun (congrFun hq120 _) _).trans (mu_ne (by omega))).trans (((congrFun (congrFun hq107 _) _).trans (mu_ne (by omega))).trans ((congrFun (congrFun hq95 _) _).trans (mu_ne (by omega))))))
  have hb140 := rd_11_5 hz
  have hf141 : z131 11 5 = z0 11 5 := (((congrFun (congrFun hq132 _) _).trans (mu_ne (by omega))).trans (((congrFun (congrFun hq120 _) _).trans (mu_ne (by omega))).trans (((congrFun (congrFun hq107 _) _).trans (mu_ne (by omega))).trans ((congrFun (congrFun hq95 _) _).trans (mu_ne (by omega))))))
  refine r_cVV (pc' := 86) rfl rfl rfl rfl rfl sh_11 (m_55v (d := d) t hs133.1 hs133.2.1 ht (by rw [gt0, gt1]; exact hly2) (by first | omega | assumption | (simp only [hf135, hf137, hf139, hf141]; assumption))) (fun z143 w144 p145 hs147 hE148 => ?_)
  have hs149 := st_tr hs133 hs147 (sub_B rfl)
  obtain ⟨rfl, hE148⟩ := hE148
  have hsd2 := hE148
  rw [gt0, gt1] at hsd2
  have hF150 : z143 12 = z131 12 := (funext fun _ => hs147.2.2.1 _ _ (notS_c (by omega) (notS_c (by omega) notS_n)))
  exact r_ret rfl (po_V hs149 ⟨rfl, (by refine ⟨?_, ?_, ?_, ?_⟩; (simp only [hF150]; exact hfl); (funext j; rw [show w144 15 j = w81 15 j from (hs147.2.2.2 _ _ (notS_c (by omega) (notS_c (by omega) notS_n))), hqw, mu_sf]; unfold fl; rw [hlr.2.2.2.2]); (simp only [hF150]; exact hsd2); (simp only [hF150]; exact hly2))⟩)
end

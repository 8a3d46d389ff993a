section
/-! the reference: making a line SHORT -/
def SQ (m : Int) (T : Nat → Int) (e s1 s2 : Int) : Prop := 0 ≤ s1 ∧ s1 < s2 ∧ s2 < 3 * m ∧ T s1.toNat = e ∧ T s2.toNat = e ∧ ∀ s : Nat, (s : Int) < 3 * m → T s = e → (s : Int) = s1 ∨ (s : Int) = s2
theorem SQ_u {m e s1 s2 t1 t2 : Int} {T : Nat → Int} (h : SQ m T e s1 s2) (k : SQ m T e t1 t2) : t1 = s1 ∧ t2 = s2 := by
  obtain ⟨h1, h2, h3, h4, h5, h6⟩ := h
  obtain ⟨k1, k2, k3, k4, k5, k6⟩ := k
  have a := h6 t1.toNat (by omega) k4
  have b := h6 t2.toNat (by omega) k5
  omega
def F1 (T : Nat → Int) (e x s1 s2 : Int) : Prop := (s1 = -1 ∧ ∀ s : Nat, (s : Int) < x → T s ≠ e) ∨ (0 ≤ s1 ∧ s1 < x ∧ T s1.toNat = e ∧ ∀ s : Nat, (s : Int) < x → T s = e → (s : Int) = s1) ∨ (0 ≤ s1 ∧ s1 < s2 ∧ s2 < x ∧ T s1.toNat = e ∧ T s2.toNat = e)
section
variable {m E e x s1 s2 : Int} {T : Nat → Int}
theorem F1_0 : F1 T e 0 (-1) s2 := Or.inl ⟨rfl, fun s hs => absurd hs (by omega)⟩
theorem F1_n (h : F1 T e x s1 s2) (x0 : 0 ≤ x) (c : ¬ T x.toNat = e) : F1 T e (x + 1) s1 s2 := by
  have nx : ∀ s : Nat, (s : Int) < x + 1 → T s = e → (s : Int) < x := by
    intro s hs q
    by_cases d : (s : Int) = x
    · rw [show s = x.toNat by omega] at q; exact absurd q c
    · omega
  rcases h with ⟨a1, a2⟩ | ⟨a1, a2, a3, a4⟩ | ⟨a1, a2, a3, a4, a5⟩
  · exact Or.inl ⟨a1, fun s hs q => a2 s (nx s hs q) q⟩
  · exact Or.inr (Or.inl ⟨a1, by omega, a3, fun s hs q => a4 s (nx s hs q) q⟩)
  · exact Or.inr (Or.inr ⟨a1, a2, by omega, a4, a5⟩)
theorem F1_a (h : F1 T e x s1 s2) (x0 : 0 ≤ x) (c : T x.toNat = e) (h1 : s1 < 0) : F1 T e (x + 1) x s2 := by
  rcases h with ⟨a1, a2⟩ | ⟨a1, _⟩ | ⟨a1, _⟩
  · right; left
    refine ⟨x0, by omega, c, fun s hs q => ?_⟩
    by_cases d : (s : Int) = x
    · exact d
    · exact absurd q (a2 s (by omega))
  · omega
  · omega
theorem F1_b (ly : LY m E T) (h : F1 T e x s1 s2) (x0 : 0 ≤ x) (x1 : x < 3 * m) (c : T x.toNat = e) (h1 : 0 ≤ s1) : F1 T e (x + 1) s1 x := by
  rcases h with ⟨a1, a2⟩ | ⟨a1, a2, a3, a4⟩ | ⟨a1, a2, a3, a4, a5⟩
  · omega
  · exact Or.inr (Or.inr ⟨a1, a2, by omega, a3, c⟩)
  · have k := ly.two (a := s1.toNat) (b := s2.toNat) (c := x.toNat) (by omega) (by omega) (by omega) (by rw [a4, a5]) (by rw [a4, c])
    omega
theorem F1_e (ly : LY m E T) (h : F1 T e x s1 s2) (hx : x = 3 * m) (e0 : 0 ≤ e) (he : e < E) : SQ m T e s1 s2 := by
  subst hx
  obtain ⟨s0, q1, q2⟩ := ly.2.2.2.2.1 e.toNat (by omega)
  have q2 : T s0 = e := by omega
  rcases h with ⟨a1, a2⟩ | ⟨a1, a2, a3, a4⟩ | ⟨a1, a2, a3, a4, a5⟩
  · exact absurd q2 (a2 s0 q1)
  · obtain ⟨b, b1, b2, b3⟩ := ly.oth (a := s1.toNat) (by omega)
    have := a4 b b1 (by rw [b3, a3]); omega
  · refine ⟨a1, a2, a3, a4, a5, fun s hs q => ?_⟩
    have := ly.two (a := s1.toNat) (b := s2.toNat) (c := s) (by omega) (by omega) hs (by rw [a4, a5]) (by rw [a4, q])
    omega
end
/-- the reference's flip: the edge is told first in both pieces then -/
theorem FLQ_of {m E : Int} {T T' : Nat → Int} {e s1 s2 x y z w p q : Int} (ly : LY m E T) (e0 : 0 ≤ e) (sd : SQ m T e s1 s2) (ne : s1 / 3 ≠ s2 / 3) (hp : p = s1 / 3 * 3) (hq : q = s2 / 3 * 3)
    (hx : x = T (bh s1.toNat)) (hy : y = T (ah s1.toNat)) (hz : z = T (bh s2.toNat)) (hw : w = T (ah s2.toNat))
    (ht : ∀ s : Nat, T' s = if s = (q + 2).toNat then x else if s = (q + 1).toNat then w else if s = q.toNat then e else if s = (p + 2).toNat then z else if s = (p + 1).toNat then y else if s = p.toNat then e else T s) :
    FLP m.toNat (vT T) (vT T') e.toNat x.toNat y.toNat z.toNat w.toNat s1.toNat s2.toNat p.toNat q.toNat := by
  obtain ⟨a1, a2, a3, a4, a5, a6⟩ := sd
  have m0 := ly.1
  have tv : ∀ s : Nat, vT T' s = (if s = (q + 2).toNat then x else if s = (q + 1).toNat then w else if s = q.toNat then e else if s = (p + 2).toNat then z else if s = (p + 1).toNat then y else if s = p.toNat then e else T s).toNat := fun s => by show (T' s).toNat = _; rw [ht s]
  have b1 := bh_cases p.toNat; have b2 := ah_cases p.toNat; have b3 := bh_cases q.toNat; have b4 := ah_cases q.toNat
  refine ⟨by omega, by omega, by omega, by show (T _).toNat = _; rw [a4], by show (T _).toNat = _; rw [a5], fun s hs k => ?_, by rw [hx], by rw [hy], by rw [hz], by rw [hw], by omega, by omega, ?_, ?_, ?_, ?_, ?_, ?_, fun s h1 h2 => ?_⟩
  · have k : (T s).toNat = e.toNat := k
    have t0 := ly.2.2.2.1 s (by omega)
    have := a6 s (by omega) (by omega); omega
  · rw [tv, if_neg (by omega), if_neg (by omega), if_neg (by omega), if_neg (by omega), if_neg (by omega), if_pos rfl]
  · rw [tv, if_neg (by omega), if_neg (by omega), if_pos rfl]
  · rw [show bh p.toNat = (p + 1).toNat by omega, tv, if_neg (by omega), if_neg (by omega), if_neg (by omega), if_neg (by omega), if_pos rfl]
  · rw [show ah p.toNat = (p + 2).toNat by omega, tv, if_neg (by omega), if_neg (by omega), if_neg (by omega), if_pos rfl]
  · rw [show bh q.toNat = (q + 1).toNat by omega, tv, if_neg (by omega), if_pos rfl]
  · rw [show ah q.toNat = (q + 2).toNat by omega, tv, if_pos rfl]
  · rw [tv, if_neg (by omega), if_neg (by omega), if_neg (by omega), if_neg (by omega), if_neg (by omega), if_neg (by omega)]
theorem SHI_r {m E k : Int} {T0 T n : Nat → Int} {cf : Nat → Nat → Nat} {T' n' : Nat → Int} {cf' : Nat → Nat → Nat} {e x y z w s1 s2 r1 r2 : Nat} (h : SHI m E T0 T n cf k) (f : FLP m.toNat (vT T) (vT T') e x y z w s1 s2 r1 r2) (hT' : ∀ s : Nat, (s : Int) < 3 * m → 0 ≤ T' s) (hn : n' = fl e x y z w n) (dec : n' e < n e)
    (c0 : cf' k.toNat 0 = e) (c1 : cf' k.toNat 1 = x) (c2 : cf' k.toNat 2 = y) (c3 : cf' k.toNat 3 = z) (c4 : cf' k.toNat 4 = w) (hc : ∀ i j, i < k.toNat → j < 5 → cf' i j = cf i j) : SHI m E T0 T' n' cf' (k + 1) := by
  obtain ⟨ly, ft, ⟨o, oo, cn⟩, gx, ⟨e1, n1, n2⟩, sb, k0⟩ := h
  have lt18 := ly.lt
  obtain ⟨m0, m12, mE, tE, on, we⟩ := ly
  have hes : e < 18 := by have := lt18 s1 f.l1; rw [f.e1] at this; exact this
  have tE' : ∀ s : Nat, (s : Int) < 3 * m → 0 ≤ T' s ∧ T' s < E := by
    intro s hs
    have a := hT' s hs
    have b := f.sgT s
    have c := f.sgl (s := s) (by omega)
    have d := tE _ (show (((sg s1 s2 r1 r2 s : Nat)) : Int) < 3 * m by omega)
    have b : (T' s).toNat = (T (sg s1 s2 r1 r2 s)).toNat := b
    omega
  have on' : ∀ e : Nat, (e : Int) < E → ∃ s : Nat, (s : Int) < 3 * m ∧ T' s = e := by
    intro q hq
    obtain ⟨p, p1, p2⟩ := on q hq
    obtain ⟨s, g1, g2⟩ := f.sgsur p
    have g2 := g2 (by omega)
    refine ⟨s, by omega, ?_⟩
    have b := f.sgT s
    have b : (T' s).toNat = (T (sg s1 s2 r1 r2 s)).toNat := b
    rw [g1, p2] at b
    have := hT' s (by omega)
    omega
  have ly' : LY m E T' := ⟨m0, m12, mE, tE', on', f.we we⟩
  refine ⟨ly', by rw [hn]; exact f.ft ft, ⟨_, f.or oo, by rw [hn]; exact f.cn ft oo cn⟩, ?_, ?_, ?_, by omega⟩
  · have g := GX_cg (cf1 := cf') gx (fun _ _ => rfl) hc (fun _ _ => rfl)
    rw [show (k + 1).toNat = k.toNat + 1 by omega]
    exact GX_s g lt18 (by rw [c0, c1, c2, c3, c4]; exact f)
  · have bE : ∀ {p : Nat}, p < 3 * m.toNat → ((vT T p : Nat) : Int) < E := by
      intro p hp
      have := tE p (by omega)
      show (((T p).toNat : Nat) : Int) < E
      omega
    by_cases c : e1 = e
    · subst c
      have tr := ft.2 s1 f.l1
      rw [f.e1, f.hx, f.hy] at tr
      have nnx : 0 ≤ n x := by have := lt18 _ (bh_lt f.l1); rw [f.hx] at this; exact ft.1 x this
      rcases (show 0 < n x ∨ 0 < n y by unfold tri at tr; omega) with q | q
      · exact ⟨x, by have := bE (bh_lt f.l1); rw [f.hx] at this; exact this, by rw [hn, fl_ne f.nx]; exact q⟩
      · exact ⟨y, by have := bE (ah_lt f.l1); rw [f.hy] at this; exact this, by rw [hn, fl_ne f.ny]; exact q⟩
    · exact ⟨e1, n1, by rw [hn, fl_ne c]; exact n2⟩
  · have := sm_u (f := n) (g := n') (i := e) (fun j hj => by rw [hn, fl_ne hj]) 18 hes
    omega
abbrev nS (z : mZ) : Nat → Int := tr (rE z) (z 256)
def cfQ (z : mZ) (l i j : Nat) : Nat := (z 247 (5 * (1782 * l + i) + j)).toNat
theorem tw_sym (a b u v : Nat) (n : Nat → Int) : tw a b u v n = tw b a u v n := by
  unfold tw; funext j; rw [Int.add_comm (n a) (n b)]
theorem GR_sym {m : Nat} {T : Nat → Nat} {cf : Nat → Nat → Nat} {k a b e f : Nat} (h : GR m T cf k a b e f) : GR m T cf k b a e f := by
  obtain ⟨G, h1, h2, h3, h4, h5, h6, h7, h8, h9, h10, h11, h12⟩ := h
  exact ⟨G, h1, fun n q => by rw [tw_sym]; exact h2 n q, fun n q => by rw [tw_sym]; exact h3 n q, h5, h4, h6, h7, h10, h11, h8, h9, h12⟩
section
variable {x p a b e f : Int} {T n : Nat → Int}
end
/-- a line that is fair, as the reference keeps its road -/
def GRq (z0 z : mZ) (l : Nat) : Prop := z 254 l = 1 → GR (z0 225 26).toNat (vT (z0 235)) (cfQ z l) (z 248 l).toNat (z 251 l).toNat (z 252 l).toNat (z 249 l).toNat (z 250 l).toNat ∧ (∀ i j, i < (z 248 l).toNat → j < 5 → ((cfQ z l i j : Nat) : Int) < rE z0) ∧ z 251 l < rE z0 ∧ z 252 l < rE z0 ∧ z 249 l < rE z0 ∧ z 250 l < rE z0
end
section
abbrev FQ (z : mZ) (s1 s2 e : Int) : Int := max (z 256 (z 255 (bh s1.toNat)).toNat + z 256 (z 255 (bh s2.toNat)).toNat) (z 256 (z 255 (ah s1.toNat)).toNat + z 256 (z 255 (ah s2.toNat)).toNat) - z 256 e.toNat
def DF (z0 z : mZ) (l e s1 s2 : Int) : Prop := FLP (z0 225 26).toNat (vT (z0 255)) (vT (z 255)) e.toNat (z0 255 (bh s1.toNat)).toNat (z0 255 (ah s1.toNat)).toNat (z0 255 (bh s2.toNat)).toNat (z0 255 (ah s2.toNat)).toNat s1.toNat s2.toNat (s1 / 3 * 3).toNat (s2 / 3 * 3).toNat ∧
  (∀ j : Nat, z 256 j = if j = e.toNat then FQ z0 s1 s2 e else z0 256 j) ∧ z 248 l.toNat = z0 248 l.toNat + 1 ∧ (∀ j : Nat, j ≠ l.toNat → z 248 j = z0 248 j) ∧
  z 247 (5 * (1782 * l + z0 248 l.toNat)).toNat = e ∧ z 247 (5 * (1782 * l + z0 248 l.toNat) + 1).toNat = z0 255 (bh s1.toNat) ∧ z 247 (5 * (1782 * l + z0 248 l.toNat) + 2).toNat = z0 255 (ah s1.toNat) ∧ z 247 (5 * (1782 * l + z0 248 l.toNat) + 3).toNat = z0 255 (bh s2.toNat) ∧ z 247 (5 * (1782 * l + z0 248 l.toNat) + 4).toNat = z0 255 (ah s2.toNat) ∧
  (∀ i : Nat, (i : Int) < 5 * (1782 * l + z0 248 l.toNat) ∨ 5 * (1782 * l + z0 248 l.toNat) + 5 ≤ (i : Int) → z 247 i = z0 247 i)
theorem nS_T {z : mZ} (ly : LY (z 225 26) (rE z) (z 255)) {s : Nat} (hs : (s : Int) < 3 * z 225 26) : nS z (vT (z 255) s) = z 256 (z 255 s).toNat := tr_l (by have := ly.2.2.2.1 s hs; show (((z 255 s).toNat : Nat) : Int) < _; omega)
theorem co_sum {T : Nat → Nat} {n : Nat → Int} {u p : Nat} (h : CO T n u) (h0 : 3 * p ≤ u) (h1 : u < 3 * p + 3) : n (T (3 * p)) + n (T (3 * p + 1)) + n (T (3 * p + 2)) = 2 := by
  obtain ⟨a, b, c⟩ := h
  have q1 := bh_cases u; have q2 := ah_cases u
  rcases (show u = 3 * p ∨ u = 3 * p + 1 ∨ u = 3 * p + 2 by omega) with d | d | d
  · rw [show bh u = 3 * p + 1 by omega] at b; rw [show ah u = 3 * p + 2 by omega] at c; rw [d] at a; omega
  · rw [show bh u = 3 * p + 2 by omega] at b; rw [show ah u = 3 * p by omega] at c; rw [d] at a; omega
  · rw [show bh u = 3 * p by omega] at b; rw [show ah u = 3 * p + 1 by omega] at c; rw [d] at a; omega
theorem co_mk {T : Nat → Nat} {n : Nat → Int} {s p : Nat} (v : ∀ k, k < 3 → 0 ≤ n (T (3 * p + k)) ∧ n (T (3 * p + k)) ≤ 1) (sm2 : n (T (3 * p)) + n (T (3 * p + 1)) + n (T (3 * p + 2)) = 2) (h0 : 3 * p ≤ s) (h1 : s < 3 * p + 3) (hs : n (T s) = 0) : CO T n s ∧ ∀ u, 3 * p ≤ u → u < 3 * p + 3 → CO T n u → u = s := by
  have q1 := bh_cases s; have q2 := ah_cases s
  have v0 := v 0 (by omega); have v1 := v 1 (by omega); have v2 := v 2 (by omega)
  rw [Nat.add_zero] at v0
  rcases (show s = 3 * p ∨ s = 3 * p + 1 ∨ s = 3 * p + 2 by omega) with d | d | d
  · have hs' := hs; rw [d] at hs'
    refine ⟨⟨hs, by rw [show bh s = 3 * p + 1 by omega]; omega, by rw [show ah s = 3 * p + 2 by omega]; omega⟩, fun u g0 g1 c => ?_⟩
    have cu := c.1
    rcases (show u = 3 * p ∨ u = 3 * p + 1 ∨ u = 3 * p + 2 by omega) with e | e | e
    · omega
    · rw [e] at cu; omega
    · rw [e] at cu; omega
  · have hs' := hs; rw [d] at hs'
    refine ⟨⟨hs, by rw [show bh s = 3 * p + 2 by omega]; omega, by rw [show ah s = 3 * p by omega]; omega⟩, fun u g0 g1 c => ?_⟩
    have cu := c.1
    rcases (show u = 3 * p ∨ u = 3 * p + 1 ∨ u = 3 * p + 2 by omega) with e | e | e
    · rw [e] at cu; omega
    · omega
    · rw [e] at cu; omega
  · have hs' := hs; rw [d] at hs'
    refine ⟨⟨hs, by rw [show bh s = 3 * p by omega]; omega, by rw [show ah s = 3 * p + 1 by omega]; omega⟩, fun u g0 g1 c => ?_⟩
    have cu := c.1
    rcases (show u = 3 * p ∨ u = 3 * p + 1 ∨ u = 3 * p + 2 by omega) with e | e | e
    · rw [e] at cu; omega
    · rw [e] at cu; omega
    · omega
end
section
/-! methods, printed by wip/tools/vcg.py -/
/-- LoopGroundModel findSides -/
abbrev S_195v  : mS := [(225, 225, 53, 53), (225, 225, 54, 54)]
abbrev E_195v (a1 : Int) (z0 w0 : mZ) (x y tx it mt tt ct : Option Nat) : Int → mZ → mZ → mP → Prop := fun v z w p => p = (pq x y tx it mt tt ct) ∧ 0 ≤ v ∧ v ≤ 1 ∧ (SQ (z0 225 26) (z0 255) a1 (z 225 53) (z 225 54) ∧ (v = 1 → z 225 53 / 3 ≠ z 225 54 / 3))
theorem m_195v {d : Nat} {z0 w0 : mZ} {x y tx it mt tt ct : Option Nat} (a1 : Int) (hz : rz z0) (hw : rw_ w0) (ha1 : 0 ≤ a1 ∧ a1 ≤ 17) (hly : LY (z0 225 26) (rE z0) (z0 255)) (he : a1 < rE z0) : wc (d + 1) 195 [.ref 225, .int (Int32.ofInt a1)] (mk z0 w0 (pq x y tx it mt tt ct)) (poI S_195v z0 w0 (E_195v a1 z0 w0 x y tx it mt tt ct)) := by
  have hst : st_ S_195v z0 w0 z0 w0 := st_rf hz hw
  have hz28 := rd_225_26 hz
  have hm26 := rd_225_26 hz
  have hrE : rE z0 = 3 * z0 225 26 / 2 := rfl
  have key : ∀ N : Nat, (∀ (x2 : Int) (z w : mZ), 0 ≤ x2 ∧ x2 ≤ 36 → st_ S_195v z0 w0 z w → (F1 (z0 255) a1 x2 (z 225 53) (z 225 54)) → (x2 ≤ 3 * z0 225 26) → 46 * (36 - x2) + 37 < (N : Int) → wp_ (d) 195 3 (some .boolean) (12, [(0, .ref 225), (1, .int (Int32.ofInt a1)), (2, .int (Int32.ofInt x2))], [], mk z w (pq x y tx it mt tt ct)) (poI S_195v z0 w0 (E_195v a1 z0 w0 x y tx it mt tt ct))) := by
    intro N
    induction N with
    | zero =>
      intro x2 z w
      intros; exfalso; omega
    | succ N ih =>
      have ih0 := ih; clear ih
      intro x2 z w  hx2 hst as1 as2 hM
      refine r_ld (pc' := 13) rfl rfl rfl rfl ?_
      refine r_c0 (pc' := 14) rfl rfl ?_
      refine r_ld (pc' := 15) rfl rfl rfl rfl ?_
      have hb29 := rd_225_26 hz
      refine r_gi (pc' := 18) rfl rfl sh_225 rfl (hst.2.2.1 _ _ (notS_c (by omega) (notS_c (by omega) notS_n))) ?_
      refine r_mul (pc' := 19) rfl rfl ?_
      refine r_ige (pc' := 22) rfl rfl ⟨by omega, by omega⟩ ⟨by omega, by omega⟩ (fun hc30 => ?_) (fun hc30 => ?_)
      · skip
        refine r_ld (pc' := 62) rfl rfl rfl rfl ?_
        have hb31 := rd_225_53 hst.1
        refine r_gi (pc' := 65) rfl rfl sh_225 rfl rfl ?_
        refine r_c0 (pc' := 66) rfl rfl ?_
        refine r_dvg (pc' := 67) rfl rfl ⟨by omega, by omega⟩ ⟨by decide, by decide⟩ (by decide) (fun v32 h33 h34 => ?_)
        refine r_ld (pc' := 68) rfl rfl rfl rfl ?_
        have hb35 := rd_225_54 hst.1
        refine r_gi (pc' := 71) rfl rfl sh_225 rfl rfl ?_
        refine r_c0 (pc' := 72) rfl rfl ?_
        refine r_dvg (pc' := 73) rfl rfl ⟨by omega, by omega⟩ ⟨by decide, by decide⟩ (by decide) (fun v36 h37 h38 => ?_)
        refine r_ieq (pc' := 76) rfl rfl ⟨by omega, by omega⟩ ⟨by omega, by omega⟩ (fun hc39 => ?_) (fun hc39 => ?_)
        · skip
          refine r_c0 (pc' := 81) rfl rfl ?_
          exact r_rz rfl (by omega) (po_I hst ⟨by decide, by decide⟩ ⟨rfl, by omega, by omega, (by have hsq := F1_e hly as1 (by omega) (by omega) (by omega); have g1 := hsq.1; have g2 := hsq.2.1; exact ⟨hsq, fun h => by omega⟩)⟩)
        · skip
          refine r_c0 (pc' := 77) rfl rfl ?_
          refine r_go rfl ?_
          exact r_rz rfl (by omega) (po_I hst ⟨by decide, by decide⟩ ⟨rfl, by omega, by omega, (by have hsq := F1_e hly as1 (by omega) (by omega) (by omega); have g1 := hsq.1; have g2 := hsq.2.1; exact ⟨hsq, fun h => by omega⟩)⟩)
      · skip
        refine r_ld (pc' := 23) rfl rfl rfl rfl ?_
        refine r_gr (b := 255) (pc' := 26) rfl rfl sh_225 rfl pp_225_51 ?_
        refine r_ld (pc' := 27) rfl rfl rfl rfl ?_
        have hb40 := rd_255 hz (i := x2.toNat) (by omega)
        refine r_ia (pc' := 28) rfl rfl sh_255 rfl (by omega) (by omega) (hst.2.2.1 _ _ (notS_c (by omega) (notS_c (by omega) notS_n))) ?_
        refine r_ld (pc' := 29) rfl rfl rfl rfl ?_
        refine r_ieq (pc' := 32) rfl rfl ⟨by omega, by omega⟩ ⟨by omega, by omega⟩ (fun hc41 => ?_) (fun hc41 => ?_)
        · skip
          refine r_ld (pc' := 36) rfl rfl rfl rfl ?_
          have hb42 := rd_225_53 hst.1
          refine r_gi (pc' := 39) rfl rfl sh_225 rfl rfl ?_
          refine r_zge (pc' := 42) rfl rfl ⟨by omega, by omega⟩ (fun hc43 => ?_) (fun hc43 => ?_)
          · skip
            refine r_ld (pc' := 51) rfl rfl rfl rfl ?_
            refine r_ld (pc' := 52) rfl rfl rfl rfl ?_
            refine r_pi (pc' := 55) rfl rfl sh_225 rfl rfl hst (inS_s (inS_0 (by omega) (by omega) (by omega) (by omega))) (wr_225_54 ⟨by omega, by omega⟩) (fun z44 hq45 hs46 => ?_)
            refine r_inc (pc' := 58) (lv' := [(0, _), (1, _)]) rfl rfl rfl rfl rfl ?_
            refine r_go rfl ?_
            have hf47 : z44 225 53 = z 225 53 := ((congrFun (congrFun hq45 _) _).trans (mu_ne (by omega)))
            have hf48 : z44 225 54 = x2 := ((congrFun (congrFun hq45 _) _).trans mu_eq)
            exact w_lv (sub_c rfl (sub_c rfl (sub_c rfl sub_n))) rfl (ih0 (x2 + 1) z44 w ⟨by omega, by omega⟩ hs46 (by first | exact F1_n as1 (by omega) (by omega) | (simp only [hf47, hf48]; first | exact F1_0 | exact F1_a as1 (by omega) (by omega) (by omega) | exact F1_b hly as1 (by omega) (by omega) (by omega) (by omega))) (by first | omega | assumption | (simp only [hf47, hf48]; assumption)) (by omega))
          · skip
            refine r_ld (pc' := 43) rfl rfl rfl rfl ?_
            refine r_ld (pc' := 44) rfl rfl rfl rfl ?_
            refine r_pi (pc' := 47) rfl rfl sh_225 rfl rfl hst (inS_0 (by omega) (by omega) (by omega) (by omega)) (wr_225_53 ⟨by omega, by omega⟩) (fun z49 hq50 hs51 => ?_)
            refine r_go rfl ?_
            refine r_inc (pc' := 58) (lv' := [(0, _), (1, _)]) rfl rfl rfl rfl rfl ?_
            refine r_go rfl ?_
            have hf52 : z49 225 53 = x2 := ((congrFun (congrFun hq50 _) _).trans mu_eq)
            have hb53 := rd_225_54 hst.1
            have hf54 : z49 225 54 = z 225 54 := ((congrFun (congrFun hq50 _) _).trans (mu_ne (by omega)))
            exact w_lv (sub_c rfl (sub_c rfl (sub_c rfl sub_n))) rfl (ih0 (x2 + 1) z49 w ⟨by omega, by omega⟩ hs51 (by first | exact F1_n as1 (by omega) (by omega) | (simp only [hf52, hf54]; first | exact F1_0 | exact F1_a as1 (by omega) (by omega) (by omega) | exact F1_b hly as1 (by omega) (by omega) (by omega) (by omega))) (by first | omega | assumption | (simp only [hf52, hf54]; assumption)) (by omega))
        · skip
          refine r_go rfl ?_
          refine r_inc (pc' := 58) (lv' := [(0, _), (1, _)]) rfl rfl rfl rfl rfl ?_
          refine r_go rfl ?_
          have hb55 := rd_225_53 hst.1
          have hb56 := rd_225_54 hst.1
          exact w_lv (sub_c rfl (sub_c rfl (sub_c rfl sub_n))) rfl (ih0 (x2 + 1) z w ⟨by omega, by omega⟩ hst (by first | exact F1_n as1 (by omega) (by omega) | (simp only []; first | exact F1_0 | exact F1_a as1 (by omega) (by omega) (by omega) | exact F1_b hly as1 (by omega) (by omega) (by omega) (by omega))) (by first | omega | assumption) (by omega))
  refine w_m rfl rfl ?_
  refine r_ld (pc' := 1) rfl rfl rfl rfl ?_
  refine r_c0 (pc' := 2) rfl rfl ?_
  refine r_pi (pc' := 5) rfl rfl sh_225 rfl rfl hst (inS_0 (by omega) (by omega) (by omega) (by omega)) (wr_225_53 ⟨by omega, by omega⟩) (fun z57 hq58 hs59 => ?_)
  refine r_ld (pc' := 6) rfl rfl rfl rfl ?_
  refine r_c0 (pc' := 7) rfl rfl ?_
  refine r_pi (pc' := 10) rfl rfl sh_225 rfl rfl hs59 (inS_s (inS_0 (by omega) (by omega) (by omega) (by omega))) (wr_225_54 ⟨by omega, by omega⟩) (fun z60 hq61 hs62 => ?_)
  refine r_c0 (pc' := 11) rfl rfl ?_
  refine r_st (pc' := 12) (lv' := [(2, _), (0, _), (1, _)]) rfl rfl rfl rfl ?_
  have hf63 : z60 225 53 = (-1) := (((congrFun (congrFun hq61 _) _).trans (mu_ne (by omega))).trans ((congrFun (congrFun hq58 _) _).trans mu_eq))
  have hf64 : z60 225 54 = (-1) := ((congrFun (congrFun hq61 _) _).trans mu_eq)
  exact w_lv (sub_c rfl (sub_c rfl (sub_c rfl sub_n))) rfl ((key ((46 * (36 - 0) + 37 : Int).toNat + 1)) 0 z60 w0 ⟨by omega, by omega⟩ hs62 (by first | exact F1_n as1 (by omega) (by omega) | (simp only [hf63, hf64]; first | exact F1_0 | exact F1_a as1 (by omega) (by omega) (by omega) | exact F1_b hly as1 (by omega) (by omega) (by omega) (by omega))) (by first | omega | assumption | (simp only [hf63, hf64]; assumption)) (by omega))
/-- LoopGroundModel flipped -/
abbrev S_196v  : mS := []
abbrev E_196v (a1 : Int) (z0 w0 : mZ) (x y tx it mt tt ct : Option Nat) : Int → mZ → mZ → mP → Prop := fun v z w p => p = (pq x y tx it mt tt ct) ∧ z0 = z ∧ w0 = w ∧ (-9999) ≤ v ∧ v ≤ 19998 ∧ (v = FQ z0 (z0 225 53) (z0 225 54) a1)
theorem m_196v {d : Nat} {z0 w0 : mZ} {x y tx it mt tt ct : Option Nat} (a1 : Int) (hz : rz z0) (hw : rw_ w0) (ha1 : 0 ≤ a1 ∧ a1 ≤ 17) (hsq : SQ (z0 225 26) (z0 255) a1 (z0 225 53) (z0 225 54)) : wc (d + 2) 196 [.ref 225, .int (Int32.ofInt a1)] (mk z0 w0 (pq x y tx it mt tt ct)) (poI S_196v z0 w0 (E_196v a1 z0 w0 x y tx it mt tt ct)) := by
  have hst : st_ S_196v z0 w0 z0 w0 := st_rf hz hw
  have hz46 := rd_225_26 hz
  have hz47 := rd_225_53 hz
  have hz48 := rd_225_54 hz
  have hm26 := rd_225_26 hz
  have hrE : rE z0 = 3 * z0 225 26 / 2 := rfl
  have g1 := hsq.1
  have g2 := hsq.2.1
  have g3 := hsq.2.2.1
  refine w_m rfl rfl ?_
  refine r_ld (pc' := 1) rfl rfl rfl rfl ?_
  refine r_gr (b := 256) (pc' := 4) rfl rfl sh_225 rfl pp_225_52 ?_
  refine r_ld (pc' := 5) rfl rfl rfl rfl ?_
  refine r_gr (b := 255) (pc' := 8) rfl rfl sh_225 rfl pp_225_51 ?_
  refine r_ld (pc' := 9) rfl rfl rfl rfl ?_
  have hb49 := rd_225_53 hz
  refine r_gi (pc' := 12) rfl rfl sh_225 rfl rfl ?_
  refine r_c0 (pc' := 13) rfl rfl ?_
  refine r_cSI (pc' := 16) rfl rfl rfl rfl rfl (m_177v (d := d) (z0 225 53) 1 hst.1 hst.2.1 ⟨by omega, by omega⟩ ⟨by omega, by omega⟩) (fun v50 z51 w52 p53 h54 hs55 hE56 => ?_)
  obtain ⟨rfl, rfl, rfl, hE56⟩ := hE56
  have h13 := (hE56.2.2).1 rfl
  have hb58 := rd_255 hz (i := v50.toNat) (by omega)
  refine r_ia (pc' := 17) rfl rfl sh_255 rfl (by omega) (by omega) rfl ?_
  have hb59 := rd_256 hz (i := (z0 255 v50.toNat).toNat) (by omega)
  refine r_ia (pc' := 18) rfl rfl sh_256 rfl (by omega) (by omega) rfl ?_
  refine r_ld (pc' := 19) rfl rfl rfl rfl ?_
  refine r_gr (b := 256) (pc' := 22) rfl rfl sh_225 rfl pp_225_52 ?_
  refine r_ld (pc' := 23) rfl rfl rfl rfl ?_
  refine r_gr (b := 255) (pc' := 26) rfl rfl sh_225 rfl pp_225_51 ?_
  refine r_ld (pc' := 27) rfl rfl rfl rfl ?_
  have hb60 := rd_225_54 hz
  refine r_gi (pc' := 30) rfl rfl sh_225 rfl rfl ?_
  refine r_c0 (pc' := 31) rfl rfl ?_
  refine r_cSI (pc' := 34) rfl rfl rfl rfl rfl (m_177v (d := d) (z0 225 54) 1 hst.1 hst.2.1 ⟨by omega, by omega⟩ ⟨by omega, by omega⟩) (fun v61 z62 w63 p64 h65 hs66 hE67 => ?_)
  obtain ⟨rfl, rfl, rfl, hE67⟩ := hE67
  have h31 := (hE67.2.2).1 rfl
  have hb69 := rd_255 hz (i := v61.toNat) (by omega)
  refine r_ia (pc' := 35) rfl rfl sh_255 rfl (by omega) (by omega) rfl ?_
  have hb70 := rd_256 hz (i := (z0 255 v61.toNat).toNat) (by omega)
  refine r_ia (pc' := 36) rfl rfl sh_256 rfl (by omega) (by omega) rfl ?_
  refine r_add (pc' := 37) rfl rfl ?_
  refine r_st (pc' := 38) (lv' := [(2, _), (0, _), (1, _)]) rfl rfl rfl rfl ?_
  refine r_ld (pc' := 39) rfl rfl rfl rfl ?_
  refine r_gr (b := 256) (pc' := 42) rfl rfl sh_225 rfl pp_225_52 ?_
  refine r_ld (pc' := 43) rfl rfl rfl rfl ?_
  refine r_gr (b := 255) (pc' := 46) rfl rfl sh_225 rfl pp_225_51 ?_
  refine r_ld (pc' := 47) rfl rfl rfl rfl ?_
  refine r_gi (pc' := 50) rfl rfl sh_225 rfl rfl ?_
  refine r_c0 (pc' := 51) rfl rfl ?_
  refine r_cSI (pc' := 54) rfl rfl rfl rfl rfl (m_177v (d := d) (z0 225 53) 2 hst.1 hst.2.1 ⟨by omega, by omega⟩ ⟨by omega, by omega⟩) (fun v71 z72 w73 p74 h75 hs76 hE77 => ?_)
  obtain ⟨rfl, rfl, rfl, hE77⟩ := hE77
  have h51 := (hE77.2.2).2 rfl
  have hb79 := rd_255 hz (i := v71.toNat) (by omega)
  refine r_ia (pc' := 55) rfl rfl sh_255 rfl (by omega) (by omega) rfl ?_
  have hb80 := rd_256 hz (i := (z0 255 v71.toNat).toNat) (by omega)
  refine r_ia (pc' := 56) rfl rfl sh_256 rfl (by omega) (by omega) rfl ?_
  refine r_ld (pc' := 57) rfl rfl rfl rfl ?_
  refine r_gr (b := 256) (pc' := 60) rfl rfl sh_225 rfl pp_225_52 ?_
  refine r_ld (pc' := 61) rfl rfl rfl rfl ?_
  refine r_gr (b := 255) (pc' := 64) rfl rfl sh_225 rfl pp_225_51 ?_
  refine r_ld (pc' := 65) rfl rfl rfl rfl ?_
  refine r_gi (pc' := 68) rfl rfl sh_225 rfl rfl ?_
  refine r_c0 (pc' := 69) rfl rfl ?_
  refine r_cSI (pc' := 72) rfl rfl rfl rfl rfl (m_177v (d := d) (z0 225 54) 2 hst.1 hst.2.1 ⟨by omega, by omega⟩ ⟨by omega, by omega⟩) (fun v81 z82 w83 p84 h85 hs86 hE87 => ?_)
  obtain ⟨rfl, rfl, rfl, hE87⟩ := hE87
  have h69 := (hE87.2.2).2 rfl
  have hb89 := rd_255 hz (i := v81.toNat) (by omega)
  refine r_ia (pc' := 73) rfl rfl sh_255 rfl (by omega) (by omega) rfl ?_
  have hb90 := rd_256 hz (i := (z0 255 v81.toNat).toNat) (by omega)
  refine r_ia (pc' := 74) rfl rfl sh_256 rfl (by omega) (by omega) rfl ?_
  refine r_add (pc' := 75) rfl rfl ?_
  refine r_st (pc' := 76) (lv' := [(3, _), (2, _), (0, _), (1, _)]) rfl rfl rfl rfl ?_
  refine r_ld (pc' := 77) rfl rfl rfl rfl ?_
  refine r_ld (pc' := 78) rfl rfl rfl rfl ?_
  refine r_ile (pc' := 81) rfl rfl ⟨by omega, by omega⟩ ⟨by omega, by omega⟩ (fun hc91 => ?_) (fun hc91 => ?_)
  · skip
    refine r_ld (pc' := 86) rfl rfl rfl rfl ?_
    refine r_ld (pc' := 87) rfl rfl rfl rfl ?_
    refine r_gr (b := 256) (pc' := 90) rfl rfl sh_225 rfl pp_225_52 ?_
    refine r_ld (pc' := 91) rfl rfl rfl rfl ?_
    have hb92 := rd_256 hz (i := a1.toNat) (by omega)
    refine r_ia (pc' := 92) rfl rfl sh_256 rfl (by omega) (by omega) rfl ?_
    refine r_sub (pc' := 93) rfl rfl ?_
    exact r_ri rfl (po_I hst ⟨by omega, by omega⟩ ⟨rfl, rfl, rfl, by omega, by omega, (by unfold FQ; rw [← h13, ← h31, ← h51, ← h69]; omega)⟩)
  · skip
    refine r_ld (pc' := 82) rfl rfl rfl rfl ?_
    refine r_go rfl ?_
    refine r_ld (pc' := 87) rfl rfl rfl rfl ?_
    refine r_gr (b := 256) (pc' := 90) rfl rfl sh_225 rfl pp_225_52 ?_
    refine r_ld (pc' := 91) rfl rfl rfl rfl ?_
    have hb93 := rd_256 hz (i := a1.toNat) (by omega)
    refine r_ia (pc' := 92) rfl rfl sh_256 rfl (by omega) (by omega) rfl ?_
    refine r_sub (pc' := 93) rfl rfl ?_
    exact r_ri rfl (po_I hst ⟨by omega, by omega⟩ ⟨rfl, rfl, rfl, by omega, by omega, (by unfold FQ; rw [← h13, ← h31, ← h51, ← h69]; omega)⟩)
end
section
/-! methods, printed by wip/tools/vcg.py -/
/-- LoopGroundModel doFlip -/
abbrev S_198  : mS := [(225, 225, 53, 53), (225, 225, 54, 54), (256, 256, 0, 17), (247, 247, 0, 71279), (248, 248, 0, 7), (255, 255, 0, 35)]
abbrev E_198 (a1 : Int) (a2 : Int) (z0 w0 : mZ) (x y tx it mt tt ct : Option Nat) : mZ → mZ → mP → Prop := fun z w p => p = (pq x y tx it mt tt ct) ∧ (∃ s1 s2, SQ (z0 225 26) (z0 255) a2 s1 s2 ∧ DF z0 z a1 a2 s1 s2 ∧ FQ z0 s1 s2 a2 < z0 256 a2.toNat)
theorem m_198 {d : Nat} {z0 w0 : mZ} {x y tx it mt tt ct : Option Nat} (a1 : Int) (a2 : Int) (hz : rz z0) (hw : rw_ w0) (ha1 : 0 ≤ a1 ∧ a1 ≤ 7) (ha2 : 0 ≤ a2 ∧ a2 ≤ 17) (hly : LY (z0 225 26) (rE z0) (z0 255)) (he : a2 < rE z0) (hex : ∃ s1 s2, SQ (z0 225 26) (z0 255) a2 s1 s2 ∧ s1 / 3 ≠ s2 / 3 ∧ 0 ≤ FQ z0 s1 s2 a2 ∧ FQ z0 s1 s2 a2 < z0 256 a2.toNat) (hfm : z0 248 a1.toNat ≤ 1781) : wc (d + 3) 198 [.ref 225, .int (Int32.ofInt a1), .int (Int32.ofInt a2)] (mk z0 w0 (pq x y tx it mt tt ct)) (poV S_198 z0 w0 (E_198 a1 a2 z0 w0 x y tx it mt tt ct)) := by
  have hst : st_ S_198 z0 w0 z0 w0 := st_rf hz hw
  have hz104 := rd_225_26 hz
  have hm26 := rd_225_26 hz
  have hrE : rE z0 = 3 * z0 225 26 / 2 := rfl
  have h256 := rd_256 hz (i := a2.toNat) (by omega)
  have h248 := rd_248 hz (i := a1.toNat) (by omega)
  refine w_m rfl rfl ?_
  refine r_ld (pc' := 1) rfl rfl rfl rfl ?_
  refine r_ld (pc' := 2) rfl rfl rfl rfl ?_
  have hb105 := rd_225_26 hz
  refine r_cVI (pc' := 5) rfl rfl rfl rfl rfl sh_225 (m_195v (d := d + 1) a2 hst.1 hst.2.1 ⟨by omega, by omega⟩ (by first | omega | assumption) (by first | omega | assumption)) (fun v106 z107 w108 p109 h110 hs111 hE112 => ?_)
  have hs113 := st_tr hst hs111 (sub_B rfl)
  obtain ⟨rfl, hE112⟩ := hE112
  have h256f : ∀ j, z107 256 j = z0 256 j := fun j => (hs111.2.2.1 _ _ (notS_c (by omega) (notS_c (by omega) notS_n)))
  have hsq := hE112.2.2.1
  obtain ⟨u1, u2, hu, hune, hu0, hu1⟩ := hex
  obtain ⟨y1, y2⟩ := SQ_u hsq hu
  subst y1 y2
  have g1 := hsq.1
  have g2 := hsq.2.1
  have g3 := hsq.2.2.1
  refine r_al (pc' := 6) rfl rfl rfl rfl ?_
  refine r_c0 (pc' := 7) rfl rfl ?_
  refine r_cs (pc' := 10) rfl (by decide) rfl ?_
  refine r_ld (pc' := 11) rfl rfl rfl rfl ?_
  refine r_mul (pc' := 12) rfl rfl ?_
  refine r_ld (pc' := 13) rfl rfl rfl rfl ?_
  refine r_gr (b := 248) (pc' := 16) rfl rfl sh_225 rfl pp_225_44 ?_
  refine r_ld (pc' := 17) rfl rfl rfl rfl ?_
  have hb114 := rd_248 hz (i := a1.toNat) (by omega)
  refine r_ia (pc' := 18) rfl rfl sh_248 rfl (by omega) (by omega) (hs111.2.2.1 _ _ (notS_c (by omega) (notS_c (by omega) notS_n))) ?_
  refine r_add (pc' := 19) rfl rfl ?_
  refine r_mul (pc' := 20) rfl rfl ?_
  refine r_st (pc' := 21) (lv' := [(3, _), (0, _), (1, _), (2, _)]) rfl rfl rfl rfl ?_
  refine r_ld (pc' := 22) rfl rfl rfl rfl ?_
  refine r_gr (b := 255) (pc' := 25) rfl rfl sh_225 rfl pp_225_51 ?_
  refine r_ld (pc' := 26) rfl rfl rfl rfl ?_
  have hb115 := rd_225_53 hs113.1
  refine r_gi (pc' := 29) rfl rfl sh_225 rfl rfl ?_
  refine r_c0 (pc' := 30) rfl rfl ?_
  refine r_cSI (pc' := 33) rfl rfl rfl rfl rfl (m_177v (d := d + 1) (z107 225 53) 1 hs113.1 hs113.2.1 ⟨by omega, by omega⟩ ⟨by omega, by omega⟩) (fun v116 z117 w118 p119 h120 hs121 hE122 => ?_)
  obtain ⟨rfl, rfl, rfl, hE122⟩ := hE122
  have h30 := (hE122.2.2).1 rfl
  have hb124 := rd_255 hz (i := v116.toNat) (by omega)
  refine r_ia (pc' := 34) rfl rfl sh_255 rfl (by omega) (by omega) (hs111.2.2.1 _ _ (notS_c (by omega) (notS_c (by omega) notS_n))) ?_
  refine r_st (pc' := 36) (lv' := [(4, _), (3, _), (0, _), (1, _), (2, _)]) rfl rfl rfl rfl ?_
  refine r_ld (pc' := 37) rfl rfl rfl rfl ?_
  refine r_gr (b := 255) (pc' := 40) rfl rfl sh_225 rfl pp_225_51 ?_
  refine r_ld (pc' := 41) rfl rfl rfl rfl ?_
  refine r_gi (pc' := 44) rfl rfl sh_225 rfl rfl ?_
  refine r_c0 (pc' := 45) rfl rfl ?_
  refine r_cSI (pc' := 48) rfl rfl rfl rfl rfl (m_177v (d := d + 1) (z107 225 53) 2 hs113.1 hs113.2.1 ⟨by omega, by omega⟩ ⟨by omega, by omega⟩) (fun v125 z126 w127 p128 h129 hs130 hE131 => ?_)
  obtain ⟨rfl, rfl, rfl, hE131⟩ := hE131
  have h45 := (hE131.2.2).2 rfl
  have hb133 := rd_255 hz (i := v125.toNat) (by omega)
  refine r_ia (pc' := 49) rfl rfl sh_255 rfl (by omega) (by omega) (hs111.2.2.1 _ _ (notS_c (by omega) (notS_c (by omega) notS_n))) ?_
  refine r_st (pc' := 51) (lv' := [(5, _), (4, _), (3, _), (0, _), (1, _), (2, _)]) rfl rfl rfl rfl ?_
  refine r_ld (pc' := 52) rfl rfl rfl rfl ?_
  refine r_gr (b := 255) (pc' := 55) rfl rfl sh_225 rfl pp_225_51 ?_
  refine r_ld (pc' := 56) rfl rfl rfl rfl ?_
  have hb134 := rd_225_54 hs113.1
  refine r_gi (pc' := 59) rfl rfl sh_225 rfl rfl ?_
  refine r_c0 (pc' := 60) rfl rfl ?_
  refine r_cSI (pc' := 63) rfl rfl rfl rfl rfl (m_177v (d := d + 1) (z107 225 54) 1 hs113.1 hs113.2.1 ⟨by omega, by omega⟩ ⟨by omega, by omega⟩) (fun v135 z136 w137 p138 h139 hs140 hE141 => ?_)
  obtain ⟨rfl, rfl, rfl, hE141⟩ := hE141
  have h60 := (hE141.2.2).1 rfl
  have hb143 := rd_255 hz (i := v135.toNat) (by omega)
  refine r_ia (pc' := 64) rfl rfl sh_255 rfl (by omega) (by omega) (hs111.2.2.1 _ _ (notS_c (by omega) (notS_c (by omega) notS_n))) ?_
  refine r_st (pc' := 66) (lv' := [(6, _), (5, _), (4, _), (3, _), (0, _), (1, _), (2, _)]) rfl rfl rfl rfl ?_
  refine r_ld (pc' := 67) rfl rfl rfl rfl ?_
  refine r_gr (b := 255) (pc' := 70) rfl rfl sh_225 rfl pp_225_51 ?_
  refine r_ld (pc' := 71) rfl rfl rfl rfl ?_
  refine r_gi (pc' := 74) rfl rfl sh_225 rfl rfl ?_
  refine r_c0 (pc' := 75) rfl rfl ?_
  refine r_cSI (pc' := 78) rfl rfl rfl rfl rfl (m_177v (d := d + 1) (z107 225 54) 2 hs113.1 hs113.2.1 ⟨by omega, by omega⟩ ⟨by omega, by omega⟩) (fun v144 z145 w146 p147 h148 hs149 hE150 => ?_)
  obtain ⟨rfl, rfl, rfl, hE150⟩ := hE150
  have h75 := (hE150.2.2).2 rfl
  have hb152 := rd_255 hz (i := v144.toNat) (by omega)
  refine r_ia (pc' := 79) rfl rfl sh_255 rfl (by omega) (by omega) (hs111.2.2.1 _ _ (notS_c (by omega) (notS_c (by omega) notS_n))) ?_
  refine r_st (pc' := 81) (lv' := [(7, _), (6, _), (5, _), (4, _), (3, _), (0, _), (1, _), (2, _)]) rfl rfl rfl rfl ?_
  refine r_ld (pc' := 82) rfl rfl rfl rfl ?_
  refine r_gr (b := 256) (pc' := 85) rfl rfl sh_225 rfl pp_225_52 ?_
  refine r_ld (pc' := 86) rfl rfl rfl rfl ?_
  refine r_ld (pc' := 87) rfl rfl rfl rfl ?_
  refine r_ld (pc' := 88) rfl rfl rfl rfl ?_
  have f26 : z107 225 26 = z0 225 26 := hs113.2.2.1 _ _ (notS_c (by omega) (notS_c (by omega) (notS_c (by omega) (notS_c (by omega) (notS_c (by omega) (notS_c (by omega) (notS_n)))))))
  have f255 : z107 255 = z0 255 := funext fun i => (hs111.2.2.1 _ _ (notS_c (by omega) (notS_c (by omega) notS_n)))
  have f256 : z107 256 = z0 256 := funext fun i => (hs111.2.2.1 _ _ (notS_c (by omega) (notS_c (by omega) notS_n)))
  have hf153 : z107 225 26 = z0 225 26 := (hs111.2.2.1 _ _ (notS_c (by omega) (notS_c (by omega) notS_n)))
  have hF154 : z107 255 = z0 255 := (funext fun _ => hs111.2.2.1 _ _ (notS_c (by omega) (notS_c (by omega) notS_n)))
  refine r_cVI (pc' := 91) rfl rfl rfl rfl rfl sh_225 (m_196v (d := d) a2 hs113.1 hs113.2.1 ⟨by omega, by omega⟩ (by rw [f26, f255]; exact hsq)) (fun v155 z156 w157 p158 h159 hs160 hE161 => ?_)
  obtain ⟨rfl, rfl, rfl, hE161⟩ := hE161
  have h88 := hE161.2.2
  unfold FQ at h88
  rw [f255, f256] at h88
  have h88 : v155 = FQ z0 (z107 225 53) (z107 225 54) a2 := h88
  refine r_is (pc' := 92) rfl rfl sh_256 rfl (by omega) (by omega) hs113 (inS_s (inS_s (inS_0 (by omega) (by omega) (by omega) (by omega)))) (wr_256 ⟨by omega, by omega⟩) (fun z163 hq164 hs165 => ?_)
  have hqs := hq164
  have h247f : ∀ i, z163 247 i = z0 247 i := fun i => (((congrFun (congrFun hq164 _) _).trans (mu_ne (by omega))).trans (hs111.2.2.1 _ _ (notS_c (by omega) (notS_c (by omega) notS_n))))
  refine r_ld (pc' := 93) rfl rfl rfl rfl ?_
  refine r_gr (b := 247) (pc' := 96) rfl rfl sh_225 rfl pp_225_43 ?_
  refine r_ld (pc' := 97) rfl rfl rfl rfl ?_
  refine r_ld (pc' := 98) rfl rfl rfl rfl ?_
  refine r_is (pc' := 99) rfl rfl sh_247 rfl (by omega) (by omega) hs165 (inS_s (inS_s (inS_s (inS_0 (by omega) (by omega) (by omega) (by omega))))) (wr_247 ⟨by omega, by omega⟩) (fun z166 hq167 hs168 => ?_)
  have hf0 := hq167
  refine r_ld (pc' := 100) rfl rfl rfl rfl ?_
  refine r_gr (b := 247) (pc' := 103) rfl rfl sh_225 rfl pp_225_43 ?_
  refine r_ld (pc' := 104) rfl rfl rfl rfl ?_
  refine r_c0 (pc' := 105) rfl rfl ?_
  refine r_add (pc' := 106) rfl rfl ?_
  refine r_ld (pc' := 108) rfl rfl rfl rfl ?_
  refine r_is (pc' := 109) rfl rfl sh_247 rfl (by omega) (by omega) hs168 (inS_s (inS_s (inS_s (inS_0 (by omega) (by omega) (by omega) (by omega))))) (wr_247 ⟨by omega, by omega⟩) (fun z169 hq170 hs171 => ?_)
  have hf1 := hq170
  refine r_ld (pc' := 110) rfl rfl rfl rfl ?_
  refine r_gr (b := 247) (pc' := 113) rfl rfl sh_225 rfl pp_225_43 ?_
  refine r_ld (pc' := 114) rfl rfl rfl rfl ?_
  refine r_c0 (pc' := 115) rfl rfl ?_
  refine r_add (pc' := 116) rfl rfl ?_
  refine r_ld (pc' := 118) rfl rfl rfl rfl ?_
  refine r_is (pc' := 119) rfl rfl sh_247 rfl (by omega) (by omega) hs171 (inS_s (inS_s (inS_s (inS_0 (by omega) (by omega) (by omega) (by omega))))) (wr_247 ⟨by omega, by omega⟩) (fun z172 hq173 hs174 => ?_)
  have hf2 := hq173
  refine r_ld (pc' := 120) rfl rfl rfl rfl ?_
  refine r_gr (b := 247) (pc' := 123) rfl rfl sh_225 rfl pp_225_43 ?_
  refine r_ld (pc' := 124) rfl rfl rfl rfl ?_
  refine r_c0 (pc' := 125) rfl rfl ?_
  refine r_add (pc' := 126) rfl rfl ?_
  refine r_ld (pc' := 128) rfl rfl rfl rfl ?_
  refine r_is (pc' := 129) rfl rfl sh_247 rfl (by omega) (by omega) hs174 (inS_s (inS_s (inS_s (inS_0 (by omega) (by omega) (by omega) (by omega))))) (wr_247 ⟨by omega, by omega⟩) (fun z175 hq176 hs177 => ?_)
  have hf3 := hq176
  refine r_ld (pc' := 130) rfl rfl rfl rfl ?_
  refine r_gr (b := 247) (pc' := 133) rfl rfl sh_225 rfl pp_225_43 ?_
  refine r_ld (pc' := 134) rfl rfl rfl rfl ?_
  refine r_c0 (pc' := 135) rfl rfl ?_
  refine r_add (pc' := 136) rfl rfl ?_
  refine r_ld (pc' := 138) rfl rfl rfl rfl ?_
  refine r_is (pc' := 139) rfl rfl sh_247 rfl (by omega) (by omega) hs177 (inS_s (inS_s (inS_s (inS_0 (by omega) (by omega) (by omega) (by omega))))) (wr_247 ⟨by omega, by omega⟩) (fun z178 hq179 hs180 => ?_)
  have hf4 := hq179
  have h248g : ∀ i, z178 248 i = z0 248 i := fun i => (((congrFun (congrFun hq179 _) _).trans (mu_ne (by omega))).trans (((congrFun (congrFun hq176 _) _).trans (mu_ne (by omega))).trans (((congrFun (congrFun hq173 _) _).trans (mu_ne (by omega))).trans (((congrFun (congrFun hq170 _) _).trans (mu_ne (by omega))).trans (((congrFun (congrFun hq167 _) _).trans (mu_ne (by omega))).trans (((congrFun (congrFun hq164 _) _).trans (mu_ne (by omega))).trans (hs111.2.2.1 _ _ (notS_c (by omega) (notS_c (by omega) notS_n)))))))))
  refine r_ld (pc' := 140) rfl rfl rfl rfl ?_
  refine r_gr (b := 248) (pc' := 143) rfl rfl sh_225 rfl pp_225_44 ?_
  refine r_ld (pc' := 144) rfl rfl rfl rfl ?_
  refine r_al (pc' := 145) rfl rfl rfl rfl ?_
  refine r_ia (pc' := 146) rfl rfl sh_248 rfl (by omega) (by omega) (((congrFun (congrFun hq179 _) _).trans (mu_ne (by omega))).trans (((congrFun (congrFun hq176 _) _).trans (mu_ne (by omega))).trans (((congrFun (congrFun hq173 _) _).trans (mu_ne (by omega))).trans (((congrFun (congrFun hq170 _) _).trans (mu_ne (by omega))).trans (((congrFun (congrFun hq167 _) _).trans (mu_ne (by omega))).trans (((congrFun (congrFun hq164 _) _).trans (mu_ne (by omega))).trans (hs111.2.2.1 _ _ (notS_c (by omega) (notS_c (by omega) notS_n))))))))) ?_
  refine r_c0 (pc' := 147) rfl rfl ?_
  refine r_add (pc' := 148) rfl rfl ?_
  refine r_is (pc' := 149) rfl rfl sh_248 rfl (by omega) (by omega) hs180 (inS_s (inS_s (inS_s (inS_s (inS_0 (by omega) (by omega) (by omega) (by omega)))))) (wr_248 ⟨by omega, by omega⟩) (fun z181 hq182 hs183 => ?_)
  have hqn := hq182
  have h255 : ∀ i, z181 255 i = z0 255 i := fun i => (((congrFun (congrFun hq182 _) _).trans (mu_ne (by omega))).trans (((congrFun (congrFun hq179 _) _).trans (mu_ne (by omega))).trans (((congrFun (congrFun hq176 _) _).trans (mu_ne (by omega))).trans (((congrFun (congrFun hq173 _) _).trans (mu_ne (by omega))).trans (((congrFun (congrFun hq170 _) _).trans (mu_ne (by omega))).trans (((congrFun (congrFun hq167 _) _).trans (mu_ne (by omega))).trans (((congrFun (congrFun hq164 _) _).trans (mu_ne (by omega))).trans (hs111.2.2.1 _ _ (notS_c (by omega) (notS_c (by omega) notS_n))))))))))
  refine r_ld (pc' := 150) rfl rfl rfl rfl ?_
  refine r_gi (pc' := 153) rfl rfl sh_225 rfl (((congrFun (congrFun hq182 _) _).trans (mu_ne (by omega))).trans (((congrFun (congrFun hq179 _) _).trans (mu_ne (by omega))).trans (((congrFun (congrFun hq176 _) _).trans (mu_ne (by omega))).trans (((congrFun (congrFun hq173 _) _).trans (mu_ne (by omega))).trans (((congrFun (congrFun hq170 _) _).trans (mu_ne (by omega))).trans (((congrFun (congrFun hq167 _) _).trans (mu_ne (by omega))).trans ((congrFun (congrFun hq164 _) _).trans (mu_ne (by omega))))))))) ?_
  refine r_c0 (pc' := 154) rfl rfl ?_
  refine r_dvg (pc' := 155) rfl rfl ⟨by omega, by omega⟩ ⟨by decide, by decide⟩ (by decide) (fun v184 h185 h186 => ?_)
  refine r_c0 (pc' := 156) rfl rfl ?_
  refine r_mul (pc' := 157) rfl rfl ?_
  refine r_st (pc' := 159) (lv' := [(8, _), (7, _), (6, _), (5, _), (4, _), (3, _), (0, _), (1, _), (2, _)]) rfl rfl rfl rfl ?_
  refine r_ld (pc' := 160) rfl rfl rfl rfl ?_
  refine r_gi (pc' := 163) rfl rfl sh_225 rfl (((congrFun (congrFun hq182 _) _).trans (mu_ne (by omega))).trans (((congrFun (congrFun hq179 _) _).trans (mu_ne (by omega))).trans (((congrFun (congrFun hq176 _) _).trans (mu_ne (by omega))).trans (((congrFun (congrFun hq173 _) _).trans (mu_ne (by omega))).trans (((congrFun (congrFun hq170 _) _).trans (mu_ne (by omega))).trans (((congrFun (congrFun hq167 _) _).trans (mu_ne (by omega))).trans ((congrFun (congrFun hq164 _) _).trans (mu_ne (by omega))))))))) ?_
  refine r_c0 (pc' := 164) rfl rfl ?_
  refine r_dvg (pc' := 165) rfl rfl ⟨by omega, by omega⟩ ⟨by decide, by decide⟩ (by decide) (fun v187 h188 h189 => ?_)
  refine r_c0 (pc' := 166) rfl rfl ?_
  refine r_mul (pc' := 167) rfl rfl ?_
  refine r_st (pc' := 169) (lv' := [(9, _), (8, _), (7, _), (6, _), (5, _), (4, _), (3, _), (0, _), (1, _), (2, _)]) rfl rfl rfl rfl ?_
  refine r_ld (pc' := 170) rfl rfl rfl rfl ?_
  refine r_gr (b := 255) (pc' := 173) rfl rfl sh_225 rfl pp_225_51 ?_
  refine r_ld (pc' := 175) rfl rfl rfl rfl ?_
  refine r_ld (pc' := 176) rfl rfl rfl rfl ?_
  refine r_is (pc' := 177) rfl rfl sh_255 rfl (by omega) (by omega) hs183 (inS_s (inS_s (inS_s (inS_s (inS_s (inS_0 (by omega) (by omega) (by omega) (by omega))))))) (wr_255 ⟨by omega, by omega⟩) (fun z190 hq191 hs192 => ?_)
  have hw0 := hq191
  refine r_ld (pc' := 178) rfl rfl rfl rfl ?_
  refine r_gr (b := 255) (pc' := 181) rfl rfl sh_225 rfl pp_225_51 ?_
  refine r_ld (pc' := 183) rfl rfl rfl rfl ?_
  refine r_c0 (pc' := 184) rfl rfl ?_
  refine r_add (pc' := 185) rfl rfl ?_
  refine r_ld (pc' := 187) rfl rfl rfl rfl ?_
  refine r_is (pc' := 188) rfl rfl sh_255 rfl (by omega) (by omega) hs192 (inS_s (inS_s (inS_s (inS_s (inS_s (inS_0 (by omega) (by omega) (by omega) (by omega))))))) (wr_255 ⟨by omega, by omega⟩) (fun z193 hq194 hs195 => ?_)
  have hw1 := hq194
  refine r_ld (pc' := 189) rfl rfl rfl rfl ?_
  refine r_gr (b := 255) (pc' := 192) rfl rfl sh_225 rfl pp_225_51 ?_
  refine r_ld (pc' := 194) rfl rfl rfl rfl ?_
  refine r_c0 (pc' := 195) rfl rfl ?_
  refine r_add (pc' := 196) rfl rfl ?_
  refine r_ld (pc' := 198) rfl rfl rfl rfl ?_
  refine r_is (pc' := 199) rfl rfl sh_255 rfl (by omega) (by omega) hs195 (inS_s (inS_s (inS_s (inS_s (inS_s (inS_0 (by omega) (by omega) (by omega) (by omega))))))) (wr_255 ⟨by omega, by omega⟩) (fun z196 hq197 hs198 => ?_)
  have hw2 := hq197
  refine r_ld (pc' := 200) rfl rfl rfl rfl ?_
  refine r_gr (b := 255) (pc' := 203) rfl rfl sh_225 rfl pp_225_51 ?_
  refine r_ld (pc' := 205) rfl rfl rfl rfl ?_
  refine r_ld (pc' := 206) rfl rfl rfl rfl ?_
  refine r_is (pc' := 207) rfl rfl sh_255 rfl (by omega) (by omega) hs198 (inS_s (inS_s (inS_s (inS_s (inS_s (inS_0 (by omega) (by omega) (by omega) (by omega))))))) (wr_255 ⟨by omega, by omega⟩) (fun z199 hq200 hs201 => ?_)
  have hw3 := hq200
  refine r_ld (pc' := 208) rfl rfl rfl rfl ?_
  refine r_gr (b := 255) (pc' := 211) rfl rfl sh_225 rfl pp_225_51 ?_
  refine r_ld (pc' := 213) rfl rfl rfl rfl ?_
  refine r_c0 (pc' := 214) rfl rfl ?_
  refine r_add (pc' := 215) rfl rfl ?_
  refine r_ld (pc' := 217) rfl rfl rfl rfl ?_
  refine r_is (pc' := 218) rfl rfl sh_255 rfl (by omega) (by omega) hs201 (inS_s (inS_s (inS_s (inS_s (inS_s (inS_0 (by omega) (by omega) (by omega) (by omega))))))) (wr_255 ⟨by omega, by omega⟩) (fun z202 hq203 hs204 => ?_)
  have hw4 := hq203
  refine r_ld (pc' := 219) rfl rfl rfl rfl ?_
  refine r_gr (b := 255) (pc' := 222) rfl rfl sh_225 rfl pp_225_51 ?_
  refine r_ld (pc' := 224) rfl rfl rfl rfl ?_
  refine r_c0 (pc' := 225) rfl rfl ?_
  refine r_add (pc' := 226) rfl rfl ?_
  refine r_ld (pc' := 228) rfl rfl rfl rfl ?_
  refine r_is (pc' := 229) rfl rfl sh_255 rfl (by omega) (by omega) hs204 (inS_s (inS_s (inS_s (inS_s (inS_s (inS_0 (by omega) (by omega) (by omega) (by omega))))))) (wr_255 ⟨by omega, by omega⟩) (fun z205 hq206 hs207 => ?_)
  have hw5 := hq206
  have hP : (v184 * 3) = z107 225 53 / 3 * 3 := by omega
  have hQ : (v187 * 3) = z107 225 54 / 3 * 3 := by omega
  exact r_ret rfl (po_V hs207 ⟨rfl, (by refine ⟨z107 225 53, z107 225 54, hsq, ⟨?_, ?_, ?_, ?_, ?_, ?_, ?_, ?_, ?_, ?_⟩, hu1⟩; (rw [← hP, ← hQ, ← h30, ← h45, ← h60, ← h75]; exact FLQ_of hly (by omega) hsq hune hP hQ (by rw [h30]) (by rw [h45]) (by rw [h60]) (by rw [h75]) (fun s => by rw [hw5, mu_sf, hw4, mu_sf, hw3, mu_sf, hw2, mu_sf, hw1, mu_sf, hw0, mu_sf, show z181 255 = z0 255 from funext fun i => h255 i])); (intro j; rw [show z205 256 j = z163 256 j from (((congrFun (congrFun hq206 _) _).trans (mu_ne (by omega))).trans (((congrFun (congrFun hq203 _) _).trans (mu_ne (by omega))).trans (((congrFun (congrFun hq200 _) _).trans (mu_ne (by omega))).trans (((congrFun (congrFun hq197 _) _).trans (mu_ne (by omega))).trans (((congrFun (congrFun hq194 _) _).trans (mu_ne (by omega))).trans (((congrFun (congrFun hq191 _) _).trans (mu_ne (by omega))).trans (((congrFun (congrFun hq182 _) _).trans (mu_ne (by omega))).trans (((congrFun (congrFun hq179 _) _).trans (mu_ne (by omega))).trans (((congrFun (congrFun hq176 _) _).trans (mu_ne (by omega))).trans (((congrFun (congrFun hq173 _) _).trans (mu_ne (by omega))).trans (((congrFun (congrFun hq170 _) _).trans (mu_ne (by omega))).trans ((congrFun (congrFun hq167 _) _).trans (mu_ne (by omega)))))))))))))), hqs, mu_sf, h88]; dsimp only; rw [h256f j]); (exact ((((congrFun (congrFun hq206 _) _).trans (mu_ne (by omega))).trans (((congrFun (congrFun hq203 _) _).trans (mu_ne (by omega))).trans (((congrFun (congrFun hq200 _) _).trans (mu_ne (by omega))).trans (((congrFun (congrFun hq197 _) _).trans (mu_ne (by omega))).trans (((congrFun (congrFun hq194 _) _).trans (mu_ne (by omega))).trans ((congrFun (congrFun hq191 _) _).trans (mu_ne (by omega))))))))).trans ((congrFun (congrFun hqn _) _).trans mu_eq)); (intro j hj; rw [show ∀ j, z205 248 j = z181 248 j from fun j => (((congrFun (congrFun hq206 _) _).trans (mu_ne (by omega))).trans (((congrFun (congrFun hq203 _) _).trans (mu_ne (by omega))).trans (((congrFun (congrFun hq200 _) _).trans (mu_ne (by omega))).trans (((congrFun (congrFun hq197 _) _).trans (mu_ne (by omega))).trans (((congrFun (congrFun hq194 _) _).trans (mu_ne (by omega))).trans ((congrFun (congrFun hq191 _) _).trans (mu_ne (by omega)))))))), hqn, mu_ne (by omega)]; exact h248g j); (rw [show ∀ j, z205 247 j = z178 247 j from fun j => (((congrFun (congrFun hq206 _) _).trans (mu_ne (by omega))).trans (((congrFun (congrFun hq203 _) _).trans (mu_ne (by omega))).trans (((congrFun (congrFun hq200 _) _).trans (mu_ne (by omega))).trans (((congrFun (congrFun hq197 _) _).trans (mu_ne (by omega))).trans (((congrFun (congrFun hq194 _) _).trans (mu_ne (by omega))).trans (((congrFun (congrFun hq191 _) _).trans (mu_ne (by omega))).trans ((congrFun (congrFun hq182 _) _).trans (mu_ne (by omega))))))))), hf4, mu_ne (by omega), hf3, mu_ne (by omega), hf2, mu_ne (by omega), hf1, mu_ne (by omega), hf0]; exact mu_eq); (rw [show ∀ j, z205 247 j = z178 247 j from fun j => (((congrFun (congrFun hq206 _) _).trans (mu_ne (by omega))).trans (((congrFun (congrFun hq203 _) _).trans (mu_ne (by omega))).trans (((congrFun (congrFun hq200 _) _).trans (mu_ne (by omega))).trans (((congrFun (congrFun hq197 _) _).trans (mu_ne (by omega))).trans (((congrFun (congrFun hq194 _) _).trans (mu_ne (by omega))).trans (((congrFun (congrFun hq191 _) _).trans (mu_ne (by omega))).trans ((congrFun (congrFun hq182 _) _).trans (mu_ne (by omega))))))))), hf4, mu_ne (by omega), hf3, mu_ne (by omega), hf2, mu_ne (by omega), hf1, mu_eq, h30]); (rw [show ∀ j, z205 247 j = z178 247 j from fun j => (((congrFun (congrFun hq206 _) _).trans (mu_ne (by omega))).trans (((congrFun (congrFun hq203 _) _).trans (mu_ne (by omega))).trans (((congrFun (congrFun hq200 _) _).trans (mu_ne (by omega))).trans (((congrFun (congrFun hq197 _) _).trans (mu_ne (by omega))).trans (((congrFun (congrFun hq194 _) _).trans (mu_ne (by omega))).trans (((congrFun (congrFun hq191 _) _).trans (mu_ne (by omega))).trans ((congrFun (congrFun hq182 _) _).trans (mu_ne (by omega))))))))), hf4, mu_ne (by omega), hf3, mu_ne (by omega), hf2, mu_eq, h45]); (rw [show ∀ j, z205 247 j = z178 247 j from fun j => (((congrFun (congrFun hq206 _) _).trans (mu_ne (by omega))).trans (((congrFun (congrFun hq203 _) _).trans (mu_ne (by omega))).trans (((congrFun (congrFun hq200 _) _).trans (mu_ne (by omega))).trans (((congrFun (congrFun hq197 _) _).trans (mu_ne (by omega))).trans (((congrFun (congrFun hq194 _) _).trans (mu_ne (by omega))).trans (((congrFun (congrFun hq191 _) _).trans (mu_ne (by omega))).trans ((congrFun (congrFun hq182 _) _).trans (mu_ne (by omega))))))))), hf4, mu_ne (by omega), hf3, mu_eq, h60]); (rw [show ∀ j, z205 247 j = z178 247 j from fun j => (((congrFun (congrFun hq206 _) _).trans (mu_ne (by omega))).trans (((congrFun (congrFun hq203 _) _).trans (mu_ne (by omega))).trans (((congrFun (congrFun hq200 _) _).trans (mu_ne (by omega))).trans (((congrFun (congrFun hq197 _) _).trans (mu_ne (by omega))).trans (((congrFun (congrFun hq194 _) _).trans (mu_ne (by omega))).trans (((congrFun (congrFun hq191 _) _).trans (mu_ne (by omega))).trans ((congrFun (congrFun hq182 _) _).trans (mu_ne (by omega))))))))), hf4, mu_eq, h75]); (intro i hi; rw [show ∀ j, z205 247 j = z178 247 j from fun j => (((congrFun (congrFun hq206 _) _).trans (mu_ne (by omega))).trans (((congrFun (congrFun hq203 _) _).trans (mu_ne (by omega))).trans (((congrFun (congrFun hq200 _) _).trans (mu_ne (by omega))).trans (((congrFun (congrFun hq197 _) _).trans (mu_ne (by omega))).trans (((congrFun (congrFun hq194 _) _).trans (mu_ne (by omega))).trans (((congrFun (congrFun hq191 _) _).trans (mu_ne (by omega))).trans ((congrFun (congrFun hq182 _) _).trans (mu_ne (by omega))))))))), hf4, mu_ne (by omega), hf3, mu_ne (by omega), hf2, mu_ne (by omega), hf1, mu_ne (by omega), hf0, mu_ne (by omega)]; exact h247f i))⟩)
end
section
/-! the reference's road, flip by flip -/
theorem SQ_t {m E e s1 s2 : Int} {T n : Nat → Int} (ly : LY m E T) (ft : FT m.toNat (vT T) n) (sq : SQ m T e s1 s2) : tri (n e.toNat) (n (T (bh s1.toNat)).toNat) (n (T (ah s1.toNat)).toNat) ∧ tri (n e.toNat) (n (T (bh s2.toNat)).toNat) (n (T (ah s2.toNat)).toNat) := by
  obtain ⟨a1, a2, a3, a4, a5, a6⟩ := sq
  have m0 := ly.1
  have t1 := ft.2 s1.toNat (by omega)
  have t2 := ft.2 s2.toNat (by omega)
  have e1 : vT T s1.toNat = e.toNat := by show (T s1.toNat).toNat = _; rw [a4]
  have e2 : vT T s2.toNat = e.toNat := by show (T s2.toNat).toNat = _; rw [a5]
  rw [e1] at t1; rw [e2] at t2
  exact ⟨t1, t2⟩
theorem SQ_b {m E e s1 s2 : Int} {T : Nat → Int} (ly : LY m E T) (sq : SQ m T e s1 s2) : (0 ≤ T (bh s1.toNat) ∧ T (bh s1.toNat) < E) ∧ (0 ≤ T (ah s1.toNat) ∧ T (ah s1.toNat) < E) ∧ (0 ≤ T (bh s2.toNat) ∧ T (bh s2.toNat) < E) ∧ (0 ≤ T (ah s2.toNat) ∧ T (ah s2.toNat) < E) := by
  obtain ⟨a1, a2, a3, a4, a5, a6⟩ := sq
  have m0 := ly.1
  have h1 : s1.toNat < 3 * m.toNat := by omega
  have h2 : s2.toNat < 3 * m.toNat := by omega
  have b1 := bh_lt h1; have b2 := ah_lt h1; have b3 := bh_lt h2; have b4 := ah_lt h2
  exact ⟨ly.2.2.2.1 _ (by omega), ly.2.2.2.1 _ (by omega), ly.2.2.2.1 _ (by omega), ly.2.2.2.1 _ (by omega)⟩
theorem FQ_nn {m E e s1 s2 : Int} {z : mZ} (ly : LY m E (z 255)) (e0 : 0 ≤ e) (he : e < E) (ft : FT m.toNat (vT (z 255)) (tr E (z 256))) (sq : SQ m (z 255) e s1 s2) : 0 ≤ FQ z s1 s2 e := by
  obtain ⟨t1, t2⟩ := SQ_t ly ft sq
  obtain ⟨b1, b2, b3, b4⟩ := SQ_b ly sq
  rw [tr_l (by omega), tr_l (by omega), tr_l (by omega)] at t1 t2
  have := flip_val t1 t2
  exact this.2.2
theorem DF_s {z0 zc z' : mZ} {l e s1 s2 : Int} (l0 : 0 ≤ l) (l7 : l ≤ 7) (e0 : 0 ≤ e) (he : e < rE z0) (e26 : zc 225 26 = z0 225 26) (sq : SQ (z0 225 26) (zc 255) e s1 s2) (h : SHI (z0 225 26) (rE z0) (z0 235) (zc 255) (tr (rE z0) (zc 256)) (cfQ zc l.toNat) (zc 248 l.toNat)) (d : DF zc z' l e s1 s2) (dl : FQ zc s1 s2 e < zc 256 e.toNat) (rz' : rz z') :
    SHI (z0 225 26) (rE z0) (z0 235) (z' 255) (tr (rE z0) (z' 256)) (cfQ z' l.toNat) (z' 248 l.toNat) ∧ (∀ j, j < 5 → ((cfQ z' l.toNat (zc 248 l.toNat).toNat j : Nat) : Int) < rE z0) ∧ (∀ i j, i < (zc 248 l.toNat).toNat → j < 5 → cfQ z' l.toNat i j = cfQ zc l.toNat i j) := by
  obtain ⟨d1, d2, d3, d4, d5, d6, d7, d8, d9, d10⟩ := d
  have ly := h.1
  obtain ⟨b1, b2, b3, b4⟩ := SQ_b ly sq
  have k0 : 0 ≤ zc 248 l.toNat := h.2.2.2.2.2.2
  have m12 := ly.2.1
  rw [e26] at d1
  have cf : ∀ j : Nat, cfQ z' l.toNat (zc 248 l.toNat).toNat j = (z' 247 (5 * (1782 * l + zc 248 l.toNat) + j).toNat).toNat := by
    intro j
    unfold cfQ
    rw [show 5 * (1782 * l.toNat + (zc 248 l.toNat).toNat) + j = (5 * (1782 * l + zc 248 l.toNat) + j).toNat by omega]
  have c0 : cfQ z' l.toNat (zc 248 l.toNat).toNat 0 = e.toNat := by rw [cf 0, show (5 * (1782 * l + zc 248 l.toNat) + ((0 : Nat) : Int)).toNat = (5 * (1782 * l + zc 248 l.toNat)).toNat by omega, d5]
  have c1 : cfQ z' l.toNat (zc 248 l.toNat).toNat 1 = (zc 255 (bh s1.toNat)).toNat := by rw [cf 1]; show (z' 247 (5 * (1782 * l + zc 248 l.toNat) + 1).toNat).toNat = _; rw [d6]
  have c2 : cfQ z' l.toNat (zc 248 l.toNat).toNat 2 = (zc 255 (ah s1.toNat)).toNat := by rw [cf 2]; show (z' 247 (5 * (1782 * l + zc 248 l.toNat) + 2).toNat).toNat = _; rw [d7]
  have c3 : cfQ z' l.toNat (zc 248 l.toNat).toNat 3 = (zc 255 (bh s2.toNat)).toNat := by rw [cf 3]; show (z' 247 (5 * (1782 * l + zc 248 l.toNat) + 3).toNat).toNat = _; rw [d8]
  have c4 : cfQ z' l.toNat (zc 248 l.toNat).toNat 4 = (zc 255 (ah s2.toNat)).toNat := by rw [cf 4]; show (z' 247 (5 * (1782 * l + zc 248 l.toNat) + 4).toNat).toNat = _; rw [d9]
  have hc : ∀ i j, i < (zc 248 l.toNat).toNat → j < 5 → cfQ z' l.toNat i j = cfQ zc l.toNat i j := by
    intro i j hi hj
    unfold cfQ
    rw [d10 _ (by omega)]
  refine ⟨?_, fun j hj => ?_, hc⟩
  · rw [d3]
    refine SHI_r h d1 (fun s hs => (rd_255 rz' (i := s) (by omega)).1) ?_ ?_ c0 c1 c2 c3 c4 hc
    · funext j
      unfold fl
      by_cases c : (j : Int) < rE z0
      · rw [tr_l c, d2 j]
        by_cases q : j = e.toNat
        · rw [if_pos q, if_pos q, tr_l (by omega), tr_l (by omega), tr_l (by omega), tr_l (by omega), tr_l (by omega)]
        · rw [if_neg q, if_neg q, tr_l c]
      · rw [tr_g (by omega), if_neg (by omega), tr_g (by omega)]
    · rw [tr_l (by omega), tr_l (by omega), d2, if_pos rfl]; exact dl
  · rcases (show j = 0 ∨ j = 1 ∨ j = 2 ∨ j = 3 ∨ j = 4 by omega) with q | q | q | q | q
    · rw [q, c0]; omega
    · rw [q, c1]; omega
    · rw [q, c2]; omega
    · rw [q, c3]; omega
    · rw [q, c4]; omega
def OTH (z0 z : mZ) (l : Nat) : Prop := (∀ j : Nat, j ≠ l → z 248 j = z0 248 j ∧ z 249 j = z0 249 j ∧ z 250 j = z0 250 j ∧ z 251 j = z0 251 j ∧ z 252 j = z0 252 j ∧ z 254 j = z0 254 j) ∧ ∀ i : Nat, i < 8910 * l ∨ 8910 * l + 8910 ≤ i → z 247 i = z0 247 i
theorem OTH_c {z0 z z' : mZ} {l : Nat} (h : OTH z0 z l) (e : ∀ a j, 247 ≤ a → a ≤ 254 → a ≠ 253 → (j ≠ l ∨ a = 247) → z' a j = z a j) : OTH z0 z' l := by
  refine ⟨fun j hj => ?_, fun i hi => by rw [e 247 i (by omega) (by omega) (by omega) (Or.inr rfl)]; exact h.2 i hi⟩
  obtain ⟨h1, h2, h3, h4, h5, h6⟩ := h.1 j hj
  rw [e 248 j (by omega) (by omega) (by omega) (Or.inl hj), e 249 j (by omega) (by omega) (by omega) (Or.inl hj), e 250 j (by omega) (by omega) (by omega) (Or.inl hj), e 251 j (by omega) (by omega) (by omega) (Or.inl hj), e 252 j (by omega) (by omega) (by omega) (Or.inl hj), e 254 j (by omega) (by omega) (by omega) (Or.inl hj)]
  exact ⟨h1, h2, h3, h4, h5, h6⟩
theorem OTH_0 (z : mZ) (l : Nat) : OTH z z l := ⟨fun _ _ => ⟨rfl, rfl, rfl, rfl, rfl, rfl⟩, fun _ _ => rfl⟩
theorem OTH_g {z0 z : mZ} {l k : Nat} (h : OTH z0 z l) (hk : k ≠ l) (hl : l < 8) (h8 : k < 8) (b : (z0 248 k).toNat ≤ 1782) (g : GRq z0 z0 k) : GRq z0 z k := by
  obtain ⟨h1, h2, h3, h4, h5, h6⟩ := h.1 k hk
  have cf : ∀ i j, i < (z0 248 k).toNat → j < 5 → cfQ z k i j = cfQ z0 k i j := by
    intro i j hi hj
    unfold cfQ
    rw [h.2 _ (by omega)]
  unfold GRq at *
  rw [h1, h2, h3, h4, h5, h6]
  intro q
  obtain ⟨g1, g2, g3⟩ := g q
  refine ⟨?_, fun i j hi hj => by rw [cf i j hi hj]; exact g2 i j hi hj, g3⟩
  obtain ⟨G, o, r⟩ := g1
  have fe : ∀ i n, i < (z0 248 k).toNat → flc (cfQ z k) i n = flc (cfQ z0 k) i n := by
    intro i n hi
    unfold flc
    rw [cf i 0 hi (by omega), cf i 1 hi (by omega), cf i 2 hi (by omega), cf i 3 hi (by omega), cf i 4 hi (by omega)]
  exact ⟨G, ⟨o.g0, fun i n hi q => by rw [fe i n hi]; exact o.fw i n hi q, fun i n hi q => by rw [fe i n hi]; exact o.bw i n hi q, o.nn, o.cg, fun i j hi hj => by rw [cf i j hi hj]; exact o.cl i j hi hj, fun i j hi h0 hj => by rw [cf i j hi hj, cf i 0 hi (by omega)]; exact o.cn i j hi h0 hj⟩, r⟩
end
section
/-! the reference: moving numbers -/
def NZE (E : Int) (n : Nat → Int) : Prop := ∃ j : Nat, (j : Int) < E ∧ n j ≠ 0
theorem NZE_fl {E : Int} {e x y z w : Nat} {n n' : Nat → Int} (hn : n' = fl e x y z w n) (hx : (x : Int) < E ∧ x ≠ e) (hy : (y : Int) < E ∧ y ≠ e) (hz : (z : Int) < E ∧ z ≠ e) (hw : (w : Int) < E ∧ w ≠ e) (he : (e : Int) < E) (h : NZE E n) : NZE E n' := by
  apply Classical.byContradiction
  intro q
  have zero : ∀ j : Nat, (j : Int) < E → n' j = 0 := fun j hj => Classical.byContradiction fun d => q ⟨j, hj, d⟩
  have o : ∀ j : Nat, (j : Int) < E → j ≠ e → n j = 0 := fun j hj d => by have := zero j hj; rw [hn, fl_ne d] at this; exact this
  have k := zero e he
  rw [hn, fl_e, o x hx.1 hx.2, o y hy.1 hy.2, o z hz.1 hz.2, o w hw.1 hw.2] at k
  obtain ⟨j, hj, d⟩ := h
  by_cases c : j = e
  · subst c; apply d; omega
  · exact d (o j hj c)
theorem NZE_tw {E : Int} {a b u v : Nat} {n n' : Nat → Int} (hn : n' = tw a b u v n) (ha : (a : Int) < E ∧ a ≠ u ∧ a ≠ v) (hb : (b : Int) < E ∧ b ≠ u ∧ b ≠ v) (hu : (u : Int) < E) (hv : (v : Int) < E) (uv : u ≠ v) (h : NZE E n) : NZE E n' := by
  apply Classical.byContradiction
  intro q
  have zero : ∀ j : Nat, (j : Int) < E → n' j = 0 := fun j hj => Classical.byContradiction fun d => q ⟨j, hj, d⟩
  have o : ∀ j : Nat, (j : Int) < E → j ≠ u → j ≠ v → n j = 0 := fun j hj d1 d2 => by have := zero j hj; rw [hn] at this; unfold tw at this; rw [if_neg d2, if_neg d1] at this; exact this
  have k1 := zero u hu
  rw [hn] at k1; unfold tw at k1; rw [if_neg uv, if_pos rfl] at k1
  have k2 := zero v hv
  rw [hn] at k2; unfold tw at k2; rw [if_pos rfl, o a ha.1 ha.2.1 ha.2.2, o b hb.1 hb.2.1 hb.2.2, k1] at k2
  obtain ⟨j, hj, d⟩ := h
  by_cases c : j = u
  · subst c; apply d; omega
  · by_cases c2 : j = v
    · subst c2; exact d k1
    · exact d (o j hj c c2)
theorem tw_of2 {n n1 n2 : Nat → Int} {a b u v : Nat} (uv : u ≠ v) (h1 : n1 = fun j => if j = v then max (n a + n b) (n v + n v) - n u else n j) (h2 : n2 = fun j => if j = u then n v else n1 j) : n2 = tw a b u v n := by
  funext j
  rw [h2, h1]
  unfold tw
  dsimp only
  by_cases c : j = v
  · subst c
    rw [if_neg (fun q => uv q.symm), if_pos rfl, if_pos rfl]
  · rw [if_neg c, if_neg c]
theorem cfQ_v {z : mZ} {l : Int} {i j : Nat} (l0 : 0 ≤ l) {k : Int} (hk : k = 5 * (1782 * l + i) + j) : (z 247 k.toNat).toNat = cfQ z l.toNat i j := by
  unfold cfQ
  rw [show k.toNat = 5 * (1782 * l.toNat + i) + j by omega]
theorem GRq_c {z z' : mZ} {l : Nat} (e26 : z' 225 26 = z 225 26) (e235 : z' 235 = z 235) (e : ∀ a, 247 ≤ a → a ≤ 254 → z' a = z a) (g : GRq z z l) : GRq z' z' l := by
  unfold GRq at *
  have c : cfQ z' l = cfQ z l := by funext i j; unfold cfQ; rw [e 247 (by omega) (by omega)]
  rw [c, e 248 (by omega) (by omega), e 249 (by omega) (by omega), e 250 (by omega) (by omega), e 251 (by omega) (by omega), e 252 (by omega) (by omega), e 254 (by omega) (by omega), e26, e235]
  unfold rE at *
  rw [e26]
  exact g
def GAr (z : mZ) : Prop := ∀ l : Nat, (l : Int) < z 225 27 → GRq z z l
def FWr (z : mZ) (a : Nat) : Prop := ∀ i : Nat, (i : Int) < z 239 a → z 237 (8 * a + i) < z 225 27 ∧ z 254 (z 237 (8 * a + i)).toNat = 1
abbrev GOk (z0 w0 w : mZ) (P : (Nat → Int) → Prop) : Prop := P (w 257) ∧ NBr w 257 ∧ (NZE (rE z0) (w0 257) → NZE (rE z0) (w 257))
end

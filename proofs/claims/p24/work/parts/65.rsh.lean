/-! the reference: making a line SHORT -/
def SQ (m : Int) (T : Nat → Int) (e s1 s2 : Int) : Prop := 0 ≤ s1 ∧ s1 < s2 ∧ s2 < 3 * m ∧ T s1.toNat = e ∧ T s2.toNat = e ∧ ∀ s : Nat, (s : Int) < 3 * m → T s = e → (s : Int) = s1 ∨ (s : Int) = s2
theorem SQ_u {m e s1 s2 t1 t2 : Int} {T : Nat → Int} (h : SQ m T e s1 s2) (k : SQ m T e t1 t2) : t1 = s1 ∧ t2 = s2 := by
  obtain ⟨h1, h2, h3, h4, h5, h6⟩ := h
  obtain ⟨k1, k2, k3, k4, k5, k6⟩ := k
  have a := h6 t1.toNat (by omega) k4
  have b := h6 t2.toNat (by omega) k5
  omega
def F1 (T : Nat → Int) (e x s1 s2 : Int) : Prop := (s1 = -1 ∧ ∀ s : Nat, (s : Int) < x → T s ≠ e) ∨ (0 ≤ s1 ∧ s1 < x ∧ T s1.toNat = e ∧ ∀ s : Nat, (s : Int) < x → T s = e → (s : Int) = s1) ∨ (0 ≤ s1 ∧ s1 < s2 ∧ s2 < x ∧ T s1.toNat = e ∧ T s2.toNat = e)
section
variable {m E e x s1 s2 : Int} {T : Nat → Int}
theorem F1_0 : F1 T e 0 (-1) s2 := Or.inl ⟨rfl, fun s hs => absurd hs (by omega)⟩
theorem F1_n (h : F1 T e x s1 s2) (x0 : 0 ≤ x) (c : ¬ T x.toNat = e) : F1 T e (x + 1) s1 s2 := by
  have nx : ∀ s : Nat, (s : Int) < x + 1 → T s = e → (s : Int) < x := by
    intro s hs q
    by_cases d : (s : Int) = x
    · rw [show s = x.toNat by omega] at q; exact absurd q c
    · omega
  rcases h with ⟨a1, a2⟩ | ⟨a1, a2, a3, a4⟩ | ⟨a1, a2, a3, a4, a5⟩
  · exact Or.inl ⟨a1, fun s hs q => a2 s (nx s hs q) q⟩
  · exact Or.inr (Or.inl ⟨a1, by omega, a3, fun s hs q => a4 s (nx s hs q) q⟩)
  · exact Or.inr (Or.inr ⟨a1, a2, by omega, a4, a5⟩)
theorem F1_a (h : F1 T e x s1 s2) (x0 : 0 ≤ x) (c : T x.toNat = e) (h1 : s1 < 0) : F1 T e (x + 1) x s2 := by
  rcases h with ⟨a1, a2⟩ | ⟨a1, _⟩ | ⟨a1, _⟩
  · right; left
    refine ⟨x0, by omega, c, fun s hs q => ?_⟩
    by_cases d : (s : Int) = x
    · exact d
    · exact absurd q (a2 s (by omega))
  · omega
  · omega
theorem F1_b (ly : LY m E T) (h : F1 T e x s1 s2) (x0 : 0 ≤ x) (x1 : x < 3 * m) (c : T x.toNat = e) (h1 : 0 ≤ s1) : F1 T e (x + 1) s1 x := by
  rcases h with ⟨a1, a2⟩ | ⟨a1, a2, a3, a4⟩ | ⟨a1, a2, a3, a4, a5⟩
  · omega
  · exact Or.inr (Or.inr ⟨a1, a2, by omega, a3, c⟩)
  · have k := ly.two (a := s1.toNat) (b := s2.toNat) (c := x.toNat) (by omega) (by omega) (by omega) (by rw [a4, a5]) (by rw [a4, c])
    omega
theorem F1_e (ly : LY m E T) (h : F1 T e x s1 s2) (hx : x = 3 * m) (e0 : 0 ≤ e) (he : e < E) : SQ m T e s1 s2 := by
  subst hx
  obtain ⟨s0, q1, q2⟩ := ly.2.2.2.2.1 e.toNat (by omega)
  have q2 : T s0 = e := by omega
  rcases h with ⟨a1, a2⟩ | ⟨a1, a2, a3, a4⟩ | ⟨a1, a2, a3, a4, a5⟩
  · exact absurd q2 (a2 s0 q1)
  · obtain ⟨b, b1, b2, b3⟩ := ly.oth (a := s1.toNat) (by omega)
    have := a4 b b1 (by rw [b3, a3]); omega
  · refine ⟨a1, a2, a3, a4, a5, fun s hs q => ?_⟩
    have := ly.two (a := s1.toNat) (b := s2.toNat) (c := s) (by omega) (by omega) hs (by rw [a4, a5]) (by rw [a4, q])
    omega
end
/-- the reference's flip: the edge is told first in both pieces then -/
theorem FLQ_of {m E : Int} {T T' : Nat → Int} {e s1 s2 x y z w p q : Int} (ly : LY m E T) (e0 : 0 ≤ e) (sd : SQ m T e s1 s2) (ne : s1 / 3 ≠ s2 / 3) (hp : p = s1 / 3 * 3) (hq : q = s2 / 3 * 3)
    (hx : x = T (bh s1.toNat)) (hy : y = T (ah s1.toNat)) (hz : z = T (bh s2.toNat)) (hw : w = T (ah s2.toNat))
    (ht : ∀ s : Nat, T' s = if s = (q + 2).toNat then x else if s = (q + 1).toNat then w else if s = q.toNat then e else if s = (p + 2).toNat then z else if s = (p + 1).toNat then y else if s = p.toNat then e else T s) :
    FLP m.toNat (vT T) (vT T') e.toNat x.toNat y.toNat z.toNat w.toNat s1.toNat s2.toNat p.toNat q.toNat := by
  obtain ⟨a1, a2, a3, a4, a5, a6⟩ := sd
  have m0 := ly.1
  have tv : ∀ s : Nat, vT T' s = (if s = (q + 2).toNat then x else if s = (q + 1).toNat then w else if s = q.toNat then e else if s = (p + 2).toNat then z else if s = (p + 1).toNat then y else if s = p.toNat then e else T s).toNat := fun s => by show (T' s).toNat = _; rw [ht s]
  have b1 := bh_cases p.toNat; have b2 := ah_cases p.toNat; have b3 := bh_cases q.toNat; have b4 := ah_cases q.toNat
  refine ⟨by omega, by omega, by omega, by show (T _).toNat = _; rw [a4], by show (T _).toNat = _; rw [a5], fun s hs k => ?_, by rw [hx], by rw [hy], by rw [hz], by rw [hw], by omega, by omega, ?_, ?_, ?_, ?_, ?_, ?_, fun s h1 h2 => ?_⟩
  · have k : (T s).toNat = e.toNat := k
    have t0 := ly.2.2.2.1 s (by omega)
    have := a6 s (by omega) (by omega); omega
  · rw [tv, if_neg (by omega), if_neg (by omega), if_neg (by omega), if_neg (by omega), if_neg (by omega), if_pos rfl]
  · rw [tv, if_neg (by omega), if_neg (by omega), if_pos rfl]
  · rw [show bh p.toNat = (p + 1).toNat by omega, tv, if_neg (by omega), if_neg (by omega), if_neg (by omega), if_neg (by omega), if_pos rfl]
  · rw [show ah p.toNat = (p + 2).toNat by omega, tv, if_neg (by omega), if_neg (by omega), if_neg (by omega), if_pos rfl]
  · rw [show bh q.toNat = (q + 1).toNat by omega, tv, if_neg (by omega), if_pos rfl]
  · rw [show ah q.toNat = (q + 2).toNat by omega, tv, if_pos rfl]
  · rw [tv, if_neg (by omega), if_neg (by omega), if_neg (by omega), if_neg (by omega), if_neg (by omega), if_neg (by omega)]
theorem SHI_r {m E k : Int} {T0 T n : Nat → Int} {cf : Nat → Nat → Nat} {T' n' : Nat → Int} {cf' : Nat → Nat → Nat} {e x y z w s1 s2 r1 r2 : Nat} (h : SHI m E T0 T n cf k) (f : FLP m.toNat (vT T) (vT T') e x y z w s1 s2 r1 r2) (hT' : ∀ s : Nat, (s : Int) < 3 * m → 0 ≤ T' s) (hn : n' = fl e x y z w n) (dec : n' e < n e)
    (c0 : cf' k.toNat 0 = e) (c1 : cf' k.toNat 1 = x) (c2 : cf' k.toNat 2 = y) (c3 : cf' k.toNat 3 = z) (c4 : cf' k.toNat 4 = w) (hc : ∀ i j, i < k.toNat → j < 5 → cf' i j = cf i j) : SHI m E T0 T' n' cf' (k + 1) := by
  obtain ⟨ly, ft, ⟨o, oo, cn⟩, gx, ⟨e1, n1, n2⟩, sb, k0⟩ := h
  have lt18 := ly.lt
  obtain ⟨m0, m12, mE, tE, on, we⟩ := ly
  have hes : e < 18 := by have := lt18 s1 f.l1; rw [f.e1] at this; exact this
  have tE' : ∀ s : Nat, (s : Int) < 3 * m → 0 ≤ T' s ∧ T' s < E := by
    intro s hs
    have a := hT' s hs
    have b := f.sgT s
    have c := f.sgl (s := s) (by omega)
    have d := tE _ (show (((sg s1 s2 r1 r2 s : Nat)) : Int) < 3 * m by omega)
    have b : (T' s).toNat = (T (sg s1 s2 r1 r2 s)).toNat := b
    omega
  have on' : ∀ e : Nat, (e : Int) < E → ∃ s : Nat, (s : Int) < 3 * m ∧ T' s = e := by
    intro q hq
    obtain ⟨p, p1, p2⟩ := on q hq
    obtain ⟨s, g1, g2⟩ := f.sgsur p
    have g2 := g2 (by omega)
    refine ⟨s, by omega, ?_⟩
    have b := f.sgT s
    have b : (T' s).toNat = (T (sg s1 s2 r1 r2 s)).toNat := b
    rw [g1, p2] at b
    have := hT' s (by omega)
    omega
  have ly' : LY m E T' := ⟨m0, m12, mE, tE', on', f.we we⟩
  refine ⟨ly', by rw [hn]; exact f.ft ft, ⟨_, f.or oo, by rw [hn]; exact f.cn ft oo cn⟩, ?_, ?_, ?_, by omega⟩
  · have g := GX_cg (cf1 := cf') gx (fun _ _ => rfl) hc (fun _ _ => rfl)
    rw [show (k + 1).toNat = k.toNat + 1 by omega]
    exact GX_s g lt18 (by rw [c0, c1, c2, c3, c4]; exact f)
  · have bE : ∀ {p : Nat}, p < 3 * m.toNat → ((vT T p : Nat) : Int) < E := by
      intro p hp
      have := tE p (by omega)
      show (((T p).toNat : Nat) : Int) < E
      omega
    by_cases c : e1 = e
    · subst c
      have tr := ft.2 s1 f.l1
      rw [f.e1, f.hx, f.hy] at tr
      have nnx : 0 ≤ n x := by have := lt18 _ (bh_lt f.l1); rw [f.hx] at this; exact ft.1 x this
      rcases (show 0 < n x ∨ 0 < n y by unfold tri at tr; omega) with q | q
      · exact ⟨x, by have := bE (bh_lt f.l1); rw [f.hx] at this; exact this, by rw [hn, fl_ne f.nx]; exact q⟩
      · exact ⟨y, by have := bE (ah_lt f.l1); rw [f.hy] at this; exact this, by rw [hn, fl_ne f.ny]; exact q⟩
    · exact ⟨e1, n1, by rw [hn, fl_ne c]; exact n2⟩
  · have := sm_u (f := n) (g := n') (i := e) (fun j hj => by rw [hn, fl_ne hj]) 18 hes
    omega
abbrev nS (z : mZ) : Nat → Int := tr (rE z) (z 256)
def cfQ (z : mZ) (l i j : Nat) : Nat := (z 247 (5 * (1782 * l + i) + j)).toNat
theorem tw_sym (a b u v : Nat) (n : Nat → Int) : tw a b u v n = tw b a u v n := by
  unfold tw; funext j; rw [Int.add_comm (n a) (n b)]
theorem GR_sym {m : Nat} {T : Nat → Nat} {cf : Nat → Nat → Nat} {k a b e f : Nat} (h : GR m T cf k a b e f) : GR m T cf k b a e f := by
  obtain ⟨G, h1, h2, h3, h4, h5, h6, h7, h8, h9, h10, h11, h12⟩ := h
  exact ⟨G, h1, fun n q => by rw [tw_sym]; exact h2 n q, fun n q => by rw [tw_sym]; exact h3 n q, h5, h4, h6, h7, h10, h11, h8, h9, h12⟩
section
variable {x p a b e f : Int} {T n : Nat → Int}
end
/-- a line that is fair, as the reference keeps its road -/
def GRq (z0 z : mZ) (l : Nat) : Prop := z 254 l = 1 → GR (z0 225 26).toNat (vT (z0 235)) (cfQ z l) (z 248 l).toNat (z 251 l).toNat (z 252 l).toNat (z 249 l).toNat (z 250 l).toNat ∧ (∀ i j, i < (z 248 l).toNat → j < 5 → ((cfQ z l i j : Nat) : Int) < rE z0) ∧ z 251 l < rE z0 ∧ z 252 l < rE z0 ∧ z 249 l < rE z0 ∧ z 250 l < rE z0

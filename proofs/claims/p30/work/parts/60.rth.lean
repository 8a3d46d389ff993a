/-! the reference: pieces counted, glued; strands that come round -/
def ct (T : Nat → Int) (e : Int) : Nat → Int
  | 0 => 0
  | n + 1 => ct T e n + if T n = e then 1 else 0
theorem ct_s (T : Nat → Int) (e : Int) (n : Nat) : ct T e (n + 1) = ct T e n + if T n = e then 1 else 0 := rfl
theorem ct_c {T T' : Nat → Int} {e : Int} : ∀ n : Nat, (∀ s, s < n → T' s = T s) → ct T' e n = ct T e n
  | 0, _ => rfl
  | n + 1, h => by rw [ct_s, ct_s, ct_c n (fun s hs => h s (by omega)), h n (by omega)]
theorem ct_nn (T : Nat → Int) (e : Int) : ∀ n : Nat, 0 ≤ ct T e n
  | 0 => Int.le_refl _
  | n + 1 => by have := ct_nn T e n; rw [ct_s]; split <;> omega
theorem ct_le (T : Nat → Int) (e : Int) {k : Nat} : ∀ n : Nat, k ≤ n → ct T e k ≤ ct T e n
  | 0, h => by rw [show k = 0 by omega]; exact Int.le_refl _
  | n + 1, h => by
    by_cases c : k = n + 1
    · rw [c]; exact Int.le_refl _
    · have := ct_le T e (k := k) n (by omega)
      rw [ct_s]; split <;> omega
theorem ct_at {T : Nat → Int} {e : Int} {s n : Nat} (hs : s < n) (h : T s = e) : ct T e s + 1 ≤ ct T e n := by
  have := ct_le T e (k := s + 1) n (by omega)
  rw [ct_s, if_pos h] at this
  exact this
theorem ct_ex {T : Nat → Int} {e : Int} : ∀ n : Nat, 0 < ct T e n → ∃ s, s < n ∧ T s = e
  | 0, h => by have h : (0 : Int) < 0 := h; omega
  | n + 1, h => by
    rw [ct_s] at h
    by_cases c : T n = e
    · exact ⟨n, by omega, c⟩
    · rw [if_neg c] at h
      obtain ⟨s, h1, h2⟩ := ct_ex (T := T) (e := e) n (by omega)
      exact ⟨s, by omega, h2⟩
theorem ct_lt {T : Nat → Int} {e : Int} {a b n : Nat} (hab : a < b) (hb : b < n) (ha : T a = e) (hB : T b = e) : ct T e a + 2 ≤ ct T e n := by
  have h1 := ct_at (T := T) (e := e) hab ha
  have h2 := ct_at (T := T) (e := e) hb hB
  omega
/-- each edge twice, by counting -/
theorem LY_ct {m : Int} {T : Nat → Int} (m0 : 0 ≤ m) (m12 : m ≤ 12) (me : m % 2 = 0) (tn : ∀ s : Nat, (s : Int) < 3 * m → 0 ≤ T s ∧ T s ≤ 17) (h : ∀ e : Nat, e < 18 → ct T e (3 * m.toNat) = if (e : Int) < 3 * m / 2 then 2 else 0) : LY m (3 * m / 2) T := by
  have tE : ∀ s : Nat, (s : Int) < 3 * m → 0 ≤ T s ∧ T s < 3 * m / 2 := by
    intro s hs
    have a := tn s hs
    refine ⟨a.1, ?_⟩
    apply Classical.byContradiction
    intro q
    have k := h (T s).toNat (by omega)
    rw [if_neg (by omega)] at k
    have k2 := ct_at (T := T) (e := (T s).toNat) (s := s) (n := 3 * m.toNat) (by omega) (by omega)
    have := ct_nn T (T s).toNat s
    omega
  refine ⟨m0, m12, by omega, tE, fun e he => ?_, fun s hs => ?_⟩
  · have k := h e (by omega)
    rw [if_pos he] at k
    obtain ⟨s, h1, h2⟩ := ct_ex (T := T) (e := e) (3 * m.toNat) (by omega)
    exact ⟨s, by omega, h2⟩
  · have a := tE s (by omega)
    have k := h (T s).toNat (by omega)
    rw [if_pos (by omega)] at k
    have en : (((T s).toNat : Nat) : Int) = T s := by omega
    rw [en] at k
    -- another one
    have ex : ∃ s', s' < 3 * m.toNat ∧ s' ≠ s ∧ T s' = T s := by
      apply Classical.byContradiction
      intro q
      have key : ∀ n : Nat, n ≤ 3 * m.toNat → ct T (T s) n ≤ if s < n then 1 else 0 := by
        intro n
        induction n with
        | zero => intro _; show (0 : Int) ≤ _; split <;> omega
        | succ n ih =>
          intro hn
          have i := ih (by omega)
          rw [ct_s]
          by_cases c : T n = T s
          · have : n = s := by
              apply Classical.byContradiction
              intro d
              exact q ⟨n, by omega, d, c⟩
            subst this
            rw [if_neg (by omega)] at i
            rw [if_pos c, if_pos (by omega)]; omega
          · rw [if_neg c]
            by_cases d : s < n
            · rw [if_pos d] at i; rw [if_pos (by omega)]; omega
            · rw [if_neg d] at i; split <;> omega
      have := key (3 * m.toNat) (by omega)
      rw [if_pos hs] at this
      omega
    obtain ⟨s', q1, q2, q3⟩ := ex
    refine ⟨s', q1, q2, by show (T s').toNat = (T s).toNat; rw [q3], fun r hr q => ?_⟩
    have q : (T r).toNat = (T s).toNat := q
    have ar := tE r (by omega)
    have q : T r = T s := by omega
    apply Classical.byContradiction
    intro d
    have three : ∀ {a b c : Nat}, a < b → b < c → c < 3 * m.toNat → T a = T s → T b = T s → T c = T s → False := by
      intro a b c h1 h2 h3 g1 g2 g3
      have j1 := ct_lt (T := T) (e := T s) h1 h2 g1 g2
      have j2 := ct_at (T := T) (e := T s) h3 g3
      have j3 := ct_nn T (T s) a
      omega
    rcases (show r < s ∨ s < r by omega) with p1 | p1 <;> rcases (show r < s' ∨ s' < r by omega) with p2 | p2 <;> rcases (show s < s' ∨ s' < s by omega) with p3 | p3
    · exact three p1 p3 q1 q rfl q3
    · exact three p2 p3 hs q q3 rfl
    · omega
    · exact three p2 p1 hs q3 q rfl
    · exact three p1 p2 q1 rfl q q3
    · omega
    · exact three p3 p2 hr rfl q3 q
    · exact three p3 p1 hr q3 rfl q
/-- the reference's way of gluing -/
def LO (E : Int) (T o fs : Nat → Int) (x : Int) : Prop := ∀ e : Nat, (e : Int) < E → (fs e = -1 ∧ ∀ s : Nat, (s : Int) < x → T s ≠ e) ∨ (0 ≤ fs e ∧ fs e < x ∧ T (fs e).toNat = e ∧ ∀ s : Nat, (s : Int) < x → T s = e → (s : Int) = fs e) ∨ (∃ b : Nat, 0 ≤ fs e ∧ fs e < b ∧ (b : Int) < x ∧ T (fs e).toNat = e ∧ T b = e ∧ o (fs e).toNat = b ∧ o b = fs e)
theorem LO_0 {E : Int} {T o fs : Nat → Int} (h : ∀ e : Nat, (e : Int) < E → fs e = -1) : LO E T o fs 0 := fun e he => Or.inl ⟨h e he, fun s hs => absurd hs (by omega)⟩
theorem LO_a {E x : Int} {T o fs fs' : Nat → Int} (h : LO E T o fs x) (x0 : 0 ≤ x) {e0 : Nat} (h0 : T x.toNat = e0) (h1 : fs e0 < 0) (l1 : ∀ j : Nat, j ≠ e0 → fs' j = fs j) (l2 : fs' e0 = x) : LO E T o fs' (x + 1) := by
  intro e he
  by_cases c : e = e0
  · subst c
    rcases h e he with ⟨a1, a2⟩ | ⟨a1, _⟩ | ⟨b, a1, _⟩
    · right; left
      rw [l2]
      refine ⟨x0, by omega, h0, fun s hs q => ?_⟩
      by_cases d : (s : Int) = x
      · exact d
      · exact absurd q (a2 s (by omega))
    · omega
    · omega
  · rw [l1 e c]
    have nx : ∀ s : Nat, (s : Int) < x + 1 → T s = e → (s : Int) < x := by
      intro s hs q
      by_cases d : (s : Int) = x
      · rw [show s = x.toNat by omega, h0] at q; omega
      · omega
    rcases h e he with ⟨a1, a2⟩ | ⟨a1, a2, a3, a4⟩ | ⟨b, a1, a2, a3, a4, a5, a6, a7⟩
    · exact Or.inl ⟨a1, fun s hs q => a2 s (nx s hs q) q⟩
    · exact Or.inr (Or.inl ⟨a1, by omega, a3, fun s hs q => a4 s (nx s hs q) q⟩)
    · exact Or.inr (Or.inr ⟨b, a1, a2, by omega, a4, a5, a6, a7⟩)
theorem LO_b {m E x : Int} {T o o' fs : Nat → Int} (ly : LY m E T) (h : LO E T o fs x) (x0 : 0 ≤ x) (x1 : x < 3 * m) {e0 : Nat} (h0 : T x.toNat = e0) (h1 : 0 ≤ fs e0) (l0 : ∀ j : Nat, (j : Int) ≠ x → (j : Int) ≠ fs e0 → o' j = o j) (l1 : o' x.toNat = fs e0) (l2 : o' (fs e0).toNat = x) : LO E T o' fs (x + 1) := by
  have hE : (e0 : Int) < E := by have := ly.2.2.2.1 x.toNat (by omega); omega
  have f0 : T (fs e0).toNat = e0 ∧ fs e0 < x := by
    rcases h e0 hE with ⟨a1, a2⟩ | ⟨a1, a2, a3, a4⟩ | ⟨b, a1, a2, a3, a4, a5, a6, a7⟩
    · omega
    · exact ⟨a3, a2⟩
    · exact ⟨a4, by omega⟩
  intro e he
  by_cases c : e = e0
  · subst c
    rcases h e he with ⟨a1, a2⟩ | ⟨a1, a2, a3, a4⟩ | ⟨b, a1, a2, a3, a4, a5, a6, a7⟩
    · omega
    · exact Or.inr (Or.inr ⟨x.toNat, a1, by omega, by omega, a3, h0, by rw [l2]; omega, l1⟩)
    · have k := ly.two (a := (fs e).toNat) (b := b) (c := x.toNat) (by omega) (by omega) (by omega) (by rw [a4, a5]) (by rw [a4, h0])
      omega
  · have nx : ∀ s : Nat, (s : Int) < x + 1 → T s = e → (s : Int) < x := by
      intro s hs q
      by_cases d : (s : Int) = x
      · rw [show s = x.toNat by omega, h0] at q; omega
      · omega
    have oo : ∀ s : Nat, T s = e → o' s = o s := by
      intro s q
      apply l0
      · intro d; rw [show s = x.toNat by omega, h0] at q; omega
      · intro d; rw [show s = (fs e0).toNat by omega, f0.1] at q; omega
    rcases h e he with ⟨a1, a2⟩ | ⟨a1, a2, a3, a4⟩ | ⟨b, a1, a2, a3, a4, a5, a6, a7⟩
    · exact Or.inl ⟨a1, fun s hs q => a2 s (nx s hs q) q⟩
    · exact Or.inr (Or.inl ⟨a1, by omega, a3, fun s hs q => a4 s (nx s hs q) q⟩)
    · exact Or.inr (Or.inr ⟨b, a1, a2, by omega, a4, a5, by rw [oo _ a4]; exact a6, by rw [oo _ a5]; exact a7⟩)
theorem LO_end {m E x : Int} {T o fs : Nat → Int} (ly : LY m E T) (h : LO E T o fs x) (hx : x = 3 * m) : WT m E T o fs := by
  subst hx
  have third : ∀ e : Nat, (e : Int) < E → ∃ b : Nat, 0 ≤ fs e ∧ fs e < b ∧ (b : Int) < 3 * m ∧ T (fs e).toNat = e ∧ T b = e ∧ o (fs e).toNat = b ∧ o b = fs e := by
    intro e he
    obtain ⟨s0, q1, q2⟩ := ly.2.2.2.2.1 e he
    rcases h e he with ⟨a1, a2⟩ | ⟨a1, a2, a3, a4⟩ | k
    · exact absurd q2 (a2 s0 q1)
    · obtain ⟨b, b1, b2, b3⟩ := ly.oth (a := (fs e).toNat) (by omega)
      have := a4 b b1 (by rw [b3, a3]); omega
    · exact k
  have os : ∀ s : Nat, (s : Int) < 3 * m → ∃ b : Nat, 0 ≤ fs (T s).toNat ∧ fs (T s).toNat < b ∧ (b : Int) < 3 * m ∧ T (fs (T s).toNat).toNat = T s ∧ T b = T s ∧ o (fs (T s).toNat).toNat = b ∧ o b = fs (T s).toNat ∧ (s = (fs (T s).toNat).toNat ∨ s = b) := by
    intro s hs
    have a := ly.2.2.2.1 s hs
    obtain ⟨b, k1, k2, k3, k4, k5, k6, k7⟩ := third (T s).toNat (by omega)
    have en : (((T s).toNat : Nat) : Int) = T s := by omega
    rw [en] at k4 k5
    have := ly.two (a := (fs (T s).toNat).toNat) (b := b) (c := s) (by omega) k3 hs (by rw [k4, k5]) (by rw [k4])
    exact ⟨b, k1, k2, k3, k4, k5, k6, k7, by omega⟩
  refine ⟨ly.1, by have := ly.2.2.1; omega, ly.2.1, ly.2.2.2.1, fun s hs => ?_, fun s hs => ?_, fun s hs => ?_, fun s hs => ?_, fun e he => ?_, fun s r hs hr q => ?_⟩
  · obtain ⟨b, k1, k2, k3, k4, k5, k6, k7, k8⟩ := os s hs
    rcases k8 with k8 | k8
    · rw [← k8] at k6; omega
    · rw [← k8] at k7; omega
  · obtain ⟨b, k1, k2, k3, k4, k5, k6, k7, k8⟩ := os s hs
    rcases k8 with k8 | k8
    · rw [← k8] at k6; rw [k6]; exact k5
    · rw [← k8] at k7; rw [k7]; exact k4
  · obtain ⟨b, k1, k2, k3, k4, k5, k6, k7, k8⟩ := os s hs
    rcases k8 with k8 | k8
    · rw [← k8] at k6; rw [k6, show (b : Int).toNat = b by omega, k7]; omega
    · subst k8; rw [k7, k6]
  · obtain ⟨b, k1, k2, k3, k4, k5, k6, k7, k8⟩ := os s hs
    rcases k8 with k8 | k8
    · rw [← k8] at k6; omega
    · rw [← k8] at k7; omega
  · obtain ⟨b, k1, k2, k3, k4, k5, k6, k7⟩ := third e he
    exact ⟨k1, by omega, k4⟩
  · obtain ⟨b, k1, k2, k3, k4, k5, k6, k7, k8⟩ := os s hs
    have := ly.two (a := (fs (T s).toNat).toNat) (b := b) (c := r) (by omega) k3 hr (by rw [k4, k5]) (by rw [k4, q])
    rcases k8 with k8 | k8
    · rw [← k8] at k6 this; omega
    · rw [← k8] at k7 this; omega
/-! a way over the strands: it comes back before it is longer than all strands together -/
theorem pigeon : ∀ (N k : Nat) (f : Nat → Nat), (∀ i, i < k → f i < N) → (∀ i j, i < k → j < k → f i = f j → i = j) → k ≤ N
  | 0, k, f, h, _ => by
    cases k with
    | zero => exact Nat.le_refl _
    | succ k => have := h 0 (by omega); omega
  | N + 1, k, f, h, inj => by
    cases k with
    | zero => omega
    | succ k =>
      -- the last one's place is taken by N
      have := pigeon N k (fun i => if f i = N then f k else f i) (fun i hi => by
        have h1 := h i (by omega); have h2 := h k (by omega)
        show (if f i = N then f k else f i) < N
        by_cases c : f i = N
        · rw [if_pos c]
          have : f k ≠ N := fun q => by have := inj i k (by omega) (by omega) (by omega); omega
          omega
        · rw [if_neg c]; omega) (fun i j hi hj q => by
        have q : (if f i = N then f k else f i) = (if f j = N then f k else f j) := q
        by_cases c : f i = N <;> by_cases d : f j = N
        · exact inj i j (by omega) (by omega) (by omega)
        · rw [if_pos c, if_neg d] at q
          have := inj k j (by omega) (by omega) q; omega
        · rw [if_neg c, if_pos d] at q
          have := inj i k (by omega) (by omega) q; omega
        · rw [if_neg c, if_neg d] at q
          exact inj i j (by omega) (by omega) q)
      omega
def vv (T o n : Nat → Int) (x : Nat × Int) : Nat × Int := ((o x.1).toNat, n (vT T x.1) - 1 - x.2)
def gg (T n : Nat → Int) (x : Nat × Int) : Nat × Int := if x.2 < (n (vT T (ah x.1)) + n (vT T x.1) - n (vT T (bh x.1))) / 2 then (ah x.1, n (vT T (ah x.1)) - 1 - x.2) else (bh x.1, n (vT T x.1) - 1 - x.2)
def vd (m : Int) (T n : Nat → Int) (x : Nat × Int) : Prop := (x.1 : Int) < 3 * m ∧ 0 ≤ x.2 ∧ x.2 < n (vT T x.1)
section
variable {m E : Int} {T o fs n : Nat → Int}
theorem vv_v (h : WT m E T o fs) {x : Nat × Int} (v : vd m T n x) : vd m T n (vv T o n x) ∧ vv T o n (vv T o n x) = x ∧ vv T o n x ≠ x := by
  obtain ⟨s, i⟩ := x
  obtain ⟨v1, v2, v3⟩ := v
  have v1 : (s : Int) < 3 * m := v1
  have v3 : i < n (vT T s) := v3
  have v2 : 0 ≤ i := v2
  have l := h.oL s v1
  have e : vT T (o s).toNat = vT T s := by show (T (o s).toNat).toNat = (T s).toNat; rw [h.oT s v1]
  have oo := h.oo s v1
  refine ⟨⟨by show (((o s).toNat : Nat) : Int) < 3 * m; omega, by show 0 ≤ n (vT T s) - 1 - i; omega, by show n (vT T s) - 1 - i < n (vT T (o s).toNat); rw [e]; omega⟩, ?_, fun q => ?_⟩
  · show ((o (o s).toNat).toNat, n (vT T (o s).toNat) - 1 - (n (vT T s) - 1 - i)) = (s, i)
    rw [e, oo]
    exact Prod.ext (by show ((s : Int)).toNat = s; omega) (by show n (vT T s) - 1 - (n (vT T s) - 1 - i) = i; omega)
  · have q1 : (o s).toNat = s := congrArg Prod.fst q
    exact h.on s v1 (by omega)
theorem gg_v (m0 : 0 ≤ m) (f : FT m.toNat (vT T) n) {x : Nat × Int} (v : vd m T n x) : vd m T n (gg T n x) ∧ gg T n (gg T n x) = x ∧ gg T n x ≠ x := by
  obtain ⟨s, i⟩ := x
  obtain ⟨v1, v2, v3⟩ := v
  have v1 : (s : Int) < 3 * m := v1
  have v3 : i < n (vT T s) := v3
  have v2 : 0 ≤ i := v2
  have hs : s < 3 * m.toNat := by omega
  obtain ⟨t1, t2, t3, t4⟩ := f.2 s hs
  have la := ah_lt hs; have lb := bh_lt hs
  generalize ea : n (vT T (ah s)) = ca at *
  generalize eb : n (vT T (bh s)) = cb at *
  generalize ec : n (vT T s) = cc at *
  by_cases c : i < (ca + cc - cb) / 2
  · have g : gg T n (s, i) = (ah s, ca - 1 - i) := by
      unfold gg
      show (if i < (n (vT T (ah s)) + n (vT T s) - n (vT T (bh s))) / 2 then (ah s, n (vT T (ah s)) - 1 - i) else (bh s, n (vT T s) - 1 - i)) = _
      rw [ea, eb, ec, if_pos c]
    rw [g]
    refine ⟨⟨by show ((ah s : Nat) : Int) < 3 * m; omega, by show 0 ≤ ca - 1 - i; omega, by show ca - 1 - i < n (vT T (ah s)); rw [ea]; omega⟩, ?_, fun q => ah_ne s (congrArg Prod.fst q)⟩
    unfold gg
    show (if ca - 1 - i < (n (vT T (ah (ah s))) + n (vT T (ah s)) - n (vT T (bh (ah s)))) / 2 then (ah (ah s), n (vT T (ah (ah s))) - 1 - (ca - 1 - i)) else (bh (ah s), n (vT T (ah s)) - 1 - (ca - 1 - i))) = (s, i)
    rw [ah_ah, bh_ah, ea, eb, ec, if_neg (by omega)]
    exact Prod.ext rfl (by show ca - 1 - (ca - 1 - i) = i; omega)
  · have g : gg T n (s, i) = (bh s, cc - 1 - i) := by
      unfold gg
      show (if i < (n (vT T (ah s)) + n (vT T s) - n (vT T (bh s))) / 2 then (ah s, n (vT T (ah s)) - 1 - i) else (bh s, n (vT T s) - 1 - i)) = _
      rw [ea, eb, ec, if_neg c]
    rw [g]
    refine ⟨⟨by show ((bh s : Nat) : Int) < 3 * m; omega, by show 0 ≤ cc - 1 - i; omega, by show cc - 1 - i < n (vT T (bh s)); rw [eb]; omega⟩, ?_, fun q => bh_ne s (congrArg Prod.fst q)⟩
    unfold gg
    show (if cc - 1 - i < (n (vT T (ah (bh s))) + n (vT T (bh s)) - n (vT T (bh (bh s)))) / 2 then (ah (bh s), n (vT T (ah (bh s))) - 1 - (cc - 1 - i)) else (bh (bh s), n (vT T (bh s)) - 1 - (cc - 1 - i))) = (s, i)
    rw [ah_bh, bh_bh, ea, eb, ec, if_pos (by omega)]
    exact Prod.ext rfl (by show cc - 1 - (cc - 1 - i) = i; omega)
end
def tk (T o n : Nat → Int) (x : Nat × Int) : Nat → Nat × Int
  | 0 => x
  | k + 1 => gg T n (vv T o n (tk T o n x k))
def nu (T fs n : Nat → Int) (x : Nat × Int) : Int := sm n (vT T x.1) + if (x.1 : Int) = fs (vT T x.1) then x.2 else n (vT T x.1) - 1 - x.2
section
variable {m E : Int} {T o fs n : Nat → Int}
theorem tk_v (h : WT m E T o fs) (f : FT m.toNat (vT T) n) {x : Nat × Int} (v : vd m T n x) : ∀ k, vd m T n (tk T o n x k)
  | 0 => v
  | k + 1 => (gg_v h.m0 f (vv_v h (tk_v h f v k)).1).1
theorem tk_b (h : WT m E T o fs) (f : FT m.toNat (vT T) n) {x : Nat × Int} (v : vd m T n x) {i j : Nat} (q : tk T o n x (i + 1) = tk T o n x (j + 1)) : tk T o n x i = tk T o n x j := by
  have a := vv_v h (tk_v h f v i); have b := vv_v h (tk_v h f v j)
  have c := gg_v h.m0 f a.1; have d := gg_v h.m0 f b.1
  have q : gg T n (vv T o n (tk T o n x i)) = gg T n (vv T o n (tk T o n x j)) := q
  have e : vv T o n (tk T o n x i) = vv T o n (tk T o n x j) := by rw [← c.2.1, q, d.2.1]
  rw [← a.2.1, e, b.2.1]
theorem tk_r (h : WT m E T o fs) (f : FT m.toNat (vT T) n) {x : Nat × Int} (v : vd m T n x) : ∀ d i : Nat, tk T o n x (i + d) ≠ vv T o n (tk T o n x i) := by
  intro d
  induction d using Nat.strongRecOn with
  | ind d ih =>
    intro i q
    have a := vv_v h (tk_v h f v i)
    match d, ih, q with
    | 0, _, q => exact a.2.2 q.symm
    | 1, _, q =>
      have c := gg_v h.m0 f a.1
      exact c.2.2 q
    | d + 2, ih, q =>
      -- one step nearer from both ends
      have b := vv_v h (tk_v h f v (i + (d + 1)))
      have c := gg_v h.m0 f b.1
      have q : gg T n (vv T o n (tk T o n x (i + (d + 1)))) = vv T o n (tk T o n x i) := q
      have e : vv T o n (tk T o n x (i + (d + 1))) = tk T o n x (i + 1) := by
        show _ = gg T n (vv T o n (tk T o n x i))
        rw [← q, c.2.1]
      have e2 : tk T o n x (i + 1 + d) = vv T o n (tk T o n x (i + 1)) := by
        rw [← e, b.2.1, show i + 1 + d = i + (d + 1) by omega]
      exact ih d (by omega) (i + 1) e2
theorem nu_i (h : WT m E T o fs) (n0 : ∀ j, j < 18 → 0 ≤ n j) {x y : Nat × Int} (vx : vd m T n x) (vy : vd m T n y) (q : nu T fs n x = nu T fs n y) : x = y ∨ x = vv T o n y := by
  obtain ⟨s, i⟩ := x
  obtain ⟨r, j⟩ := y
  obtain ⟨x1, x2, x3⟩ := vx
  obtain ⟨y1, y2, y3⟩ := vy
  have x1 : (s : Int) < 3 * m := x1
  have y1 : (r : Int) < 3 * m := y1
  have x2 : 0 ≤ i := x2
  have y2 : 0 ≤ j := y2
  have x3 : i < n (vT T s) := x3
  have y3 : j < n (vT T r) := y3
  have q : (sm n (vT T s) + if (s : Int) = fs (vT T s) then i else n (vT T s) - 1 - i) = (sm n (vT T r) + if (r : Int) = fs (vT T r) then j else n (vT T r) - 1 - j) := q
  have l := h.lt
  have m0 := h.m0
  have k := sm_inj n0 (l s (by omega)) (l r (by omega)) (by split <;> omega) (by split <;> omega) (by split <;> omega) (by split <;> omega) q
  obtain ⟨k1, k2⟩ := k
  have ts := h.tE s x1; have tr := h.tE r y1
  have k1' : (T s).toNat = (T r).toNat := k1
  have tw := h.tw r s y1 x1 (by omega)
  have fl := h.fL (T r).toNat (by omega)
  have twf := h.tw (fs (T r).toNat).toNat r (by omega) y1 (by rw [fl.2.2]; omega)
  have twg := h.tw (fs (T r).toNat).toNat s (by omega) x1 (by rw [fl.2.2]; omega)
  have on := h.on r y1
  have ol := h.oL r y1
  rw [k1] at k2 x3
  have vt : vT T r = (T r).toNat := rfl
  rcases tw with c | c
  · left
    subst c
    refine Prod.ext rfl ?_
    show i = j
    by_cases d : (s : Int) = fs (vT T s)
    · rw [if_pos d, if_pos d] at k2; exact k2
    · rw [if_neg d, if_neg d] at k2; omega
  · right
    refine Prod.ext (by show s = (o r).toNat; omega) ?_
    show i = n (vT T r) - 1 - j
    rw [vt] at k2 ⊢
    by_cases d : (r : Int) = fs (T r).toNat
    · rw [if_pos d, if_neg (by omega)] at k2; omega
    · rw [if_neg d, if_pos (by omega)] at k2; omega
/-- not come back yet: not longer than all strands -/
theorem tk_n (h : WT m E T o fs) (f : FT m.toNat (vT T) n) {x : Nat × Int} (v : vd m T n x) {k : Nat} (nb : ∀ j, 0 < j → j < k → tk T o n x j ≠ x) : (k : Int) ≤ sm n 18 := by
  have n0 := f.1
  have sn := sm_nn (f := n) 18 n0
  have nr : ∀ i, 0 ≤ nu T fs n (tk T o n x i) ∧ nu T fs n (tk T o n x i) < sm n 18 := by
    intro i
    obtain ⟨v1, v2, v3⟩ := tk_v h f v i
    have m0 := h.m0
    exact sm_b n0 (h.lt _ (by omega)) (by split <;> omega) (by split <;> omega)
  have key := pigeon (sm n 18).toNat k (fun i => (nu T fs n (tk T o n x i)).toNat) (fun i hi => by
    show (nu T fs n (tk T o n x i)).toNat < _
    have := nr i; omega) (fun i j hi hj q => by
    have q : (nu T fs n (tk T o n x i)).toNat = (nu T fs n (tk T o n x j)).toNat := q
    have a := nr i; have b := nr j
    have back : ∀ {i j : Nat}, i < j → j < k → tk T o n x j ≠ tk T o n x i := by
      intro i
      induction i with
      | zero => intro j h1 h2; exact nb j h1 h2
      | succ i ih =>
        intro j h1 h2 q
        cases j with
        | zero => omega
        | succ j => exact ih (j := j) (by omega) (by omega) (tk_b h f v q)
    rcases Nat.lt_trichotomy i j with c | c | c
    · rcases nu_i (o := o) h n0 (tk_v h f v j) (tk_v h f v i) (by omega) with d | d
      · exact absurd d (back c hj)
      · have := tk_r h f v (j - i) i
        rw [show i + (j - i) = j by omega] at this
        exact absurd d this
    · exact c
    · rcases nu_i (o := o) h n0 (tk_v h f v i) (tk_v h f v j) (by omega) with d | d
      · exact absurd d (back c hi)
      · have := tk_r h f v (i - j) j
        rw [show j + (i - j) = i by omega] at this
        exact absurd d this)
  omega
end

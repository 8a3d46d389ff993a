/-! what is told: pieces by slots -/
theorem mu_fn {z : mZ} {a b i : Nat} {v : Int} (h : a ≠ b) : mu z b i v a = z a := funext fun j => mu_ne (fun q => h q.1)
theorem mu_sf {z : mZ} {a i : Nat} {v : Int} : mu z a i v a = fun j => if j = i then v else z a j := by
  funext j
  unfold mu
  by_cases q : j = i
  · rw [if_pos ⟨rfl, q⟩, if_pos q]
  · rw [if_neg (fun k => q k.2), if_neg q]
def sm (f : Nat → Int) : Nat → Int
  | 0 => 0
  | n + 1 => sm f n + f n
theorem sm_c {f g : Nat → Int} : ∀ n : Nat, (∀ j, j < n → g j = f j) → sm g n = sm f n
  | 0, _ => rfl
  | n + 1, h => by unfold sm; rw [sm_c n (fun j hj => h j (by omega)), h n (by omega)]
theorem sm_u {f g : Nat → Int} {i : Nat} (h : ∀ j, j ≠ i → g j = f j) : ∀ n : Nat, i < n → sm g n = sm f n + (g i - f i)
  | 0, hi => absurd hi (by omega)
  | n + 1, hi => by
    unfold sm
    by_cases e : i = n
    · subst e
      rw [sm_c i (fun j hj => h j (by omega))]; omega
    · rw [sm_u h n (by omega), h n (fun q => e q.symm)]; omega
theorem sm_s (f : Nat → Int) (n : Nat) : sm f (n + 1) = sm f n + f n := rfl
theorem sm_nn {f : Nat → Int} : ∀ n : Nat, (∀ j, j < n → 0 ≤ f j) → 0 ≤ sm f n
  | 0, _ => Int.le_refl 0
  | n + 1, h => by
    have h1 : 0 ≤ sm f n := sm_nn n (fun j hj => h j (by omega))
    have h2 : 0 ≤ f n := h n (by omega)
    rw [sm_s]; omega
theorem sm_le {f : Nat → Int} {k : Nat} (n : Nat) : k ≤ n → (∀ j, j < n → 0 ≤ f j) → sm f k ≤ sm f n := by
  induction n with
  | zero =>
    intro h _
    have e : k = 0 := by omega
    subst e; exact Int.le_refl _
  | succ n ih =>
    intro h h0
    by_cases e : k = n + 1
    · subst e; exact Int.le_refl _
    · have h1 := ih (by omega) (fun j hj => h0 j (by omega))
      have h2 : 0 ≤ f n := h0 n (by omega)
      rw [sm_s]; omega
theorem sm_at {f : Nat → Int} {k : Nat} (n : Nat) : k < n → (∀ j, j < n → 0 ≤ f j) → f k ≤ sm f n := by
  intro h h0
  have h1 := sm_le (f := f) (k := k + 1) n (by omega) h0
  have h2 := sm_nn (f := f) k (fun j hj => h0 j (by omega))
  rw [sm_s] at h1; omega
/-- c sides are told: how often each edge, and where -/
def PI (T tt fs ss : Nat → Int) (c : Int) : Prop := sm tt 18 = c ∧ ∀ e : Nat, e < 18 → 0 ≤ tt e ∧ tt e ≤ 2 ∧
  (tt e = 0 → ∀ s : Nat, (s : Int) < c → T s ≠ e) ∧
  (tt e = 1 → 0 ≤ fs e ∧ fs e < c ∧ T (fs e).toNat = e ∧ ∀ s : Nat, (s : Int) < c → T s = e → (s : Int) = fs e) ∧
  (tt e = 2 → 0 ≤ fs e ∧ fs e < ss e ∧ ss e < c ∧ T (fs e).toNat = e ∧ T (ss e).toNat = e ∧ ∀ s : Nat, (s : Int) < c → T s = e → (s : Int) = fs e ∨ (s : Int) = ss e)
theorem PI_n {T tt fs ss : Nat → Int} (h : ∀ e, e < 18 → tt e = 0) : PI T tt fs ss 0 := by
  constructor
  · rw [sm_c (f := fun _ => 0) (g := tt) 18 h]; decide
  · intro e he
    rw [h e he]
    exact ⟨by omega, by omega, fun _ s hs => absurd hs (by omega), fun q => absurd q (by omega), fun q => absurd q (by omega)⟩
theorem PI_0 {T tt fs ss T' tt' fs' : Nat → Int} {c : Int} {e : Nat} (h : PI T tt fs ss c) (he : e < 18) (h0 : tt e = 0) (c0 : 0 ≤ c)
    (hT : ∀ s : Nat, (s : Int) ≠ c → T' s = T s) (hTc : T' c.toNat = e) (ht : ∀ j, j ≠ e → tt' j = tt j) (hte : tt' e = 1) (hf : ∀ j, j ≠ e → fs' j = fs j) (hfe : fs' e = c) : PI T' tt' fs' ss (c + 1) := by
  obtain ⟨hs, hp⟩ := h
  constructor
  · rw [sm_u (f := tt) (g := tt') ht 18 he, hs, hte, h0]; omega
  · intro j hj
    obtain ⟨p1, p2, p3, p4, p5⟩ := hp j hj
    by_cases q : j = e
    · subst q
      rw [hte, hfe]
      refine ⟨by omega, by omega, fun k => absurd k (by omega), fun _ => ⟨c0, by omega, hTc, fun s hs2 k => ?_⟩, fun k => absurd k (by omega)⟩
      by_cases q2 : (s : Int) = c
      · exact q2
      · rw [hT s q2] at k; exact absurd k (p3 h0 s (by omega))
    · rw [ht j q, hf j q]
      have key : ∀ s : Nat, (s : Int) < c + 1 → T' s = j → (s : Int) < c ∧ T s = j := by
        intro s hs2 k
        by_cases q2 : (s : Int) = c
        · rw [show s = c.toNat by omega, hTc] at k; omega
        · rw [hT s q2] at k; exact ⟨by omega, k⟩
      refine ⟨p1, p2, fun k s hs2 k2 => ?_, fun k => ?_, fun k => ?_⟩
      · have := key s hs2 k2; exact p3 k s this.1 this.2
      · obtain ⟨a1, a2, a3, a4⟩ := p4 k
        refine ⟨a1, by omega, by rw [hT _ (by omega)]; exact a3, fun s hs2 k2 => ?_⟩
        have := key s hs2 k2; exact a4 s this.1 this.2
      · obtain ⟨a1, a2, a3, a4, a5, a6⟩ := p5 k
        refine ⟨a1, a2, by omega, by rw [hT _ (by omega)]; exact a4, by rw [hT _ (by omega)]; exact a5, fun s hs2 k2 => ?_⟩
        have := key s hs2 k2; exact a6 s this.1 this.2
theorem PI_1 {T tt fs ss T' tt' ss' : Nat → Int} {c : Int} {e : Nat} (h : PI T tt fs ss c) (he : e < 18) (h0 : tt e = 1) (c0 : 0 ≤ c)
    (hT : ∀ s : Nat, (s : Int) ≠ c → T' s = T s) (hTc : T' c.toNat = e) (ht : ∀ j, j ≠ e → tt' j = tt j) (hte : tt' e = 2) (hf : ∀ j, j ≠ e → ss' j = ss j) (hfe : ss' e = c) : PI T' tt' fs ss' (c + 1) := by
  obtain ⟨hs, hp⟩ := h
  constructor
  · rw [sm_u (f := tt) (g := tt') ht 18 he, hs, hte, h0]; omega
  · intro j hj
    obtain ⟨p1, p2, p3, p4, p5⟩ := hp j hj
    by_cases q : j = e
    · subst q
      rw [hte, hfe]
      obtain ⟨a1, a2, a3, a4⟩ := p4 h0
      refine ⟨by omega, by omega, fun k => absurd k (by omega), fun k => absurd k (by omega), fun _ => ⟨a1, a2, by omega, by rw [hT _ (by omega)]; exact a3, hTc, fun s hs2 k => ?_⟩⟩
      by_cases q2 : (s : Int) = c
      · exact Or.inr q2
      · rw [hT s q2] at k; exact Or.inl (a4 s (by omega) k)
    · rw [ht j q, hf j q]
      have key : ∀ s : Nat, (s : Int) < c + 1 → T' s = j → (s : Int) < c ∧ T s = j := by
        intro s hs2 k
        by_cases q2 : (s : Int) = c
        · rw [show s = c.toNat by omega, hTc] at k; omega
        · rw [hT s q2] at k; exact ⟨by omega, k⟩
      refine ⟨p1, p2, fun k s hs2 k2 => ?_, fun k => ?_, fun k => ?_⟩
      · have := key s hs2 k2; exact p3 k s this.1 this.2
      · obtain ⟨a1, a2, a3, a4⟩ := p4 k
        refine ⟨a1, by omega, by rw [hT _ (by omega)]; exact a3, fun s hs2 k2 => ?_⟩
        have := key s hs2 k2; exact a4 s this.1 this.2
      · obtain ⟨a1, a2, a3, a4, a5, a6⟩ := p5 k
        refine ⟨a1, a2, by omega, by rw [hT _ (by omega)]; exact a4, by rw [hT _ (by omega)]; exact a5, fun s hs2 k2 => ?_⟩
        have := key s hs2 k2; exact a6 s this.1 this.2
theorem PI_0' {T tt fs ss T' tt' fs' ss' : Nat → Int} {c : Int} {e : Nat} (h : PI T tt fs ss c) (he : e < 18) (h0 : tt e = 0) (c0 : 0 ≤ c)
    (hT : ∀ s : Nat, (s : Int) ≠ c → T' s = T s) (hTc : T' c.toNat = e) (ht : ∀ j, j ≠ e → tt' j = tt j) (hte : tt' e = 1) (hf : ∀ j, j ≠ e → fs' j = fs j) (hfe : fs' e = c) (hs : ∀ j, ss' j = ss j) : PI T' tt' fs' ss' (c + 1) := by
  rw [funext hs]
  exact PI_0 h he h0 c0 hT hTc ht hte hf hfe
theorem PI_1' {T tt fs ss T' tt' fs' ss' : Nat → Int} {c : Int} {e : Nat} (h : PI T tt fs ss c) (he : e < 18) (h0 : tt e = 1) (c0 : 0 ≤ c)
    (hT : ∀ s : Nat, (s : Int) ≠ c → T' s = T s) (hTc : T' c.toNat = e) (ht : ∀ j, j ≠ e → tt' j = tt j) (hte : tt' e = 2) (hf : ∀ j, j ≠ e → ss' j = ss j) (hfe : ss' e = c) (hs : ∀ j, fs' j = fs j) : PI T' tt' fs' ss' (c + 1) := by
  rw [funext hs]
  exact PI_1 h he h0 c0 hT hTc ht hte hf hfe
/-- a whole ground: m pieces, E edges; the edge at a slot, the slot over it, an edge's first slot -/
abbrev WT (m E : Int) (T o fs : Nat → Int) : Prop := (0 ≤ m) ∧ (2 * E = 3 * m) ∧ (m ≤ 12) ∧ (∀ s : Nat, (s : Int) < 3 * m → 0 ≤ T s ∧ T s < E) ∧ (∀ s : Nat, (s : Int) < 3 * m → 0 ≤ o s ∧ o s < 3 * m) ∧ (∀ s : Nat, (s : Int) < 3 * m → T (o s).toNat = T s) ∧ (∀ s : Nat, (s : Int) < 3 * m → o (o s).toNat = s) ∧ (∀ s : Nat, (s : Int) < 3 * m → o s ≠ s) ∧ (∀ e : Nat, (e : Int) < E → 0 ≤ fs e ∧ fs e < 3 * m ∧ T (fs e).toNat = e) ∧ (∀ s r : Nat, (s : Int) < 3 * m → (r : Int) < 3 * m → T s = T r → r = s ∨ (r : Int) = o s)
theorem WT.m0 {m E : Int} {T o fs : Nat → Int} (h : WT m E T o fs) : 0 ≤ m := h.1
theorem WT.hE {m E : Int} {T o fs : Nat → Int} (h : WT m E T o fs) : 2 * E = 3 * m := h.2.1
theorem WT.hm {m E : Int} {T o fs : Nat → Int} (h : WT m E T o fs) : m ≤ 12 := h.2.2.1
theorem WT.tE {m E : Int} {T o fs : Nat → Int} (h : WT m E T o fs) : ∀ s : Nat, (s : Int) < 3 * m → 0 ≤ T s ∧ T s < E := h.2.2.2.1
theorem WT.oL {m E : Int} {T o fs : Nat → Int} (h : WT m E T o fs) : ∀ s : Nat, (s : Int) < 3 * m → 0 ≤ o s ∧ o s < 3 * m := h.2.2.2.2.1
theorem WT.oT {m E : Int} {T o fs : Nat → Int} (h : WT m E T o fs) : ∀ s : Nat, (s : Int) < 3 * m → T (o s).toNat = T s := h.2.2.2.2.2.1
theorem WT.oo {m E : Int} {T o fs : Nat → Int} (h : WT m E T o fs) : ∀ s : Nat, (s : Int) < 3 * m → o (o s).toNat = s := h.2.2.2.2.2.2.1
theorem WT.on {m E : Int} {T o fs : Nat → Int} (h : WT m E T o fs) : ∀ s : Nat, (s : Int) < 3 * m → o s ≠ s := h.2.2.2.2.2.2.2.1
theorem WT.fL {m E : Int} {T o fs : Nat → Int} (h : WT m E T o fs) : ∀ e : Nat, (e : Int) < E → 0 ≤ fs e ∧ fs e < 3 * m ∧ T (fs e).toNat = e := h.2.2.2.2.2.2.2.2.1
theorem WT.tw {m E : Int} {T o fs : Nat → Int} (h : WT m E T o fs) : ∀ s r : Nat, (s : Int) < 3 * m → (r : Int) < 3 * m → T s = T r → r = s ∨ (r : Int) = o s := h.2.2.2.2.2.2.2.2.2
/-- glued: each edge that is told twice -/
theorem WT_of {m : Int} {T tt fs ss o : Nat → Int} (m0 : 0 ≤ m) (hm : m ≤ 12) (he : m % 2 = 0) (hT : ∀ s : Nat, (s : Int) < 3 * m → 0 ≤ T s ∧ T s ≤ 17) (p : PI T tt fs ss (3 * m)) (h2 : ∀ e : Nat, (e : Int) < m / 2 * 3 → tt e = 2) (ho : ∀ e : Nat, (e : Int) < m / 2 * 3 → o (fs e).toNat = ss e ∧ o (ss e).toNat = fs e) : WT m (m / 2 * 3) T o fs := by
  obtain ⟨hs, hp⟩ := p
  -- no other edge is told
  have tz : ∀ e : Nat, e < 18 → m / 2 * 3 ≤ (e : Int) → tt e = 0 := by
    intro e e1 e2
    have nn : ∀ j : Nat, j < 18 → 0 ≤ tt j := fun j hj => (hp j hj).1
    have k : ∀ N : Nat, (N : Int) ≤ m / 2 * 3 → N ≤ 18 → sm tt N = 2 * N := by
      intro N
      induction N with
      | zero => intro _ _; rfl
      | succ N ih =>
        intro a b
        have := ih (by omega) (by omega)
        rw [sm_s, this, h2 N (by omega)]; omega
    have k1 := k (m / 2 * 3).toNat (by omega) (by omega)
    apply Classical.byContradiction
    intro q
    have q1 := (hp e e1).1
    have k2 : ∀ N : Nat, e < N → N ≤ 18 → sm tt (m / 2 * 3).toNat + 1 ≤ sm tt N := by
      intro N
      induction N with
      | zero => intro a; omega
      | succ N ih =>
        intro a b
        rw [sm_s tt N]
        by_cases c : e = N
        · subst c
          have := sm_le (f := tt) (k := (m / 2 * 3).toNat) e (by omega) (fun j hj => nn j (by omega))
          omega
        · have := ih (by omega) (by omega)
          have := nn N (by omega)
          omega
    have := k2 18 e1 (by omega)
    omega
  have tE : ∀ s : Nat, (s : Int) < 3 * m → 0 ≤ T s ∧ T s < m / 2 * 3 := by
    intro s hs1
    have := hT s hs1
    refine ⟨this.1, ?_⟩
    apply Classical.byContradiction
    intro q
    have e1 : (T s).toNat < 18 := by omega
    have := tz (T s).toNat e1 (by omega)
    exact (hp _ e1).2.2.1 this s hs1 (by omega)
  have two : ∀ s : Nat, (s : Int) < 3 * m → (s : Int) = fs (T s).toNat ∨ (s : Int) = ss (T s).toNat := by
    intro s hs1
    have a := tE s hs1
    have := (hp (T s).toNat (by omega)).2.2.2.2 (h2 _ (by omega))
    exact this.2.2.2.2.2 s hs1 (by omega)
  have fss : ∀ e : Nat, (e : Int) < m / 2 * 3 → 0 ≤ fs e ∧ fs e < ss e ∧ ss e < 3 * m ∧ T (fs e).toNat = e ∧ T (ss e).toNat = e := by
    intro e e1
    have := (hp e (by omega)).2.2.2.2 (h2 _ e1)
    exact ⟨this.1, this.2.1, this.2.2.1, this.2.2.2.1, this.2.2.2.2.1⟩
  have os : ∀ s : Nat, (s : Int) < 3 * m → (((s : Int) = fs (T s).toNat ∧ o s = ss (T s).toNat) ∨ ((s : Int) = ss (T s).toNat ∧ o s = fs (T s).toNat)) := by
    intro s hs1
    have a := tE s hs1
    have b := ho (T s).toNat (by omega)
    rcases two s hs1 with q | q
    · left; refine ⟨q, ?_⟩
      rw [← b.1, ← q]; rfl
    · right; refine ⟨q, ?_⟩
      rw [← b.2, ← q]; rfl
  refine ⟨m0, by omega, hm, tE, ?_, ?_, ?_, ?_, ?_, ?_⟩
  · intro s hs1
    have a := tE s hs1
    have b := fss (T s).toNat (by omega)
    rcases os s hs1 with q | q <;> omega
  · intro s hs1
    have a := tE s hs1
    have b := fss (T s).toNat (by omega)
    rcases os s hs1 with q | q
    · rw [q.2, b.2.2.2.2]; omega
    · rw [q.2, b.2.2.2.1]; omega
  · intro s hs1
    have a := tE s hs1
    have b := ho (T s).toNat (by omega)
    rcases os s hs1 with q | q
    · rw [q.2, b.2]; omega
    · rw [q.2, b.1]; omega
  · intro s hs1 k
    have a := tE s hs1
    have b := fss (T s).toNat (by omega)
    rcases os s hs1 with q | q <;> omega
  · intro e e1
    have b := fss e e1
    exact ⟨b.1, by omega, b.2.2.2.1⟩
  · intro s r hs1 hr k
    rcases os s hs1 with q | q <;> rcases two r hr with q2 | q2 <;> rw [← k] at q2 <;> omega
/-- the same with numbers without sign -/
abbrev vT (f : Nat → Int) : Nat → Nat := fun s => (f s).toNat
section
variable {m E : Int} {T o fs : Nat → Int}
theorem WT.we (h : WT m E T o fs) : WE m.toNat (vT T) := by
  have m0 := h.m0
  intro s hs
  have l := h.oL s (by omega)
  refine ⟨(o s).toNat, by omega, ?_, ?_, ?_⟩
  · intro q; have := h.on s (by omega); omega
  · show (T (o s).toNat).toNat = (T s).toNat
    rw [h.oT s (by omega)]
  · intro r hr q
    have a := h.tE s (by omega); have b := h.tE r (by omega)
    have q : (T r).toNat = (T s).toNat := q
    rcases h.tw s r (by omega) (by omega) (by omega) with k | k
    · exact Or.inl k
    · right; omega
theorem WT.lt (h : WT m E T o fs) : ∀ s, s < 3 * m.toNat → vT T s < 18 := by
  have m0 := h.m0
  intro s hs
  have a := h.tE s (by omega); have := h.hE; have := h.hm
  show (T s).toNat < 18
  omega
theorem WT.or (h : WT m E T o fs) : OR m.toNat (vT T) (fun s => decide ((s : Int) = fs (T s).toNat)) := by
  have m0 := h.m0
  intro s r hs hr ne q
  have a := h.tE s (by omega); have b := h.tE r (by omega)
  have q : (T s).toNat = (T r).toNat := q
  have f := h.fL (T s).toNat (by omega)
  have k := h.tw s r (by omega) (by omega) (by omega)
  have k1 := h.tw (fs (T s).toNat).toNat s (by omega) (by omega) (by rw [f.2.2]; omega)
  have k2 := h.tw (fs (T s).toNat).toNat r (by omega) (by omega) (by rw [f.2.2]; omega)
  intro e
  have e : decide ((s : Int) = fs (T s).toNat) = decide ((r : Int) = fs (T r).toNat) := e
  rw [← q] at e
  by_cases c : (s : Int) = fs (T s).toNat
  · rw [decide_eq_true c] at e
    have := of_decide_eq_true e.symm
    omega
  · rw [decide_eq_false c] at e
    have := of_decide_eq_false e.symm
    omega
end
/-! reading: what holds of the pieces and lines told so far -/
theorem gl_s {T tt fs ss o o' : Nat → Int} {c x : Int} (p : PI T tt fs ss c) (x0 : 0 ≤ x) (x17 : x ≤ 17) (h2 : tt x.toNat = 2) (ih : ∀ e : Nat, (e : Int) < x → tt e = 2 ∧ o (fs e).toNat = ss e ∧ o (ss e).toNat = fs e) (ho : ∀ s : Nat, (s : Int) ≠ fs x.toNat → (s : Int) ≠ ss x.toNat → o' s = o s) (h1 : o' (fs x.toNat).toNat = ss x.toNat) (h3 : o' (ss x.toNat).toNat = fs x.toNat) : ∀ e : Nat, (e : Int) < x + 1 → tt e = 2 ∧ o' (fs e).toNat = ss e ∧ o' (ss e).toNat = fs e := by
  intro e he
  by_cases q : e = x.toNat
  · subst q; exact ⟨h2, h1, h3⟩
  · obtain ⟨i1, i2, i3⟩ := ih e (by omega)
    have p1 := (p.2 e (by omega)).2.2.2.2 i1
    have p2 := (p.2 x.toNat (by omega)).2.2.2.2 h2
    have d1 : (fs e).toNat ≠ (fs x.toNat).toNat := by
      intro k; have a := p1.2.2.2.1; rw [k, p2.2.2.2.1] at a; omega
    have d2 : (fs e).toNat ≠ (ss x.toNat).toNat := by
      intro k; have a := p1.2.2.2.1; rw [k, p2.2.2.2.2.1] at a; omega
    have d3 : (ss e).toNat ≠ (fs x.toNat).toNat := by
      intro k; have a := p1.2.2.2.2.1; rw [k, p2.2.2.2.1] at a; omega
    have d4 : (ss e).toNat ≠ (ss x.toNat).toNat := by
      intro k; have a := p1.2.2.2.2.1; rw [k, p2.2.2.2.2.1] at a; omega
    refine ⟨i1, ?_, ?_⟩
    · rw [ho _ (by omega) (by omega)]; exact i2
    · rw [ho _ (by omega) (by omega)]; exact i3
theorem FT_of {m : Nat} {T : Nat → Nat} {n : Nat → Int} (h0 : ∀ e, e < 18 → 0 ≤ n e) (h : ∀ q, q < m → tri (n (T (3 * q))) (n (T (3 * q + 1))) (n (T (3 * q + 2)))) : FT m T n := by
  refine ⟨h0, fun s hs => ?_⟩
  have k := h (s / 3) (by omega)
  have b := bh_cases s; have a := ah_cases s
  rcases (show s % 3 = 0 ∨ s % 3 = 1 ∨ s % 3 = 2 by omega) with q | q | q
  · rw [show bh s = 3 * (s / 3) + 1 by omega, show ah s = 3 * (s / 3) + 2 by omega]
    rw [show T s = T (3 * (s / 3)) by rw [show 3 * (s / 3) = s by omega]]
    exact k
  · rw [show bh s = 3 * (s / 3) + 2 by omega, show ah s = 3 * (s / 3) by omega]
    rw [show T s = T (3 * (s / 3) + 1) by rw [show 3 * (s / 3) + 1 = s by omega]]
    exact tri_r k
  · rw [show bh s = 3 * (s / 3) by omega, show ah s = 3 * (s / 3) + 1 by omega]
    rw [show T s = T (3 * (s / 3) + 2) by rw [show 3 * (s / 3) + 2 = s by omega]]
    exact tri_r (tri_r k)
def FTt (z : mZ) (t : Nat) (n : Nat → Int) : Prop := FT (z t 0).toNat (vT (z (t + 1))) n
def LF (z w : mZ) (t : Nat) : Prop := ∀ l : Nat, (l : Int) < z t 3 → FTt z t (w (t + 8 + l))
def WTt (z : mZ) (t : Nat) : Prop := WT (z t 0) (z t 1) (z (t + 1)) (z (t + 2)) (z (t + 5))
def RD (z w : mZ) (t : Nat) : Prop := (z 3 5 = 0 → PI (z (t + 1)) (z (t + 4)) (z (t + 5)) (z (t + 6)) (3 * z t 0) ∧ z t 3 = 0) ∧ (z 3 5 = 1 → WTt z t ∧ LF z w t)
def inD (t a i : Nat) : Prop := (a = 3 ∧ i = 5) ∨ (a = t ∧ (i = 0 ∨ i = 1 ∨ i = 3)) ∨ (t + 1 ≤ a ∧ a ≤ t + 2) ∨ (t + 4 ≤ a ∧ a ≤ t + 6) ∨ (t + 8 ≤ a ∧ a ≤ t + 15)
theorem RD_fr {S : mS} {z w z' w' : mZ} {t : Nat} (h : st_ S z w z' w') (h8 : z t 3 ≤ 8) (hs : ∀ a i, inD t a i → ¬ inS S a i) (r : RD z w t) : RD z' w' t := by
  have ez : ∀ a i, inD t a i → z' a i = z a i := fun a i q => h.2.2.1 a i (hs a i q)
  have ew : ∀ a i, inD t a i → w' a i = w a i := fun a i q => h.2.2.2 a i (hs a i q)
  have e0 : z' 3 5 = z 3 5 := ez _ _ (by unfold inD; omega)
  have e1 : z' t 0 = z t 0 := ez _ _ (by unfold inD; omega)
  have e2 : z' t 1 = z t 1 := ez _ _ (by unfold inD; omega)
  have e3 : z' t 3 = z t 3 := ez _ _ (by unfold inD; omega)
  have f1 : z' (t + 1) = z (t + 1) := funext fun i => ez _ _ (by unfold inD; omega)
  have f2 : z' (t + 2) = z (t + 2) := funext fun i => ez _ _ (by unfold inD; omega)
  have f4 : z' (t + 4) = z (t + 4) := funext fun i => ez _ _ (by unfold inD; omega)
  have f5 : z' (t + 5) = z (t + 5) := funext fun i => ez _ _ (by unfold inD; omega)
  have f6 : z' (t + 6) = z (t + 6) := funext fun i => ez _ _ (by unfold inD; omega)
  have g : ∀ l : Nat, l < 8 → w' (t + 8 + l) = w (t + 8 + l) := fun l hl => funext fun i => ew _ _ (by unfold inD; omega)
  unfold RD WTt LF FTt at *
  rw [e0, e1, e2, e3, f1, f2, f4, f5, f6]
  refine ⟨r.1, fun q => ⟨(r.2 q).1, fun l hl => ?_⟩⟩
  rw [g l (by omega)]
  exact (r.2 q).2 l hl
theorem PI_c {T tt fs ss : Nat → Int} {c c' : Int} (h : PI T tt fs ss c) (e : c = c') : PI T tt fs ss c' := e ▸ h
theorem nb_rd {w0 : mZ} {n : Nat} (h : ∀ e : Nat, e < 18 → 0 ≤ w0 n e ∧ w0 n e ≤ 100000000000000) (R : rw_ w0) {i : Nat} (hi : i < 18) : 0 ≤ w0 n i ∧ w0 n i ≤ 100000000000000 := h i hi
theorem RL_end {z w z0 w0 : mZ} {t : Nat} (r : RD z0 w0 t) (h5 : z0 3 5 = 1) (e5 : z 3 5 = z0 3 5) (e0 : z t 0 = z0 t 0) (e1 : z t 1 = z0 t 1) (e3 : z t 3 = z0 t 3 + 1) (h0 : 0 ≤ z0 t 3) (h7 : z0 t 3 ≤ 7) (f1 : z (t + 1) = z0 (t + 1)) (f2 : z (t + 2) = z0 (t + 2)) (f5 : z (t + 5) = z0 (t + 5))
    (rows : ∀ l : Nat, l < 8 → (l : Int) ≠ z0 t 3 → w (t + 8 + l) = w0 (t + 8 + l)) (new : FTt z0 t (w (t + 8 + (z0 t 3).toNat))) : RD z w t := by
  have q := r.2 h5
  unfold RD WTt LF FTt at *
  rw [e5, e0, e1, e3, f1, f2, f5]
  refine ⟨fun k => absurd k (by omega), fun _ => ⟨q.1, fun l hl => ?_⟩⟩
  by_cases c : (l : Int) = z0 t 3
  · rw [show l = (z0 t 3).toNat by omega]; exact new
  · rw [rows l (by omega) c]; exact q.2 l (by omega)
theorem FTt_fr {z z' : mZ} {t : Nat} {n : Nat → Int} (e0 : z' t 0 = z t 0) (f1 : z' (t + 1) = z (t + 1)) (h : FTt z t n) : FTt z' t n := by
  unfold FTt at *; rw [e0, f1]; exact h

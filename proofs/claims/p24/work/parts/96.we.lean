/-! rings: labels of corners; a flip keeps whether a line is the ring of some labels -/
def LAB (m : Nat) (T : Nat → Nat) (L : Nat → Int) : Prop := ∀ s r, s < 3 * m → r < 3 * m → s ≠ r → T s = T r → L r = L (ah s) ∧ L (ah r) = L s
def RNG (m : Nat) (T : Nat → Nat) (n : Nat → Int) : Prop := ∃ L : Nat → Int, (∀ s, L s = 0 ∨ L s = 1) ∧ LAB m T L ∧ ∀ s, s < 3 * m → n (T s) = L (ah s) + L s
section
variable {m : Nat} {T T' : Nat → Nat} {e x y z w s1 s2 r1 r2 : Nat}
theorem FLP.lbl (h : FLP m T T' e x y z w s1 s2 r1 r2) (L' : Nat → Int) : ∃ L : Nat → Int, L s1 = L' (bh r2) ∧ L (bh s1) = L' r1 ∧ L (ah s1) = L' (bh r1) ∧ L s2 = L' (bh r1) ∧ L (bh s2) = L' r2 ∧ L (ah s2) = L' (bh r2) ∧ ∀ s, s / 3 ≠ s1 / 3 → s / 3 ≠ s2 / 3 → L s = L' s := by
  have a1 := ah_ne s1; have a2 := bh_ne s1; have a3 := ab_ne s1
  have b1 := ah_ne s2; have b2 := bh_ne s2; have b3 := ab_ne s2
  have c1 := ah_div s1; have c2 := bh_div s1; have c3 := ah_div s2; have c4 := bh_div s2
  have ne := h.ne
  refine ⟨fun t => if t = s1 then L' (bh r2) else if t = bh s1 then L' r1 else if t = ah s1 then L' (bh r1) else if t = s2 then L' (bh r1) else if t = bh s2 then L' r2 else if t = ah s2 then L' (bh r2) else L' t, ?_, ?_, ?_, ?_, ?_, ?_, ?_⟩
  · show (if _ then _ else _) = _; rw [if_pos rfl]
  · show (if _ then _ else _) = _; rw [if_neg (by omega), if_pos rfl]
  · show (if _ then _ else _) = _; rw [if_neg (by omega), if_neg (by omega), if_pos rfl]
  · show (if _ then _ else _) = _; rw [if_neg (by omega), if_neg (by omega), if_neg (by omega), if_pos rfl]
  · show (if _ then _ else _) = _; rw [if_neg (by omega), if_neg (by omega), if_neg (by omega), if_neg (by omega), if_pos rfl]
  · show (if _ then _ else _) = _; rw [if_neg (by omega), if_neg (by omega), if_neg (by omega), if_neg (by omega), if_neg (by omega), if_pos rfl]
  · intro s d1 d2
    show (if _ then _ else _) = _
    rw [if_neg (by omega), if_neg (by omega), if_neg (by omega), if_neg (by omega), if_neg (by omega), if_neg (by omega)]
theorem FLP.rng (h : FLP m T T' e x y z w s1 s2 r1 r2) {n : Nat → Int} (g : RNG m T' (fl e x y z w n)) : RNG m T n := by
  obtain ⟨L', l01, lab, num⟩ := g
  obtain ⟨L, k1, k2, k3, k4, k5, k6, k7⟩ := h.lbl L'
  obtain ⟨g1, g2, g3, g4, g5, g6, g7⟩ := h.sgs
  have q1 := h.q1; have q2 := h.q2; have ne := h.ne
  have rne : r1 ≠ r2 := by omega
  obtain ⟨p1, p2⟩ := lab r1 r2 h.L1 h.L2 rne (h.f1.trans h.f2.symm)
  have nonE : ∀ t, t < 3 * m → T t ≠ e → ∃ t', t' < 3 * m ∧ sg s1 s2 r1 r2 t' = t ∧ L t = L' t' ∧ L (ah t) = L' (ah t') := by
    intro t ht hne
    by_cases d1 : t / 3 = s1 / 3
    · rcases sl_eq d1 with rfl | rfl | rfl
      · exact absurd h.e1 hne
      · exact ⟨ah r2, ah_lt h.L2, g6, by rw [k2, p2], by rw [ah_bh, k1, ah_ah]⟩
      · exact ⟨bh r1, bh_lt h.L1, g2, k3, by rw [ah_ah, k2, ah_bh]⟩
    · by_cases d2 : t / 3 = s2 / 3
      · rcases sl_eq d2 with rfl | rfl | rfl
        · exact absurd h.e2 hne
        · exact ⟨ah r1, ah_lt h.L1, g3, by rw [k5, p1], by rw [ah_bh, k4, ah_ah]⟩
        · exact ⟨bh r2, bh_lt h.L2, g5, k6, by rw [ah_ah, k5, ah_bh]⟩
      · have := ah_div t
        exact ⟨t, ht, g7 t d1 d2, k7 t d1 d2, k7 (ah t) (by omega) (by omega)⟩
  refine ⟨L, ?_, ?_, ?_⟩
  · intro s
    by_cases d1 : s / 3 = s1 / 3
    · rcases sl_eq d1 with rfl | rfl | rfl
      · rw [k1]; exact l01 _
      · rw [k2]; exact l01 _
      · rw [k3]; exact l01 _
    · by_cases d2 : s / 3 = s2 / 3
      · rcases sl_eq d2 with rfl | rfl | rfl
        · rw [k4]; exact l01 _
        · rw [k5]; exact l01 _
        · rw [k6]; exact l01 _
      · rw [k7 s d1 d2]; exact l01 _
  · intro s r hs hr hsr q
    by_cases c : T s = e
    · have cr : T r = e := by rw [← q]; exact c
      rcases h.eo s hs c with rfl | rfl <;> rcases h.eo r hr cr with rfl | rfl
      · exact absurd rfl hsr
      · exact ⟨k4.trans k3.symm, k6.trans k1.symm⟩
      · exact ⟨k1.trans k6.symm, k3.trans k4.symm⟩
      · exact absurd rfl hsr
    · obtain ⟨s', a1, a2, a3, a4⟩ := nonE s hs c
      obtain ⟨r', b1, b2, b3, b4⟩ := nonE r hr (by rw [← q]; exact c)
      have hne : s' ≠ r' := fun k => hsr (by rw [← a2, ← b2, k])
      obtain ⟨o1, o2⟩ := lab s' r' a1 b1 hne (by rw [h.sgT s', h.sgT r', a2, b2]; exact q)
      exact ⟨by rw [b3, a4]; exact o1, by rw [b4, a3]; exact o2⟩
  · intro s hs
    by_cases c : T s = e
    · have ne1 := num r1 h.L1
      have nx := num (ah r2) (ah_lt h.L2)
      have nz := num (ah r1) (ah_lt h.L1)
      have ny := num (bh r1) (bh_lt h.L1)
      have nw := num (bh r2) (bh_lt h.L2)
      rw [h.f1, fl_e] at ne1
      rw [h.gx, fl_ne h.nx, ah_ah] at nx
      rw [h.gz, fl_ne h.nz, ah_ah] at nz
      rw [h.gy, fl_ne h.ny, ah_bh] at ny
      rw [h.gw, fl_ne h.nw, ah_bh] at nw
      rw [c]
      rcases h.eo s hs c with rfl | rfl
      · rw [k3, k1]; omega
      · rw [k6, k4]; omega
    · obtain ⟨s', a1, a2, a3, a4⟩ := nonE s hs c
      have k := num s' a1
      rw [h.sgT s', a2, fl_ne c] at k
      rw [a3, a4]; exact k
end
/-- numbers of one edge each: a ring where two pieces lie unlike round it -/
theorem rng_bad {m : Nat} {T : Nat → Nat} {n : Nat → Int} (we : WE m T) {u v : Nat} (hu : u < 3 * m) (hv : v < 3 * m) (uv : u / 3 ≠ v / 3) (q1 : T (bh v) = T (ah u)) (q2 : T (ah v) = T (bh u)) (ef : T (ah u) ≠ T (bh u)) (ne : n (T (ah u)) = 1) (nf : n (T (bh u)) = 1) (no : ∀ s, s < 3 * m → T s ≠ T (ah u) → T s ≠ T (bh u) → n (T s) = 0) : RNG m T n := by
  have a1 := ah_ne u; have a2 := bh_ne u; have a3 := ab_ne u
  have b1 := ah_ne v; have b2 := bh_ne v; have b3 := ab_ne v
  have c1 := ah_div u; have c2 := bh_div u; have c3 := ah_div v; have c4 := bh_div v
  have se : ∀ s, s < 3 * m → T s = T (ah u) → s = ah u ∨ s = bh v := by
    intro s hs q
    obtain ⟨p, _, _, _, po⟩ := we (ah u) (ah_lt hu)
    have := po (bh v) (bh_lt hv) q1
    have := po s hs q
    omega
  have sf : ∀ s, s < 3 * m → T s = T (bh u) → s = bh u ∨ s = ah v := by
    intro s hs q
    obtain ⟨p, _, _, _, po⟩ := we (bh u) (bh_lt hu)
    have := po (ah v) (ah_lt hv) q2
    have := po s hs q
    omega
  obtain ⟨L, o01, l1, l2, l0⟩ : ∃ L : Nat → Int, (∀ s, L s = 0 ∨ L s = 1) ∧ L (bh u) = 1 ∧ L (bh v) = 1 ∧ ∀ s, s ≠ bh u → s ≠ bh v → L s = 0 := by
    refine ⟨fun s => if s = bh u ∨ s = bh v then 1 else 0, ?_, ?_, ?_, ?_⟩
    · intro s
      show (if _ then _ else _) = _ ∨ (if _ then _ else _) = _
      by_cases c : s = bh u ∨ s = bh v
      · rw [if_pos c]; exact Or.inr rfl
      · rw [if_neg c]; exact Or.inl rfl
    · show (if _ then _ else _) = _; rw [if_pos (Or.inl rfl)]
    · show (if _ then _ else _) = _; rw [if_pos (Or.inr rfl)]
    · intro s h1 h2
      show (if _ then _ else _) = _
      rw [if_neg (fun q => q.elim h1 h2)]
  have zu := l0 u (by omega) (by omega)
  have zau := l0 (ah u) (by omega) (by omega)
  have zv := l0 v (by omega) (by omega)
  have zav := l0 (ah v) (by omega) (by omega)
  have oth : ∀ s, T s ≠ T (ah u) → T s ≠ T (bh u) → L s = 0 ∧ L (ah s) = 0 := by
    intro s h1 h2
    refine ⟨l0 s (fun q => h2 (by rw [q])) (fun q => h1 (by rw [q]; exact q1)), l0 (ah s) (fun q => h1 ?_) (fun q => h2 ?_)⟩
    · rw [← bh_ah s, q, bh_bh]
    · rw [← bh_ah s, q, bh_bh]; exact q2
  refine ⟨L, o01, ?_, ?_⟩
  · intro s r hs hr hsr q
    by_cases c : T s = T (ah u)
    · rcases se s hs c with rfl | rfl <;> rcases se r hr (q.symm.trans c) with rfl | rfl
      · exact absurd rfl hsr
      · exact ⟨by rw [ah_ah, l1, l2], by rw [ah_bh, zau, zv]⟩
      · exact ⟨by rw [ah_bh, zau, zv], by rw [ah_ah, l1, l2]⟩
      · exact absurd rfl hsr
    · by_cases d : T s = T (bh u)
      · rcases sf s hs d with rfl | rfl <;> rcases sf r hr (q.symm.trans d) with rfl | rfl
        · exact absurd rfl hsr
        · exact ⟨by rw [ah_bh, zav, zu], by rw [ah_ah, l1, l2]⟩
        · exact ⟨by rw [ah_ah, l1, l2], by rw [ah_bh, zav, zu]⟩
        · exact absurd rfl hsr
      · obtain ⟨x1, x2⟩ := oth s c d
        obtain ⟨y1, y2⟩ := oth r (fun k => c (q.trans k)) (fun k => d (q.trans k))
        exact ⟨by rw [y1, x2], by rw [y2, x1]⟩
  · intro s hs
    by_cases c : T s = T (ah u)
    · rw [c, ne]
      rcases se s hs c with rfl | rfl
      · rw [ah_ah]; omega
      · rw [ah_bh]; omega
    · by_cases d : T s = T (bh u)
      · rw [d, nf]
        rcases sf s hs d with rfl | rfl
        · rw [ah_bh]; omega
        · rw [ah_ah]; omega
      · obtain ⟨x1, x2⟩ := oth s c d
        have a := no s hs c d
        omega
/-! a ring is a ring when gone along -/
section
variable {m E : Int} {T o fs n : Nat → Int} {L : Nat → Int}
def PAl (m : Int) (L : Nat → Int) (u : Nat × Int) : Prop := (u.1 : Int) < 3 * m ∧ u.2 = 0 ∧ L (ah u.1) = 1
def PBl (m : Int) (L : Nat → Int) (u : Nat × Int) : Prop := (u.1 : Int) < 3 * m ∧ u.2 = L (ah u.1) ∧ L u.1 = 1
theorem rl_n (num : ∀ s, s < 3 * m.toNat → n (vT T s) = L (ah s) + L s) {s : Nat} (hs : (s : Int) < 3 * m) : n (vT T s) = L (ah s) + L s ∧ n (vT T (ah s)) = L (bh s) + L (ah s) ∧ n (vT T (bh s)) = L s + L (bh s) := by
  have h1 := num s (by omega)
  have h2 := num (ah s) (ah_lt (by omega))
  have h3 := num (bh s) (bh_lt (by omega))
  rw [ah_ah] at h2
  rw [ah_bh] at h3
  exact ⟨h1, h2, h3⟩
theorem rl_h (l01 : ∀ s, L s = 0 ∨ L s = 1) (num : ∀ s, s < 3 * m.toNat → n (vT T s) = L (ah s) + L s) {u : Nat × Int} (hs : (u.1 : Int) < 3 * m) : hcx T n u ↔ u.2 < L (ah u.1) := by
  obtain ⟨h1, h2, h3⟩ := rl_n num hs
  unfold hcx
  rw [h1, h2, h3]
  have := l01 (ah u.1); have := l01 u.1; have := l01 (bh u.1)
  constructor <;> intro q <;> omega
theorem rl_o (h : WT m E T o fs) (lab : LAB m.toNat (vT T) L) {s : Nat} (hs : (s : Int) < 3 * m) : (((o s).toNat : Nat) : Int) < 3 * m ∧ L (o s).toNat = L (ah s) ∧ L (ah (o s).toNat) = L s := by
  have a := h.oL s hs
  have b := h.on s hs
  have c := h.oT s hs
  have l := lab s (o s).toNat (by omega) (by omega) (by omega) (by show (T s).toNat = (T (o s).toNat).toNat; rw [c])
  exact ⟨by omega, l.1, l.2⟩
theorem rl_A (h : WT m E T o fs) (l01 : ∀ s, L s = 0 ∨ L s = 1) (lab : LAB m.toNat (vT T) L) (num : ∀ s, s < 3 * m.toNat → n (vT T s) = L (ah s) + L s) {u : Nat × Int} (a : PAl m L u) : PAl m L (vv T o n (gg T n u)) ∧ hcx T n u := by
  obtain ⟨a1, a2, a3⟩ := a
  have hc : hcx T n u := (rl_h l01 num a1).mpr (by rw [a2, a3]; decide)
  have hg : gg T n u = (ah u.1, n (vT T (ah u.1)) - 1 - u.2) := if_pos hc
  have al : ((ah u.1 : Nat) : Int) < 3 * m := by have := ah_lt (m := m.toNat) (s := u.1) (by omega); omega
  obtain ⟨o1, o2, o3⟩ := rl_o h lab al
  refine ⟨?_, hc⟩
  rw [hg]
  exact ⟨o1, by show n (vT T (ah u.1)) - 1 - (n (vT T (ah u.1)) - 1 - u.2) = 0; omega, o3.trans a3⟩
theorem rl_B (h : WT m E T o fs) (l01 : ∀ s, L s = 0 ∨ L s = 1) (lab : LAB m.toNat (vT T) L) (num : ∀ s, s < 3 * m.toNat → n (vT T s) = L (ah s) + L s) {u : Nat × Int} (a : PBl m L u) : PBl m L (vv T o n (gg T n u)) ∧ ¬ hcx T n u := by
  obtain ⟨a1, a2, a3⟩ := a
  have hc : ¬ hcx T n u := fun q => by have := (rl_h l01 num a1).mp q; omega
  have hg : gg T n u = (bh u.1, n (vT T u.1) - 1 - u.2) := if_neg hc
  have bl : ((bh u.1 : Nat) : Int) < 3 * m := by have := bh_lt (m := m.toNat) (s := u.1) (by omega); omega
  obtain ⟨o1, o2, o3⟩ := rl_o h lab bl
  obtain ⟨n1, n2, n3⟩ := rl_n num a1
  refine ⟨?_, hc⟩
  rw [hg]
  refine ⟨o1, ?_, ?_⟩
  · show n (vT T (bh u.1)) - 1 - (n (vT T u.1) - 1 - u.2) = L (ah (o (bh u.1)).toNat)
    rw [o3, n3, n1, a2, a3]; omega
  · show L (o (bh u.1)).toNat = 1
    rw [o2, ah_bh]; exact a3
theorem rng_RG (h : WT m E T o fs) (g : RNG m.toNat (vT T) n) {x : Nat × Int} (v : vd m T n x) : RGx T o n x := by
  obtain ⟨L, l01, lab, num⟩ := g
  have v0 := (vv_v h v).1
  have ab : PAl m L (vv T o n x) ∨ PBl m L (vv T o n x) := by
    obtain ⟨n1, n2, n3⟩ := rl_n num v0.1
    obtain ⟨w1, w2, w3⟩ := v0
    rw [n1] at w3
    have k1 := l01 (ah (vv T o n x).1); have k2 := l01 (vv T o n x).1
    by_cases c : (vv T o n x).2 < L (ah (vv T o n x).1)
    · exact Or.inl ⟨w1, by omega, by omega⟩
    · exact Or.inr ⟨w1, by omega, by omega⟩
  unfold RGx
  rcases ab with a | b
  · have all : ∀ k, PAl m L (vv T o n (tk T o n x k)) := by
      intro k
      induction k with
      | zero => exact a
      | succ k ih => exact (rl_A h l01 lab num ih).1
    rintro ⟨_, k, q⟩
    exact q (rl_A h l01 lab num (all k)).2
  · have all : ∀ k, PBl m L (vv T o n (tk T o n x k)) := by
      intro k
      induction k with
      | zero => exact b
      | succ k ih => exact (rl_B h l01 lab num ih).1
    rintro ⟨⟨k, q⟩, _⟩
    exact (rl_B h l01 lab num (all k)).2 q
theorem lpi_r (h : WT m E T o fs) (r : ∀ x, vd m T n x → RGx T o n x) {e : Nat} (he : (e : Int) < E) {s : LSt} (c : s.2.1 = s.2.2) : ∀ i : Nat, (i : Int) ≤ n e → (lpi T o fs n e i s).2.1 = (lpi T o fs n e i s).2.2
  | 0, _ => c
  | i + 1, hi => by
    have k := lpi_r h r he c i (by omega)
    by_cases q : (lpi T o fs n e i s).1 (sm n e + i)
    · rw [lpi_y q]; exact k
    · rw [lpi_n q]
      show (lpi T o fs n e i s).2.1 + 1 = (lpi T o fs n e i s).2.2 + ifp (RGx T o n ((fs e).toNat, (i : Int))) 1 0
      rw [ifp_t (r _ (vd_st h he (by omega) (by omega))), k]
theorem lpe_r (h : WT m E T o fs) (f : FT m.toNat (vT T) n) (r : ∀ x, vd m T n x → RGx T o n x) : ∀ e : Nat, (e : Int) ≤ E → (lpe T o fs n e).2.1 = (lpe T o fs n e).2.2
  | 0, _ => rfl
  | e + 1, he => by
    have m1 := h.hm
    have m2 := h.hE
    have n0 := f.1 e (by omega)
    exact lpi_r h r (by omega) (lpe_r h f r e (by omega)) (n e).toNat (by omega)
/-- one loop, no ring: not the ring of labels -/
theorem sg_nr (h : WT m E T o fs) (f : FT m.toNat (vT T) n) (h1 : (lpe T o fs n E.toNat).2.1 = 1) (h2 : (lpe T o fs n E.toNat).2.2 = 0) : ¬ RNG m.toNat (vT T) n := by
  intro g
  have m0 := h.m0
  have m2 := h.hE
  have := lpe_r h f (fun x v => rng_RG h g v) E.toNat (by omega)
  omega
end

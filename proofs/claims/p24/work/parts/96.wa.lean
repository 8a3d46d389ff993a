/-! loops, as a pure function of the ground and the numbers -/
section
variable {m E : Int} {T o fs n : Nat → Int}
theorem tk_a (T o n : Nat → Int) (x : Nat × Int) (i : Nat) : ∀ k, tk T o n x (i + k) = tk T o n (tk T o n x i) k
  | 0 => rfl
  | k + 1 => by
    show gg T n (vv T o n (tk T o n x (i + k))) = gg T n (vv T o n (tk T o n (tk T o n x i) k))
    rw [tk_a T o n x i k]
theorem tk_ex (h : WT m E T o fs) (f : FT m.toNat (vT T) n) {x : Nat × Int} (v : vd m T n x) : ∃ K : Nat, 0 < K ∧ (K : Int) ≤ sm n 18 ∧ tk T o n x K = x := by
  apply Classical.byContradiction
  intro q
  have s0 := sm_nn (f := n) 18 f.1
  have k := tk_n h f v (k := (sm n 18).toNat + 1) (fun j h1 h2 e => q ⟨j, h1, by omega, e⟩)
  omega
theorem tk_m {x : Nat × Int} {K : Nat} (hK : 0 < K) (e : tk T o n x K = x) : ∀ i : Nat, ∃ j, j < K ∧ tk T o n x i = tk T o n x j := by
  intro i
  induction i using Nat.strongRecOn with
  | ind i ih =>
    by_cases c : i < K
    · exact ⟨i, c, rfl⟩
    · obtain ⟨j, h1, h2⟩ := ih (i - K) (by omega)
      have e2 : tk T o n x (K + (i - K)) = tk T o n x (i - K) := by rw [tk_a, e]
      rw [show K + (i - K) = i by omega] at e2
      exact ⟨j, h1, e2.trans h2⟩
theorem tk_E {x : Nat × Int} {K : Nat} (hK : 0 < K) (e : tk T o n x K = x) (P : Nat × Int → Prop) : (∃ j, j < K ∧ P (tk T o n x j)) ↔ ∃ j, P (tk T o n x j) := by
  constructor
  · rintro ⟨j, _, p⟩; exact ⟨j, p⟩
  · rintro ⟨j, p⟩
    obtain ⟨i, h1, h2⟩ := tk_m hK e j
    exact ⟨i, h1, by rw [← h2]; exact p⟩
theorem nu_vv (h : WT m E T o fs) {x : Nat × Int} (v : vd m T n x) : nu T fs n (vv T o n x) = nu T fs n x := by
  obtain ⟨s, i⟩ := x
  obtain ⟨v1, v2, v3⟩ := v
  have v1 : (s : Int) < 3 * m := v1
  have e : vT T (o s).toNat = vT T s := by show (T (o s).toNat).toNat = (T s).toNat; rw [h.oT s v1]
  have tE := h.tE s v1
  have fl : 0 ≤ fs (vT T s) ∧ fs (vT T s) < 3 * m ∧ T (fs (vT T s)).toNat = ((vT T s : Nat) : Int) := h.fL (vT T s) (by show (((T s).toNat : Nat) : Int) < E; omega)
  have k := h.tw s (fs (vT T s)).toNat v1 (by omega) (by rw [fl.2.2]; show T s = (((T s).toNat : Nat) : Int); omega)
  have on := h.on s v1
  have ol := h.oL s v1
  show sm n (vT T (o s).toNat) + (if (((o s).toNat : Nat) : Int) = fs (vT T (o s).toNat) then n (vT T s) - 1 - i else n (vT T (o s).toNat) - 1 - (n (vT T s) - 1 - i)) = sm n (vT T s) + (if (s : Int) = fs (vT T s) then i else n (vT T s) - 1 - i)
  rw [e]
  rcases k with k | k
  · rw [if_neg (by omega), if_pos (by omega)]; omega
  · rw [if_pos (by omega), if_neg (by omega)]
/-- the hand: to the corner ahead -/
def hcx (T n : Nat → Int) (u : Nat × Int) : Prop := u.2 < (n (vT T (ah u.1)) + n (vT T u.1) - n (vT T (bh u.1))) / 2
def hdx (T o n : Nat → Int) (y : Nat × Int) : Prop := hcx T n (vv T o n y)
def VX (T o fs n : Nat → Int) (x : Nat × Int) (g : Int) : Prop := ∃ k, nu T fs n (tk T o n x k) = g
def RGx (T o n : Nat → Int) (x : Nat × Int) : Prop := ¬ ((∃ k, hdx T o n (tk T o n x k)) ∧ ∃ k, ¬ hdx T o n (tk T o n x k))
def CLV (m : Int) (T o fs n : Nat → Int) (V : Int → Prop) : Prop := ∀ y, vd m T n y → V (nu T fs n y) → ∀ k, V (nu T fs n (tk T o n y k))
/-- a loop holds all that is passed on the way from one of its strands, either way -/
theorem VX_cl (h : WT m E T o fs) (f : FT m.toNat (vT T) n) {x : Nat × Int} (v : vd m T n x) : CLV m T o fs n (VX T o fs n x) := by
  rintro y vy ⟨i, q⟩ k
  obtain ⟨K, hK, _, eK⟩ := tk_ex h f v
  rcases nu_i (o := o) h f.1 (tk_v h f v i) vy q with c | c
  · exact ⟨i + k, by rw [tk_a, c]⟩
  · have r : ∀ k, ∃ j, tk T o n y k = vv T o n (tk T o n x j) := by
      intro k
      induction k with
      | zero => exact ⟨i, by show y = _; rw [c, (vv_v h vy).2.1]⟩
      | succ k ih =>
        obtain ⟨j, e⟩ := ih
        refine ⟨j + K - 1, ?_⟩
        have vj := tk_v h f v j
        have a : tk T o n x (j + K) = tk T o n x j := by rw [Nat.add_comm, tk_a, eK]
        have b : tk T o n x (j + K - 1 + 1) = gg T n (vv T o n (tk T o n x (j + K - 1))) := rfl
        rw [show j + K - 1 + 1 = j + K by omega] at b
        show gg T n (vv T o n (tk T o n y k)) = _
        rw [e, (vv_v h vj).2.1, ← a, b, (gg_v h.m0 f (vv_v h (tk_v h f v (j + K - 1))).1).2.1]
    obtain ⟨j, e⟩ := r k
    exact ⟨j, by rw [e, nu_vv h (tk_v h f v j)]⟩
theorem CLV_o {V W : Int → Prop} (a : CLV m T o fs n V) (b : CLV m T o fs n W) : CLV m T o fs n (fun g => V g ∨ W g) := fun y vy q k => q.imp (fun q => a y vy q k) (fun q => b y vy q k)
abbrev LSt : Type := (Int → Prop) × Int × Int
noncomputable def lpn (T o fs n : Nat → Int) (e i : Nat) (s : LSt) : LSt := (fun g => s.1 g ∨ VX T o fs n ((fs e).toNat, (i : Int)) g, s.2.1 + 1, s.2.2 + ifp (RGx T o n ((fs e).toNat, (i : Int))) 1 0)
noncomputable def lpi (T o fs n : Nat → Int) (e : Nat) : Nat → LSt → LSt
  | 0 => fun s => s
  | i + 1 => fun s => ifp ((lpi T o fs n e i s).1 (sm n e + i)) (lpi T o fs n e i s) (lpn T o fs n e i (lpi T o fs n e i s))
noncomputable def lpe (T o fs n : Nat → Int) : Nat → LSt
  | 0 => (fun _ => False, 0, 0)
  | e + 1 => lpi T o fs n e (n e).toNat (lpe T o fs n e)
theorem lpi_y {e i : Nat} {s : LSt} (h : (lpi T o fs n e i s).1 (sm n e + i)) : lpi T o fs n e (i + 1) s = lpi T o fs n e i s := ifp_t h
theorem lpi_n {e i : Nat} {s : LSt} (h : ¬ (lpi T o fs n e i s).1 (sm n e + i)) : lpi T o fs n e (i + 1) s = lpn T o fs n e i (lpi T o fs n e i s) := ifp_f h
theorem vd_st (h : WT m E T o fs) {e : Nat} (he : (e : Int) < E) {i : Int} (h0 : 0 ≤ i) (h1 : i < n e) : vd m T n ((fs e).toNat, i) := by
  have f := h.fL e he
  refine ⟨by show (((fs e).toNat : Nat) : Int) < 3 * m; omega, h0, ?_⟩
  show i < n (T (fs e).toNat).toNat
  rw [f.2.2, show ((e : Nat) : Int).toNat = e by omega]
  exact h1
theorem nu_st (h : WT m E T o fs) {e : Nat} (he : (e : Int) < E) {i : Int} : nu T fs n ((fs e).toNat, i) = sm n e + i := by
  have f := h.fL e he
  have q : (T (fs e).toNat).toNat = e := by rw [f.2.2]; omega
  show sm n (T (fs e).toNat).toNat + (if (((fs e).toNat : Nat) : Int) = fs (T (fs e).toNat).toNat then i else n (T (fs e).toNat).toNat - 1 - i) = _
  rw [q, if_pos (by omega)]
theorem lpi_cl (h : WT m E T o fs) (f : FT m.toNat (vT T) n) {e : Nat} (he : (e : Int) < E) {s : LSt} (c : CLV m T o fs n s.1) : ∀ i : Nat, (i : Int) ≤ n e → CLV m T o fs n (lpi T o fs n e i s).1
  | 0, _ => c
  | i + 1, hi => by
    have k := lpi_cl h f he c i (by omega)
    by_cases q : (lpi T o fs n e i s).1 (sm n e + i)
    · rw [lpi_y q]; exact k
    · rw [lpi_n q]
      exact CLV_o k (VX_cl h f (vd_st h he (by omega) (by omega)))
theorem lpe_cl (h : WT m E T o fs) (f : FT m.toNat (vT T) n) : ∀ e : Nat, (e : Int) ≤ E → CLV m T o fs n (lpe T o fs n e).1
  | 0, _ => fun _ _ q _ => q
  | e + 1, he => by
    have m1 := h.hm
    have m2 := h.hE
    have n0 := f.1 e (by omega)
    exact lpi_cl h f (by omega) (lpe_cl h f e (by omega)) (n e).toNat (by omega)
/-- so many loops at most, so many rings -/
theorem lpi_b {e : Nat} {s : LSt} (c : 0 ≤ s.2.2 ∧ s.2.2 ≤ s.2.1) : ∀ i : Nat, (0 ≤ (lpi T o fs n e i s).2.2 ∧ (lpi T o fs n e i s).2.2 ≤ (lpi T o fs n e i s).2.1) ∧ (lpi T o fs n e i s).2.1 ≤ s.2.1 + i
  | 0 => ⟨c, by show s.2.1 ≤ s.2.1 + ((0 : Nat) : Int); omega⟩
  | i + 1 => by
    have k := lpi_b (e := e) c i
    by_cases q : (lpi T o fs n e i s).1 (sm n e + i)
    · rw [lpi_y q]; omega
    · rw [lpi_n q]
      show (0 ≤ (lpi T o fs n e i s).2.2 + ifp (RGx T o n ((fs e).toNat, (i : Int))) 1 0 ∧ (lpi T o fs n e i s).2.2 + ifp (RGx T o n ((fs e).toNat, (i : Int))) 1 0 ≤ (lpi T o fs n e i s).2.1 + 1) ∧ (lpi T o fs n e i s).2.1 + 1 ≤ s.2.1 + ((i + 1 : Nat) : Int)
      by_cases r : RGx T o n ((fs e).toNat, (i : Int))
      · rw [ifp_t r]; omega
      · rw [ifp_f r]; omega
theorem lpe_b (f : ∀ e, e < 18 → 0 ≤ n e) : ∀ e : Nat, e ≤ 18 → (0 ≤ (lpe T o fs n e).2.2 ∧ (lpe T o fs n e).2.2 ≤ (lpe T o fs n e).2.1) ∧ (lpe T o fs n e).2.1 ≤ sm n e
  | 0, _ => ⟨⟨Int.le_refl 0, Int.le_refl 0⟩, Int.le_refl 0⟩
  | e + 1, he => by
    have k := lpe_b f e (by omega)
    have q := lpi_b (T := T) (o := o) (fs := fs) (n := n) (e := e) k.1 (n e).toNat
    have n0 := f e (by omega)
    rw [sm_s]
    refine ⟨q.1, ?_⟩
    have := q.2
    show (lpi T o fs n e (n e).toNat (lpe T o fs n e)).2.1 ≤ _
    omega
/-- on the way round: the same for both -/
def CK (T o fs n : Nat → Int) (x : Nat × Int) (P0 P : Nat → Prop) (K : Nat) (c : Nat × Int) : Prop := c = tk T o n x K ∧ (∀ j, 0 < j → j < K → tk T o n x j ≠ x) ∧ ∀ k : Nat, P k ↔ P0 k ∨ ∃ j, j < K ∧ nu T fs n (tk T o n x j) = k
theorem CK_0 {x c : Nat × Int} {P0 P : Nat → Prop} {K : Nat} (hK : K = 0) (hc : c = x) (hP : ∀ k, P k ↔ P0 k) : CK T o fs n x P0 P K c := by
  subst hK
  exact ⟨hc, fun j h1 h2 => absurd h2 (by omega), fun k => (hP k).trans ⟨Or.inl, fun q => q.elim id (fun ⟨j, h, _⟩ => absurd h (by omega))⟩⟩
theorem CK_s {x c c' : Nat × Int} {P0 P P' : Nat → Prop} {K K' : Nat} {g : Int} (k : CK T o fs n x P0 P K c) (nb : K = 0 ∨ c ≠ x) (hg : g = nu T fs n c) (g0 : 0 ≤ g) (hP : ∀ k, P' k ↔ P k ∨ k = g.toNat) (hc : c' = gg T n (vv T o n c)) (hK : K' = K + 1) : CK T o fs n x P0 P' K' c' := by
  obtain ⟨k1, k2, k3⟩ := k
  subst hK
  refine ⟨by rw [hc, k1]; rfl, fun j h1 h2 => ?_, fun k => ?_⟩
  · by_cases d : j < K
    · exact k2 j h1 d
    · rw [show j = K by omega, ← k1]
      exact nb.resolve_left (by omega)
  · rw [hP, k3, or_assoc]
    apply or_congr_right
    constructor
    · rintro (⟨j, h1, h2⟩ | h)
      · exact ⟨j, by omega, h2⟩
      · exact ⟨K, by omega, by rw [← k1, ← hg, h]; omega⟩
    · rintro ⟨j, h1, h2⟩
      by_cases d : j < K
      · exact Or.inl ⟨j, d, h2⟩
      · right
        rw [show j = K by omega, ← k1, ← hg] at h2
        omega
theorem CK_e {x c : Nat × Int} {P0 P : Nat → Prop} {K : Nat} (k : CK T o fs n x P0 P K c) (hK : 0 < K) (hc : c = x) : tk T o n x K = x ∧ ∀ k : Nat, P k ↔ P0 k ∨ VX T o fs n x k := by
  obtain ⟨k1, k2, k3⟩ := k
  have e : tk T o n x K = x := by rw [← k1, hc]
  exact ⟨e, fun k => (k3 k).trans (or_congr_right (tk_E hK e (fun y => nu T fs n y = k)))⟩
/-- the hands so far -/
def CH (T o n : Nat → Int) (x : Nat × Int) (K : Nat) (on off : Int) : Prop := (on = 1 ↔ ∃ j, j < K ∧ ¬ hdx T o n (tk T o n x j)) ∧ (off = 1 ↔ ∃ j, j < K ∧ hdx T o n (tk T o n x j))
theorem ex_s {P : Nat → Prop} {K K' : Nat} (hK : K' = K + 1) : (∃ j, j < K' ∧ P j) ↔ (∃ j, j < K ∧ P j) ∨ P K := by
  subst hK
  constructor
  · rintro ⟨j, h1, h2⟩
    by_cases d : j < K
    · exact Or.inl ⟨j, d, h2⟩
    · right; rw [show K = j by omega]; exact h2
  · rintro (⟨j, h1, h2⟩ | h)
    · exact ⟨j, by omega, h2⟩
    · exact ⟨K, by omega, h⟩
theorem CH_0 {x : Nat × Int} {K : Nat} {on off : Int} (hK : K = 0) (h1 : on ≠ 1) (h2 : off ≠ 1) : CH T o n x K on off := by
  subst hK
  exact ⟨⟨fun q => absurd q h1, fun ⟨j, h, _⟩ => absurd h (by omega)⟩, ⟨fun q => absurd q h2, fun ⟨j, h, _⟩ => absurd h (by omega)⟩⟩
/-- a ring by the hands of one round -/
theorem RG_e {x : Nat × Int} {K : Nat} {on off : Int} (hK : 0 < K) (e : tk T o n x K = x) (h : CH T o n x K on off) : RGx T o n x ↔ ¬ (on = 1 ∧ off = 1) := by
  unfold RGx
  rw [h.1, h.2, tk_E hK e (fun y => ¬ hdx T o n y), tk_E hK e (fun y => hdx T o n y), and_comm]
theorem CH_1 {x : Nat × Int} {K : Nat} {on off : Int} (hK : 0 < K) (h : CH T o n x K on off) : on = 1 ∨ off = 1 := by
  by_cases c : hdx T o n (tk T o n x 0)
  · exact Or.inr (h.2.mpr ⟨0, hK, c⟩)
  · exact Or.inl (h.1.mpr ⟨0, hK, c⟩)
/-- come upon a strand that was passed: back at the start -/
theorem tk_mul {x : Nat × Int} {N : Nat} (e : tk T o n x N = x) : ∀ q : Nat, tk T o n x (N * q) = x
  | 0 => rfl
  | q + 1 => by rw [Nat.mul_succ, tk_a, tk_mul e q, e]
theorem tk_back (h : WT m E T o fs) (f : FT m.toNat (vT T) n) {x : Nat × Int} (v : vd m T n x) : ∀ j d : Nat, tk T o n x (d + j) = tk T o n x j → tk T o n x d = x
  | 0, d, q => q
  | j + 1, d, q => tk_back h f v j d (tk_b h f v q)
theorem nu_b (h : WT m E T o fs) (f : FT m.toNat (vT T) n) {x : Nat × Int} (v : vd m T n x) : 0 ≤ nu T fs n x ∧ nu T fs n x < sm n 18 := by
  obtain ⟨v1, v2, v3⟩ := v
  have m0 := h.m0
  exact sm_b f.1 (h.lt _ (by omega)) (by split <;> omega) (by split <;> omega)
theorem CK_w (h : WT m E T o fs) (f : FT m.toNat (vT T) n) {x c : Nat × Int} (v : vd m T n x) {P0 P : Nat → Prop} {K : Nat} (k : CK T o fs n x P0 P K c) (cl : CLV m T o fs n (fun g => P0 g.toNat)) (nx : ¬ P0 (nu T fs n x).toNat) (q : P (nu T fs n c).toNat) : 0 < K ∧ c = x := by
  obtain ⟨k1, k2, k3⟩ := k
  have vK := tk_v h f v K
  have nK := nu_b h f vK
  rw [k1] at q
  rcases (k3 _).mp q with r | ⟨j, h1, h2⟩
  · exfalso
    apply nx
    obtain ⟨N, hN, _, eN⟩ := tk_ex h f v
    have z := cl _ vK r (N * K - K)
    have le : K ≤ N * K := Nat.le_mul_of_pos_left K hN
    rw [← tk_a, show K + (N * K - K) = N * K by omega, tk_mul eN] at z
    exact z
  · have nj := nu_b h f (tk_v h f v j)
    rw [show (((nu T fs n (tk T o n x K)).toNat : Nat) : Int) = nu T fs n (tk T o n x K) by omega] at h2
    have e : tk T o n x K = tk T o n x j := by
      rcases nu_i (o := o) h f.1 vK (tk_v h f v j) h2.symm with d | d
      · exact d
      · have := tk_r h f v (K - j) j
        rw [show j + (K - j) = K by omega] at this
        exact absurd d this
    have b : tk T o n x (K - j) = x := tk_back h f v j (K - j) (by rw [show K - j + j = K by omega]; exact e)
    by_cases d : j = 0
    · subst d
      exact ⟨h1, by rw [k1]; exact e⟩
    · exact absurd b (k2 (K - j) (by omega) (by omega))
theorem CK_nb {x c : Nat × Int} {P0 P : Nat → Prop} {K : Nat} (k : CK T o fs n x P0 P K c) (g0 : 0 ≤ nu T fs n x) (q : ¬ P (nu T fs n c).toNat) : K = 0 ∨ c ≠ x := by
  by_cases d : K = 0
  · exact Or.inl d
  · right
    intro e
    apply q
    rw [e]
    exact (k.2.2 _).mpr (Or.inr ⟨0, by omega, by show nu T fs n x = _; omega⟩)
/-- a state of the count: which are passed, how many, how many rings -/
def LPS (n : Nat → Int) (s : LSt) (P : Nat → Prop) (L R : Int) : Prop := (∀ k : Nat, (k : Int) < sm n 18 → (P k ↔ s.1 k)) ∧ L = s.2.1 ∧ R = s.2.2
theorem LP_0 {P : Nat → Prop} {L R : Int} (h : ∀ k : Nat, (k : Int) < sm n 18 → ¬ P k) (hL : L = 0) (hR : R = 0) : LPS n (lpe T o fs n 0) P L R := ⟨fun k hk => ⟨fun q => absurd q (h k hk), fun q => absurd q id⟩, hL, hR⟩
theorem LP_y {s : LSt} {P : Nat → Prop} {L R : Int} {e i i' : Nat} (l : LPS n (lpi T o fs n e i s) P L R) (h0 : 0 ≤ sm n e + i ∧ sm n e + i < sm n 18) (p : P (sm n e + i).toNat) (hi : i' = i + 1) : LPS n (lpi T o fs n e i' s) P L R := by
  subst hi
  have q := (l.1 _ (by omega)).mp p
  rw [show (((sm n e + i).toNat : Nat) : Int) = sm n e + i by omega] at q
  rw [lpi_y q]
  exact l
theorem LP_n {s : LSt} {P P' : Nat → Prop} {L R L' R' : Int} {e i i' : Nat} (l : LPS n (lpi T o fs n e i s) P L R) (h0 : 0 ≤ sm n e + i ∧ sm n e + i < sm n 18) (p : ¬ P (sm n e + i).toNat) (hi : i' = i + 1) (hP : ∀ k : Nat, (k : Int) < sm n 18 → (P' k ↔ P k ∨ VX T o fs n ((fs e).toNat, (i : Int)) k)) (hL : L' = L + 1) (hR : (R' = R + 1 ∧ RGx T o n ((fs e).toNat, (i : Int))) ∨ (R' = R ∧ ¬ RGx T o n ((fs e).toNat, (i : Int)))) : LPS n (lpi T o fs n e i' s) P' L' R' := by
  subst hi
  have q : ¬ (lpi T o fs n e i s).1 (sm n e + i) := fun q => p ((l.1 _ (by omega)).mpr (by rw [show (((sm n e + i).toNat : Nat) : Int) = sm n e + i by omega]; exact q))
  rw [lpi_n q]
  obtain ⟨l1, l2, l3⟩ := l
  refine ⟨fun k hk => (hP k hk).trans (or_congr_left (l1 k hk)), by rw [hL, l2]; rfl, ?_⟩
  show R' = (lpi T o fs n e i s).2.2 + ifp (RGx T o n ((fs e).toNat, (i : Int))) 1 0
  rcases hR with ⟨a, b⟩ | ⟨a, b⟩
  · rw [ifp_t b, a, l3]
  · rw [ifp_f b, a, l3, Int.add_zero]
theorem LP_r {P : Nat → Prop} {L R : Int} {e i : Nat} (f : ∀ e, e < 18 → 0 ≤ n e) (he : e < 18) (l : LPS n (lpi T o fs n e i (lpe T o fs n e)) P L R) : 0 ≤ R ∧ R ≤ L ∧ L ≤ sm n e + i := by
  have a := lpe_b (T := T) (o := o) (fs := fs) f e (by omega)
  have b := lpi_b (T := T) (o := o) (fs := fs) (n := n) (e := e) a.1 i
  rw [l.2.1, l.2.2]
  have := b.1; have := b.2; have := a.2
  omega
theorem LP_e {P : Nat → Prop} {L R : Int} {e e' i : Nat} (l : LPS n (lpi T o fs n e i (lpe T o fs n e)) P L R) (hi : i = (n e).toNat) (he : e' = e + 1) : LPS n (lpe T o fs n e') P L R := by
  subst hi he
  exact l
theorem CLV_P (h : WT m E T o fs) (f : FT m.toNat (vT T) n) {s : LSt} {P : Nat → Prop} {L R : Int} (l : LPS n s P L R) (c : CLV m T o fs n s.1) : CLV m T o fs n (fun g => P g.toNat) := by
  intro y vy q k
  have b := nu_b h f vy
  have b2 := nu_b h f (tk_v h f vy k)
  have q := (l.1 _ (by omega)).mp q
  rw [show (((nu T fs n y).toNat : Nat) : Int) = nu T fs n y by omega] at q
  refine (l.1 _ (by omega)).mpr ?_
  rw [show (((nu T fs n (tk T o n y k)).toNat : Nat) : Int) = nu T fs n (tk T o n y k) by omega]
  exact c y vy q k
end
/-! like grounds and like numbers give like loops -/
section
variable {m E : Int} {T o fs n T' o' fs' n' : Nat → Int}
def GE (m E : Int) (T o fs n T' o' fs' n' : Nat → Int) : Prop := (∀ s : Nat, (s : Int) < 3 * m → T s = T' s ∧ o s = o' s) ∧ ∀ e : Nat, (e : Int) < E → fs e = fs' e ∧ n e = n' e
theorem GE_n (h : WT m E T o fs) (g : GE m E T o fs n T' o' fs' n') {s : Nat} (hs : (s : Int) < 3 * m) : vT T s = vT T' s ∧ n (vT T s) = n' (vT T' s) := by
  have e : vT T s = vT T' s := by show (T s).toNat = (T' s).toNat; rw [(g.1 s hs).1]
  have t := h.tE s hs
  refine ⟨e, ?_⟩
  rw [← e]
  exact (g.2 (vT T s) (by show (((T s).toNat : Nat) : Int) < E; omega)).2
theorem vv_c (h : WT m E T o fs) (g : GE m E T o fs n T' o' fs' n') {x : Nat × Int} (v : vd m T n x) : vv T o n x = vv T' o' n' x := by
  unfold vv
  rw [(g.1 x.1 v.1).2, (GE_n h g v.1).2]
theorem bh_lt3 {s : Nat} {m : Int} (h : (s : Int) < 3 * m) : ((bh s : Nat) : Int) < 3 * m := by unfold bh; split <;> omega
theorem ah_lt3 {s : Nat} {m : Int} (h : (s : Int) < 3 * m) : ((ah s : Nat) : Int) < 3 * m := by unfold ah; split <;> omega
theorem gg_c (h : WT m E T o fs) (g : GE m E T o fs n T' o' fs' n') {x : Nat × Int} (v : vd m T n x) : gg T n x = gg T' n' x := by
  unfold gg
  rw [(GE_n h g v.1).2, (GE_n h g (ah_lt3 v.1)).2, (GE_n h g (bh_lt3 v.1)).2]
theorem hdx_c (h : WT m E T o fs) (g : GE m E T o fs n T' o' fs' n') {x : Nat × Int} (v : vd m T n x) : hdx T o n x ↔ hdx T' o' n' x := by
  have w := (vv_v h v).1
  unfold hdx hcx
  rw [← vv_c h g v, (GE_n h g w.1).2, (GE_n h g (ah_lt3 w.1)).2, (GE_n h g (bh_lt3 w.1)).2]
theorem tk_c (h : WT m E T o fs) (f : FT m.toNat (vT T) n) (g : GE m E T o fs n T' o' fs' n') {x : Nat × Int} (v : vd m T n x) : ∀ k, tk T o n x k = tk T' o' n' x k
  | 0 => rfl
  | k + 1 => by
    have vk := tk_v h f v k
    show gg T n (vv T o n (tk T o n x k)) = gg T' n' (vv T' o' n' (tk T' o' n' x k))
    rw [gg_c h g (vv_v h vk).1, vv_c h g vk, tk_c h f g v k]
theorem sm_g (g : GE m E T o fs n T' o' fs' n') {e : Nat} (he : (e : Int) ≤ E) : sm n e = sm n' e := sm_c e (fun j hj => (g.2 j (by omega)).2)
theorem nu_c (h : WT m E T o fs) (g : GE m E T o fs n T' o' fs' n') {x : Nat × Int} (v : vd m T n x) : nu T fs n x = nu T' fs' n' x := by
  obtain ⟨e1, e2⟩ := GE_n h g v.1
  have t := h.tE x.1 v.1
  have te : ((vT T x.1 : Nat) : Int) < E := by show (((T x.1).toNat : Nat) : Int) < E; omega
  unfold nu
  rw [e2, sm_g g (by omega), (g.2 _ te).1, e1]
theorem VX_c (h : WT m E T o fs) (f : FT m.toNat (vT T) n) (g : GE m E T o fs n T' o' fs' n') {x : Nat × Int} (v : vd m T n x) : VX T o fs n x = VX T' o' fs' n' x := by
  funext y
  apply propext
  unfold VX
  constructor <;> rintro ⟨k, q⟩ <;> refine ⟨k, ?_⟩
  · rw [← tk_c h f g v, ← nu_c h g (tk_v h f v k)]; exact q
  · rw [nu_c h g (tk_v h f v k), tk_c h f g v]; exact q
theorem RG_c (h : WT m E T o fs) (f : FT m.toNat (vT T) n) (g : GE m E T o fs n T' o' fs' n') {x : Nat × Int} (v : vd m T n x) : RGx T o n x ↔ RGx T' o' n' x := by
  unfold RGx
  have a : ∀ k, hdx T o n (tk T o n x k) ↔ hdx T' o' n' (tk T' o' n' x k) := fun k => by rw [← tk_c h f g v]; exact hdx_c h g (tk_v h f v k)
  rw [show (∃ k, hdx T o n (tk T o n x k)) ↔ ∃ k, hdx T' o' n' (tk T' o' n' x k) from ⟨fun ⟨k, q⟩ => ⟨k, (a k).mp q⟩, fun ⟨k, q⟩ => ⟨k, (a k).mpr q⟩⟩, show (∃ k, ¬ hdx T o n (tk T o n x k)) ↔ ∃ k, ¬ hdx T' o' n' (tk T' o' n' x k) from ⟨fun ⟨k, q⟩ => ⟨k, fun r => q ((a k).mpr r)⟩, fun ⟨k, q⟩ => ⟨k, fun r => q ((a k).mp r)⟩⟩]
theorem lpi_c (h : WT m E T o fs) (f : FT m.toNat (vT T) n) (g : GE m E T o fs n T' o' fs' n') {e : Nat} (he : (e : Int) < E) {s : LSt} : ∀ i : Nat, (i : Int) ≤ n e → lpi T o fs n e i s = lpi T' o' fs' n' e i s
  | 0, _ => rfl
  | i + 1, hi => by
    have k := lpi_c h f g he (s := s) i (by omega)
    have v : vd m T n ((fs e).toNat, (i : Int)) := vd_st h he (by omega) (by omega)
    have es := sm_g g (e := e) (by omega)
    by_cases q : (lpi T o fs n e i s).1 (sm n e + i)
    · rw [lpi_y q, lpi_y (by rw [← k, ← es]; exact q), k]
    · rw [lpi_n q, lpi_n (by rw [← k, ← es]; exact q), ← k]
      unfold lpn
      rw [VX_c h f g v, (g.2 e he).1]
      rw [(g.2 e he).1] at v
      have r := RG_c h f g v
      by_cases c : RGx T o n ((fs' e).toNat, (i : Int))
      · rw [ifp_t c, ifp_t (r.mp c)]
      · rw [ifp_f c, ifp_f (fun d => c (r.mpr d))]
theorem lpe_c (h : WT m E T o fs) (f : FT m.toNat (vT T) n) (g : GE m E T o fs n T' o' fs' n') : ∀ e : Nat, (e : Int) ≤ E → lpe T o fs n e = lpe T' o' fs' n' e
  | 0, _ => rfl
  | e + 1, he => by
    have m1 := h.hm
    have m2 := h.hE
    have n0 := f.1 e (by omega)
    show lpi T o fs n e (n e).toNat (lpe T o fs n e) = lpi T' o' fs' n' e (n' e).toNat (lpe T' o' fs' n' e)
    rw [lpi_c h f g (by omega) (n e).toNat (by omega), lpe_c h f g e (by omega), (g.2 e (by omega)).2]
end

/-! bits of ints; PIECES that hang together -/
def BT (r : Int) (q : Nat) : Prop := r.toNat.testBit q = true
theorem BT_d {r : Int} (h0 : 0 ≤ r) (q : Nat) : BT r q ↔ r / 2 ^ q % 2 = 1 := by
  unfold BT
  rw [Nat.testBit_eq_decide_div_mod_eq, decide_eq_true_iff]
  obtain ⟨n, rfl⟩ := Int.eq_ofNat_of_zero_le h0
  rw [Int.toNat_natCast]
  constructor
  · intro h
    have : (((n / 2 ^ q % 2 : Nat)) : Int) = ((1 : Nat) : Int) := congrArg _ h
    rw [Int.natCast_emod, Int.natCast_ediv, Int.natCast_pow] at this
    exact this
  · intro h
    have : (((n / 2 ^ q % 2 : Nat)) : Int) = ((1 : Nat) : Int) := by
      rw [Int.natCast_emod, Int.natCast_ediv, Int.natCast_pow]
      exact h
    exact Int.ofNat.inj this
theorem BT_2 (e q : Nat) : BT (2 ^ e : Int) q ↔ q = e := by
  unfold BT
  rw [show ((2 : Int) ^ e).toNat = 2 ^ e from by
    have h : ((2 : Int) ^ e) = ((2 ^ e : Nat) : Int) := (Int.natCast_pow 2 e).symm
    rw [h, Int.toNat_natCast], Nat.testBit_two_pow]
  rw [decide_eq_true_iff]
  exact eq_comm
theorem BT_0 (q : Nat) : ¬ BT 0 q := by
  unfold BT
  rw [show (0 : Int).toNat = 0 from rfl, Nat.zero_testBit]
  exact Bool.false_ne_true
theorem BT_1 (q : Nat) : BT 1 q ↔ q = 0 := BT_2 0 q
/-- all bits below m, none else -/
theorem BT_m {r : Int} (h0 : 0 ≤ r) (m : Nat) (hn : ∀ q, BT r q → q < m) : r = 2 ^ m - 1 ↔ ∀ q, q < m → BT r q := by
  have e : ((2 : Int) ^ m - 1) = ((2 ^ m - 1 : Nat) : Int) := by
    have h : ((2 : Int) ^ m) = ((2 ^ m : Nat) : Int) := (Int.natCast_pow 2 m).symm
    have := Nat.one_le_two_pow (n := m)
    rw [h]; omega
  rw [e]
  obtain ⟨n, rfl⟩ := Int.eq_ofNat_of_zero_le h0
  unfold BT at *
  rw [Int.toNat_natCast] at *
  constructor
  · intro h q hq
    have h := Int.ofNat.inj h
    rw [h, Nat.testBit_two_pow_sub_one, decide_eq_true_iff]; exact hq
  · intro h
    refine congrArg _ (Nat.eq_of_testBit_eq fun i => ?_)
    rw [Nat.testBit_two_pow_sub_one]
    by_cases c : i < m
    · rw [h i c, decide_eq_true c]
    · rw [decide_eq_false c]
      have := hn i
      cases g : n.testBit i
      · rfl
      · exact absurd (this g) c
theorem r_sh1 {d k nL : Nat} {rt : Option FieldType} {Q : pm_R → Prop} {pc pc' len r1 r2 : Nat} {cst e : Int} {hs : List (Nat × Nat)} {lv : pm_L} {r : List Value} {h : pm_H} (h1 : pm_ins k pc = some (.ishl, len, r1, r2, cst, hs)) (hp : pc + 1 = pc') (h0 : 0 ≤ e) (he : e ≤ 30) (w : ∀ v, v = 2 ^ e.toNat → 1 ≤ v → v ≤ 1073741824 → wp_ d k nL rt (pc', lv, .int (Int32.ofInt v) :: r, h) Q) : wp_ d k nL rt (pc, lv, .int (Int32.ofInt e) :: .int (Int32.ofInt 1) :: r, h) Q := by
  have b : 1 ≤ (2 : Int) ^ e.toNat ∧ (2 : Int) ^ e.toNat ≤ 1073741824 := by
    have h : ((2 : Int) ^ e.toNat) = ((2 ^ e.toNat : Nat) : Int) := (Int.natCast_pow 2 e.toNat).symm
    have g1 := Nat.one_le_two_pow (n := e.toNat)
    have g2 : 2 ^ e.toNat ≤ 2 ^ 30 := Nat.pow_le_pow_right (by omega) (by omega)
    rw [h]; omega
  have k := r_shl (s := e.toNat) h1 hp (by omega) (a := 1) (Q := Q) (d := d) (nL := nL) (rt := rt) (lv := lv) (r := r) (h := h) (by rw [Int.one_mul]; exact w _ rfl b.1 b.2)
  rw [show ((e.toNat : Nat) : Int) = e by omega] at k
  exact k
theorem r_orb {d k nL : Nat} {rt : Option FieldType} {Q : pm_R → Prop} {pc pc' len r1 r2 : Nat} {cst a b : Int} {hs : List (Nat × Nat)} {lv : pm_L} {r : List Value} {h : pm_H} (h1 : pm_ins k pc = some (.ior, len, r1, r2, cst, hs)) (hp : pc + 1 = pc') (ha : 0 ≤ a ∧ a < 2147483648) (hb : 0 ≤ b ∧ b < 2147483648) (w : ∀ v, 0 ≤ v ∧ v ≤ 2147483647 → (∀ q, BT v q ↔ BT a q ∨ BT b q) → wp_ d k nL rt (pc', lv, .int (Int32.ofInt v) :: r, h) Q) : wp_ d k nL rt (pc, lv, .int (Int32.ofInt b) :: .int (Int32.ofInt a) :: r, h) Q := by
  obtain ⟨x, rfl⟩ := Int.eq_ofNat_of_zero_le ha.1
  obtain ⟨y, rfl⟩ := Int.eq_ofNat_of_zero_le hb.1
  have lt : x ||| y < 2 ^ 31 := Nat.or_lt_two_pow (by omega) (by omega)
  have e : Int32.ofInt (x : Int) ||| Int32.ofInt (y : Int) = Int32.ofInt ((x ||| y : Nat) : Int) := by
    apply Int32.toBitVec_inj.1
    rw [Int32.toBitVec_or]
    apply BitVec.eq_of_toNat_eq
    have e1 : ∀ u : Nat, u < 2147483648 → (Int32.ofInt (u : Int)).toBitVec.toNat = u := by
      intro u hu
      have : (Int32.ofInt (u : Int)).toBitVec = BitVec.ofInt 32 u := rfl
      rw [this, BitVec.toNat_ofInt]
      omega
    rw [BitVec.toNat_or, e1 _ (by omega), e1 _ (by omega), e1 _ (by omega)]
  refine r_al h1 rfl hp (congrArg (fun y => some (Value.int y :: r)) e) (w _ ⟨by omega, by omega⟩ (fun q => ?_))
  unfold BT
  rw [Int.toNat_natCast, Int.toNat_natCast, Int.toNat_natCast, Nat.testBit_or, Bool.or_eq_true]
/-- the class's rounds: slot by slot -/
def hgp (T O : Nat → Int) (m r s q : Nat) : Prop := hgx T m (r * m + s / 3) q ∨ (hgx T m (r * m + s / 3) (s / 3) ∧ ∃ i, i < s % 3 ∧ (O (3 * (s / 3) + i)).toNat / 3 = q)
theorem hgx_s {T : Nat → Int} {m j q : Nat} : hgx T m (j + 1) q ↔ hgx T m j q ∨ (q < m ∧ hgx T m j (j % m) ∧ hg T (j % m) q) := Iff.rfl
theorem hgx_l {T : Nat → Int} {m : Nat} (h : 0 < m) : ∀ j q, hgx T m j q → q < m
  | 0, q, e => by have e : q = 0 := e; omega
  | j + 1, q, e => e.elim (hgx_l h j q) (fun g => g.1)
theorem hgp_0 {T O : Nat → Int} {m r q : Nat} : hgp T O m r 0 q ↔ hgx T m (r * m) q := by
  unfold hgp
  exact ⟨fun h => h.elim id (fun g => absurd g.2 (by rintro ⟨i, hi, _⟩; omega)), Or.inl⟩
theorem hgp_m {T O : Nat → Int} {m r q : Nat} : hgp T O m r (3 * m) q ↔ hgx T m ((r + 1) * m) q := by
  unfold hgp
  rw [show 3 * m / 3 = m by omega, show 3 * m % 3 = 0 by omega, show (r + 1) * m = r * m + m from Nat.succ_mul r m]
  exact ⟨fun h => h.elim id (fun g => absurd g.2 (by rintro ⟨i, hi, _⟩; omega)), Or.inl⟩
theorem hgp_p {T O : Nat → Int} {m r s : Nat} : hgp T O m r s (s / 3) ↔ hgx T m (r * m + s / 3) (s / 3) := by
  unfold hgp
  exact ⟨fun h => h.elim id (fun g => g.1), Or.inl⟩
theorem hgp_s {T O : Nat → Int} {m r s q : Nat} (hs : s < 3 * m) (H : ∀ p q, p < m → q < m → (hg T p q ↔ q = p ∨ ∃ i, i < 3 ∧ (O (3 * p + i)).toNat / 3 = q)) (hO : ∀ i, i < 3 * m → (O i).toNat < 3 * m) : hgp T O m r (s + 1) q ↔ hgp T O m r s q ∨ (hgp T O m r s (s / 3) ∧ (O s).toNat / 3 = q) := by
  rw [hgp_p]
  have es : 3 * (s / 3) + s % 3 = s := by omega
  by_cases c : s % 3 = 2
  · unfold hgp
    rw [show (s + 1) / 3 = s / 3 + 1 by omega, show (s + 1) % 3 = 0 by omega, c, show r * m + (s / 3 + 1) = (r * m + s / 3) + 1 from rfl, hgx_s, hgx_s]
    have em : (r * m + s / 3) % m = s / 3 := by rw [Nat.mul_comm, Nat.mul_add_mod]; exact Nat.mod_eq_of_lt (by omega)
    rw [em]
    constructor
    · rintro ((h | ⟨h1, h2, h3⟩) | ⟨_, i, hi, _⟩)
      · exact Or.inl (Or.inl h)
      · rcases (H _ _ (by omega) h1).mp h3 with h4 | ⟨i, hi, h4⟩
        · rw [h4]; exact Or.inl (Or.inl h2)
        · by_cases d : i < 2
          · exact Or.inl (Or.inr ⟨h2, i, d, h4⟩)
          · refine Or.inr ⟨h2, ?_⟩
            rw [← h4]; congr 2; exact congrArg O (by omega)
      · omega
    · rintro ((h | ⟨h1, i, hi, h2⟩) | ⟨h1, h2⟩)
      · exact Or.inl (Or.inl h)
      · have := hO (3 * (s / 3) + i) (by omega)
        exact Or.inl (Or.inr ⟨by omega, h1, (H _ _ (by omega) (by omega)).mpr (Or.inr ⟨i, by omega, h2⟩)⟩)
      · have := hO s hs
        exact Or.inl (Or.inr ⟨by omega, h1, (H _ _ (by omega) (by omega)).mpr (Or.inr ⟨2, by omega, by rw [← h2]; congr 2; exact congrArg O (by omega)⟩)⟩)
  · unfold hgp
    rw [show (s + 1) / 3 = s / 3 by omega, show (s + 1) % 3 = s % 3 + 1 by omega]
    constructor
    · rintro (h | ⟨h1, i, hi, h2⟩)
      · exact Or.inl (Or.inl h)
      · by_cases d : i < s % 3
        · exact Or.inl (Or.inr ⟨h1, i, d, h2⟩)
        · refine Or.inr ⟨h1, ?_⟩
          rw [← h2]; congr 2; exact congrArg O (by omega)
    · rintro ((h | ⟨h1, i, hi, h2⟩) | ⟨h1, h2⟩)
      · exact Or.inl h
      · exact Or.inr ⟨h1, i, by omega, h2⟩
      · exact Or.inr ⟨h1, s % 3, by omega, by rw [es]; exact h2⟩
/-- the reference's rounds: PIECE by PIECE -/
def hgr (T : Nat → Int) (m r p c q : Nat) : Prop := hgx T m (r * m + p) q ∨ (q < c ∧ hgx T m (r * m + p) p ∧ hg T p q)
theorem hgr_s {T : Nat → Int} {m r p c q : Nat} : hgr T m r p (c + 1) q ↔ hgr T m r p c q ∨ (q = c ∧ hgx T m (r * m + p) p ∧ hg T p c) := by
  unfold hgr
  constructor
  · rintro (h | ⟨h1, h2, h3⟩)
    · exact Or.inl (Or.inl h)
    · by_cases d : q = c
      · exact Or.inr ⟨d, h2, by rw [← d]; exact h3⟩
      · exact Or.inl (Or.inr ⟨by omega, h2, h3⟩)
  · rintro ((h | ⟨h1, h2, h3⟩) | ⟨h1, h2, h3⟩)
    · exact Or.inl h
    · exact Or.inr ⟨by omega, h2, h3⟩
    · exact Or.inr ⟨by omega, h2, by rw [h1]; exact h3⟩
theorem hgr_0 {T : Nat → Int} {m r p q : Nat} : hgr T m r p 0 q ↔ hgx T m (r * m + p) q := ⟨fun h => h.elim id (fun g => absurd g.1 (by omega)), Or.inl⟩
theorem hgr_m {T : Nat → Int} {m r p q : Nat} (hp : p < m) : hgr T m r p m q ↔ hgx T m (r * m + (p + 1)) q := by
  have em : (r * m + p) % m = p := by rw [Nat.mul_comm, Nat.mul_add_mod]; exact Nat.mod_eq_of_lt hp
  rw [show r * m + (p + 1) = (r * m + p) + 1 from rfl, hgx_s, em]
  exact Iff.rfl
theorem hgr_n {T : Nat → Int} {m r p q : Nat} (hp : p < m) (h : ¬ hgx T m (r * m + p) p) : hgx T m (r * m + (p + 1)) q ↔ hgx T m (r * m + p) q := by
  have em : (r * m + p) % m = p := by rw [Nat.mul_comm, Nat.mul_add_mod]; exact Nat.mod_eq_of_lt hp
  rw [show r * m + (p + 1) = (r * m + p) + 1 from rfl, hgx_s, em]
  exact ⟨fun g => g.elim id (fun g => absurd g.2.1 h), Or.inl⟩
theorem hgp_t {T O : Nat → Int} {m r s : Nat} {x u v : Int} {e : Nat} (hs : s < 3 * m) (H : ∀ p q, p < m → q < m → (hg T p q ↔ q = p ∨ ∃ i, i < 3 ∧ (O (3 * p + i)).toNat / 3 = q)) (hO : ∀ i, i < 3 * m → (O i).toNat < 3 * m) (hb : hgp T O m r s (s / 3)) (X : ∀ q, BT x q ↔ hgp T O m r s q) (hv : ∀ q, BT v q ↔ BT x q ∨ BT u q) (hu : u = 2 ^ e) (he : e = (O s).toNat / 3) : ∀ q, BT v q ↔ hgp T O m r (s + 1) q := by
  intro q
  rw [hgp_s hs H hO, hv q, X q, hu, BT_2]
  constructor
  · rintro (h | h)
    · exact Or.inl h
    · exact Or.inr ⟨hb, by omega⟩
  · rintro (h | ⟨_, h⟩)
    · exact Or.inl h
    · exact Or.inr (by omega)
theorem hgp_f {T O : Nat → Int} {m r s : Nat} {x : Int} (hs : s < 3 * m) (H : ∀ p q, p < m → q < m → (hg T p q ↔ q = p ∨ ∃ i, i < 3 ∧ (O (3 * p + i)).toNat / 3 = q)) (hO : ∀ i, i < 3 * m → (O i).toNat < 3 * m) (hb : ¬ hgp T O m r s (s / 3)) (X : ∀ q, BT x q ↔ hgp T O m r s q) : ∀ q, BT x q ↔ hgp T O m r (s + 1) q := by
  intro q
  rw [hgp_s hs H hO, X q]
  exact ⟨Or.inl, fun h => h.elim id (fun g => absurd g.1 hb)⟩
theorem hg_end {T : Nat → Int} {m : Nat} {x v : Int} (h0 : 0 ≤ x) (hm : 0 < m) (X : ∀ q, BT x q ↔ hgx T m (m * m) q) (hv : v = 2 ^ m) : x = v - 1 ↔ ∀ q, q < m → hgx T m (m * m) q := by
  rw [hv, BT_m h0 m (fun q g => hgx_l hm _ q ((X q).mp g))]
  exact ⟨fun g q hq => (X q).mp (g q hq), fun g q hq => (X q).mpr (g q hq)⟩
/-- WHOLE, of rows -/
def WHm (m : Int) (T tt : Nat → Int) : Prop := m % 2 = 0 ∧ (∀ e : Nat, e < 18 → tt e = if (e : Int) < 3 * m / 2 then 2 else 0) ∧ ∀ q : Nat, (q : Int) < m → hgx T m.toNat (m.toNat * m.toNat) q
theorem hg_c {T T' : Nat → Int} {m p q : Nat} (h : ∀ i, i < 3 * m → T i = T' i) (hp : p < m) (hq : q < m) : hg T p q ↔ hg T' p q := by
  unfold hg
  constructor
  · rintro ⟨i, j, hi, hj, e⟩; exact ⟨i, j, hi, hj, by rw [← h _ (by omega), ← h _ (by omega)]; exact e⟩
  · rintro ⟨i, j, hi, hj, e⟩; exact ⟨i, j, hi, hj, by rw [h _ (by omega), h _ (by omega)]; exact e⟩
theorem hgx_c {T T' : Nat → Int} {m : Nat} (hm : 0 < m) (h : ∀ i, i < 3 * m → T i = T' i) : ∀ j q, hgx T m j q ↔ hgx T' m j q
  | 0, q => Iff.rfl
  | j + 1, q => by
    rw [hgx_s, hgx_s, hgx_c hm h j q, hgx_c hm h j (j % m)]
    constructor
    · rintro (g | ⟨g1, g2, g3⟩)
      · exact Or.inl g
      · exact Or.inr ⟨g1, g2, (hg_c h (Nat.mod_lt _ hm) g1).mp g3⟩
    · rintro (g | ⟨g1, g2, g3⟩)
      · exact Or.inl g
      · exact Or.inr ⟨g1, g2, (hg_c h (Nat.mod_lt _ hm) g1).mpr g3⟩
theorem WHm_c {m : Int} {T T' tt tt' : Nat → Int} (hT : ∀ i : Nat, (i : Int) < 3 * m → T i = T' i) (ht : ∀ e, e < 18 → tt e = tt' e) : WHm m T tt ↔ WHm m T' tt' := by
  unfold WHm
  constructor
  · rintro ⟨a, b, c⟩
    exact ⟨a, fun e he => by rw [← ht e he]; exact b e he, fun q hq => (hgx_c (by omega) (fun i hi => hT i (by omega)) _ _).mp (c q hq)⟩
  · rintro ⟨a, b, c⟩
    exact ⟨a, fun e he => by rw [ht e he]; exact b e he, fun q hq => (hgx_c (by omega) (fun i hi => hT i (by omega)) _ _).mpr (c q hq)⟩
theorem WHm_q (s : RG) : WHq s ↔ WHm (s 3) (fun i => s (100 + i)) (fun e => s (140 + e)) := Iff.rfl
theorem PI_z {m : Int} {T tt fs ss : Nat → Int} (p : PI T tt fs ss (3 * m)) (he : m % 2 = 0) (h2 : ∀ e : Nat, (e : Int) < m / 2 * 3 → tt e = 2) (m0 : 0 ≤ m) (hm : m ≤ 12) : ∀ e : Nat, e < 18 → m / 2 * 3 ≤ (e : Int) → tt e = 0 := by
  obtain ⟨hs, hp⟩ := p
  intro e e1 e2
  have nn : ∀ j : Nat, j < 18 → 0 ≤ tt j := fun j hj => (hp j hj).1
  have k : ∀ N : Nat, (N : Int) ≤ m / 2 * 3 → N ≤ 18 → sm tt N = 2 * N := by
    intro N
    induction N with
    | zero => intro _ _; rfl
    | succ N ih =>
      intro a b
      have := ih (by omega) (by omega)
      rw [sm_s, this, h2 N (by omega)]; omega
  have k1 := k (m / 2 * 3).toNat (by omega) (by omega)
  have k2 := sm_le (f := tt) (k := e) 18 (by omega) nn
  have k3 := sm_le (f := tt) (k := e + 1) 18 (by omega) nn
  have k4 := sm_le (f := tt) (k := (m / 2 * 3).toNat) e (by omega) (fun j hj => nn j (by omega))
  have k5 := nn e e1
  rw [sm_s] at k3
  omega
theorem WHm_y {m : Int} {T tt fs ss : Nat → Int} (p : PI T tt fs ss (3 * m)) (m0 : 0 ≤ m) (hm : m ≤ 12) (he : m % 2 = 0) (h2 : ∀ e : Nat, (e : Int) < m / 2 * 3 → tt e = 2) (hx : ∀ q : Nat, (q : Int) < m → hgx T m.toNat (m.toNat * m.toNat) q) : WHm m T tt := by
  refine ⟨he, fun e h => ?_, hx⟩
  by_cases c : (e : Int) < 3 * m / 2
  · rw [if_pos c]; exact h2 e (by omega)
  · rw [if_neg c]; exact PI_z p he h2 m0 hm e h (by omega)
theorem WHm_n {m : Int} {T tt : Nat → Int} {e : Nat} (h : (e : Int) < m / 2 * 3) (m0 : 0 ≤ m) (hm : m ≤ 12) (c : tt e ≠ 2) : ¬ WHm m T tt := by
  rintro ⟨a, b, _⟩
  have := b e (by omega)
  rw [if_pos (by omega)] at this
  exact c this
theorem hg_WT {m E : Int} {T o fs : Nat → Int} (W : WT m E T o fs) (p q : Nat) (hp : p < m.toNat) (hq : q < m.toNat) : hg T p q ↔ q = p ∨ ∃ i, i < 3 ∧ (o (3 * p + i)).toNat / 3 = q := by
  unfold hg
  constructor
  · rintro ⟨i, j, hi, hj, e⟩
    rcases W.tw (3 * p + i) (3 * q + j) (by omega) (by omega) e with g | g
    · exact Or.inl (by omega)
    · exact Or.inr ⟨i, hi, by omega⟩
  · rintro (g | ⟨i, hi, g⟩)
    · exact ⟨0, 0, by omega, by omega, by rw [g]⟩
    · have k := W.oL (3 * p + i) (by omega)
      refine ⟨i, (o (3 * p + i)).toNat % 3, hi, by omega, ?_⟩
      rw [show 3 * q + (o (3 * p + i)).toNat % 3 = (o (3 * p + i)).toNat by omega]
      exact (W.oT (3 * p + i) (by omega)).symm

section
/-! rules to walk methods: arithmetic -/
theorem ofL_toInt {e : Int} (h : inL e) : (Int64.ofInt e).toInt = e := Int64.toInt_ofInt_of_le h.1 h.2
theorem ofL_lt {a b : Int} (ha : inL a) (hb : inL b) : Int64.ofInt a < Int64.ofInt b ↔ a < b := by rw [Int64.lt_iff_toInt_lt, ofL_toInt ha, ofL_toInt hb]
theorem ofL_eq {a b : Int} (ha : inL a) (hb : inL b) : Int64.ofInt a = Int64.ofInt b ↔ a = b := by rw [← Int64.toInt_inj, ofL_toInt ha, ofL_toInt hb]
theorem inI_toInt (x : Int32) : inI x.toInt := ⟨Int32.le_toInt x, Int32.toInt_lt x⟩
theorem inL_toInt (x : Int64) : inL x.toInt := ⟨Int64.le_toInt x, Int64.toInt_lt x⟩
theorem hv_i (x : Int32) : ∃ e, inI e ∧ x = Int32.ofInt e := ⟨x.toInt, inI_toInt x, (Int32.ofInt_toInt x).symm⟩
theorem hv_l (x : Int64) : ∃ e, inL e ∧ x = Int64.ofInt e := ⟨x.toInt, inL_toInt x, (Int64.ofInt_toInt x).symm⟩
theorem ofI_div {a b : Int} (ha : inI a) (hb : inI b) : Int32.ofInt a / Int32.ofInt b = Int32.ofInt (a.tdiv b) := (Int32.ofInt_tdiv ha.1 (by have := ha.2; show a ≤ 2147483647; omega) hb.1 (by have := hb.2; show b ≤ 2147483647; omega)).symm
theorem ofL_div {a b : Int} (ha : inL a) (hb : inL b) : Int64.ofInt a / Int64.ofInt b = Int64.ofInt (a.tdiv b) := (Int64.ofInt_tdiv ha.1 (by have := ha.2; show a ≤ 9223372036854775807; omega) hb.1 (by have := hb.2; show b ≤ 9223372036854775807; omega)).symm
theorem ofI_rem {a b : Int} (ha : inI a) (hb : inI b) : Int32.ofInt a - Int32.ofInt a / Int32.ofInt b * Int32.ofInt b = Int32.ofInt (a.tmod b) := by
  rw [ofI_div ha hb, ← Int32.ofInt_mul, ← Int32.ofInt_sub, Int.tmod_def, Int.mul_comm]
theorem ofL_rem {a b : Int} (ha : inL a) (hb : inL b) : Int64.ofInt a - Int64.ofInt a / Int64.ofInt b * Int64.ofInt b = Int64.ofInt (a.tmod b) := by
  rw [ofL_div ha hb, ← Int64.ofInt_mul, ← Int64.ofInt_sub, Int.tmod_def, Int.mul_comm]
theorem tdiv_n {a b : Int} (h : 0 ≤ a) : a.tdiv b = a / b := Int.tdiv_eq_ediv_of_nonneg h
theorem tdiv_m {a b : Int} (h : a < 0) : a.tdiv b = -((-a) / b) := by
  rw [← Int.tdiv_eq_ediv_of_nonneg (a := -a) (b := b) (by omega), Int.neg_tdiv, Int.neg_neg]
theorem tmod_n {a b : Int} (h : 0 ≤ a) : a.tmod b = a % b := Int.tmod_eq_emod_of_nonneg h
theorem ofI_i2l {a : Int} (ha : inI a) : (Int32.ofInt a).toInt64 = Int64.ofInt a := Int32.toInt64_ofInt ha.1 (by have := ha.2; show a ≤ 2147483647; omega)
theorem ofI_bi {n : Int} (h1 : -128 ≤ n) (h2 : n < 128) : (Int8.ofInt n).toInt32 = Int32.ofInt n := Int8.toInt32_ofInt h1 (by show n ≤ 127; omega)
theorem ofI_si {n : Int} (h1 : -32768 ≤ n) (h2 : n < 32768) : (Int16.ofInt n).toInt32 = Int32.ofInt n := Int16.toInt32_ofInt h1 (by show n ≤ 32767; omega)
theorem ofI_nat (n : Nat) : Int32.ofNat n = Int32.ofInt n := Int32.ofInt_eq_ofNat.symm
theorem ofI_mask {m : Nat} (x : Int32) (n : Nat) (hm : 2 ^ n - 1 = m) (hn : n ≤ 31) : x &&& Int32.ofInt m = Int32.ofInt (x.toInt % 2 ^ n) := by
  apply Int32.toBitVec_inj.1
  rw [Int32.toBitVec_and]
  apply BitVec.eq_of_toNat_eq
  have e1 : (Int32.ofInt (m : Int)).toBitVec = BitVec.ofInt 32 m := rfl
  have e2 : (Int32.ofInt (x.toInt % 2 ^ n)).toBitVec = BitVec.ofInt 32 (x.toInt % 2 ^ n) := rfl
  have hp : 2 ^ n ≤ 2 ^ 31 := Nat.pow_le_pow_right (by decide) hn
  have hp0 : 0 < 2 ^ n := Nat.two_pow_pos n
  rw [e1, e2, BitVec.toNat_and, BitVec.toNat_ofInt, BitVec.toNat_ofInt]
  have e3 : ((m : Int) % ((2 ^ 32 : Nat) : Int)).toNat = 2 ^ n - 1 := by
    rw [Int.emod_eq_of_lt (by omega) (by omega)]; omega
  rw [e3, Nat.and_two_pow_sub_one_eq_mod]
  have e4 : x.toInt = x.toBitVec.toInt := rfl
  rw [e4]
  have e5 : x.toBitVec.toInt % 2 ^ n = ((x.toBitVec.toNat % 2 ^ n : Nat) : Int) := by
    rw [BitVec.toInt_eq_toNat_bmod, Int.bmod_def]
    have hd : ((2 : Int) ^ n ∣ ((2 ^ 32 : Nat) : Int)) := by
      have : (2 ^ n : Nat) ∣ (2 ^ 32 : Nat) := Nat.pow_dvd_pow 2 (by omega)
      have h9 := Int.natCast_dvd_natCast.mpr this
      rw [Int.natCast_pow] at h9
      exact h9
    split
    · rw [Int.emod_emod_of_dvd _ hd, Int.natCast_emod, Int.natCast_pow]; rfl
    · rw [Int.sub_emod, Int.emod_emod_of_dvd _ hd, Int.emod_eq_zero_of_dvd hd, Int.sub_zero, Int.emod_emod, Int.natCast_emod, Int.natCast_pow]; rfl
  rw [e5]
  have := Nat.mod_lt x.toBitVec.toNat hp0
  omega
theorem ofI_shr {a : Int} (ha : inI a) (s : Nat) (hs : s < 32) : Int32.ofInt a >>> (Int32.ofInt s &&& 31) = Int32.ofInt (a / 2 ^ s) := by
  have e0 : Int32.ofInt (s : Int) &&& 31 = Int32.ofInt s := by
    have e := ofI_mask (m := 31) (Int32.ofInt s) 5 rfl (by decide)
    rw [ofI_toInt (e := (s : Int)) ⟨by omega, by omega⟩] at e
    rw [show ((s : Int) % 2 ^ 5) = s by omega] at e
    exact e
  rw [e0]
  apply Int32.toInt_inj.1
  have b1 : (Int32.ofInt a >>> Int32.ofInt (s : Int)).toInt = ((Int32.ofInt a).toBitVec.sshiftRight s).toInt := by
    rcases (show s = 0 ∨ s = 1 ∨ s = 2 ∨ s = 3 ∨ s = 4 ∨ s = 5 ∨ s = 6 ∨ s = 7 ∨ s = 8 ∨ s = 9 ∨ s = 10 ∨ s = 11 ∨ s = 12 ∨ s = 13 ∨ s = 14 ∨ s = 15 ∨ s = 16 ∨ s = 17 ∨ s = 18 ∨ s = 19 ∨ s = 20 ∨ s = 21 ∨ s = 22 ∨ s = 23 ∨ s = 24 ∨ s = 25 ∨ s = 26 ∨ s = 27 ∨ s = 28 ∨ s = 29 ∨ s = 30 ∨ s = 31 by omega) with rfl | rfl | rfl | rfl | rfl | rfl | rfl | rfl | rfl | rfl | rfl | rfl | rfl | rfl | rfl | rfl | rfl | rfl | rfl | rfl | rfl | rfl | rfl | rfl | rfl | rfl | rfl | rfl | rfl | rfl | rfl | rfl <;> rfl
  rw [b1, BitVec.toInt_sshiftRight]
  have b2 : (Int32.ofInt a).toBitVec.toInt = a := ofI_toInt ha
  rw [b2, Int.shiftRight_eq_div_pow]
  have hp : (1 : Int) ≤ 2 ^ s := by exact_mod_cast Nat.two_pow_pos s
  have hdiv : inI (a / 2 ^ s) := by
    constructor
    · have := ha.1
      rw [Int.le_ediv_iff_mul_le (by omega)]
      have : (-2147483648 : Int) * 2 ^ s ≤ -2147483648 := by
        have := Int.mul_le_mul_of_nonpos_left (a := (-2147483648 : Int)) (by decide) hp; omega
      omega
    · rw [Int.ediv_lt_iff_lt_mul (by omega)]
      have := ha.2
      have : (2147483648 : Int) ≤ 2147483648 * 2 ^ s := by
        have := Int.mul_le_mul_of_nonneg_left hp (show (0 : Int) ≤ 2147483648 by decide); omega
      omega
  rw [ofI_toInt hdiv]
  norm_cast
theorem ofI_or {a b : Int} (n : Nat) (ha : 0 ≤ a) (h1 : a < 2 ^ n) (hb : 0 ≤ b) (h2 : a + b < 2147483648) (hd : (2 ^ n : Int) ∣ b) : Int32.ofInt a ||| Int32.ofInt b = Int32.ofInt (a + b) := by
  obtain ⟨x, rfl⟩ := Int.eq_ofNat_of_zero_le ha
  obtain ⟨y, rfl⟩ := Int.eq_ofNat_of_zero_le hb
  have hd' : 2 ^ n ∣ y := by exact_mod_cast hd
  have h1' : x < 2 ^ n := by exact_mod_cast h1
  obtain ⟨q, rfl⟩ := hd'
  apply Int32.toBitVec_inj.1
  rw [Int32.toBitVec_or]
  apply BitVec.eq_of_toNat_eq
  have e1 : ∀ u : Nat, u < 2147483648 → (Int32.ofInt (u : Int)).toBitVec.toNat = u := by
    intro u hu
    have : (Int32.ofInt (u : Int)).toBitVec = BitVec.ofInt 32 u := rfl
    rw [this, BitVec.toNat_ofInt]
    omega
  rw [BitVec.toNat_or, e1 _ (by omega), e1 _ (by omega), show ((x : Int) + ((2 ^ n * q : Nat) : Int)) = ((x + 2 ^ n * q : Nat) : Int) from (Int.natCast_add _ _).symm, e1 _ (by omega)]
  rw [Nat.or_comm, ← Nat.two_pow_add_eq_or_of_lt h1', Nat.add_comm]
theorem ofI_shl {a : Int} (s : Nat) (hs : s < 32) : Int32.ofInt a <<< (Int32.ofInt s &&& 31) = Int32.ofInt (a * 2 ^ s) := by
  have e0 : Int32.ofInt (s : Int) &&& 31 = Int32.ofInt s := by
    have e := ofI_mask (m := 31) (Int32.ofInt s) 5 rfl (by decide)
    rw [ofI_toInt (e := (s : Int)) ⟨by omega, by omega⟩] at e
    rw [show ((s : Int) % 2 ^ 5) = s by omega] at e
    exact e
  rw [e0]
  apply Int32.toBitVec_inj.1
  have b1 : (Int32.ofInt a <<< Int32.ofInt (s : Int)).toBitVec = (Int32.ofInt a).toBitVec <<< s := by
    rcases (show s = 0 ∨ s = 1 ∨ s = 2 ∨ s = 3 ∨ s = 4 ∨ s = 5 ∨ s = 6 ∨ s = 7 ∨ s = 8 ∨ s = 9 ∨ s = 10 ∨ s = 11 ∨ s = 12 ∨ s = 13 ∨ s = 14 ∨ s = 15 ∨ s = 16 ∨ s = 17 ∨ s = 18 ∨ s = 19 ∨ s = 20 ∨ s = 21 ∨ s = 22 ∨ s = 23 ∨ s = 24 ∨ s = 25 ∨ s = 26 ∨ s = 27 ∨ s = 28 ∨ s = 29 ∨ s = 30 ∨ s = 31 by omega) with rfl | rfl | rfl | rfl | rfl | rfl | rfl | rfl | rfl | rfl | rfl | rfl | rfl | rfl | rfl | rfl | rfl | rfl | rfl | rfl | rfl | rfl | rfl | rfl | rfl | rfl | rfl | rfl | rfl | rfl | rfl | rfl <;> rfl
  rw [b1, BitVec.shiftLeft_eq_mul_twoPow]
  show BitVec.ofInt 32 a * _ = BitVec.ofInt 32 (a * 2 ^ s)
  rw [BitVec.ofInt_mul]
  congr 1
  apply BitVec.eq_of_toNat_eq
  rw [BitVec.toNat_twoPow, BitVec.toNat_ofInt]
  norm_cast
/-! rules to walk methods on memory of the fixed shape -/
def pm_nk (i : Nat) : pm_L → Bool
  | [] => true
  | q :: r => match Nat.beq q.1 i with
    | true => false
    | false => pm_nk i r
def pm_dk : pm_L → Bool
  | [] => true
  | q :: r => match pm_nk q.1 r with
    | true => pm_dk r
    | false => false
def pm_sub (lv lv' : pm_L) : Prop := ∀ i v, pm_get lv i = some v → pm_get lv' i = some v
theorem sub_n {lv' : pm_L} : pm_sub [] lv' := fun _ _ h => by cases h
theorem sub_c {lv lv' : pm_L} {i : Nat} {v : Value} (h : pm_get lv' i = some v) (hr : pm_sub lv lv') : pm_sub ((i, v) :: lv) lv' := by
  intro j u hj
  unfold pm_get at hj
  split at hj
  · rename_i e
    have e2 := Nat.eq_of_beq_eq_true e
    cases hj
    exact e2 ▸ h
  · exact hr j u hj
theorem pm_nk_get {i : Nat} {lv : pm_L} (h : pm_nk i lv = true) : pm_get lv i = none := by
  induction lv with
  | nil => rfl
  | cons q r ih =>
    unfold pm_nk at h
    unfold pm_get
    split at h
    · cases h
    · rename_i e; rw [e]; exact ih h
def pm_k1 (i : Nat) (q : Nat × Value) : Bool := match Nat.beq q.1 i, (Nat.beq (q.1 + 1) i && pm_c2 q.2) with
  | false, false => true
  | _, _ => false
def pm_k2 (i : Nat) (q : Nat × Value) : Bool := match (Nat.beq q.1 i || Nat.beq q.1 (i + 1)), (Nat.beq (q.1 + 1) i && pm_c2 q.2) with
  | false, false => true
  | _, _ => false
theorem pm_st1_f (i : Nat) (lv : pm_L) : pm_st1 i lv = lv.filter (pm_k1 i) := by
  induction lv with
  | nil => rfl
  | cons q r ih =>
    unfold pm_st1
    rw [List.filter_cons]
    unfold pm_k1
    split
    · rename_i h1 h2; rw [h1, h2, ih]; rfl
    · rename_i h
      rw [ih]
      cases e1 : Nat.beq q.1 i <;> cases e2 : (Nat.beq (q.1 + 1) i && pm_c2 q.2) <;> first | rfl | exact absurd e2 (h e1)
theorem pm_st2_f (i : Nat) (lv : pm_L) : pm_st2 i lv = lv.filter (pm_k2 i) := by
  induction lv with
  | nil => rfl
  | cons q r ih =>
    unfold pm_st2
    rw [List.filter_cons]
    unfold pm_k2
    split
    · rename_i h1 h2; rw [h1, h2, ih]; rfl
    · rename_i h
      rw [ih]
      cases e1 : (Nat.beq q.1 i || Nat.beq q.1 (i + 1)) <;> cases e2 : (Nat.beq (q.1 + 1) i && pm_c2 q.2) <;> first | rfl | exact absurd e2 (h e1)
theorem pm_fl_1 {f : Nat × Value → Bool} {lv : pm_L} {j : Nat} {v : Value} (h : pm_get lv j = some v) (hf : f (j, v) = true) : pm_get (lv.filter f) j = some v := by
  induction lv with
  | nil => cases h
  | cons q r ih =>
    rw [List.filter_cons]
    unfold pm_get at h
    split at h
    · rename_i e
      have e2 := Nat.eq_of_beq_eq_true e
      cases h
      have e3 : (j, q.2) = q := by rw [← e2]
      rw [e3] at hf
      rw [if_pos hf]
      unfold pm_get
      rw [e]
    · rename_i e
      split
      · unfold pm_get; rw [e]; exact ih h
      · exact ih h
theorem pm_nk_fl {f : Nat × Value → Bool} {lv : pm_L} {j : Nat} (h : pm_nk j lv = true) : pm_nk j (lv.filter f) = true := by
  induction lv with
  | nil => rfl
  | cons q r ih =>
    rw [List.filter_cons]
    unfold pm_nk at h
    split at h
    · cases h
    · rename_i e
      split
      · unfold pm_nk; rw [e]; exact ih h
      · exact ih h
theorem pm_dk_fl {f : Nat × Value → Bool} {lv : pm_L} (h : pm_dk lv = true) : pm_dk (lv.filter f) = true := by
  induction lv with
  | nil => rfl
  | cons q r ih =>
    rw [List.filter_cons]
    unfold pm_dk at h
    split at h
    · rename_i e
      split
      · unfold pm_dk; rw [pm_nk_fl e]; exact ih h
      · exact ih h
    · cases h
theorem pm_fl_2 {f : Nat × Value → Bool} {lv : pm_L} {j : Nat} {v : Value} (hd : pm_dk lv = true) (h : pm_get (lv.filter f) j = some v) : pm_get lv j = some v ∧ f (j, v) = true := by
  induction lv with
  | nil => cases h
  | cons q r ih =>
    rw [List.filter_cons] at h
    unfold pm_dk at hd
    split at hd
    · rename_i e
      split at h
      · rename_i hf
        unfold pm_get at h
        unfold pm_get
        split at h
        · rename_i e1
          have e2 := Nat.eq_of_beq_eq_true e1
          cases h
          have e3 : (j, q.2) = q := by rw [← e2]
          rw [e3]
          exact ⟨rfl, hf⟩
        · exact ih hd h
      · have e4 := ih hd h
        unfold pm_get
        cases e1 : Nat.beq q.1 j with
        | false => exact e4
        | true =>
          have e2 := Nat.eq_of_beq_eq_true e1
          rw [e2] at e
          rw [pm_nk_get e] at e4
          cases e4.1
    · cases hd
theorem pm_sub_fl {f : Nat × Value → Bool} {lv lv' : pm_L} {i : Nat} {x : Value} (hd : pm_dk lv = true) (hs : pm_sub lv lv') : pm_sub ((i, x) :: lv.filter f) ((i, x) :: lv'.filter f) := by
  intro j v h
  unfold pm_get at h ⊢
  split at h
  · exact h
  · obtain ⟨h1, h2⟩ := pm_fl_2 hd h
    exact pm_fl_1 (hs _ _ h1) h2
theorem pm_nk_1 {i : Nat} (lv : pm_L) : pm_nk i (lv.filter (pm_k1 i)) = true := by
  induction lv with
  | nil => rfl
  | cons q r ih =>
    rw [List.filter_cons]
    split
    · rename_i h
      unfold pm_nk
      cases e : Nat.beq q.1 i with
      | true => unfold pm_k1 at h; rw [e] at h; cases h
      | false => exact ih
    · exact ih
theorem pm_nk_2 {i : Nat} (lv : pm_L) : pm_nk i (lv.filter (pm_k2 i)) = true := by
  induction lv with
  | nil => rfl
  | cons q r ih =>
    rw [List.filter_cons]
    split
    · rename_i h
      unfold pm_nk
      cases e : Nat.beq q.1 i with
      | true => unfold pm_k2 at h; rw [e] at h; cases h
      | false => exact ih
    · exact ih
theorem pm_dk_c {i : Nat} {x : Value} {lv : pm_L} (h : pm_nk i lv = true) (hd : pm_dk lv = true) : pm_dk ((i, x) :: lv) = true := by
  unfold pm_dk
  rw [show pm_nk (i, x).1 lv = true from h]
  exact hd
/-- loads and stores with more variables -/
theorem pm_ld_s {lv lv' : pm_L} (hs : pm_sub lv lv') {q : Instr} {v : Value} (h : pm_ld q lv = some v) : pm_ld q lv' = some v := by
  have hi : ∀ n, pm_ldi lv n = some v → pm_ldi lv' n = some v := by
    intro n h
    unfold pm_ldi at h ⊢
    split at h
    · rename_i e; rw [hs _ _ e]; exact h
    · cases h
  have hl : ∀ n, pm_ldl lv n = some v → pm_ldl lv' n = some v := by
    intro n h
    unfold pm_ldl at h ⊢
    split at h
    · rename_i e; rw [hs _ _ e]; exact h
    · cases h
  have ha : ∀ n, pm_lda lv n = some v → pm_lda lv' n = some v := by
    intro n h
    unfold pm_lda at h ⊢
    split at h
    · rename_i e; rw [hs _ _ e]; exact h
    · rename_i e; rw [hs _ _ e]; exact h
    · cases h
  unfold pm_ld at h ⊢
  split at h
  · exact hi _ h
  · exact hi _ h
  · exact hl _ h
  · exact hl _ h
  · exact ha _ h
  · exact ha _ h
  · cases h
theorem pm_sto_s {nL : Nat} {lv lv' lv1 : pm_L} {st st1 : List Value} (hs : pm_sub lv lv') (hd : pm_dk lv = true) {q : Instr} (h : pm_sto nL q lv st = some (lv1, st1)) : ∃ lv1', pm_sto nL q lv' st = some (lv1', st1) ∧ pm_sub lv1 lv1' ∧ pm_dk lv1 = true := by
  have c1 : ∀ i (x : Value), pm_sub ((i, x) :: pm_st1 i lv) ((i, x) :: pm_st1 i lv') ∧ pm_dk ((i, x) :: pm_st1 i lv) = true := by
    intro i x
    rw [pm_st1_f, pm_st1_f]
    exact ⟨pm_sub_fl hd hs, pm_dk_c (pm_nk_1 lv) (pm_dk_fl hd)⟩
  have c2 : ∀ i (x : Value), pm_sub ((i, x) :: pm_st2 i lv) ((i, x) :: pm_st2 i lv') ∧ pm_dk ((i, x) :: pm_st2 i lv) = true := by
    intro i x
    rw [pm_st2_f, pm_st2_f]
    exact ⟨pm_sub_fl hd hs, pm_dk_c (pm_nk_2 lv) (pm_dk_fl hd)⟩
  have hi : ∀ n, pm_sti nL n lv st = some (lv1, st1) → ∃ lv1', pm_sti nL n lv' st = some (lv1', st1) ∧ pm_sub lv1 lv1' ∧ pm_dk lv1 = true := by
    intro n h
    unfold pm_sti at h ⊢
    split at h
    · split at h
      · cases h; exact ⟨_, rfl, c1 _ _⟩
      · cases h
    · cases h
  have hl : ∀ n, pm_stl nL n lv st = some (lv1, st1) → ∃ lv1', pm_stl nL n lv' st = some (lv1', st1) ∧ pm_sub lv1 lv1' ∧ pm_dk lv1 = true := by
    intro n h
    unfold pm_stl at h ⊢
    split at h
    · split at h
      · cases h; exact ⟨_, rfl, c2 _ _⟩
      · cases h
    · cases h
  have ha : ∀ n, pm_sta nL n lv st = some (lv1, st1) → ∃ lv1', pm_sta nL n lv' st = some (lv1', st1) ∧ pm_sub lv1 lv1' ∧ pm_dk lv1 = true := by
    intro n h
    unfold pm_sta at h ⊢
    split at h
    · split at h
      · cases h; exact ⟨_, rfl, c1 _ _⟩
      · cases h
    · split at h
      · cases h; exact ⟨_, rfl, c1 _ _⟩
      · cases h
    · cases h
  have hn : ∀ i n, pm_inc nL i n lv st = some (lv1, st1) → ∃ lv1', pm_inc nL i n lv' st = some (lv1', st1) ∧ pm_sub lv1 lv1' ∧ pm_dk lv1 = true := by
    intro i n h
    unfold pm_inc at h ⊢
    split at h
    · rename_i e
      rw [hs _ _ e]
      split at h
      · rename_i e1
        cases h
        exact ⟨_, rfl, c1 _ _⟩
      · cases h
    · cases h
  unfold pm_sto at h ⊢
  split at h
  · exact hi _ h
  · exact hi _ h
  · exact hl _ h
  · exact hl _ h
  · exact ha _ h
  · exact ha _ h
  · exact hn _ _ h
  · cases h
theorem pm_step_s {cs : Nat → List Value} {ms : Nat → Option pm_M} {call : pm_C} {scr : pm_S} {nL : Nat} {rt : Option FieldType} {q : pm_I} {pc : Nat} {lv lv' : pm_L} {st : List Value} {h : pm_H} (hs : pm_sub lv lv') (hd : pm_dk lv = true) :
    (∀ pc1 lv1 st1 h1, pm_step cs ms call scr nL rt q (pc, lv, st, h) = some (.inl (pc1, lv1, st1, h1)) → ∃ lv1', pm_step cs ms call scr nL rt q (pc, lv', st, h) = some (.inl (pc1, lv1', st1, h1)) ∧ pm_sub lv1 lv1' ∧ pm_dk lv1 = true) ∧
    (∀ r, pm_step cs ms call scr nL rt q (pc, lv, st, h) = some (.inr r) → pm_step cs ms call scr nL rt q (pc, lv', st, h) = some (.inr r)) := by
  obtain ⟨i, len, r1, r2, cst, hs'⟩ := q
  simp only [pm_step]
  split
  · cases pm_alu i cst st with
    | none => exact ⟨fun _ _ _ _ e => (by cases e), fun _ e => (by cases e)⟩
    | some x => exact ⟨fun _ _ _ _ e => (by cases e; exact ⟨lv', rfl, hs, hd⟩), fun _ e => (by cases e)⟩
  · cases e1 : pm_ld i lv with
    | none => exact ⟨fun _ _ _ _ e => (by cases e), fun _ e => (by cases e)⟩
    | some x => rw [pm_ld_s hs e1]; exact ⟨fun _ _ _ _ e => (by cases e; exact ⟨lv', rfl, hs, hd⟩), fun _ e => (by cases e)⟩
  · cases e1 : pm_sto nL i lv st with
    | none => exact ⟨fun _ _ _ _ e => (by cases e), fun _ e => (by cases e)⟩
    | some x =>
      obtain ⟨lv1, st1⟩ := x
      obtain ⟨lv1', e2, e3, e4⟩ := pm_sto_s hs hd e1
      rw [e2]
      exact ⟨fun _ _ _ _ e => (by cases e; exact ⟨lv1', rfl, e3, e4⟩), fun _ e => (by cases e)⟩
  · cases pm_jmp i pc r1 st with
    | none => exact ⟨fun _ _ _ _ e => (by cases e), fun _ e => (by cases e)⟩
    | some x => exact ⟨fun _ _ _ _ e => (by cases e; exact ⟨lv', rfl, hs, hd⟩), fun _ e => (by cases e)⟩
  · cases pm_mem cs scr i r1 r2 cst st h with
    | none => exact ⟨fun _ _ _ _ e => (by cases e), fun _ e => (by cases e)⟩
    | some x => exact ⟨fun _ _ _ _ e => (by cases e; exact ⟨lv', rfl, hs, hd⟩), fun _ e => (by cases e)⟩
  · cases pm_inv call i r1 (pm_na ms r1).1 (pm_na ms r1).2 st h with
    | none => exact ⟨fun _ _ _ _ e => (by cases e), fun _ e => (by cases e)⟩
    | some x => exact ⟨fun _ _ _ _ e => (by cases e; exact ⟨lv', rfl, hs, hd⟩), fun _ e => (by cases e)⟩
  · cases pm_ret i rt st with
    | none => exact ⟨fun _ _ _ _ e => (by cases e), fun _ e => (by cases e)⟩
    | some x => exact ⟨fun _ _ _ _ e => (by cases e), fun _ e => e⟩
theorem pm_run_s {cs : Nat → List Value} {ms : Nat → Option pm_M} {call : pm_C} {scr : pm_S} {nL : Nat} {rt : Option FieldType} {ins : Nat → Option pm_I} {r : pm_R} : ∀ (n : Nat) {pc : Nat} {lv lv' : pm_L} {st : List Value} {h : pm_H}, pm_sub lv lv' → pm_dk lv = true → pm_run (pm_step cs ms call scr nL rt) ins n (pc, lv, st, h) = some r → pm_run (pm_step cs ms call scr nL rt) ins n (pc, lv', st, h) = some r := by
  intro n
  induction n with
  | zero => intro pc lv lv' st h hs hd e; cases e
  | succ n ih =>
    intro pc lv lv' st h hs hd e
    rw [pm_run_succ] at e ⊢
    show (match ins pc with
      | none => none
      | some q => match pm_step cs ms call scr nL rt q (pc, lv', st, h) with
        | none => none
        | some (.inl F') => pm_run (pm_step cs ms call scr nL rt) ins n F'
        | some (.inr r) => some r) = some r
    have e' : (match ins pc with
      | none => none
      | some q => match pm_step cs ms call scr nL rt q (pc, lv, st, h) with
        | none => none
        | some (.inl F') => pm_run (pm_step cs ms call scr nL rt) ins n F'
        | some (.inr r) => some r) = some r := e
    clear e
    cases e1 : ins pc with
    | none => rw [e1] at e'; cases e'
    | some q =>
      rw [e1] at e'
      dsimp only at e' ⊢
      obtain ⟨p1, p2⟩ := pm_step_s (cs := cs) (ms := ms) (call := call) (scr := scr) (nL := nL) (rt := rt) (q := q) (pc := pc) (st := st) (h := h) hs hd
      cases e2 : pm_step cs ms call scr nL rt q (pc, lv, st, h) with
      | none => rw [e2] at e'; cases e'
      | some o =>
        rw [e2] at e'
        cases o with
        | inl F =>
          obtain ⟨pc1, lv1, st1, h1⟩ := F
          obtain ⟨lv1', e3, e4, e5⟩ := p1 _ _ _ _ e2
          rw [e3]
          exact ih e4 e5 e'
        | inr r' => rw [p2 _ e2]; exact e'
section RU
variable {d k nL : Nat} {rt : Option FieldType} {Q : pm_R → Prop} {pc pc' len r1 r2 : Nat} {cst : Int} {hs : List (Nat × Nat)} {lv lv' : pm_L} {st st' r : List Value} {h : pm_H}
theorem w_lv (s : pm_sub lv lv') (hd : pm_dk lv = true) (w : wp_ d k nL rt (pc, lv, st, h) Q) : wp_ d k nL rt (pc, lv', st, h) Q := by
  obtain ⟨n, f0, r, h3, h4⟩ := w
  exact ⟨n, f0, r, fun f hf u => pm_run_s _ s hd (h3 f hf u), h4⟩
theorem w_hi {x : Int32} (w : ∀ e, inI e → wp_ d k nL rt (pc, lv, .int (Int32.ofInt e) :: r, h) Q) : wp_ d k nL rt (pc, lv, .int x :: r, h) Q := by
  obtain ⟨e, h1, rfl⟩ := hv_i x
  exact w e h1
theorem w_hl {x : Int64} (w : ∀ e, inL e → wp_ d k nL rt (pc, lv, .long (Int64.ofInt e) :: r, h) Q) : wp_ d k nL rt (pc, lv, .long x :: r, h) Q := by
  obtain ⟨e, h1, rfl⟩ := hv_l x
  exact w e h1
/-- what works on the stack alone -/
theorem r_al {i : Instr} (h1 : pm_ins k pc = some (i, len, r1, r2, cst, hs)) (hg : pm_grp i = 0) (hp : pc + pm_aln i = pc') (ha : pm_alu i cst st = some st') (w : wp_ d k nL rt (pc', lv, st', h) Q) : wp_ d k nL rt (pc, lv, st, h) Q := by
  refine w_s (F' := (pc', lv, st', h)) h1 (fun call => ?_) w
  simp only [pm_step]
  rw [hg]
  show pm_o0 (pc + pm_aln i) lv h (pm_alu i cst st) = _
  rw [ha, hp]
  rfl
theorem r_ld {i : Instr} {v : Value} (h1 : pm_ins k pc = some (i, len, r1, r2, cst, hs)) (hg : pm_grp i = 1) (hp : pc + pm_ldn i = pc') (ha : pm_ld i lv = some v) (w : wp_ d k nL rt (pc', lv, v :: st, h) Q) : wp_ d k nL rt (pc, lv, st, h) Q := by
  refine w_s (F' := (pc', lv, v :: st, h)) h1 (fun call => ?_) w
  simp only [pm_step]
  rw [hg]
  show pm_o1 (pc + pm_ldn i) lv st h (pm_ld i lv) = _
  rw [ha, hp]
  rfl
theorem r_st {i : Instr} (h1 : pm_ins k pc = some (i, len, r1, r2, cst, hs)) (hg : pm_grp i = 2) (hp : pc + pm_ston i = pc') (ha : pm_sto nL i lv st = some (lv', st')) (w : wp_ d k nL rt (pc', lv', st', h) Q) : wp_ d k nL rt (pc, lv, st, h) Q := by
  refine w_s (F' := (pc', lv', st', h)) h1 (fun call => ?_) w
  simp only [pm_step]
  rw [hg]
  show pm_o2 (pc + pm_ston i) h (pm_sto nL i lv st) = _
  rw [ha, hp]
  rfl
theorem r_inc {i : Nat} {n e : Int} (h1 : pm_ins k pc = some (.iinc i n, len, r1, r2, cst, hs)) (hp : pc + 3 = pc') (hg : pm_get lv i = some (.int (Int32.ofInt e))) (hb : Nat.ble (i + 1) nL = true) (hl : pm_st1 i lv = lv') (w : wp_ d k nL rt (pc', (i, .int (Int32.ofInt (e + n))) :: lv', st, h) Q) : wp_ d k nL rt (pc, lv, st, h) Q := by
  refine r_st h1 rfl hp (lv' := (i, .int (Int32.ofInt (e + n))) :: lv') (st' := st) ?_ w
  show pm_inc nL i n lv st = _
  unfold pm_inc
  rw [hg]
  dsimp only
  rw [hb, hl, ofI_add]
theorem r_go {off : Int} (h1 : pm_ins k pc = some (.goto off, len, pc', r2, cst, hs)) (w : wp_ d k nL rt (pc', lv, st, h) Q) : wp_ d k nL rt (pc, lv, st, h) Q := w_s (F' := (pc', lv, st, h)) h1 (fun _ => rfl) w
variable {a b : Int}
theorem r_c0 {x : Int} (h1 : pm_ins k pc = some (.iconst x, len, r1, r2, cst, hs)) (hp : pc + 1 = pc') (w : wp_ d k nL rt (pc', lv, .int (Int32.ofInt x) :: st, h) Q) : wp_ d k nL rt (pc, lv, st, h) Q := r_al h1 rfl hp rfl w
theorem r_cb {x : Int} (h1 : pm_ins k pc = some (.bipush x, len, r1, r2, cst, hs)) (hx : (decide (-128 ≤ x) && decide (x < 128)) = true) (hp : pc + 2 = pc') (w : wp_ d k nL rt (pc', lv, .int (Int32.ofInt x) :: st, h) Q) : wp_ d k nL rt (pc, lv, st, h) Q := by
  rw [Bool.and_eq_true, decide_eq_true_eq, decide_eq_true_eq] at hx
  exact r_al h1 rfl hp (congrArg (fun y => some (Value.int y :: st)) (ofI_bi hx.1 hx.2)) w
theorem r_cs {x : Int} (h1 : pm_ins k pc = some (.sipush x, len, r1, r2, cst, hs)) (hx : (decide (-32768 ≤ x) && decide (x < 32768)) = true) (hp : pc + 3 = pc') (w : wp_ d k nL rt (pc', lv, .int (Int32.ofInt x) :: st, h) Q) : wp_ d k nL rt (pc, lv, st, h) Q := by
  rw [Bool.and_eq_true, decide_eq_true_eq, decide_eq_true_eq] at hx
  exact r_al h1 rfl hp (congrArg (fun y => some (Value.int y :: st)) (ofI_si hx.1 hx.2)) w
theorem r_lc0 (h1 : pm_ins k pc = some (.lconst 0, len, r1, r2, cst, hs)) (hp : pc + 1 = pc') (w : wp_ d k nL rt (pc', lv, .long (Int64.ofInt 0) :: st, h) Q) : wp_ d k nL rt (pc, lv, st, h) Q := r_al h1 rfl hp rfl w
theorem r_lc1 (h1 : pm_ins k pc = some (.lconst 1, len, r1, r2, cst, hs)) (hp : pc + 1 = pc') (w : wp_ d k nL rt (pc', lv, .long (Int64.ofInt 1) :: st, h) Q) : wp_ d k nL rt (pc, lv, st, h) Q := r_al h1 rfl hp rfl w
theorem r_add (h1 : pm_ins k pc = some (.iadd, len, r1, r2, cst, hs)) (hp : pc + 1 = pc') (w : wp_ d k nL rt (pc', lv, .int (Int32.ofInt (a + b)) :: r, h) Q) : wp_ d k nL rt (pc, lv, .int (Int32.ofInt b) :: .int (Int32.ofInt a) :: r, h) Q := r_al h1 rfl hp (congrArg (fun y => some (Value.int y :: r)) (ofI_add a b)) w
theorem r_sub (h1 : pm_ins k pc = some (.isub, len, r1, r2, cst, hs)) (hp : pc + 1 = pc') (w : wp_ d k nL rt (pc', lv, .int (Int32.ofInt (a - b)) :: r, h) Q) : wp_ d k nL rt (pc, lv, .int (Int32.ofInt b) :: .int (Int32.ofInt a) :: r, h) Q := r_al h1 rfl hp (congrArg (fun y => some (Value.int y :: r)) (ofI_sub a b)) w
theorem r_mul (h1 : pm_ins k pc = some (.imul, len, r1, r2, cst, hs)) (hp : pc + 1 = pc') (w : wp_ d k nL rt (pc', lv, .int (Int32.ofInt (a * b)) :: r, h) Q) : wp_ d k nL rt (pc, lv, .int (Int32.ofInt b) :: .int (Int32.ofInt a) :: r, h) Q := r_al h1 rfl hp (congrArg (fun y => some (Value.int y :: r)) (ofI_mul a b)) w
theorem r_ladd (h1 : pm_ins k pc = some (.ladd, len, r1, r2, cst, hs)) (hp : pc + 1 = pc') (w : wp_ d k nL rt (pc', lv, .long (Int64.ofInt (a + b)) :: r, h) Q) : wp_ d k nL rt (pc, lv, .long (Int64.ofInt b) :: .long (Int64.ofInt a) :: r, h) Q := r_al h1 rfl hp (congrArg (fun y => some (Value.long y :: r)) ((Int64.ofInt_add a b).symm)) w
theorem r_lsub (h1 : pm_ins k pc = some (.lsub, len, r1, r2, cst, hs)) (hp : pc + 1 = pc') (w : wp_ d k nL rt (pc', lv, .long (Int64.ofInt (a - b)) :: r, h) Q) : wp_ d k nL rt (pc, lv, .long (Int64.ofInt b) :: .long (Int64.ofInt a) :: r, h) Q := r_al h1 rfl hp (congrArg (fun y => some (Value.long y :: r)) ((Int64.ofInt_sub a b).symm)) w
theorem r_lmul (h1 : pm_ins k pc = some (.lmul, len, r1, r2, cst, hs)) (hp : pc + 1 = pc') (w : wp_ d k nL rt (pc', lv, .long (Int64.ofInt (a * b)) :: r, h) Q) : wp_ d k nL rt (pc, lv, .long (Int64.ofInt b) :: .long (Int64.ofInt a) :: r, h) Q := r_al h1 rfl hp (congrArg (fun y => some (Value.long y :: r)) ((Int64.ofInt_mul a b).symm)) w
theorem r_neg (h1 : pm_ins k pc = some (.ineg, len, r1, r2, cst, hs)) (hp : pc + 1 = pc') (w : wp_ d k nL rt (pc', lv, .int (Int32.ofInt (-a)) :: r, h) Q) : wp_ d k nL rt (pc, lv, .int (Int32.ofInt a) :: r, h) Q := r_al h1 rfl hp (congrArg (fun y => some (Value.int y :: r)) (ofI_neg a)) w
theorem r_lneg (h1 : pm_ins k pc = some (.lneg, len, r1, r2, cst, hs)) (hp : pc + 1 = pc') (w : wp_ d k nL rt (pc', lv, .long (Int64.ofInt (-a)) :: r, h) Q) : wp_ d k nL rt (pc, lv, .long (Int64.ofInt a) :: r, h) Q := r_al h1 rfl hp (congrArg (fun y => some (Value.long y :: r)) (Int64.ofInt_neg a).symm) w
theorem r_i2l (h1 : pm_ins k pc = some (.i2l, len, r1, r2, cst, hs)) (hp : pc + 1 = pc') (ha : inI a) (w : wp_ d k nL rt (pc', lv, .long (Int64.ofInt a) :: r, h) Q) : wp_ d k nL rt (pc, lv, .int (Int32.ofInt a) :: r, h) Q := r_al h1 rfl hp (congrArg (fun y => some (Value.long y :: r)) (ofI_i2l ha)) w
theorem r_l2i (h1 : pm_ins k pc = some (.l2i, len, r1, r2, cst, hs)) (hp : pc + 1 = pc') (w : wp_ d k nL rt (pc', lv, .int (Int32.ofInt a) :: r, h) Q) : wp_ d k nL rt (pc, lv, .long (Int64.ofInt a) :: r, h) Q := r_al h1 rfl hp (congrArg (fun y => some (Value.int y :: r)) Int64.toInt32_ofInt) w
theorem i0_ne {b : Int} (hb : inI b) (h0 : b ≠ 0) : ¬ Int32.ofInt b = 0 := fun e => h0 ((ofI_eq hb inI_0).mp (e.trans ofI_0))
theorem ofL_0 : (0 : Int64) = Int64.ofInt 0 := by decide
theorem inL_0 : inL 0 := ⟨by decide, by decide⟩
theorem l0_ne {b : Int} (hb : inL b) (h0 : b ≠ 0) : ¬ Int64.ofInt b = 0 := fun e => h0 ((ofL_eq hb inL_0).mp (e.trans ofL_0))
theorem r_dv {v : Int} (h1 : pm_ins k pc = some (.idiv, len, r1, r2, cst, hs)) (hp : pc + 1 = pc') (ha : inI a) (hb : inI b) (h0 : b ≠ 0) (hv : a.tdiv b = v) (w : wp_ d k nL rt (pc', lv, .int (Int32.ofInt v) :: r, h) Q) : wp_ d k nL rt (pc, lv, .int (Int32.ofInt b) :: .int (Int32.ofInt a) :: r, h) Q := r_al h1 rfl hp (st' := .int (Int32.ofInt v) :: r) (by show (if Int32.ofInt b = 0 then none else some (Value.int (Int32.ofInt a / Int32.ofInt b) :: r)) = _; rw [if_neg (i0_ne hb h0), ofI_div ha hb, hv]) w
theorem r_rm {v : Int} (h1 : pm_ins k pc = some (.irem, len, r1, r2, cst, hs)) (hp : pc + 1 = pc') (ha : inI a) (hb : inI b) (h0 : b ≠ 0) (hv : a.tmod b = v) (w : wp_ d k nL rt (pc', lv, .int (Int32.ofInt v) :: r, h) Q) : wp_ d k nL rt (pc, lv, .int (Int32.ofInt b) :: .int (Int32.ofInt a) :: r, h) Q := r_al h1 rfl hp (st' := .int (Int32.ofInt v) :: r) (by show (if Int32.ofInt b = 0 then none else some (Value.int (Int32.ofInt a - Int32.ofInt a / Int32.ofInt b * Int32.ofInt b) :: r)) = _; rw [if_neg (i0_ne hb h0), ofI_rem ha hb, hv]) w
theorem r_lrm {v : Int} (h1 : pm_ins k pc = some (.lrem, len, r1, r2, cst, hs)) (hp : pc + 1 = pc') (ha : inL a) (hb : inL b) (h0 : b ≠ 0) (hv : a.tmod b = v) (w : wp_ d k nL rt (pc', lv, .long (Int64.ofInt v) :: r, h) Q) : wp_ d k nL rt (pc, lv, .long (Int64.ofInt b) :: .long (Int64.ofInt a) :: r, h) Q := r_al h1 rfl hp (st' := .long (Int64.ofInt v) :: r) (by show (if Int64.ofInt b = 0 then none else some (Value.long (Int64.ofInt a - Int64.ofInt a / Int64.ofInt b * Int64.ofInt b) :: r)) = _; rw [if_neg (l0_ne hb h0), ofL_rem ha hb, hv]) w
/-- a quotient, a rest, by a positive number: a name for it -/
theorem r_dvg (h1 : pm_ins k pc = some (.idiv, len, r1, r2, cst, hs)) (hp : pc + 1 = pc') (ha : inI a) (hb : inI b) (h0 : b ≠ 0) (w : ∀ v, (0 ≤ a → v = a / b) → (a < 0 → v = -((-a) / b)) → wp_ d k nL rt (pc', lv, .int (Int32.ofInt v) :: r, h) Q) : wp_ d k nL rt (pc, lv, .int (Int32.ofInt b) :: .int (Int32.ofInt a) :: r, h) Q := r_dv h1 hp ha hb h0 rfl (w _ tdiv_n tdiv_m)
/-- any number comes of it -/
theorem r_ai {i : Instr} {x : Int32} (h1 : pm_ins k pc = some (i, len, r1, r2, cst, hs)) (hg : pm_grp i = 0) (hp : pc + pm_aln i = pc') (ha : pm_alu i cst st = some (.int x :: r)) (w : ∀ e, inI e → wp_ d k nL rt (pc', lv, .int (Int32.ofInt e) :: r, h) Q) : wp_ d k nL rt (pc, lv, st, h) Q := r_al h1 hg hp ha (w_hi w)
theorem r_aL {i : Instr} {x : Int64} (h1 : pm_ins k pc = some (i, len, r1, r2, cst, hs)) (hg : pm_grp i = 0) (hp : pc + pm_aln i = pc') (ha : pm_alu i cst st = some (.long x :: r)) (w : ∀ e, inL e → wp_ d k nL rt (pc', lv, .long (Int64.ofInt e) :: r, h) Q) : wp_ d k nL rt (pc, lv, st, h) Q := r_al h1 hg hp ha (w_hl w)
/-- a quotient that is any number -/
theorem r_ldvh (h1 : pm_ins k pc = some (.ldiv, len, r1, r2, cst, hs)) (hp : pc + 1 = pc') (hb : inL b) (h0 : b ≠ 0) (w : ∀ e, inL e → wp_ d k nL rt (pc', lv, .long (Int64.ofInt e) :: r, h) Q) : wp_ d k nL rt (pc, lv, .long (Int64.ofInt b) :: .long (Int64.ofInt a) :: r, h) Q := r_aL h1 rfl hp (by show (if Int64.ofInt b = 0 then none else some (Value.long (Int64.ofInt a / Int64.ofInt b) :: r)) = _; rw [if_neg (l0_ne hb h0)]) w
theorem r_lrmh (h1 : pm_ins k pc = some (.lrem, len, r1, r2, cst, hs)) (hp : pc + 1 = pc') (hb : inL b) (h0 : 0 < b) (w : ∀ e, inL e → -b < e → e < b → wp_ d k nL rt (pc', lv, .long (Int64.ofInt e) :: r, h) Q) : wp_ d k nL rt (pc, lv, .long (Int64.ofInt b) :: .long (Int64.ofInt a) :: r, h) Q := by
  obtain ⟨e, he, q⟩ := hv_l (Int64.ofInt a)
  rw [q]
  refine r_lrm h1 hp he hb (by omega) rfl (w _ ?_ ?_ ?_)
  · have := Int.tmod_lt_of_pos e h0; have := Int.lt_tmod_of_pos e h0; have := hb.1; have := hb.2; exact ⟨by omega, by omega⟩
  · exact Int.lt_tmod_of_pos e h0
  · exact Int.tmod_lt_of_pos e h0
/-- masks and shifts -/
theorem r_msk {m n : Nat} (h1 : pm_ins k pc = some (.iand, len, r1, r2, cst, hs)) (hp : pc + 1 = pc') (ha : inI a) (hm : 2 ^ n - 1 = m) (hn : n ≤ 31) (w : wp_ d k nL rt (pc', lv, .int (Int32.ofInt (a % 2 ^ n)) :: r, h) Q) : wp_ d k nL rt (pc, lv, .int (Int32.ofInt m) :: .int (Int32.ofInt a) :: r, h) Q := r_al h1 rfl hp (congrArg (fun y => some (Value.int y :: r)) ((ofI_mask _ n hm hn).trans (by rw [ofI_toInt ha]))) w
theorem r_shr {s : Nat} (h1 : pm_ins k pc = some (.ishr, len, r1, r2, cst, hs)) (hp : pc + 1 = pc') (ha : inI a) (hn : s < 32) (w : wp_ d k nL rt (pc', lv, .int (Int32.ofInt (a / 2 ^ s)) :: r, h) Q) : wp_ d k nL rt (pc, lv, .int (Int32.ofInt s) :: .int (Int32.ofInt a) :: r, h) Q := r_al h1 rfl hp (congrArg (fun y => some (Value.int y :: r)) (ofI_shr ha s hn)) w
theorem r_shl {s : Nat} (h1 : pm_ins k pc = some (.ishl, len, r1, r2, cst, hs)) (hp : pc + 1 = pc') (hn : s < 32) (w : wp_ d k nL rt (pc', lv, .int (Int32.ofInt (a * 2 ^ s)) :: r, h) Q) : wp_ d k nL rt (pc, lv, .int (Int32.ofInt s) :: .int (Int32.ofInt a) :: r, h) Q := r_al h1 rfl hp (congrArg (fun y => some (Value.int y :: r)) (ofI_shl s hn)) w
theorem r_or (n : Nat) (h1 : pm_ins k pc = some (.ior, len, r1, r2, cst, hs)) (hp : pc + 1 = pc') (ha : 0 ≤ a) (hn : a < 2 ^ n) (hb : 0 ≤ b) (h2 : a + b < 2147483648) (hd : (2 ^ n : Int) ∣ b) (w : wp_ d k nL rt (pc', lv, .int (Int32.ofInt (a + b)) :: r, h) Q) : wp_ d k nL rt (pc, lv, .int (Int32.ofInt b) :: .int (Int32.ofInt a) :: r, h) Q := r_al h1 rfl hp (congrArg (fun y => some (Value.int y :: r)) (ofI_or n ha hn hb h2 hd)) w
/-- branches -/
theorem r_ieq {t : Nat} {off : Int} (h1 : pm_ins k pc = some (.if_icmp .eq off, len, t, r2, cst, hs)) (hp : pc + 3 = pc') (ha : inI a) (hb : inI b) (wt : a = b → wp_ d k nL rt (t, lv, r, h) Q) (wf : ¬ a = b → wp_ d k nL rt (pc', lv, r, h) Q) : wp_ d k nL rt (pc, lv, .int (Int32.ofInt b) :: .int (Int32.ofInt a) :: r, h) Q := by
  subst hp
  exact w_ieq h1 ha hb wt wf
theorem r_zeq {t : Nat} {off : Int} (h1 : pm_ins k pc = some (.ifCond .eq off, len, t, r2, cst, hs)) (hp : pc + 3 = pc') (ha : inI a) (wt : a = 0 → wp_ d k nL rt (t, lv, r, h) Q) (wf : ¬ a = 0 → wp_ d k nL rt (pc', lv, r, h) Q) : wp_ d k nL rt (pc, lv, .int (Int32.ofInt a) :: r, h) Q := by
  subst hp
  exact w_zeq h1 ha wt wf
theorem r_ine {t : Nat} {off : Int} (h1 : pm_ins k pc = some (.if_icmp .ne off, len, t, r2, cst, hs)) (hp : pc + 3 = pc') (ha : inI a) (hb : inI b) (wt : ¬ a = b → wp_ d k nL rt (t, lv, r, h) Q) (wf : a = b → wp_ d k nL rt (pc', lv, r, h) Q) : wp_ d k nL rt (pc, lv, .int (Int32.ofInt b) :: .int (Int32.ofInt a) :: r, h) Q := by
  subst hp
  exact w_ine h1 ha hb wt wf
theorem r_zne {t : Nat} {off : Int} (h1 : pm_ins k pc = some (.ifCond .ne off, len, t, r2, cst, hs)) (hp : pc + 3 = pc') (ha : inI a) (wt : ¬ a = 0 → wp_ d k nL rt (t, lv, r, h) Q) (wf : a = 0 → wp_ d k nL rt (pc', lv, r, h) Q) : wp_ d k nL rt (pc, lv, .int (Int32.ofInt a) :: r, h) Q := by
  subst hp
  exact w_zne h1 ha wt wf
theorem r_ilt {t : Nat} {off : Int} (h1 : pm_ins k pc = some (.if_icmp .lt off, len, t, r2, cst, hs)) (hp : pc + 3 = pc') (ha : inI a) (hb : inI b) (wt : a < b → wp_ d k nL rt (t, lv, r, h) Q) (wf : b ≤ a → wp_ d k nL rt (pc', lv, r, h) Q) : wp_ d k nL rt (pc, lv, .int (Int32.ofInt b) :: .int (Int32.ofInt a) :: r, h) Q := by
  subst hp
  exact w_ilt h1 ha hb wt wf
theorem r_zlt {t : Nat} {off : Int} (h1 : pm_ins k pc = some (.ifCond .lt off, len, t, r2, cst, hs)) (hp : pc + 3 = pc') (ha : inI a) (wt : a < 0 → wp_ d k nL rt (t, lv, r, h) Q) (wf : 0 ≤ a → wp_ d k nL rt (pc', lv, r, h) Q) : wp_ d k nL rt (pc, lv, .int (Int32.ofInt a) :: r, h) Q := by
  subst hp
  exact w_zlt h1 ha wt wf
theorem r_ige {t : Nat} {off : Int} (h1 : pm_ins k pc = some (.if_icmp .ge off, len, t, r2, cst, hs)) (hp : pc + 3 = pc') (ha : inI a) (hb : inI b) (wt : b ≤ a → wp_ d k nL rt (t, lv, r, h) Q) (wf : a < b → wp_ d k nL rt (pc', lv, r, h) Q) : wp_ d k nL rt (pc, lv, .int (Int32.ofInt b) :: .int (Int32.ofInt a) :: r, h) Q := by
  subst hp
  exact w_ige h1 ha hb wt wf
theorem r_zge {t : Nat} {off : Int} (h1 : pm_ins k pc = some (.ifCond .ge off, len, t, r2, cst, hs)) (hp : pc + 3 = pc') (ha : inI a) (wt : 0 ≤ a → wp_ d k nL rt (t, lv, r, h) Q) (wf : a < 0 → wp_ d k nL rt (pc', lv, r, h) Q) : wp_ d k nL rt (pc, lv, .int (Int32.ofInt a) :: r, h) Q := by
  subst hp
  exact w_zge h1 ha wt wf
theorem r_igt {t : Nat} {off : Int} (h1 : pm_ins k pc = some (.if_icmp .gt off, len, t, r2, cst, hs)) (hp : pc + 3 = pc') (ha : inI a) (hb : inI b) (wt : b < a → wp_ d k nL rt (t, lv, r, h) Q) (wf : a ≤ b → wp_ d k nL rt (pc', lv, r, h) Q) : wp_ d k nL rt (pc, lv, .int (Int32.ofInt b) :: .int (Int32.ofInt a) :: r, h) Q := by
  subst hp
  exact w_igt h1 ha hb wt wf
theorem r_zgt {t : Nat} {off : Int} (h1 : pm_ins k pc = some (.ifCond .gt off, len, t, r2, cst, hs)) (hp : pc + 3 = pc') (ha : inI a) (wt : 0 < a → wp_ d k nL rt (t, lv, r, h) Q) (wf : a ≤ 0 → wp_ d k nL rt (pc', lv, r, h) Q) : wp_ d k nL rt (pc, lv, .int (Int32.ofInt a) :: r, h) Q := by
  subst hp
  exact w_zgt h1 ha wt wf
theorem r_ile {t : Nat} {off : Int} (h1 : pm_ins k pc = some (.if_icmp .le off, len, t, r2, cst, hs)) (hp : pc + 3 = pc') (ha : inI a) (hb : inI b) (wt : a ≤ b → wp_ d k nL rt (t, lv, r, h) Q) (wf : b < a → wp_ d k nL rt (pc', lv, r, h) Q) : wp_ d k nL rt (pc, lv, .int (Int32.ofInt b) :: .int (Int32.ofInt a) :: r, h) Q := by
  subst hp
  exact w_ile h1 ha hb wt wf
theorem r_zle {t : Nat} {off : Int} (h1 : pm_ins k pc = some (.ifCond .le off, len, t, r2, cst, hs)) (hp : pc + 3 = pc') (ha : inI a) (wt : a ≤ 0 → wp_ d k nL rt (t, lv, r, h) Q) (wf : 0 < a → wp_ d k nL rt (pc', lv, r, h) Q) : wp_ d k nL rt (pc, lv, .int (Int32.ofInt a) :: r, h) Q := by
  subst hp
  exact w_zle h1 ha wt wf
theorem lg_lt {a b : Int} (ha : inL a) (hb : inL b) : ∃ c : Int, lg_cmp (Int64.ofInt a) (Int64.ofInt b) = Int32.ofInt c ∧ ((c = -1 ∧ a < b) ∨ (c = 0 ∧ a = b) ∨ (c = 1 ∧ b < a)) := by
  unfold lg_cmp
  by_cases h1 : b < a
  · rw [if_pos (show Int64.ofInt a > Int64.ofInt b from (ofL_lt hb ha).mpr h1)]
    exact ⟨1, by decide, Or.inr (Or.inr ⟨rfl, h1⟩)⟩
  · rw [if_neg (show ¬ Int64.ofInt a > Int64.ofInt b from fun q => h1 ((ofL_lt hb ha).mp q))]
    by_cases h2 : a = b
    · rw [if_pos ((ofL_eq ha hb).mpr h2)]
      exact ⟨0, by decide, Or.inr (Or.inl ⟨rfl, h2⟩)⟩
    · rw [if_neg (fun q => h2 ((ofL_eq ha hb).mp q))]
      exact ⟨-1, by decide, Or.inl ⟨rfl, by omega⟩⟩
theorem r_lcm (h1 : pm_ins k pc = some (.lcmp, len, r1, r2, cst, hs)) (hp : pc + 1 = pc') (ha : inL a) (hb : inL b) (w : ∀ c, ((c = -1 ∧ a < b) ∨ (c = 0 ∧ a = b) ∨ (c = 1 ∧ b < a)) → wp_ d k nL rt (pc', lv, .int (Int32.ofInt c) :: r, h) Q) : wp_ d k nL rt (pc, lv, .long (Int64.ofInt b) :: .long (Int64.ofInt a) :: r, h) Q := by
  obtain ⟨c, e, hc⟩ := lg_lt ha hb
  refine r_al h1 rfl hp (st' := .int (Int32.ofInt c) :: r) ?_ (w c hc)
  exact congrArg (fun y => some (Value.int y :: r)) e
theorem r_leq {t len2 r22 r11 : Nat} {off cst2 : Int} {hs2 : List (Nat × Nat)} (h1 : pm_ins k pc = some (.lcmp, len2, r11, r22, cst2, hs2)) (h2 : pm_ins k (pc + 1) = some (.ifCond .eq off, len, t, r2, cst, hs)) (hp : pc + 4 = pc') (ha : inL a) (hb : inL b) (wt : a = b → wp_ d k nL rt (t, lv, r, h) Q) (wf : ¬ a = b → wp_ d k nL rt (pc', lv, r, h) Q) : wp_ d k nL rt (pc, lv, .long (Int64.ofInt b) :: .long (Int64.ofInt a) :: r, h) Q := by
  refine r_lcm h1 rfl ha hb (fun c hc => ?_)
  exact r_zeq h2 hp ⟨by omega, by omega⟩ (fun q => wt (by omega)) (fun q => wf (by omega))
theorem r_lne {t len2 r22 r11 : Nat} {off cst2 : Int} {hs2 : List (Nat × Nat)} (h1 : pm_ins k pc = some (.lcmp, len2, r11, r22, cst2, hs2)) (h2 : pm_ins k (pc + 1) = some (.ifCond .ne off, len, t, r2, cst, hs)) (hp : pc + 4 = pc') (ha : inL a) (hb : inL b) (wt : ¬ a = b → wp_ d k nL rt (t, lv, r, h) Q) (wf : a = b → wp_ d k nL rt (pc', lv, r, h) Q) : wp_ d k nL rt (pc, lv, .long (Int64.ofInt b) :: .long (Int64.ofInt a) :: r, h) Q := by
  refine r_lcm h1 rfl ha hb (fun c hc => ?_)
  exact r_zne h2 hp ⟨by omega, by omega⟩ (fun q => wt (by omega)) (fun q => wf (by omega))
theorem r_llt {t len2 r22 r11 : Nat} {off cst2 : Int} {hs2 : List (Nat × Nat)} (h1 : pm_ins k pc = some (.lcmp, len2, r11, r22, cst2, hs2)) (h2 : pm_ins k (pc + 1) = some (.ifCond .lt off, len, t, r2, cst, hs)) (hp : pc + 4 = pc') (ha : inL a) (hb : inL b) (wt : a < b → wp_ d k nL rt (t, lv, r, h) Q) (wf : b ≤ a → wp_ d k nL rt (pc', lv, r, h) Q) : wp_ d k nL rt (pc, lv, .long (Int64.ofInt b) :: .long (Int64.ofInt a) :: r, h) Q := by
  refine r_lcm h1 rfl ha hb (fun c hc => ?_)
  exact r_zlt h2 hp ⟨by omega, by omega⟩ (fun q => wt (by omega)) (fun q => wf (by omega))
theorem r_lge {t len2 r22 r11 : Nat} {off cst2 : Int} {hs2 : List (Nat × Nat)} (h1 : pm_ins k pc = some (.lcmp, len2, r11, r22, cst2, hs2)) (h2 : pm_ins k (pc + 1) = some (.ifCond .ge off, len, t, r2, cst, hs)) (hp : pc + 4 = pc') (ha : inL a) (hb : inL b) (wt : b ≤ a → wp_ d k nL rt (t, lv, r, h) Q) (wf : a < b → wp_ d k nL rt (pc', lv, r, h) Q) : wp_ d k nL rt (pc, lv, .long (Int64.ofInt b) :: .long (Int64.ofInt a) :: r, h) Q := by
  refine r_lcm h1 rfl ha hb (fun c hc => ?_)
  exact r_zge h2 hp ⟨by omega, by omega⟩ (fun q => wt (by omega)) (fun q => wf (by omega))
theorem r_lgt {t len2 r22 r11 : Nat} {off cst2 : Int} {hs2 : List (Nat × Nat)} (h1 : pm_ins k pc = some (.lcmp, len2, r11, r22, cst2, hs2)) (h2 : pm_ins k (pc + 1) = some (.ifCond .gt off, len, t, r2, cst, hs)) (hp : pc + 4 = pc') (ha : inL a) (hb : inL b) (wt : b < a → wp_ d k nL rt (t, lv, r, h) Q) (wf : a ≤ b → wp_ d k nL rt (pc', lv, r, h) Q) : wp_ d k nL rt (pc, lv, .long (Int64.ofInt b) :: .long (Int64.ofInt a) :: r, h) Q := by
  refine r_lcm h1 rfl ha hb (fun c hc => ?_)
  exact r_zgt h2 hp ⟨by omega, by omega⟩ (fun q => wt (by omega)) (fun q => wf (by omega))
theorem r_lle {t len2 r22 r11 : Nat} {off cst2 : Int} {hs2 : List (Nat × Nat)} (h1 : pm_ins k pc = some (.lcmp, len2, r11, r22, cst2, hs2)) (h2 : pm_ins k (pc + 1) = some (.ifCond .le off, len, t, r2, cst, hs)) (hp : pc + 4 = pc') (ha : inL a) (hb : inL b) (wt : a ≤ b → wp_ d k nL rt (t, lv, r, h) Q) (wf : b < a → wp_ d k nL rt (pc', lv, r, h) Q) : wp_ d k nL rt (pc, lv, .long (Int64.ofInt b) :: .long (Int64.ofInt a) :: r, h) Q := by
  refine r_lcm h1 rfl ha hb (fun c hc => ?_)
  exact r_zle h2 hp ⟨by omega, by omega⟩ (fun q => wt (by omega)) (fun q => wf (by omega))
theorem r_nul_t {t : Nat} {off : Int} (h1 : pm_ins k pc = some (.ifnull off, len, t, r2, cst, hs)) (w : wp_ d k nL rt (t, lv, r, h) Q) : wp_ d k nL rt (pc, lv, .null :: r, h) Q := w_s (F' := (t, lv, r, h)) h1 (fun _ => rfl) w
theorem r_nul_f {t x : Nat} {off : Int} (h1 : pm_ins k pc = some (.ifnull off, len, t, r2, cst, hs)) (hp : pc + 3 = pc') (w : wp_ d k nL rt (pc', lv, r, h) Q) : wp_ d k nL rt (pc, lv, .ref x :: r, h) Q := w_s (F' := (pc', lv, r, h)) h1 (fun _ => by subst hp; rfl) w
theorem r_nn_f {t : Nat} {off : Int} (h1 : pm_ins k pc = some (.ifnonnull off, len, t, r2, cst, hs)) (hp : pc + 3 = pc') (w : wp_ d k nL rt (pc', lv, r, h) Q) : wp_ d k nL rt (pc, lv, .null :: r, h) Q := w_s (F' := (pc', lv, r, h)) h1 (fun _ => by subst hp; rfl) w
theorem r_nn_t {t x : Nat} {off : Int} (h1 : pm_ins k pc = some (.ifnonnull off, len, t, r2, cst, hs)) (w : wp_ d k nL rt (t, lv, r, h) Q) : wp_ d k nL rt (pc, lv, .ref x :: r, h) Q := w_s (F' := (t, lv, r, h)) h1 (fun _ => rfl) w
/-- ends -/
theorem r_ret (h1 : pm_ins k pc = some (.return_, len, r1, r2, cst, hs)) (w : Q (none, h)) : wp_ d k nL none (pc, lv, [], h) Q := w_e h1 (fun _ => rfl) w
theorem r_ri {x : Int32} (h1 : pm_ins k pc = some (.ireturn, len, r1, r2, cst, hs)) (w : Q (some (.int x), h)) : wp_ d k nL (some .int) (pc, lv, [.int x], h) Q := w_e h1 (fun _ => rfl) w
theorem r_rz (h1 : pm_ins k pc = some (.ireturn, len, r1, r2, cst, hs)) (ha : a = 0 ∨ a = 1) (w : Q (some (.int (Int32.ofInt a)), h)) : wp_ d k nL (some .boolean) (pc, lv, [.int (Int32.ofInt a)], h) Q := by
  refine w_e h1 (fun _ => ?_) w
  show pm_o6 h (if Int32.ofInt a = 0 ∨ Int32.ofInt a = 1 then some (some (.int (Int32.ofInt a))) else none) = _
  rw [if_pos (by rcases ha with rfl | rfl; exact Or.inl (by decide); exact Or.inr (by decide))]
  rfl
theorem r_rl {x : Int64} (h1 : pm_ins k pc = some (.lreturn, len, r1, r2, cst, hs)) (w : Q (some (.long x), h)) : wp_ d k nL (some .long) (pc, lv, [.long x], h) Q := w_e h1 (fun _ => rfl) w
theorem r_rao {c : String} {x : Option Nat} (h1 : pm_ins k pc = some (.areturn, len, r1, r2, cst, hs)) (w : Q (some (mv x), h)) : wp_ d k nL (some (.object c)) (pc, lv, [mv x], h) Q := by
  refine w_e h1 (fun _ => ?_) w
  cases x <;> rfl
theorem r_raa {c : FieldType} {x : Option Nat} (h1 : pm_ins k pc = some (.areturn, len, r1, r2, cst, hs)) (w : Q (some (mv x), h)) : wp_ d k nL (some (.array c)) (pc, lv, [mv x], h) Q := by
  refine w_e h1 (fun _ => ?_) w
  cases x <;> rfl
end RU
abbrev mZ : Type := Nat → Nat → Int
abbrev mP : Type := Nat → Nat → Option Nat
abbrev mS : Type := List (Nat × Nat × Nat × Nat)
section RM
variable {d k nL : Nat} {rt : Option FieldType} {Q : pm_R → Prop} {pc pc' len r1 r2 x a n : Nat} {cst : Int} {hs : List (Nat × Nat)} {lv : pm_L} {st r : List Value} {z w z0 w0 : mZ} {p : mP} {S : mS} {v e : Int}
/-- fields -/
theorem r_gi (h1 : pm_ins k pc = some (.getfield x, len, r1, r2, cst, hs)) (hp : pc + 3 = pc') (sh : msh mshl a = some (0, r1, 0)) (hf : (mft r1)[r2]? = some 0) (hv : z a r2 = v) (c : wp_ d k nL rt (pc', lv, .int (Int32.ofInt v) :: r, mk z w p) Q) : wp_ d k nL rt (pc, lv, .ref a :: r, mk z w p) Q := by
  subst hv hp
  exact w_s h1 (fun _ => q_gi sh hf) c
theorem r_gl (h1 : pm_ins k pc = some (.getfield x, len, r1, r2, cst, hs)) (hp : pc + 3 = pc') (sh : msh mshl a = some (0, r1, 0)) (hf : (mft r1)[r2]? = some 1) (hv : w a r2 = v) (c : wp_ d k nL rt (pc', lv, .long (Int64.ofInt v) :: r, mk z w p) Q) : wp_ d k nL rt (pc, lv, .ref a :: r, mk z w p) Q := by
  subst hv hp
  exact w_s h1 (fun _ => q_gl sh hf) c
theorem r_gr {b : Nat} (h1 : pm_ins k pc = some (.getfield x, len, r1, r2, cst, hs)) (hp : pc + 3 = pc') (sh : msh mshl a = some (0, r1, 0)) (hf : (mft r1)[r2]? = some 3) (hv : p a r2 = some b) (c : wp_ d k nL rt (pc', lv, .ref b :: r, mk z w p) Q) : wp_ d k nL rt (pc, lv, .ref a :: r, mk z w p) Q := by
  subst hp
  exact w_s h1 (fun _ => q_gr sh hf hv) c
theorem r_gn (h1 : pm_ins k pc = some (.getfield x, len, r1, r2, cst, hs)) (hp : pc + 3 = pc') (sh : msh mshl a = some (0, r1, 0)) (hf : (mft r1)[r2]? = some 3) (hv : p a r2 = none) (c : wp_ d k nL rt (pc', lv, .null :: r, mk z w p) Q) : wp_ d k nL rt (pc, lv, .ref a :: r, mk z w p) Q := by
  subst hp
  exact w_s h1 (fun _ => q_gr sh hf hv) c
theorem fit_b {v : Int} (h : v = 0 ∨ v = 1) : pm_fit 2 (.int (Int32.ofInt v)) = true := by rcases h with rfl | rfl <;> rfl
theorem r_pi (h1 : pm_ins k pc = some (.putfield x, len, r1, r2, cst, hs)) (hp : pc + 3 = pc') (sh : msh mshl a = some (0, r1, 0)) (hf : (mft r1)[r2]? = some 0) (hc : pm_fit cst (.int (Int32.ofInt v)) = true) (hst : st_ S z0 w0 z w) (hi : inS S a r2) (hk : ok_t ((zkl[a]?).getD (.inr [])) r2 v) (c : ∀ z', z' = mu z a r2 v → st_ S z0 w0 z' w → wp_ d k nL rt (pc', lv, r, mk z' w p) Q) : wp_ d k nL rt (pc, lv, .int (Int32.ofInt v) :: .ref a :: r, mk z w p) Q := by
  subst hp
  exact w_s h1 (fun _ => q_pi sh hf hc) (c _ rfl (st_z hst hi hk))
theorem r_pl (h1 : pm_ins k pc = some (.putfield x, len, r1, r2, cst, hs)) (hp : pc + 3 = pc') (sh : msh mshl a = some (0, r1, 0)) (hf : (mft r1)[r2]? = some 1) (hc : cst = 1) (hst : st_ S z0 w0 z w) (hi : inS S a r2) (hk : ok_t ((wkl[a]?).getD (.inr [])) r2 v) (c : ∀ w', w' = mu w a r2 v → st_ S z0 w0 z w' → wp_ d k nL rt (pc', lv, r, mk z w' p) Q) : wp_ d k nL rt (pc, lv, .long (Int64.ofInt v) :: .ref a :: r, mk z w p) Q := by
  subst hp
  exact w_s h1 (fun _ => q_pl sh hf hc) (c _ rfl (st_w hst hi hk))
theorem r_pr {b : Option Nat} {p' : mP} (h1 : pm_ins k pc = some (.putfield x, len, r1, r2, cst, hs)) (hp : pc + 3 = pc') (sh : msh mshl a = some (0, r1, 0)) (hf : (mft r1)[r2]? = some 3) (hc : cst = 3) (hu : mu p a r2 b = p') (c : wp_ d k nL rt (pc', lv, r, mk z w p') Q) : wp_ d k nL rt (pc, lv, mv b :: .ref a :: r, mk z w p) Q := by
  subst hp hu
  exact w_s h1 (fun _ => q_pr sh hf hc) c
/-- arrays -/
theorem sh_pos {t : mt} (sh : msh mshl a = some t) : ∃ b, a = b + 1 := by
  cases a with
  | zero => cases sh
  | succ b => exact ⟨b, rfl⟩
theorem r_ia (h1 : pm_ins k pc = some (.iaload, len, r1, r2, cst, hs)) (hp : pc + 1 = pc') (sh : msh mshl a = some (1, 0, n)) (hb : Nat.ble n 100000 = true) (h0 : 0 ≤ e) (hn : e < n) (hv : z a e.toNat = v) (c : wp_ d k nL rt (pc', lv, .int (Int32.ofInt v) :: r, mk z w p) Q) : wp_ d k nL rt (pc, lv, .int (Int32.ofInt e) :: .ref a :: r, mk z w p) Q := by
  subst hv hp
  obtain ⟨b, rfl⟩ := sh_pos sh
  have := Nat.le_of_ble_eq_true hb
  exact w_s h1 (fun _ => q_ai sh h0 hn (by omega)) c
theorem r_ba {kd : Nat} (h1 : pm_ins k pc = some (.baload, len, r1, r2, cst, hs)) (hp : pc + 1 = pc') (sh : msh mshl a = some (1, kd, n)) (hkd : kd = 2 ∨ kd = 3) (hb : Nat.ble n 100000 = true) (h0 : 0 ≤ e) (hn : e < n) (hv : z a e.toNat = v) (c : wp_ d k nL rt (pc', lv, .int (Int32.ofInt v) :: r, mk z w p) Q) : wp_ d k nL rt (pc, lv, .int (Int32.ofInt e) :: .ref a :: r, mk z w p) Q := by
  subst hv hp
  have := Nat.le_of_ble_eq_true hb
  exact w_s h1 (fun _ => q_ab hkd sh h0 hn (by omega)) c
theorem r_la (h1 : pm_ins k pc = some (.laload, len, r1, r2, cst, hs)) (hp : pc + 1 = pc') (sh : msh mshl a = some (1, 1, n)) (hb : Nat.ble n 100000 = true) (h0 : 0 ≤ e) (hn : e < n) (hv : w a e.toNat = v) (c : wp_ d k nL rt (pc', lv, .long (Int64.ofInt v) :: r, mk z w p) Q) : wp_ d k nL rt (pc, lv, .int (Int32.ofInt e) :: .ref a :: r, mk z w p) Q := by
  subst hv hp
  have := Nat.le_of_ble_eq_true hb
  exact w_s h1 (fun _ => q_al sh h0 hn (by omega)) c
theorem r_aa {kd b : Nat} (h1 : pm_ins k pc = some (.aaload, len, r1, r2, cst, hs)) (hp : pc + 1 = pc') (sh : msh mshl a = some (1, kd, n)) (hkd : kd = 4 ∨ kd = 5 ∨ kd = 6) (hb : Nat.ble n 100000 = true) (h0 : 0 ≤ e) (hn : e < n) (hv : p a e.toNat = some b) (c : wp_ d k nL rt (pc', lv, .ref b :: r, mk z w p) Q) : wp_ d k nL rt (pc, lv, .int (Int32.ofInt e) :: .ref a :: r, mk z w p) Q := by
  subst hp
  have := Nat.le_of_ble_eq_true hb
  exact w_s h1 (fun _ => q_aa hkd sh h0 hn (by omega) hv) c
theorem r_len {kd : Nat} (h1 : pm_ins k pc = some (.arraylength, len, r1, r2, cst, hs)) (hp : pc + 1 = pc') (sh : msh mshl a = some (1, kd, n)) (hkd : kd ≤ 6) (c : wp_ d k nL rt (pc', lv, .int (Int32.ofInt n) :: r, mk z w p) Q) : wp_ d k nL rt (pc, lv, .ref a :: r, mk z w p) Q := by
  subst hp
  obtain ⟨b, rfl⟩ := sh_pos sh
  exact w_s h1 (fun _ => q_len hkd sh) c
theorem r_is (h1 : pm_ins k pc = some (.iastore, len, r1, r2, cst, hs)) (hp : pc + 1 = pc') (sh : msh mshl a = some (1, 0, n)) (hb : Nat.ble n 100000 = true) (h0 : 0 ≤ e) (hn : e < n) (hst : st_ S z0 w0 z w) (hi : inS S a e.toNat) (hk : ok_t ((zkl[a]?).getD (.inr [])) e.toNat v) (c : ∀ z', z' = mu z a e.toNat v → st_ S z0 w0 z' w → wp_ d k nL rt (pc', lv, r, mk z' w p) Q) : wp_ d k nL rt (pc, lv, .int (Int32.ofInt v) :: .int (Int32.ofInt e) :: .ref a :: r, mk z w p) Q := by
  subst hp
  have := Nat.le_of_ble_eq_true hb
  exact w_s h1 (fun _ => q_si sh h0 hn (by omega)) (c _ rfl (st_z hst hi hk))
theorem r_zs (h1 : pm_ins k pc = some (.bastore, len, r1, r2, cst, hs)) (hp : pc + 1 = pc') (sh : msh mshl a = some (1, 3, n)) (hb : Nat.ble n 100000 = true) (h0 : 0 ≤ e) (hn : e < n) (hv : v = 0 ∨ v = 1) (hst : st_ S z0 w0 z w) (hi : inS S a e.toNat) (hk : ok_t ((zkl[a]?).getD (.inr [])) e.toNat v) (c : ∀ z', z' = mu z a e.toNat v → st_ S z0 w0 z' w → wp_ d k nL rt (pc', lv, r, mk z' w p) Q) : wp_ d k nL rt (pc, lv, .int (Int32.ofInt v) :: .int (Int32.ofInt e) :: .ref a :: r, mk z w p) Q := by
  subst hp
  have := Nat.le_of_ble_eq_true hb
  exact w_s h1 (fun _ => q_sz sh hv h0 hn (by omega)) (c _ rfl (st_z hst hi hk))
theorem r_ls (h1 : pm_ins k pc = some (.lastore, len, r1, r2, cst, hs)) (hp : pc + 1 = pc') (sh : msh mshl a = some (1, 1, n)) (hb : Nat.ble n 100000 = true) (h0 : 0 ≤ e) (hn : e < n) (hst : st_ S z0 w0 z w) (hi : inS S a e.toNat) (hk : ok_t ((wkl[a]?).getD (.inr [])) e.toNat v) (c : ∀ w', w' = mu w a e.toNat v → st_ S z0 w0 z w' → wp_ d k nL rt (pc', lv, r, mk z w' p) Q) : wp_ d k nL rt (pc, lv, .long (Int64.ofInt v) :: .int (Int32.ofInt e) :: .ref a :: r, mk z w p) Q := by
  subst hp
  have := Nat.le_of_ble_eq_true hb
  exact w_s h1 (fun _ => q_sl sh h0 hn (by omega)) (c _ rfl (st_w hst hi hk))
theorem q_sb {cs : Nat → List Value} {ms : Nat → Option pm_M} {call : pm_C} {scr : pm_S} {y : Int32} (sh : msh mshl a = some (1, 2, n)) (h0 : 0 ≤ e) (hn : e < n) (hb : n < 2147483648) (hv : vp_nar .byte y = Int32.ofInt v) : pm_step cs ms call scr nL rt (.bastore, len, r1, r2, cst, hs) (pc, lv, .int y :: .int (Int32.ofInt e) :: .ref a :: r, mk z w p) = some (.inl (pc + 1, lv, r, mk (mu z a e.toNat v) w p)) := by
  show pm_o4 _ _ (pm_wrs _ a r (pm_wrb (Int32.ofInt e) y (pm_cell (mkg mft (z, w, p) mshl 1) a))) = _
  have e1 : pm_wrb (Int32.ofInt e) y (pm_cell (mkg mft (z, w, p) mshl 1) a) = some (mce mft (1, 2, n) (mu z a e.toNat v, w, p) a) := by
    rw [mk_cell, sh]
    show (match pm_ix (Int32.ofInt e) n with | some j => some (Sum.inl (2, n, Sum.inl (upd (fun i => Int32.ofInt (z a i)) j (vp_nar .byte y)))) | none => (none : Option pm_E)) = _
    rw [ofI_ix h0 hn hb, hv]
    show some (Sum.inl (2, n, Sum.inl (upd (fun i => Int32.ofInt (z a i)) e.toNat (Int32.ofInt v)))) = _
    rw [mu_upd]
    rfl
  rw [e1]
  show some (Sum.inl (pc + 1, lv, r, pm_wr _ a (mce mft (1, 2, n) (mu z a e.toNat v, w, p) a))) = _
  rw [mk_wr (m := (z, w, p)) sh (fun b t hb => mce_i (m := (z, w, p)) hb t)]
/-- ends of methods -/
def poI (S : mS) (z0 w0 : mZ) (E : Int → mZ → mZ → mP → Prop) : pm_R → Prop := fun R => ∃ v z w p, R = (some (.int (Int32.ofInt v)), mk z w p) ∧ inI v ∧ st_ S z0 w0 z w ∧ E v z w p
def poL (S : mS) (z0 w0 : mZ) (E : Int → mZ → mZ → mP → Prop) : pm_R → Prop := fun R => ∃ v z w p, R = (some (.long (Int64.ofInt v)), mk z w p) ∧ inL v ∧ st_ S z0 w0 z w ∧ E v z w p
def poV (S : mS) (z0 w0 : mZ) (E : mZ → mZ → mP → Prop) : pm_R → Prop := fun R => ∃ z w p, R = (none, mk z w p) ∧ st_ S z0 w0 z w ∧ E z w p
def poR (S : mS) (z0 w0 : mZ) (E : Option Nat → mZ → mZ → mP → Prop) : pm_R → Prop := fun R => ∃ o z w p, R = (some (mv o), mk z w p) ∧ st_ S z0 w0 z w ∧ E o z w p
theorem po_I {E : Int → mZ → mZ → mP → Prop} (hst : st_ S z0 w0 z w) (hv : inI v) (hE : E v z w p) : poI S z0 w0 E (some (.int (Int32.ofInt v)), mk z w p) := ⟨v, z, w, p, rfl, hv, hst, hE⟩
theorem po_L {E : Int → mZ → mZ → mP → Prop} (hst : st_ S z0 w0 z w) (hv : inL v) (hE : E v z w p) : poL S z0 w0 E (some (.long (Int64.ofInt v)), mk z w p) := ⟨v, z, w, p, rfl, hv, hst, hE⟩
theorem po_V {E : mZ → mZ → mP → Prop} (hst : st_ S z0 w0 z w) (hE : E z w p) : poV S z0 w0 E (none, mk z w p) := ⟨z, w, p, rfl, hst, hE⟩
theorem po_R {o : Option Nat} {E : Option Nat → mZ → mZ → mP → Prop} (hst : st_ S z0 w0 z w) (hE : E o z w p) : poR S z0 w0 E (some (mv o), mk z w p) := ⟨o, z, w, p, rfl, hst, hE⟩

variable {k' na ci nl : Nat} {y : MethodName} {bs : ByteArray} {rt' : Option FieldType} {as : List Value} {S' : mS}
theorem r_cVI {E : Int → mZ → mZ → mP → Prop} (h1 : pm_ins k pc = some (.invokevirtual x, len, k', r2, cst, hs)) (hp : pc + 3 = pc') (hm : pm_ms k' = some (y, bs, nl, rt', na, ci)) (hq : pm_pop_n na [] st = some (as, .ref a :: r)) (hw : Nat.ble (pm_wt r) 8 = true) (sh : msh mshl a = some (0, ci, 0)) (hc : wc d k' (.ref a :: as) (mk z w p) (poI S' z w E)) (c : ∀ v z1 w1 p1, inI v → st_ S' z w z1 w1 → E v z1 w1 p1 → wp_ d k nL rt (pc', lv, .int (Int32.ofInt v) :: r, mk z1 w1 p1) Q) : wp_ d k nL rt (pc, lv, st, mk z w p) Q := by
  subst hp
  refine w_v h1 hm hq hw (mk_cls sh) hc (fun u h' q => ?_)
  obtain ⟨v, z1, w1, p1, e1, e2, e3, e4⟩ := q
  cases e1
  exact c v z1 w1 p1 e2 e3 e4
theorem r_cSI {E : Int → mZ → mZ → mP → Prop} (h1 : pm_ins k pc = some (.invokestatic x, len, k', r2, cst, hs)) (hp : pc + 3 = pc') (hm : pm_ms k' = some (y, bs, nl, rt', na, ci)) (hq : pm_pop_n na [] st = some (as, r)) (hw : Nat.ble (pm_wt r) 8 = true) (hc : wc d k' as (mk z w p) (poI S' z w E)) (c : ∀ v z1 w1 p1, inI v → st_ S' z w z1 w1 → E v z1 w1 p1 → wp_ d k nL rt (pc', lv, .int (Int32.ofInt v) :: r, mk z1 w1 p1) Q) : wp_ d k nL rt (pc, lv, st, mk z w p) Q := by
  subst hp
  refine w_st h1 hm hq hw hc (fun u h' q => ?_)
  obtain ⟨v, z1, w1, p1, e1, e2, e3, e4⟩ := q
  cases e1
  exact c v z1 w1 p1 e2 e3 e4
theorem r_cVL {E : Int → mZ → mZ → mP → Prop} (h1 : pm_ins k pc = some (.invokevirtual x, len, k', r2, cst, hs)) (hp : pc + 3 = pc') (hm : pm_ms k' = some (y, bs, nl, rt', na, ci)) (hq : pm_pop_n na [] st = some (as, .ref a :: r)) (hw : Nat.ble (pm_wt r) 8 = true) (sh : msh mshl a = some (0, ci, 0)) (hc : wc d k' (.ref a :: as) (mk z w p) (poL S' z w E)) (c : ∀ v z1 w1 p1, inL v → st_ S' z w z1 w1 → E v z1 w1 p1 → wp_ d k nL rt (pc', lv, .long (Int64.ofInt v) :: r, mk z1 w1 p1) Q) : wp_ d k nL rt (pc, lv, st, mk z w p) Q := by
  subst hp
  refine w_v h1 hm hq hw (mk_cls sh) hc (fun u h' q => ?_)
  obtain ⟨v, z1, w1, p1, e1, e2, e3, e4⟩ := q
  cases e1
  exact c v z1 w1 p1 e2 e3 e4
theorem r_cSL {E : Int → mZ → mZ → mP → Prop} (h1 : pm_ins k pc = some (.invokestatic x, len, k', r2, cst, hs)) (hp : pc + 3 = pc') (hm : pm_ms k' = some (y, bs, nl, rt', na, ci)) (hq : pm_pop_n na [] st = some (as, r)) (hw : Nat.ble (pm_wt r) 8 = true) (hc : wc d k' as (mk z w p) (poL S' z w E)) (c : ∀ v z1 w1 p1, inL v → st_ S' z w z1 w1 → E v z1 w1 p1 → wp_ d k nL rt (pc', lv, .long (Int64.ofInt v) :: r, mk z1 w1 p1) Q) : wp_ d k nL rt (pc, lv, st, mk z w p) Q := by
  subst hp
  refine w_st h1 hm hq hw hc (fun u h' q => ?_)
  obtain ⟨v, z1, w1, p1, e1, e2, e3, e4⟩ := q
  cases e1
  exact c v z1 w1 p1 e2 e3 e4
theorem r_cVV {E : mZ → mZ → mP → Prop} (h1 : pm_ins k pc = some (.invokevirtual x, len, k', r2, cst, hs)) (hp : pc + 3 = pc') (hm : pm_ms k' = some (y, bs, nl, rt', na, ci)) (hq : pm_pop_n na [] st = some (as, .ref a :: r)) (hw : Nat.ble (pm_wt r) 8 = true) (sh : msh mshl a = some (0, ci, 0)) (hc : wc d k' (.ref a :: as) (mk z w p) (poV S' z w E)) (c : ∀ z1 w1 p1, st_ S' z w z1 w1 → E z1 w1 p1 → wp_ d k nL rt (pc', lv, r, mk z1 w1 p1) Q) : wp_ d k nL rt (pc, lv, st, mk z w p) Q := by
  subst hp
  refine w_v h1 hm hq hw (mk_cls sh) hc (fun u h' q => ?_)
  obtain ⟨z1, w1, p1, e1, e3, e4⟩ := q
  cases e1
  exact c z1 w1 p1 e3 e4
theorem r_cSV {E : mZ → mZ → mP → Prop} (h1 : pm_ins k pc = some (.invokestatic x, len, k', r2, cst, hs)) (hp : pc + 3 = pc') (hm : pm_ms k' = some (y, bs, nl, rt', na, ci)) (hq : pm_pop_n na [] st = some (as, r)) (hw : Nat.ble (pm_wt r) 8 = true) (hc : wc d k' as (mk z w p) (poV S' z w E)) (c : ∀ z1 w1 p1, st_ S' z w z1 w1 → E z1 w1 p1 → wp_ d k nL rt (pc', lv, r, mk z1 w1 p1) Q) : wp_ d k nL rt (pc, lv, st, mk z w p) Q := by
  subst hp
  refine w_st h1 hm hq hw hc (fun u h' q => ?_)
  obtain ⟨z1, w1, p1, e1, e3, e4⟩ := q
  cases e1
  exact c z1 w1 p1 e3 e4
theorem r_cVR {E : Option Nat → mZ → mZ → mP → Prop} (h1 : pm_ins k pc = some (.invokevirtual x, len, k', r2, cst, hs)) (hp : pc + 3 = pc') (hm : pm_ms k' = some (y, bs, nl, rt', na, ci)) (hq : pm_pop_n na [] st = some (as, .ref a :: r)) (hw : Nat.ble (pm_wt r) 8 = true) (sh : msh mshl a = some (0, ci, 0)) (hc : wc d k' (.ref a :: as) (mk z w p) (poR S' z w E)) (c : ∀ o z1 w1 p1, st_ S' z w z1 w1 → E o z1 w1 p1 → wp_ d k nL rt (pc', lv, mv o :: r, mk z1 w1 p1) Q) : wp_ d k nL rt (pc, lv, st, mk z w p) Q := by
  subst hp
  refine w_v h1 hm hq hw (mk_cls sh) hc (fun u h' q => ?_)
  obtain ⟨o, z1, w1, p1, e1, e3, e4⟩ := q
  cases e1
  exact c o z1 w1 p1 e3 e4
end RM
end
section
/-! frames, rows, switches -/
theorem inS_0 {a1 a2 i1 i2 a i : Nat} {r : mS} (h1 : a1 ≤ a) (h2 : a ≤ a2) (h3 : i1 ≤ i) (h4 : i ≤ i2) : inS ((a1, a2, i1, i2) :: r) a i := Or.inl ⟨h1, h2, h3, h4⟩
theorem inS_s {q : Nat × Nat × Nat × Nat} {a i : Nat} {r : mS} (h : inS r a i) : inS (q :: r) a i := Or.inr h
theorem notS_n {a i : Nat} : ¬ inS [] a i := fun h => h
theorem notS_c {a1 a2 i1 i2 a i : Nat} {r : mS} (h : ¬ (a1 ≤ a ∧ a ≤ a2 ∧ i1 ≤ i ∧ i ≤ i2)) (hr : ¬ inS r a i) : ¬ inS ((a1, a2, i1, i2) :: r) a i := fun q => q.elim h hr
theorem subS_n {S : mS} : ∀ a i, inS [] a i → inS S a i := fun _ _ h => h.elim
theorem subS_c {a1 a2 i1 i2 : Nat} {r S : mS} (h : ∀ a i, a1 ≤ a → a ≤ a2 → i1 ≤ i → i ≤ i2 → inS S a i) (hr : ∀ a i, inS r a i → inS S a i) : ∀ a i, inS ((a1, a2, i1, i2) :: r) a i → inS S a i := fun a i q => q.elim (fun e => h a i e.1 e.2.1 e.2.2.1 e.2.2.2) (hr a i)
def covB (q : Nat × Nat × Nat × Nat) : mS → Bool
  | [] => false
  | s :: r => match (Nat.ble s.1 q.1 && Nat.ble q.2.1 s.2.1 && (Nat.ble s.2.2.1 q.2.2.1 && Nat.ble q.2.2.2 s.2.2.2)) with
    | true => true
    | false => covB q r
def subB : mS → mS → Bool
  | [], _ => true
  | q :: r, S => match covB q S with
    | true => subB r S
    | false => false
theorem cov_B {q : Nat × Nat × Nat × Nat} : ∀ {S : mS}, covB q S = true → ∀ a i, q.1 ≤ a → a ≤ q.2.1 → q.2.2.1 ≤ i → i ≤ q.2.2.2 → inS S a i := by
  intro S
  induction S with
  | nil => intro h; cases h
  | cons s r ih =>
    intro h a i h1 h2 h3 h4
    unfold covB at h
    split at h
    · rename_i e
      rw [Bool.and_eq_true, Bool.and_eq_true, Bool.and_eq_true] at e
      have e1 := Nat.le_of_ble_eq_true e.1.1
      have e2 := Nat.le_of_ble_eq_true e.1.2
      have e3 := Nat.le_of_ble_eq_true e.2.1
      have e4 := Nat.le_of_ble_eq_true e.2.2
      exact Or.inl ⟨by omega, by omega, by omega, by omega⟩
    · exact Or.inr (ih h a i h1 h2 h3 h4)
theorem sub_B {S : mS} : ∀ {S' : mS}, subB S' S = true → ∀ a i, inS S' a i → inS S a i := by
  intro S'
  induction S' with
  | nil => intro _ a i h; exact h.elim
  | cons q r ih =>
    intro h a i hq
    unfold subB at h
    split at h
    · rename_i e
      exact hq.elim (fun e2 => cov_B e a i e2.1 e2.2.1 e2.2.2.1 e2.2.2.2) (ih h a i)
    · cases h
theorem w_hxi {d k nL : Nat} {rt : Option FieldType} {Q : pm_R → Prop} {pc : Nat} {lv : pm_L} {r : List Value} {h : pm_H} {a : Int} (w : ∀ e : Int, (-2147483648 ≤ e ∧ e ≤ 2147483647) → (-2147483648 ≤ a → a ≤ 2147483647 → e = a) → wp_ d k nL rt (pc, lv, .int (Int32.ofInt e) :: r, h) Q) : wp_ d k nL rt (pc, lv, .int (Int32.ofInt a) :: r, h) Q := by
  obtain ⟨e, h1, h2⟩ := hv_i (Int32.ofInt a)
  rw [h2]
  refine w e ⟨h1.1, by have := h1.2; omega⟩ (fun h3 h4 => ?_)
  exact ((ofI_eq ⟨h3, by omega⟩ h1).mp h2).symm
theorem w_hxl {d k nL : Nat} {rt : Option FieldType} {Q : pm_R → Prop} {pc : Nat} {lv : pm_L} {r : List Value} {h : pm_H} {a : Int} (w : ∀ e : Int, (-9223372036854775808 ≤ e ∧ e ≤ 9223372036854775807) → (-9223372036854775808 ≤ a → a ≤ 9223372036854775807 → e = a) → wp_ d k nL rt (pc, lv, .long (Int64.ofInt e) :: r, h) Q) : wp_ d k nL rt (pc, lv, .long (Int64.ofInt a) :: r, h) Q := by
  obtain ⟨e, h1, h2⟩ := hv_l (Int64.ofInt a)
  rw [h2]
  refine w e ⟨h1.1, by have := h1.2; omega⟩ (fun h3 h4 => ?_)
  exact ((ofL_eq ⟨h3, by omega⟩ h1).mp h2).symm
/-- a row of 18 longs; one that takes any -/
def lr (a : Nat) : Prop := msh mshl a = some (1, 1, 18) ∧ ∀ w : mZ, rw_ w → ∀ i, i < 18 → -9223372036854775808 ≤ w a i ∧ w a i ≤ 9223372036854775807
theorem lr_rd {a : Nat} (h : lr a) {w : mZ} (R : rw_ w) {i : Nat} (hi : i < 18) : -9223372036854775808 ≤ w a i ∧ w a i ≤ 9223372036854775807 := h.2 w R i hi
def wrr (a : Nat) : Prop := ∀ (i : Nat) (v : Int), (-9223372036854775808 ≤ v ∧ v ≤ 9223372036854775807) → ok_t ((wkl[a]?).getD (.inr [])) i v
theorem wrr_w {a : Nat} (h : wrr a) {i : Nat} {v : Int} (hv : -9223372036854775808 ≤ v ∧ v ≤ 9223372036854775807) : ok_t ((wkl[a]?).getD (.inr [])) i v := h i v hv
theorem lr_15 : lr 15 := ⟨sh_15, fun w R i h => by have := rd_15 R h; exact ⟨by omega, by omega⟩⟩
theorem lr_34 : lr 34 := ⟨sh_34, fun w R i h => by have := rd_34 R h; exact ⟨by omega, by omega⟩⟩
theorem lr_36 : lr 36 := ⟨sh_36, fun w R i h => by have := rd_36 R h; exact ⟨by omega, by omega⟩⟩
theorem lr_157 : lr 157 := ⟨sh_157, fun w R i h => by have := rd_157 R h; exact ⟨by omega, by omega⟩⟩
theorem lr_158 : lr 158 := ⟨sh_158, fun w R i h => by have := rd_158 R h; exact ⟨by omega, by omega⟩⟩
theorem lr_41 {k : Nat} (hk : k < 61) : lr (41 + k) := ⟨sh_41 hk, fun w R i h => by have := rd_41 hk R h; exact ⟨by omega, by omega⟩⟩
theorem lr_144 {k : Nat} (hk : k < 3) : lr (144 + k) := ⟨sh_144 hk, fun w R i h => by have := rd_144 hk R h; exact ⟨by omega, by omega⟩⟩
theorem lr_149 {k : Nat} (hk : k < 8) : lr (149 + k) := ⟨sh_149 hk, fun w R i h => by have := rd_149 hk R h; exact ⟨by omega, by omega⟩⟩
theorem lr_T8 {t k : Nat} (ht : isT t) (hk : k < 8) : lr (t + 8 + k) := ⟨sh_T8 ht hk, fun w R i h => by have := rd_T8 ht hk R h; exact ⟨by omega, by omega⟩⟩
theorem wrr_15 : wrr 15 := fun i v h => wr_15 h
theorem wrr_157 : wrr 157 := fun i v h => wr_157 h
theorem wrr_158 : wrr 158 := fun i v h => wr_158 h
theorem wrr_149 {k : Nat} (hk : k < 8) : wrr (149 + k) := fun i v h => wr_149 hk h
theorem r_sw {d k nL : Nat} {rt : Option FieldType} {Q : pm_R → Prop} {pc len r1 r2 t : Nat} {cst dflt lo hi a : Int} {offs : Array Int} {hs : List (Nat × Nat)} {lv : pm_L} {r : List Value} {h : pm_H} (h1 : pm_ins k pc = some (.tableswitch dflt lo hi offs, len, r1, r2, cst, hs)) (ha : inI a) (hj : (if a < lo ∨ hi < a then pm_sw pc dflt r else match offs[(a - lo).toNat]? with
      | some off => pm_sw pc off r
      | none => none) = some (t, r)) (w : wp_ d k nL rt (t, lv, r, h) Q) : wp_ d k nL rt (pc, lv, .int (Int32.ofInt a) :: r, h) Q := by
  refine w_s (F' := (t, lv, r, h)) h1 (fun call => pm_sJ rfl ?_) w
  show (if (Int32.ofInt a).toInt < lo ∨ hi < (Int32.ofInt a).toInt then pm_sw pc dflt r else match offs[((Int32.ofInt a).toInt - lo).toNat]? with
      | some off => pm_sw pc off r
      | none => none) = some (t, r)
  rw [ofI_toInt ha]
  exact hj
theorem ofL_shr1 {a : Int} (ha : inL a) : Int64.ofInt a >>> ((Int32.ofInt 1).toInt64 &&& 63) = Int64.ofInt (a / 2) := by
  apply Int64.toInt_inj.1
  have b1 : (Int64.ofInt a >>> ((Int32.ofInt 1).toInt64 &&& 63)).toInt = ((Int64.ofInt a).toBitVec.sshiftRight 1).toInt := rfl
  rw [b1, BitVec.toInt_sshiftRight]
  have b2 : (Int64.ofInt a).toBitVec.toInt = a := ofL_toInt ha
  rw [b2, Int.shiftRight_eq_div_pow, ofL_toInt ⟨by have := ha.1; omega, by have := ha.2; omega⟩]
  rfl
theorem r_lshr1 {d k nL : Nat} {rt : Option FieldType} {Q : pm_R → Prop} {pc pc' len r1 r2 : Nat} {cst a : Int} {hs : List (Nat × Nat)} {lv : pm_L} {r : List Value} {h : pm_H} (h1 : pm_ins k pc = some (.lshr, len, r1, r2, cst, hs)) (hp : pc + 1 = pc') (ha : inL a) (w : wp_ d k nL rt (pc', lv, .long (Int64.ofInt (a / 2)) :: r, h) Q) : wp_ d k nL rt (pc, lv, .int (Int32.ofInt 1) :: .long (Int64.ofInt a) :: r, h) Q := r_al h1 rfl hp (congrArg (fun y => some (Value.long y :: r)) (ofL_shr1 ha)) w
theorem mu_eqi {α : Type} {z : Nat → Nat → α} {a i j : Nat} {e : α} (h : j = i) : mu z a i e a j = e := if_pos ⟨rfl, h⟩
/-- how many of the first n are negative -/
def ngc (f : Nat → Int) : Nat → Int
  | 0 => 0
  | n + 1 => ngc f n + (if f n < 0 then 1 else 0)
theorem ngc_b (f : Nat → Int) : ∀ n : Nat, 0 ≤ ngc f n ∧ ngc f n ≤ n
  | 0 => ⟨Int.le_refl 0, Int.le_refl 0⟩
  | n + 1 => by
    have := ngc_b f n
    unfold ngc
    split <;> omega
theorem ngc_c {f g : Nat → Int} : ∀ n : Nat, (∀ j, j < n → g j = f j) → ngc g n = ngc f n
  | 0, _ => rfl
  | n + 1, h => by
    unfold ngc
    rw [ngc_c n (fun j hj => h j (by omega)), h n (by omega)]
theorem ngc_w {f g : Nat → Int} {i : Nat} (h : ∀ j, j ≠ i → g j = f j) (h1 : f i < 0) (h2 : 0 ≤ g i) : ∀ n : Nat, i < n → ngc g n = ngc f n - 1
  | 0, hi => absurd hi (by omega)
  | n + 1, hi => by
    unfold ngc
    by_cases e : i = n
    · subst e
      rw [ngc_c i (fun j hj => h j (by omega)), if_pos h1, if_neg (by omega)]
      omega
    · rw [ngc_w h h1 h2 n (by omega), h n (fun q => e q.symm)]
      omega
def ng_ (z : mZ) : Int := ngc (z 242) 36
theorem ng_b (z : mZ) : 0 ≤ ng_ z ∧ ng_ z ≤ 36 := ngc_b (z 242) 36
theorem ng_w {z z' : mZ} {i : Nat} {v : Int} (h : z' = mu z 242 i v) (h1 : z 242 i < 0) (h2 : 0 ≤ v) (hi : i < 36) : ng_ z' = ng_ z - 1 := by
  subst h
  exact ngc_w (f := z 242) (g := mu z 242 i v 242) (fun j hj => mu_ne (fun q => hj q.2)) h1 (by rw [mu_eq]; exact h2) 36 hi
end

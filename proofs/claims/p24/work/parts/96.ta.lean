/-! bytes as they are: shifts by a variable, narrowing, byte stores; the tape's bytes -/
theorem r_shrv {d k nL : Nat} {rt : Option FieldType} {Q : pm_R → Prop} {pc pc' len r1 r2 : Nat} {cst a e : Int} {hs : List (Nat × Nat)} {lv : pm_L} {r : List Value} {h : pm_H} (h1 : pm_ins k pc = some (.ishr, len, r1, r2, cst, hs)) (hp : pc + 1 = pc') (ha : inI a) (h0 : 0 ≤ e) (he : e ≤ 31) (w : ∀ q, a / 2 ^ e.toNat = q → inI q → wp_ d k nL rt (pc', lv, .int (Int32.ofInt q) :: r, h) Q) : wp_ d k nL rt (pc, lv, .int (Int32.ofInt e) :: .int (Int32.ofInt a) :: r, h) Q := by
  have hp2 : (1 : Int) ≤ 2 ^ e.toNat := by
    have := Nat.one_le_two_pow (n := e.toNat)
    have h9 : ((1 : Nat) : Int) ≤ ((2 ^ e.toNat : Nat) : Int) := Int.ofNat_le.mpr this
    rw [Int.natCast_pow] at h9
    exact h9
  have hin : inI (a / 2 ^ e.toNat) := by
    have h3 : a / 2 ^ e.toNat * 2 ^ e.toNat ≤ a := Int.ediv_mul_le _ (by omega)
    have h4 := Int.emod_nonneg a (show (2 : Int) ^ e.toNat ≠ 0 by omega)
    have h5 := Int.emod_lt_of_pos a (show (0 : Int) < 2 ^ e.toNat by omega)
    have h6 := Int.mul_ediv_add_emod a (2 ^ e.toNat)
    generalize (2 : Int) ^ e.toNat = P at *
    generalize a / P = D at *
    constructor
    · show -2147483648 ≤ D
      apply Classical.byContradiction
      intro c
      have h7 : P * D ≤ P * -2147483649 := Int.mul_le_mul_of_nonneg_left (by omega) (by omega)
      have h8 : P * -2147483649 ≤ -2147483649 - (P - 1) := by omega
      have := ha.1
      omega
    · show D < 2147483648
      apply Classical.byContradiction
      intro c
      have h7 : P * 2147483648 ≤ P * D := Int.mul_le_mul_of_nonneg_left (by omega) (by omega)
      have := ha.2
      omega
  have k := r_shr (s := e.toNat) h1 hp ha (by omega) (w _ rfl hin)
  rw [show ((e.toNat : Nat) : Int) = e by omega] at k
  exact k
theorem bm_8 (a : Int) : (a.bmod 256 = a % 256 ∧ a % 256 < 128) ∨ (a.bmod 256 = a % 256 - 256 ∧ 128 ≤ a % 256) := by
  have h := Int.bmod_def a 256
  split at h <;> omega
theorem nar_8 {a : Int} (ha : inI a) : (Int32.ofInt a).toInt8.toInt32 = Int32.ofInt (a.bmod 256) := by
  have b := bm_8 a
  apply Int32.toInt_inj.1
  rw [Int8.toInt_toInt32, Int32.toInt_toInt8, ofI_toInt ha, ofI_toInt ⟨by omega, by omega⟩]
theorem r_i2b {d k nL : Nat} {rt : Option FieldType} {Q : pm_R → Prop} {pc pc' len r1 r2 : Nat} {cst a : Int} {hs : List (Nat × Nat)} {lv : pm_L} {r : List Value} {h : pm_H} (h1 : pm_ins k pc = some (.i2b, len, r1, r2, cst, hs)) (hp : pc + 1 = pc') (ha : inI a) (w : ∀ v, -128 ≤ v ∧ v ≤ 127 → v % 256 = a % 256 → wp_ d k nL rt (pc', lv, .int (Int32.ofInt v) :: r, h) Q) : wp_ d k nL rt (pc, lv, .int (Int32.ofInt a) :: r, h) Q := by
  have b := bm_8 a
  exact r_al h1 rfl hp (congrArg (fun y => some (Value.int y :: r)) (nar_8 ha)) (w _ ⟨by omega, by omega⟩ (by omega))
theorem r_bsx {d k nL : Nat} {rt : Option FieldType} {Q : pm_R → Prop} {pc pc' len r1 r2 n a : Nat} {cst e v : Int} {hs : List (Nat × Nat)} {lv : pm_L} {r : List Value} {S : mS} {z0 w0 z w : mZ} {p : mP} (h1 : pm_ins k pc = some (.bastore, len, r1, r2, cst, hs)) (hp : pc + 1 = pc') (sh : msh mshl a = some (1, 2, n)) (hb : Nat.ble n 100000 = true) (h0 : 0 ≤ e) (hn : e < n) (hv : -128 ≤ v ∧ v ≤ 127) (hst : st_ S z0 w0 z w) (hi : inS S a e.toNat) (hk : ok_t ((zkl[a]?).getD (.inr [])) e.toNat v) (c : ∀ z', z' = mu z a e.toNat v → st_ S z0 w0 z' w → wp_ d k nL rt (pc', lv, r, mk z' w p) Q) : wp_ d k nL rt (pc, lv, .int (Int32.ofInt v) :: .int (Int32.ofInt e) :: .ref a :: r, mk z w p) Q := by
  subst hp
  have h9 := Nat.le_of_ble_eq_true hb
  have b := bm_8 v
  have hx : vp_nar .byte (Int32.ofInt v) = Int32.ofInt v := (nar_8 (a := v) ⟨by omega, by omega⟩).trans (by rw [show v.bmod 256 = v by omega])
  exact w_s h1 (fun _ => q_sb sh h0 hn (by omega) hx) (c _ rfl (st_z hst hi hk))
/-- the i-th byte of a number, the highest first; of five numbers -/
def fb (a : Int) (i : Nat) : Int := a / 2 ^ (24 - 8 * i) % 256
def fbs (a b c d e : Int) (j : Nat) : Int := fb (match j / 4 with
  | 0 => a
  | 1 => b
  | 2 => c
  | 3 => d
  | _ => e) (j % 4)
theorem fbs_5 {a b c d e : Int} {T1 T2 T3 T4 T5 : Nat → Int} {n : Nat} (k1 : ∀ i, i < 4 → T1 (n + i) = fb a i) (k2 : ∀ i, i < 4 → T2 (n + 4 + i) = fb b i) (k3 : ∀ i, i < 4 → T3 (n + 8 + i) = fb c i) (k4 : ∀ i, i < 4 → T4 (n + 12 + i) = fb d i) (k5 : ∀ i, i < 4 → T5 (n + 16 + i) = fb e i)
    (p2 : ∀ i, i < n + 4 → T2 i = T1 i) (p3 : ∀ i, i < n + 8 → T3 i = T2 i) (p4 : ∀ i, i < n + 12 → T4 i = T3 i) (p5 : ∀ i, i < n + 16 → T5 i = T4 i) : ∀ j, j < 20 → T5 (n + j) = fbs a b c d e j := by
  intro j hj
  unfold fbs
  rcases (show j / 4 = 0 ∨ j / 4 = 1 ∨ j / 4 = 2 ∨ j / 4 = 3 ∨ j / 4 = 4 by omega) with q | q | q | q | q
  · rw [q, p5 _ (by omega), p4 _ (by omega), p3 _ (by omega), p2 _ (by omega), show n + j = n + j % 4 by omega]; exact k1 _ (by omega)
  · rw [q, p5 _ (by omega), p4 _ (by omega), p3 _ (by omega), show n + j = n + 4 + j % 4 by omega]; exact k2 _ (by omega)
  · rw [q, p5 _ (by omega), p4 _ (by omega), show n + j = n + 8 + j % 4 by omega]; exact k3 _ (by omega)
  · rw [q, p5 _ (by omega), show n + j = n + 12 + j % 4 by omega]; exact k4 _ (by omega)
  · rw [q, show n + j = n + 16 + j % 4 by omega]; exact k5 _ (by omega)
/-- two things said of one call -/
theorem wc_and {d k : Nat} {as : List Value} {h : pm_H} {Q Q' : pm_R → Prop} (w : wc d k as h Q) (w' : wc d k as h Q') : wc d k as h (fun r => Q r ∧ Q' r) := by
  obtain ⟨f0, r, h1, h2⟩ := w
  obtain ⟨f1, r', h3, h4⟩ := w'
  have e := (h1 (max f0 f1) (by omega)).symm.trans (h3 (max f0 f1) (by omega))
  cases e
  exact ⟨f0, r, h1, h2, h4⟩

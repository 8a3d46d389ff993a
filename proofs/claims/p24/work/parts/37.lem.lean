/-! frames, rows, switches -/
theorem inS_0 {a1 a2 i1 i2 a i : Nat} {r : mS} (h1 : a1 ≤ a) (h2 : a ≤ a2) (h3 : i1 ≤ i) (h4 : i ≤ i2) : inS ((a1, a2, i1, i2) :: r) a i := Or.inl ⟨h1, h2, h3, h4⟩
theorem inS_s {q : Nat × Nat × Nat × Nat} {a i : Nat} {r : mS} (h : inS r a i) : inS (q :: r) a i := Or.inr h
theorem notS_n {a i : Nat} : ¬ inS [] a i := fun h => h
theorem notS_c {a1 a2 i1 i2 a i : Nat} {r : mS} (h : ¬ (a1 ≤ a ∧ a ≤ a2 ∧ i1 ≤ i ∧ i ≤ i2)) (hr : ¬ inS r a i) : ¬ inS ((a1, a2, i1, i2) :: r) a i := fun q => q.elim h hr
theorem subS_n {S : mS} : ∀ a i, inS [] a i → inS S a i := fun _ _ h => h.elim
theorem subS_c {a1 a2 i1 i2 : Nat} {r S : mS} (h : ∀ a i, a1 ≤ a → a ≤ a2 → i1 ≤ i → i ≤ i2 → inS S a i) (hr : ∀ a i, inS r a i → inS S a i) : ∀ a i, inS ((a1, a2, i1, i2) :: r) a i → inS S a i := fun a i q => q.elim (fun e => h a i e.1 e.2.1 e.2.2.1 e.2.2.2) (hr a i)
def covB (q : Nat × Nat × Nat × Nat) : mS → Bool
  | [] => false
  | s :: r => match (Nat.ble s.1 q.1 && Nat.ble q.2.1 s.2.1 && (Nat.ble s.2.2.1 q.2.2.1 && Nat.ble q.2.2.2 s.2.2.2)) with
    | true => true
    | false => covB q r
def subB : mS → mS → Bool
  | [], _ => true
  | q :: r, S => match covB q S with
    | true => subB r S
    | false => false
theorem cov_B {q : Nat × Nat × Nat × Nat} : ∀ {S : mS}, covB q S = true → ∀ a i, q.1 ≤ a → a ≤ q.2.1 → q.2.2.1 ≤ i → i ≤ q.2.2.2 → inS S a i := by
  intro S
  induction S with
  | nil => intro h; cases h
  | cons s r ih =>
    intro h a i h1 h2 h3 h4
    unfold covB at h
    split at h
    · rename_i e
      rw [Bool.and_eq_true, Bool.and_eq_true, Bool.and_eq_true] at e
      have e1 := Nat.le_of_ble_eq_true e.1.1
      have e2 := Nat.le_of_ble_eq_true e.1.2
      have e3 := Nat.le_of_ble_eq_true e.2.1
      have e4 := Nat.le_of_ble_eq_true e.2.2
      exact Or.inl ⟨by omega, by omega, by omega, by omega⟩
    · exact Or.inr (ih h a i h1 h2 h3 h4)
theorem sub_B {S : mS} : ∀ {S' : mS}, subB S' S = true → ∀ a i, inS S' a i → inS S a i := by
  intro S'
  induction S' with
  | nil => intro _ a i h; exact h.elim
  | cons q r ih =>
    intro h a i hq
    unfold subB at h
    split at h
    · rename_i e
      exact hq.elim (fun e2 => cov_B e a i e2.1 e2.2.1 e2.2.2.1 e2.2.2.2) (ih h a i)
    · cases h
theorem w_hxi {d k nL : Nat} {rt : Option FieldType} {Q : pm_R → Prop} {pc : Nat} {lv : pm_L} {r : List Value} {h : pm_H} {a : Int} (w : ∀ e : Int, (-2147483648 ≤ e ∧ e ≤ 2147483647) → (-2147483648 ≤ a → a ≤ 2147483647 → e = a) → wp_ d k nL rt (pc, lv, .int (Int32.ofInt e) :: r, h) Q) : wp_ d k nL rt (pc, lv, .int (Int32.ofInt a) :: r, h) Q := by
  obtain ⟨e, h1, h2⟩ := hv_i (Int32.ofInt a)
  rw [h2]
  refine w e ⟨h1.1, by have := h1.2; omega⟩ (fun h3 h4 => ?_)
  exact ((ofI_eq ⟨h3, by omega⟩ h1).mp h2).symm
theorem w_hxl {d k nL : Nat} {rt : Option FieldType} {Q : pm_R → Prop} {pc : Nat} {lv : pm_L} {r : List Value} {h : pm_H} {a : Int} (w : ∀ e : Int, (-9223372036854775808 ≤ e ∧ e ≤ 9223372036854775807) → (-9223372036854775808 ≤ a → a ≤ 9223372036854775807 → e = a) → wp_ d k nL rt (pc, lv, .long (Int64.ofInt e) :: r, h) Q) : wp_ d k nL rt (pc, lv, .long (Int64.ofInt a) :: r, h) Q := by
  obtain ⟨e, h1, h2⟩ := hv_l (Int64.ofInt a)
  rw [h2]
  refine w e ⟨h1.1, by have := h1.2; omega⟩ (fun h3 h4 => ?_)
  exact ((ofL_eq ⟨h3, by omega⟩ h1).mp h2).symm
/-- a row of 18 longs; one that takes any -/
def lr (a : Nat) : Prop := msh mshl a = some (1, 1, 18) ∧ ∀ w : mZ, rw_ w → ∀ i, i < 18 → -9223372036854775808 ≤ w a i ∧ w a i ≤ 9223372036854775807
theorem lr_rd {a : Nat} (h : lr a) {w : mZ} (R : rw_ w) {i : Nat} (hi : i < 18) : -9223372036854775808 ≤ w a i ∧ w a i ≤ 9223372036854775807 := h.2 w R i hi
def wrr (a : Nat) : Prop := ∀ (i : Nat) (v : Int), (-9223372036854775808 ≤ v ∧ v ≤ 9223372036854775807) → ok_t ((wkl[a]?).getD (.inr [])) i v
theorem wrr_w {a : Nat} (h : wrr a) {i : Nat} {v : Int} (hv : -9223372036854775808 ≤ v ∧ v ≤ 9223372036854775807) : ok_t ((wkl[a]?).getD (.inr [])) i v := h i v hv
theorem lr_15 : lr 15 := ⟨sh_15, fun w R i h => by have := rd_15 R h; exact ⟨by omega, by omega⟩⟩
theorem lr_34 : lr 34 := ⟨sh_34, fun w R i h => by have := rd_34 R h; exact ⟨by omega, by omega⟩⟩
theorem lr_36 : lr 36 := ⟨sh_36, fun w R i h => by have := rd_36 R h; exact ⟨by omega, by omega⟩⟩
theorem lr_157 : lr 157 := ⟨sh_157, fun w R i h => by have := rd_157 R h; exact ⟨by omega, by omega⟩⟩
theorem lr_158 : lr 158 := ⟨sh_158, fun w R i h => by have := rd_158 R h; exact ⟨by omega, by omega⟩⟩
theorem lr_41 {k : Nat} (hk : k < 61) : lr (41 + k) := ⟨sh_41 hk, fun w R i h => by have := rd_41 hk R h; exact ⟨by omega, by omega⟩⟩
theorem lr_144 {k : Nat} (hk : k < 3) : lr (144 + k) := ⟨sh_144 hk, fun w R i h => by have := rd_144 hk R h; exact ⟨by omega, by omega⟩⟩
theorem lr_149 {k : Nat} (hk : k < 8) : lr (149 + k) := ⟨sh_149 hk, fun w R i h => by have := rd_149 hk R h; exact ⟨by omega, by omega⟩⟩
theorem lr_T8 {t k : Nat} (ht : isT t) (hk : k < 8) : lr (t + 8 + k) := ⟨sh_T8 ht hk, fun w R i h => by have := rd_T8 ht hk R h; exact ⟨by omega, by omega⟩⟩
theorem wrr_15 : wrr 15 := fun i v h => wr_15 h
theorem wrr_157 : wrr 157 := fun i v h => wr_157 h
theorem wrr_158 : wrr 158 := fun i v h => wr_158 h
theorem wrr_149 {k : Nat} (hk : k < 8) : wrr (149 + k) := fun i v h => wr_149 hk h
theorem r_sw {d k nL : Nat} {rt : Option FieldType} {Q : pm_R → Prop} {pc len r1 r2 t : Nat} {cst dflt lo hi a : Int} {offs : Array Int} {hs : List (Nat × Nat)} {lv : pm_L} {r : List Value} {h : pm_H} (h1 : pm_ins k pc = some (.tableswitch dflt lo hi offs, len, r1, r2, cst, hs)) (ha : inI a) (hj : (if a < lo ∨ hi < a then pm_sw pc dflt r else match offs[(a - lo).toNat]? with
      | some off => pm_sw pc off r
      | none => none) = some (t, r)) (w : wp_ d k nL rt (t, lv, r, h) Q) : wp_ d k nL rt (pc, lv, .int (Int32.ofInt a) :: r, h) Q := by
  refine w_s (F' := (t, lv, r, h)) h1 (fun call => pm_sJ rfl ?_) w
  show (if (Int32.ofInt a).toInt < lo ∨ hi < (Int32.ofInt a).toInt then pm_sw pc dflt r else match offs[((Int32.ofInt a).toInt - lo).toNat]? with
      | some off => pm_sw pc off r
      | none => none) = some (t, r)
  rw [ofI_toInt ha]
  exact hj
theorem ofL_shr1 {a : Int} (ha : inL a) : Int64.ofInt a >>> ((Int32.ofInt 1).toInt64 &&& 63) = Int64.ofInt (a / 2) := by
  apply Int64.toInt_inj.1
  have b1 : (Int64.ofInt a >>> ((Int32.ofInt 1).toInt64 &&& 63)).toInt = ((Int64.ofInt a).toBitVec.sshiftRight 1).toInt := rfl
  rw [b1, BitVec.toInt_sshiftRight]
  have b2 : (Int64.ofInt a).toBitVec.toInt = a := ofL_toInt ha
  rw [b2, Int.shiftRight_eq_div_pow, ofL_toInt ⟨by have := ha.1; omega, by have := ha.2; omega⟩]
  rfl
theorem r_lshr1 {d k nL : Nat} {rt : Option FieldType} {Q : pm_R → Prop} {pc pc' len r1 r2 : Nat} {cst a : Int} {hs : List (Nat × Nat)} {lv : pm_L} {r : List Value} {h : pm_H} (h1 : pm_ins k pc = some (.lshr, len, r1, r2, cst, hs)) (hp : pc + 1 = pc') (ha : inL a) (w : wp_ d k nL rt (pc', lv, .long (Int64.ofInt (a / 2)) :: r, h) Q) : wp_ d k nL rt (pc, lv, .int (Int32.ofInt 1) :: .long (Int64.ofInt a) :: r, h) Q := r_al h1 rfl hp (congrArg (fun y => some (Value.long y :: r)) (ofL_shr1 ha)) w
theorem mu_eqi {α : Type} {z : Nat → Nat → α} {a i j : Nat} {e : α} (h : j = i) : mu z a i e a j = e := if_pos ⟨rfl, h⟩
/-- how many of the first n are negative -/
def ngc (f : Nat → Int) : Nat → Int
  | 0 => 0
  | n + 1 => ngc f n + (if f n < 0 then 1 else 0)
theorem ngc_b (f : Nat → Int) : ∀ n : Nat, 0 ≤ ngc f n ∧ ngc f n ≤ n
  | 0 => ⟨Int.le_refl 0, Int.le_refl 0⟩
  | n + 1 => by
    have := ngc_b f n
    unfold ngc
    split <;> omega
theorem ngc_c {f g : Nat → Int} : ∀ n : Nat, (∀ j, j < n → g j = f j) → ngc g n = ngc f n
  | 0, _ => rfl
  | n + 1, h => by
    unfold ngc
    rw [ngc_c n (fun j hj => h j (by omega)), h n (by omega)]
theorem ngc_w {f g : Nat → Int} {i : Nat} (h : ∀ j, j ≠ i → g j = f j) (h1 : f i < 0) (h2 : 0 ≤ g i) : ∀ n : Nat, i < n → ngc g n = ngc f n - 1
  | 0, hi => absurd hi (by omega)
  | n + 1, hi => by
    unfold ngc
    by_cases e : i = n
    · subst e
      rw [ngc_c i (fun j hj => h j (by omega)), if_pos h1, if_neg (by omega)]
      omega
    · rw [ngc_w h h1 h2 n (by omega), h n (fun q => e q.symm)]
      omega
def ng_ (z : mZ) : Int := ngc (z 242) 36
theorem ng_b (z : mZ) : 0 ≤ ng_ z ∧ ng_ z ≤ 36 := ngc_b (z 242) 36
theorem ng_w {z z' : mZ} {i : Nat} {v : Int} (h : z' = mu z 242 i v) (h1 : z 242 i < 0) (h2 : 0 ≤ v) (hi : i < 36) : ng_ z' = ng_ z - 1 := by
  subst h
  exact ngc_w (f := z 242) (g := mu z 242 i v 242) (fun j hj => mu_ne (fun q => hj q.2)) h1 (by rw [mu_eq]; exact h2) 36 hi

/-! the reference at a token -/
theorem ofL_or {a b : Int} (n : Nat) (ha : 0 ≤ a) (h1 : a < 2 ^ n) (hb : 0 ≤ b) (h2 : a + b < 9223372036854775808) (hd : (2 ^ n : Int) ∣ b) : Int64.ofInt b ||| Int64.ofInt a = Int64.ofInt (b + a) := by
  obtain ⟨x, rfl⟩ := Int.eq_ofNat_of_zero_le ha
  obtain ⟨y, rfl⟩ := Int.eq_ofNat_of_zero_le hb
  have hd' : 2 ^ n ∣ y := by exact_mod_cast hd
  have h1' : x < 2 ^ n := by exact_mod_cast h1
  obtain ⟨q, rfl⟩ := hd'
  apply Int64.toBitVec_inj.1
  rw [Int64.toBitVec_or]
  apply BitVec.eq_of_toNat_eq
  have e1 : ∀ u : Nat, u < 9223372036854775808 → (Int64.ofInt (u : Int)).toBitVec.toNat = u := by
    intro u hu
    have : (Int64.ofInt (u : Int)).toBitVec = BitVec.ofInt 64 u := rfl
    rw [this, BitVec.toNat_ofInt]
    omega
  rw [BitVec.toNat_or, e1 _ (by omega), e1 _ (by omega), show (((2 ^ n * q : Nat) : Int) + (x : Int)) = ((2 ^ n * q + x : Nat) : Int) from (Int.natCast_add _ _).symm, e1 _ (by omega)]
  rw [← Nat.two_pow_add_eq_or_of_lt h1']
theorem ofL_shl8 (a : Int) : Int64.ofInt a <<< ((Int32.ofInt 8).toInt64 &&& 63) = Int64.ofInt (a * 256) := by
  apply Int64.toBitVec_inj.1
  have b1 : (Int64.ofInt a <<< ((Int32.ofInt 8).toInt64 &&& 63)).toBitVec = (Int64.ofInt a).toBitVec <<< 8 := rfl
  rw [b1, BitVec.shiftLeft_eq_mul_twoPow]
  show BitVec.ofInt 64 a * _ = BitVec.ofInt 64 (a * 256)
  rw [BitVec.ofInt_mul]
  rfl
theorem sh_or {l c e1 e2 : Int} (hl : 0 ≤ l ∧ l ≤ 34474613618145914) (hc : 0 ≤ c ∧ c < 256) (i1 : inL e1) (i2 : inL e2) (h1 : Int64.ofInt e1 = Int64.ofInt l <<< ((Int32.ofInt 8).toInt64 &&& 63)) (h2 : Int64.ofInt e2 = Int64.ofInt e1 ||| Int64.ofInt c) : e2 = l * 256 + c := by
  rw [ofL_shl8] at h1
  rw [h1, ofL_or 8 hc.1 hc.2 (by omega) (by omega) ⟨l, by omega⟩] at h2
  exact (ofL_eq i2 ⟨by omega, by omega⟩).mp h2
def tkS (k : Int) : Int := if k = 0 then 0 else if k = 2 then 2 else if k = 3 then 59 else if k = 4 then 45 else if k = 5 then 3 else 1
def TKr (h : Int → Int) (z w : mZ) (p : Int) : Prop := z 225 7 = p ∧ (0 ≤ p ∧ p ≤ z 225 5) ∧ z 225 6 = tkS (tkK h p) ∧ (tkK h p = 2 → z 225 8 = tkN h p ∧ 0 ≤ tkN h p ∧ tkN h p ≤ 9999) ∧ (z 225 6 = 1 → w 225 9 = tkW8 h p ∧ lets (tkF h p) (tkM h p) ∧ tkM h p ≤ 8 ∧ kw5 (tkW5 h p) = tkK h p) ∧ (tkK h p ≠ 0 → tkK h p ≠ 5 → z 225 4 = tkE h p ∧ p < z 225 4) ∧ p ≤ z 225 4 ∧ z 225 4 ≤ z 225 5
def TKq (h : Int → Int) (z w : mZ) (p x : Int) : Prop := z 225 7 = p ∧ z 225 6 = tkS (tkK h p) ∧ (tkK h p = 2 → z 225 8 = tkN h p ∧ 0 ≤ tkN h p ∧ tkN h p ≤ 9999) ∧ (z 225 6 = 1 → w 225 9 = tkW8 h p ∧ lets (tkF h p) (tkM h p) ∧ tkM h p ≤ 8 ∧ kw5 (tkW5 h p) = tkK h p) ∧ (tkK h p ≠ 0 → tkK h p ≠ 5 → p + x = tkE h p ∧ 0 < x)
theorem TKr_f {h : Int → Int} {z w z' w' : mZ} {p : Int} (h7 : z' 225 7 = z 225 7) (h5 : z' 225 5 = z 225 5) (h6 : z' 225 6 = z 225 6) (h8 : z' 225 8 = z 225 8) (h9 : w' 225 9 = w 225 9) (h4 : z' 225 4 = z 225 4) (k : TKr h z w p) : TKr h z' w' p := by
  unfold TKr at k ⊢
  rw [h7, h5, h6, h8, h9, h4]
  exact k
theorem tkS_1 (x : Int) : tkS (kw5 x) = 1 := by
  have := kw5_r x
  unfold tkS
  repeat' split
  all_goals omega
theorem rl8_s {h : Int → Int} {p q v l l' : Int} (u : ∀ k, p ≤ k → k < q → isL (h k)) (hp : p ≤ q) (hv : h q = v) (hL : isL v) (hl : q - p ≤ 8 → l = wl8 (tkF h p) (q - p).toNat) (hl' : q - p ≤ 7 → 0 ≤ l → l ≤ 34474613618145914 → l' = l * 256 + v) :
    (∀ k, p ≤ k → k < q + 1 → isL (h k)) ∧ (q + 1 - p ≤ 8 → l' = wl8 (tkF h p) (q + 1 - p).toNat) := by
  refine ⟨fun k h1 h2 => ?_, fun c => ?_⟩
  · by_cases e : k = q
    · rw [e, hv]; exact hL
    · exact u k h1 (by omega)
  · have b := wl8_b (f := tkF h p) (m := (q - p).toNat) (lets_u u) (by omega)
    have e := hl (by omega)
    rw [← e] at b
    rw [hl' (by omega) b.1 b.2, show (q + 1 - p).toNat = (q - p).toNat + 1 by omega, wl8_s, ← e, show tkF h p (q - p).toNat = v from by unfold tkF; rw [← hv]; exact congrArg h (by omega)]
theorem rl8_e {h : Int → Int} {z w : mZ} {p x : Int} (h7 : z 225 7 = p) (u : ∀ k, p ≤ k → k < p + x → isL (h k)) (hp : 0 < x) (hn : ¬ isL (h (p + x))) (hl : x ≤ 8 → w 225 9 = wl8 (tkF h p) x.toNat) (hk : (8 < x ∧ z 225 6 = 3) ∨ (x ≤ 8 ∧ z 225 6 = 1)) : TKq h z w p x := by
  have c : isL (h p) := u p (by omega) (by omega)
  have e : tkE h p = p + x := tkE_L c ⟨by omega, u, hn⟩
  have em : tkM h p = x.toNat := by unfold tkM; rw [e]; omega
  have eK := tkK_L c
  rcases hk with ⟨g, k⟩ | ⟨g, k⟩
  · rw [if_pos (by omega)] at eK
    refine ⟨h7, by rw [eK]; exact k, fun q => absurd q (by omega), fun q => absurd q (by omega), fun _ q => absurd eK q⟩
  · rw [if_neg (by omega)] at eK
    have := kw5_r (tkW5 h p)
    refine ⟨h7, by rw [eK, tkS_1]; exact k, fun q => absurd q (by omega), fun _ => ⟨?_, ?_, by omega, eK.symm⟩, fun _ _ => ⟨e.symm, hp⟩⟩
    · rw [hl g]; unfold tkW8; rw [em]
    · rw [em, show x.toNat = (p + x - p).toNat by omega]; exact lets_u u
theorem rd8_e {h : Int → Int} {z w : mZ} {p x : Int} (h7 : z 225 7 = p) (u : ∀ k, p ≤ k → k < p + x → isD (h k)) (hp : 0 < x) (hn : ¬ isD (h (p + x))) (hl : x ≤ 4 → z 225 8 = dn (tkF h p) x.toNat) (hk : ((4 < x ∨ isL (h (p + x))) ∧ z 225 6 = 3) ∨ (x ≤ 4 ∧ ¬ isL (h (p + x)) ∧ z 225 6 = 2)) : TKq h z w p x := by
  rcases hk with ⟨g, k⟩ | ⟨g, g2, k⟩
  · obtain ⟨e1, e2, e3⟩ := rd_e (l := z 225 8) (kd := 5) u (by omega) hn (fun q => by rw [show p + x - p = x by omega]; exact hl (by omega)) (Or.inl ⟨g.imp (by omega) id, rfl⟩)
    exact ⟨h7, by rw [← e2]; exact k, fun q => absurd q (by omega), fun q => absurd q (by omega), fun _ q => absurd e2.symm q⟩
  · obtain ⟨e1, e2, e3⟩ := rd_e (l := z 225 8) (kd := 2) u (by omega) hn (fun q => by rw [show p + x - p = x by omega]; exact hl (by omega)) (Or.inr ⟨by omega, g2, rfl⟩)
    exact ⟨h7, by rw [← e2]; exact k, e3, fun q => absurd q (by omega), fun _ _ => ⟨e1, hp⟩⟩
theorem rs8_e {h : Int → Int} {z w : mZ} {p c : Int} (h7 : z 225 7 = p) (hc : c = h p) (h0 : 0 ≤ c) (hL : ¬ isL c) (hD : ¬ isD c) (hk : ((c = 59 ∨ c = 45) ∧ z 225 6 = c) ∨ (c ≠ 59 ∧ c ≠ 45 ∧ z 225 6 = 3)) : TKq h z w p 1 := by
  subst hc
  have eK := tkK_S (h := h) (p := p) (by omega) hL hD
  have e := tkE_S hL hD
  have k1 : z 225 6 = tkS (tkK h p) ∧ tkK h p ≠ 2 ∧ z 225 6 ≠ 1 := by
    rcases hk with ⟨g, k⟩ | ⟨g, g2, k⟩
    · rcases g with g | g
      · rw [if_pos g] at eK; rw [eK]; exact ⟨by rw [k, g]; rfl, by decide, by omega⟩
      · rw [if_neg (by omega), if_pos g] at eK; rw [eK]; exact ⟨by rw [k, g]; rfl, by decide, by omega⟩
    · rw [if_neg g, if_neg g2] at eK; rw [eK]; exact ⟨by rw [k]; rfl, by decide, by omega⟩
  exact ⟨h7, k1.1, fun q => absurd q k1.2.1, fun q => absurd q k1.2.2, fun _ _ => ⟨e.symm, by omega⟩⟩
theorem r0_e {h : Int → Int} {z w : mZ} {p : Int} (h7 : z 225 7 = p) (hc : h p < 0) (hk : z 225 6 = 0) : TKq h z w p 0 := by
  have eK := tkK_0 hc
  exact ⟨h7, by rw [eK]; exact hk, fun q => absurd q (by omega), fun q => absurd q (by omega), fun q => absurd eK q⟩
theorem TKq_r {h : Int → Int} {z w z' w' : mZ} {p x : Int} (k : TKq h z w p x) (h0 : 0 ≤ p ∧ p + x ≤ z 225 5) (hx : 0 ≤ x) (h7 : z' 225 7 = z 225 7) (h5 : z' 225 5 = z 225 5) (h6 : z' 225 6 = z 225 6) (h8 : z' 225 8 = z 225 8) (h9 : w' 225 9 = w 225 9) (hk : (z 225 6 = 3 ∧ z' 225 4 = p) ∨ (z 225 6 ≠ 3 ∧ z' 225 4 = p + x)) : TKr h z' w' p := by
  unfold TKr
  rw [h7, h5, h6, h8, h9]
  refine ⟨k.1, by omega, k.2.1, k.2.2.1, k.2.2.2.1, fun q1 q2 => ?_, by omega, by omega⟩
  have := k.2.2.2.2 q1 q2
  rcases hk with ⟨g, g2⟩ | ⟨g, g2⟩
  · exfalso
    have e := k.2.1
    have r := tkK_r h p
    rw [g] at e
    unfold tkS at e
    revert e
    repeat' split
    all_goals omega
  · omega

/-! the text as the class and as the reference have it; tokens -/
/-- the class's text, the reference's -/
def tc (z : mZ) : Int → Int := hr (fun i => z 2 i % 256) (z 3 3)
def tr8 (z : mZ) : Int → Int := hr (z 226) (z 225 5)
theorem tc_f {z z' : mZ} (h1 : ∀ i, z' 2 i = z 2 i) (h2 : z' 3 3 = z 3 3) : tc z' = tc z := by
  unfold tc
  rw [h2, show z' 2 = z 2 from funext h1]
theorem tr8_f {z z' : mZ} (h1 : ∀ i, z' 226 i = z 226 i) (h2 : z' 225 5 = z 225 5) : tr8 z' = tr8 z := by
  unfold tr8
  rw [h2, show z' 226 = z 226 from funext h1]
theorem tc_e {z : mZ} {h : Int → Int} (hh : tc z = h) {k : Int} (c : z 3 3 ≤ k) : h k = -1 := by
  rw [← hh]; unfold tc hr; rw [if_neg (by omega)]
theorem tr8_e {z : mZ} {h : Int → Int} (hh : tr8 z = h) {k : Int} (c : z 225 5 ≤ k) : h k = -1 := by
  rw [← hh]; unfold tr8 hr; rw [if_neg (by omega)]
theorem tr8_i {z : mZ} {h : Int → Int} (hh : tr8 z = h) {k : Int} (h0 : 0 ≤ k) (c : k < z 225 5) : h k = z 226 k.toNat := by
  rw [← hh]; unfold tr8 hr; rw [if_pos ⟨h0, c⟩]
/-- a byte as the class reads it, and as it is -/
theorem by_c {z : mZ} {h : Int → Int} {k v : Int} (hh : tc z = h) (h0 : 0 ≤ k) (hc : (k < z 3 3 ∧ v = z 2 k.toNat) ∨ (z 3 3 ≤ k ∧ v = 0)) (hb : -128 ≤ v ∧ v ≤ 127) :
    (h k = v ∧ 0 ≤ v ∧ k < z 3 3) ∨ (128 ≤ h k ∧ v < 0 ∧ k < z 3 3) ∨ (h k = -1 ∧ v = 0 ∧ z 3 3 ≤ k) := by
  rcases hc with ⟨c, e⟩ | ⟨c, e⟩
  · have g : h k = z 2 k.toNat % 256 := by rw [← hh]; unfold tc hr; rw [if_pos ⟨h0, c⟩]
    rw [← e] at g
    omega
  · have g := tc_e hh c
    omega
/-- the tapes of both are alike -/
def kqT (z : mZ) : Prop := ∀ i : Nat, (i : Int) < z 225 1 → z 226 i = z 2 i % 256
theorem hr_t {z z' : mZ} {n : Int} (h : ∀ i : Nat, (i : Int) < n → z' 226 i = z 2 i % 256) : hr (z' 226) n = hr (fun i => z 2 i % 256) n := by
  funext k
  unfold hr
  by_cases c : 0 ≤ k ∧ k < n
  · rw [if_pos c, if_pos c]; exact h _ (by omega)
  · rw [if_neg c, if_neg c]
/-- a token by the place of its first byte: behind it, its bytes, how many; its word, its number -/
noncomputable def tkE (h : Int → Int) (p : Int) : Int := if isL (h p) then ups h isL p else if isD (h p) then ups h isD p else p + 1
def tkF (h : Int → Int) (p : Int) (i : Nat) : Int := h (p + i)
noncomputable def tkM (h : Int → Int) (p : Int) : Nat := (tkE h p - p).toNat
noncomputable def tkW5 (h : Int → Int) (p : Int) : Int := wl5 (tkF h p) (tkM h p)
noncomputable def tkW8 (h : Int → Int) (p : Int) : Int := wl8 (tkF h p) (tkM h p)
noncomputable def tkN (h : Int → Int) (p : Int) : Int := dn (tkF h p) (tkM h p)
def kw5 (x : Int) : Int := if x = 17077349 then 6 else if x = 402885 then 7 else if x = 486 then 8 else if x = 769604 then 9 else if x = 307 then 10 else 1
/-- kinds: 0 the end, 1 a NAME, 2 a number, 3 ;, 4 -, 5 none, 6 piece, 7 line, 8 of, 9 word, 10 is -/
noncomputable def tkK (h : Int → Int) (p : Int) : Int :=
  if h p < 0 then 0
  else if isL (h p) then (if 8 < tkM h p then 5 else kw5 (tkW5 h p))
  else if isD (h p) then (if 4 < tkM h p ∨ isL (h (tkE h p)) then 5 else 2)
  else if h p = 59 then 3 else if h p = 45 then 4 else 5
theorem tkK_0 {h : Int → Int} {p : Int} (c : h p < 0) : tkK h p = 0 := by unfold tkK; rw [if_pos c]
theorem tkE_L {h : Int → Int} {p q : Int} (c : isL (h p)) (u : upTo h isL p q) : tkE h p = q := by unfold tkE; rw [if_pos c]; exact ups_eq u
theorem tkE_D {h : Int → Int} {p q : Int} (c : isD (h p)) (u : upTo h isD p q) : tkE h p = q := by unfold tkE; rw [if_neg (by omega), if_pos c]; exact ups_eq u
theorem tkE_S {h : Int → Int} {p : Int} (c : ¬ isL (h p)) (d : ¬ isD (h p)) : tkE h p = p + 1 := by unfold tkE; rw [if_neg c, if_neg d]
theorem tkK_L {h : Int → Int} {p : Int} (c : isL (h p)) : tkK h p = if 8 < tkM h p then 5 else kw5 (tkW5 h p) := by unfold tkK; rw [if_neg (by omega), if_pos c]
theorem tkK_D {h : Int → Int} {p : Int} (c : isD (h p)) : tkK h p = if 4 < tkM h p ∨ isL (h (tkE h p)) then 5 else 2 := by unfold tkK; rw [if_neg (by omega), if_neg (by omega), if_pos c]
theorem tkK_S {h : Int → Int} {p : Int} (a : ¬ h p < 0) (c : ¬ isL (h p)) (d : ¬ isD (h p)) : tkK h p = if h p = 59 then 3 else if h p = 45 then 4 else 5 := by unfold tkK; rw [if_neg a, if_neg c, if_neg d]
theorem kw5_r (x : Int) : kw5 x = 1 ∨ (6 ≤ kw5 x ∧ kw5 x ≤ 10) := by
  unfold kw5
  repeat' split
  all_goals omega
theorem lets_u {h : Int → Int} {p q : Int} (u : ∀ k, p ≤ k → k < q → isL (h k)) : lets (tkF h p) (q - p).toNat := fun i hi => u (p + i) (by omega) (by omega)
theorem digs_u {h : Int → Int} {p q : Int} (u : ∀ k, p ≤ k → k < q → isD (h k)) : digs (tkF h p) (q - p).toNat := fun i hi => u (p + i) (by omega) (by omega)
/-- what a kind says -/
theorem tkK_r (h : Int → Int) (p : Int) : 0 ≤ tkK h p ∧ tkK h p ≤ 10 := by
  unfold tkK
  have := kw5_r (tkW5 h p)
  repeat' split
  all_goals omega

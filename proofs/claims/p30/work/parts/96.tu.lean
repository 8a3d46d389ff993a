section
/-! the reference, a token further -/
def kwf (l : List Int) (i : Nat) : Int := l.getD i 0
theorem kw_i {l : List Int} {a b : Int} (hl : lets (kwf l) l.length) (ha : wl8 (kwf l) l.length = a) (hb : wl5 (kwf l) l.length = b) {f : Nat → Int} {m : Nat} (hf : lets f m) : wl8 f m = a ↔ wl5 f m = b := by
  rw [← ha, ← hb]; exact (wl_iff hf hl).symm
theorem kw_p {f : Nat → Int} {m : Nat} (hf : lets f m) : wl8 f m = 482804589413 ↔ wl5 f m = 17077349 := kw_i (l := [112, 105, 101, 99, 101]) (by decide) (by decide) (by decide) hf
theorem kw_l {f : Nat → Int} {m : Nat} (hf : lets f m) : wl8 f m = 1818848869 ↔ wl5 f m = 402885 := kw_i (l := [108, 105, 110, 101]) (by decide) (by decide) (by decide) hf
theorem kw_o {f : Nat → Int} {m : Nat} (hf : lets f m) : wl8 f m = 28518 ↔ wl5 f m = 486 := kw_i (l := [111, 102]) (by decide) (by decide) (by decide) hf
theorem kw_w {f : Nat → Int} {m : Nat} (hf : lets f m) : wl8 f m = 2003792484 ↔ wl5 f m = 769604 := kw_i (l := [119, 111, 114, 100]) (by decide) (by decide) (by decide) hf
theorem kw_s {f : Nat → Int} {m : Nat} (hf : lets f m) : wl8 f m = 26995 ↔ wl5 f m = 307 := kw_i (l := [105, 115]) (by decide) (by decide) (by decide) hf
theorem kw5_k (x : Int) : (kw5 x = 6 ↔ x = 17077349) ∧ (kw5 x = 7 ↔ x = 402885) ∧ (kw5 x = 8 ↔ x = 486) ∧ (kw5 x = 9 ↔ x = 769604) ∧ (kw5 x = 10 ↔ x = 307) := by
  unfold kw5
  repeat' split
  all_goals omega
theorem tkS_k (k : Int) (h : 0 ≤ k ∧ k ≤ 10) : (tkS k = 0 ↔ k = 0) ∧ (tkS k = 2 ↔ k = 2) ∧ (tkS k = 3 ↔ k = 5) ∧ (tkS k = 59 ↔ k = 3) ∧ (tkS k = 45 ↔ k = 4) ∧ (tkS k = 1 ↔ (k = 1 ∨ 6 ≤ k)) := by
  unfold tkS
  repeat' split
  all_goals omega
theorem TKr_k {h : Int → Int} {z w : mZ} {p : Int} (k : TKr h z w p) : (0 ≤ tkK h p ∧ tkK h p ≤ 10) ∧ ((z 225 6 = 0 ↔ tkK h p = 0) ∧ (z 225 6 = 2 ↔ tkK h p = 2) ∧ (z 225 6 = 3 ↔ tkK h p = 5) ∧ (z 225 6 = 59 ↔ tkK h p = 3) ∧ (z 225 6 = 45 ↔ tkK h p = 4) ∧ (z 225 6 = 1 ↔ (tkK h p = 1 ∨ 6 ≤ tkK h p))) ∧
    (z 225 6 = 1 → (w 225 9 = 482804589413 ↔ tkK h p = 6) ∧ (w 225 9 = 1818848869 ↔ tkK h p = 7) ∧ (w 225 9 = 28518 ↔ tkK h p = 8) ∧ (w 225 9 = 2003792484 ↔ tkK h p = 9) ∧ (w 225 9 = 26995 ↔ tkK h p = 10)) := by
  obtain ⟨_, _, e6, _, eW, _⟩ := k
  have r := tkK_r h p
  refine ⟨r, by rw [e6]; exact tkS_k _ r, fun q => ?_⟩
  obtain ⟨w1, w2, _, w4⟩ := eW q
  have q5 := kw5_k (tkW5 h p)
  rw [w4] at q5
  rw [w1]
  unfold tkW8
  unfold tkW5 at q5
  exact ⟨(kw_p w2).trans q5.1.symm, (kw_l w2).trans q5.2.1.symm, (kw_o w2).trans q5.2.2.1.symm, (kw_w w2).trans q5.2.2.2.1.symm, (kw_s w2).trans q5.2.2.2.2.symm⟩
theorem tk0 {h : Int → Int} {z w : mZ} {p : Int} (k : TKr h z w p) : z 225 6 = 0 ↔ tkK h p = 0 := (TKr_k k).2.1.1
theorem tk2 {h : Int → Int} {z w : mZ} {p : Int} (k : TKr h z w p) : z 225 6 = 2 ↔ tkK h p = 2 := (TKr_k k).2.1.2.1
theorem tk5 {h : Int → Int} {z w : mZ} {p : Int} (k : TKr h z w p) : z 225 6 = 3 ↔ tkK h p = 5 := (TKr_k k).2.1.2.2.1
theorem tk3 {h : Int → Int} {z w : mZ} {p : Int} (k : TKr h z w p) : z 225 6 = 59 ↔ tkK h p = 3 := (TKr_k k).2.1.2.2.2.1
theorem tk4 {h : Int → Int} {z w : mZ} {p : Int} (k : TKr h z w p) : z 225 6 = 45 ↔ tkK h p = 4 := (TKr_k k).2.1.2.2.2.2.1
theorem tk1 {h : Int → Int} {z w : mZ} {p : Int} (k : TKr h z w p) : z 225 6 = 1 ↔ (tkK h p = 1 ∨ 6 ≤ tkK h p) := (TKr_k k).2.1.2.2.2.2.2
theorem tkn {h : Int → Int} {z w : mZ} {p : Int} (k : TKr h z w p) : (z 225 6 = 1 ∧ w 225 9 ≠ 482804589413 ∧ w 225 9 ≠ 1818848869 ∧ w 225 9 ≠ 28518 ∧ w 225 9 ≠ 2003792484 ∧ w 225 9 ≠ 26995) ↔ tkK h p = 1 := by
  have q := TKr_k k
  by_cases c : z 225 6 = 1
  · have r := q.2.2 c
    have s := q.1
    have u := q.2.1.2.2.2.2.2
    omega
  · have u := q.2.1.2.2.2.2.2
    omega
def kcd (a : Int) : Int := if a = 28518 then 8 else 10
theorem tkw {h : Int → Int} {z w : mZ} {p a : Int} (k : TKr h z w p) (ha : a = 26995 ∨ a = 28518) : (z 225 6 = 1 ∧ w 225 9 = a) ↔ tkK h p = kcd a := by
  have q := TKr_k k
  have u := q.2.1.2.2.2.2.2
  unfold kcd
  rcases ha with rfl | rfl
  · rw [if_neg (by omega)]
    by_cases c : z 225 6 = 1
    · have r := (q.2.2 c).2.2.2.2; omega
    · omega
  · rw [if_pos rfl]
    by_cases c : z 225 6 = 1
    · have r := (q.2.2 c).2.2.1; omega
    · omega
theorem tkp {h : Int → Int} {z w : mZ} {p : Int} (k : TKr h z w p) : ((z 225 6 = 1 ∧ w 225 9 = 482804589413) ↔ tkK h p = 6) ∧ ((z 225 6 = 1 ∧ w 225 9 = 1818848869) ↔ tkK h p = 7) ∧ ((z 225 6 = 1 ∧ w 225 9 = 2003792484) ↔ tkK h p = 9) := by
  have q := TKr_k k
  have u := q.2.1.2.2.2.2.2
  by_cases c : z 225 6 = 1
  · have r := q.2.2 c; omega
  · omega
theorem TKr_a {h : Int → Int} {z w : mZ} {p : Int} (k : TKr h z w p) : (0 ≤ p ∧ p ≤ z 225 5) ∧ p ≤ z 225 4 ∧ z 225 4 ≤ z 225 5 := ⟨k.2.1, k.2.2.2.2.2.2⟩
theorem TKr_E {h : Int → Int} {z w : mZ} {p : Int} (k : TKr h z w p) (c : tkK h p ≠ 0) (d : tkK h p ≠ 5) : z 225 4 = tkE h p ∧ p < z 225 4 := k.2.2.2.2.2.1 c d
theorem TKr_N {h : Int → Int} {z w : mZ} {p : Int} (k : TKr h z w p) (c : tkK h p = 2) : z 225 8 = tkN h p ∧ 0 ≤ tkN h p ∧ tkN h p ≤ 9999 := k.2.2.2.1 c
theorem TKr_W {h : Int → Int} {z w : mZ} {p : Int} (k : TKr h z w p) (c : tkK h p = 1) : w 225 9 = tkW8 h p := (k.2.2.2.2.1 ((tk1 k).mpr (Or.inl c))).1
abbrev bdc (c : Int) : Int := if c = 5 then 1 else 2
/-- what the small readers do: nothing behind a fault; a token further; a fault -/
def WRp (z0 z : mZ) (a : Int) : Prop := (0 < z0 225 2 ∧ z 225 2 = z0 225 2 ∧ z 225 3 = z0 225 3) ∨ (z0 225 2 = 0 ∧ z 225 2 = (if z0 225 6 = 3 then 1 else a) ∧ z 225 3 = z0 225 7)
theorem WRp_0 {h : Int → Int} {z0 w0 z : mZ} {a p : Int} (k : WRp z0 z a) (h0 : z0 225 2 = 0) (t : TKr h z0 w0 p) : z 225 2 = (if tkK h p = 5 then 1 else a) ∧ z 225 3 = p := by
  rcases k with g | g
  · omega
  · refine ⟨?_, g.2.2.trans t.1⟩
    have := tk5 t
    rw [g.2.1]
    by_cases c : z0 225 6 = 3
    · rw [if_pos c, if_pos (this.mp c)]
    · rw [if_neg c, if_neg (fun q => c (this.mpr q))]
def NXs (h : Int → Int) (z0 z w : mZ) : Prop := z 225 2 = 0 ∧ z 225 3 = z0 225 3 ∧ TKr h z w (ups h isB (tkE h (z0 225 7))) ∧ z0 225 7 < z 225 7
def SMs (z0 z : mZ) : Prop := z 225 2 = z0 225 2 ∧ z 225 3 = z0 225 3 ∧ z 225 7 = z0 225 7
def WTp (h : Int → Int) (z0 z w : mZ) (c : Int) : Prop := (0 < z0 225 2 ∧ SMs z0 z) ∨ (z0 225 2 = 0 ∧ tkK h (z0 225 7) = c ∧ NXs h z0 z w) ∨ (z0 225 2 = 0 ∧ tkK h (z0 225 7) ≠ c ∧ z 225 2 = bdc (tkK h (z0 225 7)) ∧ z 225 3 = z0 225 7 ∧ z 225 7 = z0 225 7)
def TNp (h : Int → Int) (z0 z w : mZ) (v b : Int) : Prop := (0 < z0 225 2 ∧ SMs z0 z) ∨ (z0 225 2 = 0 ∧ (tkK h (z0 225 7) = 2 ∧ tkN h (z0 225 7) ≤ b ∧ 0 ≤ tkN h (z0 225 7) ∧ v = tkN h (z0 225 7)) ∧ NXs h z0 z w) ∨ (z0 225 2 = 0 ∧ tkK h (z0 225 7) ≠ 2 ∧ z 225 2 = bdc (tkK h (z0 225 7)) ∧ z 225 3 = z0 225 7 ∧ z 225 7 = z0 225 7) ∨ (z0 225 2 = 0 ∧ (tkK h (z0 225 7) = 2 ∧ b < tkN h (z0 225 7)) ∧ z 225 2 = 4 ∧ z 225 3 = z0 225 7 ∧ z 225 7 = z0 225 7)
theorem bdc_p (c : Int) : 0 < bdc c := by unfold bdc; split <;> omega
theorem WTp_s {h : Int → Int} {z0 z w : mZ} {c : Int} (k : WTp h z0 z w c) (h2 : z 225 2 = 0) (hn : 0 ≤ z0 225 2) : z0 225 2 = 0 ∧ tkK h (z0 225 7) = c ∧ NXs h z0 z w := by
  rcases k with g | g | g
  · have := g.2.1; omega
  · exact g
  · have := bdc_p (tkK h (z0 225 7)); omega
theorem WTp_g {h : Int → Int} {z0 z w : mZ} {c : Int} (k : WTp h z0 z w c) : z0 225 7 ≤ z 225 7 := by
  rcases k with g | g | g
  · have := g.2.2.2; omega
  · have := g.2.2.2.2.2; omega
  · omega
theorem WTp_b {h : Int → Int} {z0 z w : mZ} {c : Int} (k : WTp h z0 z w c) (h0 : z0 225 2 = 0) (h2 : 0 < z 225 2) : tkK h (z0 225 7) ≠ c ∧ z 225 2 = bdc (tkK h (z0 225 7)) ∧ z 225 3 = z0 225 7 := by
  rcases k with g | g | g
  · omega
  · have := g.2.2.1; omega
  · exact ⟨g.2.1, g.2.2.1, g.2.2.2.1⟩
theorem WTp_f {h : Int → Int} {z0 z w : mZ} {c : Int} (k : WTp h z0 z w c) (h0 : 0 < z0 225 2) : z 225 2 = z0 225 2 ∧ z 225 3 = z0 225 3 := by
  rcases k with g | g | g
  · exact ⟨g.2.1, g.2.2.1⟩
  · omega
  · omega
theorem TNp_s {h : Int → Int} {z0 z w : mZ} {v b : Int} (k : TNp h z0 z w v b) (h2 : z 225 2 = 0) (hn : 0 ≤ z0 225 2) : z0 225 2 = 0 ∧ (tkK h (z0 225 7) = 2 ∧ tkN h (z0 225 7) ≤ b ∧ 0 ≤ tkN h (z0 225 7) ∧ v = tkN h (z0 225 7)) ∧ NXs h z0 z w := by
  rcases k with g | g | g | g
  · have := g.2.1; omega
  · exact g
  · have := bdc_p (tkK h (z0 225 7)); omega
  · omega
theorem TNp_g {h : Int → Int} {z0 z w : mZ} {v b : Int} (k : TNp h z0 z w v b) : z0 225 7 ≤ z 225 7 := by
  rcases k with g | g | g | g
  · have := g.2.2.2; omega
  · have := g.2.2.2.2.2; omega
  · omega
  · omega
theorem TNp_b {h : Int → Int} {z0 z w : mZ} {v b : Int} (k : TNp h z0 z w v b) (h0 : z0 225 2 = 0) (h2 : 0 < z 225 2) : (tkK h (z0 225 7) ≠ 2 ∧ z 225 2 = bdc (tkK h (z0 225 7)) ∧ z 225 3 = z0 225 7) ∨ (tkK h (z0 225 7) = 2 ∧ b < tkN h (z0 225 7) ∧ z 225 2 = 4 ∧ z 225 3 = z0 225 7) := by
  rcases k with g | g | g | g
  · omega
  · have := g.2.2.1; omega
  · exact Or.inl ⟨g.2.1, g.2.2.1, g.2.2.2.1⟩
  · exact Or.inr ⟨g.2.1.1, g.2.1.2, g.2.2.1, g.2.2.2.1⟩
theorem TNp_f {h : Int → Int} {z0 z w : mZ} {v b : Int} (k : TNp h z0 z w v b) (h0 : 0 < z0 225 2) : z 225 2 = z0 225 2 ∧ z 225 3 = z0 225 3 := by
  rcases k with g | g | g | g
  · exact ⟨g.2.1, g.2.2.1⟩
  · omega
  · omega
  · omega
def CL0 (s : RG) : Prop := (s 10 ≠ 1 ∧ s 4 + s 5 = 0) ∨ (s 10 = 1 ∧ 0 < s 4 + s 5 ∧ WHq s)
/-- within a PIECE; between lines; ahead of a line's ; -/
def RAe (h : Int → Int) (z w : mZ) (x : Int) : Prop := ∃ k, RA h z w k ∧ sq h k 0 = 1 ∧ sq h k 6 = x ∧ sq h k 10 ≠ 1 ∧ sq h k 4 + sq h k 5 = 0
def RAz (h : Int → Int) (z w : mZ) : Prop := ∃ k, RA h z w k ∧ sq h k 0 = 0 ∧ CL0 (sq h k)
def RPz (h : Int → Int) (z w : mZ) : Prop := ∃ k, TKr h z w (tp h k) ∧ (tkK h (tp h k) = 3 → MR h (sq h (k + 1)) z w ∧ sq h (k + 1) 0 = 0 ∧ CL0 (sq h (k + 1))) ∧ (tkK h (tp h k) ≠ 3 → dl h (sq h k) (tp h k) = bd (sq h k) (tkK h (tp h k)) (tp h k))
def REz (h : Int → Int) (z w : mZ) : Prop := ∃ k, sq h k 0 = 20 ∧ MR h (sq h k) z w
/-- piece: behind its word -/
theorem RA_p {h : Int → Int} {z w z' w' : mZ} {k : Nat} (hc : MR h (sq h k) z w) (hm : sq h k 0 = 0) (K : tkK h (tp h k) = 6) (h10 : sq h k 10 ≠ 1) (h45 : sq h k 4 + sq h k 5 = 0) (h0 : z 225 23 ≤ 11) (fr : Fs z w z' w') (tk : TKr h z' w' (tp h (k + 1))) : RAe h z' w' 0 := by
  have a3 : z 225 23 = sq h k 3 := hc.1.1.1
  have e : sq h (k + 1) = _ := (sq_s h k).trans (a0_p1 hm K h10 (by omega))
  have n : ∀ j, j ≠ 0 → j ≠ 6 → sq h (k + 1) j = sq h k j := fun j g1 g2 => by rw [e, su_n g2, su_n g1]
  have e0 : sq h (k + 1) 0 = 1 := by rw [e, su_n (by omega), su_e]
  have e6 : sq h (k + 1) 6 = 0 := by rw [e, su_e]
  refine ⟨k + 1, ⟨tk, MR_m (fun j h1 h2 => n j (by omega) (by omega)) (fun j h1 => n j (by omega) (by omega)) ?_ (fun a i q => ?_) (fun l e q => ?_) (MR_f fr hc)⟩, e0, e6, by rw [n 10 (by omega) (by omega)]; exact h10, by rw [n 4 (by omega) (by omega), n 5 (by omega) (by omega)]; exact h45⟩
  · unfold cs; rw [e0, if_pos rfl, e6, hm, if_neg (by omega)]
  · unfold iw at q
    rw [e0, n 5 (by omega) (by omega), n (520 + a) (by omega) (by omega)] at q
    exact ⟨q.1, q.2.elim Or.inl (fun g => absurd g.2.1 (by omega))⟩
  · unfold il ED at q
    rw [e0, n 4 (by omega) (by omega), n 3 (by omega) (by omega)] at q
    exact ⟨q.1, q.2.elim Or.inl (fun g => absurd g.2.1 (by omega))⟩
/-- an EDGE -/
theorem RA_e {h : Int → Int} {z w z1 w1 z' : mZ} {k : Nat} {nu : Int} (hc : MR h (sq h k) z w) (hm : sq h k 0 = 1) (h6 : 0 ≤ sq h k 6 ∧ sq h k 6 < 3) (h10 : sq h k 10 ≠ 1) (h45 : sq h k 4 + sq h k 5 = 0) (h3 : 0 ≤ z 225 23 ∧ z 225 23 ≤ 11) (K : tkK h (tp h k) = 2) (N : nu = tkN h (tp h k)) (n0 : 0 ≤ nu ∧ nu < 18) (T2 : 0 ≤ z 230 nu.toNat ∧ z 230 nu.toNat < 2) (fr : Fs z w z1 w1) (tk : TKr h z1 w1 (tp h (k + 1)))
    (a0 : ∀ i, z' 225 i = z1 225 i) (f1 : ∀ a i, 231 ≤ a → a ≤ 234 → z' a i = z1 a i) (u1 : ∀ i : Nat, z' 229 i = if i = (3 * z 225 23 + sq h k 6).toNat then nu else z1 229 i) (u4 : ∀ e : Nat, z' 230 e = if e = nu.toNat then z1 230 e + 1 else z1 230 e) : RAe h z' w1 (sq h k 6 + 1) := by
  have a3 : z 225 23 = sq h k 3 := hc.1.1.1
  rw [a3] at h3 u1
  have e4 := hc.1.2.2.1 nu.toNat (by omega)
  have e : sq h (k + 1) = _ := (sq_s h k).trans (a1_o hm h6.2 K (by omega) (by rw [← N, ← e4]; exact T2.2))
  rw [← N] at e
  have m := MR_e hm h6 h3 n0 (by rw [← e4]; exact T2.1) a0 f1 u1 u4 (MR_f fr hc)
  rw [← e] at m
  have n : ∀ j, j ≠ 6 → j < 100 → sq h (k + 1) j = sq h k j := fun j g1 g2 => by rw [e, su_n g1, su_n (by omega), su_n (by omega)]
  exact ⟨k + 1, ⟨TKr_f (a0 _) (a0 _) (a0 _) (a0 _) rfl (a0 _) tk, m⟩, by rw [n 0 (by omega) (by omega)]; exact hm, by rw [e, su_e], by rw [n 10 (by omega) (by omega)]; exact h10, by rw [n 4 (by omega) (by omega), n 5 (by omega) (by omega)]; exact h45⟩
/-- a PIECE's end, ahead of its ; -/
theorem RP_p {h : Int → Int} {z w z' w' : mZ} (hc : RAe h z w 3) (n4 : 0 ≤ z 225 24) (n5 : 0 ≤ z 225 25) (a0 : z' 225 23 = z 225 23 + 1) (a1 : ∀ i, i ≠ 23 → z' 225 i = z 225 i) (f1 : ∀ a i, 229 ≤ a → a ≤ 234 → z' a i = z a i) (f2 : ∀ a i, w' a i = w a i) : RPz h z' w' := by
  obtain ⟨k, ⟨tk, m⟩, hm, h6, h10, h45⟩ := hc
  have b4 : z 225 24 = sq h k 4 := m.1.1.2.1
  have b5 : z 225 25 = sq h k 5 := m.1.1.2.2
  refine ⟨k, TKr_f (a1 _ (by omega)) (a1 _ (by omega)) (a1 _ (by omega)) (a1 _ (by omega)) (f2 _ _) (a1 _ (by omega)) tk, fun K => ?_, fun K => a1_sb hm (by omega) K⟩
  have e : sq h (k + 1) = _ := (sq_s h k).trans (a1_so hm (by omega) K)
  rw [e]
  refine ⟨MR_p hm h6 (by omega) a0 (fun i g1 g2 => a1 i (by omega)) f1 (fun a i _ _ => f2 a i) m, rfl, Or.inl ⟨h10, h45⟩⟩
/-- an EDGE of the reference: behind toldNumber and its two stores -/
theorem RA_e2 {h : Int → Int} {z w z1 w1 z' : mZ} {x v : Int} (hc : RAe h z w x) (hx : 0 ≤ x ∧ x < 3) (h3 : 0 ≤ z 225 23 ∧ z 225 23 ≤ 11) (hf : z 225 2 = 0) (ti : TNp h z z1 w1 v 17) (h2 : z1 225 2 = 0) (T2 : z 225 6 = 2 → z 225 8 < 18 → z 230 (z 225 8).toNat ≠ 2) (r2 : ∀ e : Nat, e < 18 → 0 ≤ z 230 e ∧ z 230 e ≤ 2) (fr : Fs z w z1 w1)
    (a0 : ∀ i, z' 225 i = z1 225 i) (f1 : ∀ a i, 231 ≤ a → a ≤ 234 → z' a i = z1 a i) (u1 : ∀ i : Nat, z' 229 i = if i = (3 * z 225 23 + x).toNat then v else z1 229 i) (u4 : ∀ e : Nat, z' 230 e = if e = v.toNat then z1 230 e + 1 else z1 230 e) : RAe h z' w1 (x + 1) := by
  obtain ⟨k, ⟨tk, m⟩, hm, h6, h10, h45⟩ := hc
  have s := TNp_s ti h2 (by omega)
  have e7 := tk.1
  rw [e7] at s
  have K := s.2.1.1
  have N := TKr_N tk K
  have nx := s.2.2.2.2.1
  rw [e7] at nx
  have t2 := T2 ((tk2 tk).mpr K) (by omega)
  have r := r2 (z 225 8).toNat (by omega)
  have ev : v = z 225 8 := by omega
  have q := RA_e (nu := v) m hm (by omega) h10 h45 h3 K (by omega) (by omega) (by rw [ev]; exact ⟨by omega, by omega⟩) fr nx a0 f1 (by rw [h6]; exact u1) u4
  rw [h6] at q
  exact q
theorem RA_eb {h : Int → Int} {z w z1 w1 : mZ} {x v : Int} (hc : RAe h z w x) (hx : x < 3) (hf : z 225 2 = 0) (ti : TNp h z z1 w1 v 17) (h2 : 0 < z1 225 2) : RF h z1 := by
  obtain ⟨k, ⟨tk, m⟩, hm, h6, h10, h45⟩ := hc
  have e7 := tk.1
  rcases TNp_b ti hf h2 with g | g
  · rw [e7] at g; exact RF_b (a1_b hm (by omega) g.1) g.2.1 g.2.2
  · rw [e7] at g; exact RF_i (f := 4) (a1_4 hm (by omega) g.1 (by omega)) (by omega) g.2.2.1 g.2.2.2
theorem RA_e3 {h : Int → Int} {z w z1 : mZ} {x : Int} (hc : RAe h z w x) (hx : x < 3) (hf : z 225 2 = 0) (wr : WRp z z1 3) (c1 : z 225 6 = 2) (c2 : z 225 8 < 18) (c3 : z 230 (z 225 8).toNat = 2) : RF h z1 := by
  obtain ⟨k, ⟨tk, m⟩, hm, h6, h10, h45⟩ := hc
  have K := (tk2 tk).mp c1
  have N := TKr_N tk K
  have g := WRp_0 wr hf tk
  rw [if_neg (by omega)] at g
  exact RF_i (f := 3) (a1_3 hm (by omega) K (by omega) (by rw [← N.1, ← m.1.2.2.1 _ (by omega)]; omega)) (by omega) g.1 g.2
theorem RAe_f {h : Int → Int} {z w z' w' : mZ} {x : Int} (hc : RAe h z w x) (a : ∀ i, 4 ≤ i → z' 225 i = z 225 i) (a9 : w' 225 9 = w 225 9) (fr : Fs z w z' w') : RAe h z' w' x := by
  obtain ⟨k, ⟨tk, m⟩, q⟩ := hc
  exact ⟨k, ⟨TKr_f (a _ (by omega)) (a _ (by omega)) (a _ (by omega)) (a _ (by omega)) a9 (a _ (by omega)) tk, MR_f fr m⟩, q⟩
theorem TNp_v {h : Int → Int} {z w z1 w1 : mZ} {x v : Int} (hc : RAe h z w x) (ti : TNp h z z1 w1 v 17) (h2 : z1 225 2 = 0) (hn : 0 ≤ z 225 2) : v = z 225 8 ∧ z 225 6 = 2 := by
  obtain ⟨k, ⟨tk, m⟩, _⟩ := hc
  have s := TNp_s ti h2 hn
  have e7 := tk.1
  rw [e7] at s
  have N := TKr_N tk s.2.1.1
  exact ⟨by omega, (tk2 tk).mpr s.2.1.1⟩
end
section
/-! the reference: LINES and WORDS -/
def OKr (h : Int → Int) (z0 z : mZ) (P : Prop) : Prop := (z 225 2 = 0 → P ∧ z 225 3 = z0 225 3 ∧ z0 225 7 < z 225 7) ∧ (0 < z 225 2 → RF h z) ∧ z0 225 7 ≤ z 225 7
def CW (s : RG) : Prop := (s 10 = 1 ∧ s 3 ≤ 12) ∧ WHq s
theorem WHq_c {s s' : RG} (h3 : s 3 ≤ 12) (e3 : s' 3 = s 3) (g : ∀ j, 100 ≤ j → j < 160 → s' j = s j) (k : WHq s) : WHq s' := by
  rw [WHm_q] at k ⊢
  rw [e3]
  exact (WHm_c (fun i hi => (g (100 + i) (by omega) (by omega)).symm) (fun e he => (g (140 + e) (by omega) (by omega)).symm)).mp k
theorem CW_c {s s' : RG} (e3 : s' 3 = s 3) (e10 : s' 10 = s 10) (g : ∀ j, 100 ≤ j → j < 160 → s' j = s j) (k : CW s) : CW s' := ⟨⟨by rw [e10]; exact k.1.1, by rw [e3]; exact k.1.2⟩, WHq_c k.1.2 e3 g k.2⟩
def RAm (h : Int → Int) (z w : mZ) (m : Int) : Prop := ∃ k, RA h z w k ∧ sq h k 0 = m ∧ sq h k 6 = 0 ∧ CW (sq h k)
def RA5 (h : Int → Int) (z w : mZ) : Prop := ∃ k, RA h z w k ∧ sq h k 0 = 5 ∧ sq h k 6 = 0 ∧ CW (sq h k) ∧ tkK h (tp h k) = 1 ∧ ¬ ∃ l : Nat, (l : Int) < sq h k 4 ∧ tkW8 h (sq h k (400 + l)) = tkW8 h (tp h k)
def RA8 (h : Int → Int) (z w : mZ) : Prop := ∃ k, RA h z w k ∧ sq h k 0 = 8 ∧ sq h k 6 = 0 ∧ CW (sq h k) ∧ tkK h (tp h k) = 1 ∧ ¬ ∃ l : Nat, (l : Int) < sq h k 5 ∧ tkW8 h (sq h k (410 + l)) = tkW8 h (tp h k)
def RAn (h : Int → Int) (z w : mZ) (m x nm : Int) : Prop := ∃ k, RA h z w k ∧ sq h k 0 = m ∧ sq h k 6 = x ∧ CW (sq h k) ∧ nm = tkW8 h (sq h k 7)
def RAf (h : Int → Int) (z w : mZ) (nm : Int) : Prop := ∃ k, RA h z w k ∧ sq h k 0 = 7 ∧ (sq h k 6 ≠ 0 ∧ ED (sq h k) ≤ sq h k 6) ∧ CW (sq h k) ∧ nm = tkW8 h (sq h k 7) ∧ (tkK h (tp h k) = 3 → FITq (sq h k))
/-- modes alone -/
theorem RA_2 {h : Int → Int} {z w z' w' : mZ} {k i : Nat} (hc : MR h (sq h k) z w) (hi : 7 ≤ i ∧ i ≤ 9) (n : ∀ j, j ≠ 0 → j ≠ i → sq h (k + 1) j = sq h k j) (h0 : sq h k 0 ≠ 1) (h0' : sq h (k + 1) 0 ≠ 1) (h6 : (10 ≤ sq h (k + 1) 0 ∧ sq h (k + 1) 0 ≤ 12) → (10 ≤ sq h k 0 ∧ sq h k 0 ≤ 12) ∨ sq h k 6 ≤ 0) (h7 : sq h (k + 1) 0 = 7 → sq h k 6 ≤ 0) (fr : Fs z w z' w') (tk : TKr h z' w' (tp h (k + 1))) : RA h z' w' (k + 1) := by
  refine ⟨tk, MR_m (fun j h1 h2 => n j (by omega) (by omega)) (fun j h1 => n j (by omega) (by omega)) ?_ (fun a j q => ?_) (fun l e q => ?_) (MR_f fr hc)⟩
  · unfold cs; rw [if_neg h0, if_neg h0']
  · unfold iw at q ⊢
    rw [n 5 (by omega) (by omega), n 6 (by omega) (by omega), n (520 + a) (by omega) (by omega)] at q
    refine ⟨q.1, q.2.elim Or.inl (fun g => ?_)⟩
    rcases h6 g.2.1 with g2 | g2
    · exact Or.inr ⟨g.1, g2, g.2.2⟩
    · have := g.2.2; omega
  · unfold il ED at q ⊢
    rw [n 4 (by omega) (by omega), n 6 (by omega) (by omega), n 3 (by omega) (by omega)] at q
    refine ⟨q.1, q.2.elim Or.inl (fun g => ?_)⟩
    have := h7 g.2.1
    have := g.2.2
    omega
/-- a line's first word -/
theorem RA_b {h : Int → Int} {z w z' w' : mZ} {k : Nat} {m : Int} (hc : MR h (sq h k) z w) (hm : sq h k 0 = 0) (e : sq h (k + 1) = su (su (su (sq h k) 0 m) 10 1) 6 0) (m1 : m = 5 ∨ m = 8) (hw : WHq (sq h k)) (h3 : z 225 23 ≤ 12) (fr : Fs z w z' w') (tk : TKr h z' w' (tp h (k + 1))) : RAm h z' w' m := by
  have n : ∀ j, j ≠ 0 → j ≠ 6 → j ≠ 10 → sq h (k + 1) j = sq h k j := fun j h1 h2 h3 => by rw [e, su_n h2, su_n h3, su_n h1]
  have e0 : sq h (k + 1) 0 = m := by rw [e, su_n (by omega), su_n (by omega), su_e]
  refine ⟨k + 1, ⟨tk, MR_m (fun j h1 h2 => n j (by omega) (by omega) (by omega)) (fun j h1 => n j (by omega) (by omega) (by omega)) ?_ (fun a j q => ?_) (fun l e q => ?_) (MR_f fr hc)⟩, e0, by rw [e, su_e], ⟨by rw [e, su_n (by omega), su_e], by rw [n 3 (by omega) (by omega) (by omega), ← hc.1.1.1]; exact h3⟩, WHq_c (by rw [← hc.1.1.1]; exact h3) (n 3 (by omega) (by omega) (by omega)) (fun j g1 g2 => n j (by omega) (by omega) (by omega)) hw⟩
  · unfold cs; rw [e0, if_neg (by omega), hm, if_neg (by omega)]
  · unfold iw at q ⊢
    rw [n 5 (by omega) (by omega) (by omega), n (520 + a) (by omega) (by omega) (by omega), e0] at q
    exact ⟨q.1, q.2.elim Or.inl (fun g => absurd g.2.1 (by omega))⟩
  · unfold il ED at q ⊢
    rw [n 4 (by omega) (by omega) (by omega), n 3 (by omega) (by omega) (by omega), e0] at q
    exact ⟨q.1, q.2.elim Or.inl (fun g => absurd g.2.1 (by omega))⟩
/-- a NAME that can't be -/
theorem OK_nb {h : Int → Int} {z0 z w z1 : mZ} {m : Int} (hc : RAm h z w m) (hm : m = 5 ∨ m = 8) (hf : z 225 2 = 0) (hk : tkK h (z 225 7) ≠ 1) (wr : WRp z z1 2) (P : Prop) (g0 : z0 225 7 ≤ z1 225 7) : OKr h z0 z1 P := by
  obtain ⟨k, ⟨tk, mm⟩, h0, _⟩ := hc
  have e7 := tk.1
  rw [e7] at hk
  have g := WRp_0 wr hf tk
  have g2 : z1 225 2 = bdc (tkK h (tp h k)) := g.1
  have b := bdc_p (tkK h (tp h k))
  refine ⟨fun q => absurd q (by omega), fun _ => ?_, g0⟩
  rcases hm with rfl | rfl
  · exact RF_b (a5_b h0 hk) g.1 g.2
  · exact RF_b (a8_b h0 hk) g.1 g.2
theorem fnl_i {W : Nat → Int} {x : Int} : ∀ m : Nat, (fnl W x m < 0 ↔ ¬ ∃ l, l < m ∧ W l = x) ∧ fnl W x m < m
  | 0 => ⟨⟨fun _ q => by obtain ⟨l, hl, _⟩ := q; omega, fun _ => by show (-1 : Int) < 0; omega⟩, by show (-1 : Int) < 0; omega⟩
  | m + 1 => by
    have ih := fnl_i (W := W) (x := x) m
    have e : fnl W x (m + 1) = if W m = x then (m : Int) else fnl W x m := rfl
    by_cases c : W m = x
    · rw [e, if_pos c]
      exact ⟨⟨fun q => by omega, fun q => absurd ⟨m, by omega, c⟩ q⟩, by omega⟩
    · rw [e, if_neg c]
      refine ⟨ih.1.trans ⟨fun q r => ?_, fun q r => ?_⟩, by have := ih.2; omega⟩
      · obtain ⟨l, hl, hw⟩ := r
        by_cases d : l = m
        · rw [d] at hw; exact c hw
        · exact q ⟨l, by omega, hw⟩
      · obtain ⟨l, hl, hw⟩ := r
        exact q ⟨l, by omega, hw⟩
theorem fnl_c {W W' : Nat → Int} {x : Int} : ∀ m : Nat, (∀ l, l < m → W l = W' l) → fnl W x m = fnl W' x m
  | 0, _ => rfl
  | m + 1, e => by
    show (if W m = x then (m : Int) else fnl W x m) = (if W' m = x then (m : Int) else fnl W' x m)
    rw [e m (by omega), fnl_c m (fun l hl => e l (by omega))]
/-- the LINE of a name, as the reference finds it -/
theorem fn_r {h : Int → Int} {z w : mZ} {k : Nat} (tk : TKr h z w (tp h k)) (m : MR h (sq h k) z w) (K : tkK h (tp h k) = 1) (n4 : 0 ≤ z 225 24) : fnl (w 227) (w 225 9) (z 225 24).toNat = fnq h (sq h k) (tp h k) := by
  rw [TKr_W tk K, m.1.1.2.1]
  exact fnl_c _ (fun l hl => m.2.1.2.1 l (by have := m.1.1.2.1; omega))
theorem OK_n3 {h : Int → Int} {z0 z w z1 : mZ} (hc : RAm h z w 5) (hf : z 225 2 = 0) (hk : tkK h (z 225 7) = 1) (n4 : 0 ≤ z 225 24) (v0 : 0 ≤ fnl (w 227) (w 225 9) (z 225 24).toNat) (wr : WRp z z1 3) (P : Prop) (g0 : z0 225 7 ≤ z1 225 7) : OKr h z0 z1 P := by
  obtain ⟨k, ⟨tk, m⟩, h0, _⟩ := hc
  have e7 := tk.1
  rw [e7] at hk
  have g := WRp_0 wr hf tk
  rw [if_neg (by omega)] at g
  rw [fn_r tk m hk n4] at v0
  refine ⟨fun q => absurd q (by omega), fun _ => RF_i (f := 3) (a5_3 h0 hk ?_) (by omega) g.1 g.2, g0⟩
  have i := (fnl_i (W := fun l => tkW8 h (sq h k (400 + l))) (x := tkW8 h (tp h k)) (sq h k 4).toNat).1
  have v1 : 0 ≤ fnl (fun l => tkW8 h (sq h k (400 + l))) (tkW8 h (tp h k)) (sq h k 4).toNat := v0
  have j := Classical.byContradiction (fun q => absurd (i.mpr q) (by omega))
  obtain ⟨l, hl, e⟩ := j
  exact ⟨l, by omega, e⟩
theorem RA5_i {h : Int → Int} {z w : mZ} (hc : RAm h z w 5) (hk : tkK h (z 225 7) = 1) (n4 : 0 ≤ z 225 24) (v0 : fnl (w 227) (w 225 9) (z 225 24).toNat < 0) : RA5 h z w := by
  obtain ⟨k, ⟨tk, m⟩, h0, h6, h10⟩ := hc
  have e7 := tk.1
  rw [e7] at hk
  rw [fn_r tk m hk n4] at v0
  refine ⟨k, ⟨tk, m⟩, h0, h6, h10, hk, fun q => ?_⟩
  obtain ⟨l, hl, e⟩ := q
  exact ((fnl_i (W := fun l => tkW8 h (sq h k (400 + l))) (x := tkW8 h (tp h k)) (sq h k 4).toNat).1.mp v0) ⟨l, by omega, e⟩
/-- behind a NAME -/
theorem RA5_n {h : Int → Int} {z w z' w' : mZ} (hc : RA5 h z w) (fr : Fs z w z' w') (tt : TKr h z' w' (ups h isB (z 225 4))) : RAn h z' w' 6 0 (w 225 9) := by
  obtain ⟨k, ⟨tk, m⟩, h0, h6, h10, K, nd⟩ := hc
  have e : sq h (k + 1) = _ := (sq_s h k).trans (a5_o h0 K nd)
  have e0 : sq h (k + 1) 0 = 6 := by rw [e, su_n (by omega), su_e]
  refine ⟨k + 1, RA_2 (i := 7) m (by omega) (fun j g1 g2 => by rw [e, su_n g2, su_n g1]) (by omega) (by omega) (by omega) (by omega) fr (by rw [tp_s, ← (TKr_E tk (by omega) (by omega)).1]; exact tt), e0, by rw [e, su_n (by omega), su_n (by omega)]; exact h6, CW_c (by rw [e, su_n (by omega), su_n (by omega)]) (by rw [e, su_n (by omega), su_n (by omega)]) (fun j g1 g2 => by rw [e, su_n (by omega), su_n (by omega)]) h10, by rw [e, su_e]; exact TKr_W tk K⟩
theorem RA8_n {h : Int → Int} {z w z' w' : mZ} (hc : RA8 h z w) (fr : Fs z w z' w') (tt : TKr h z' w' (ups h isB (z 225 4))) : RAn h z' w' 9 0 (w 225 9) := by
  obtain ⟨k, ⟨tk, m⟩, h0, h6, h10, K, nd⟩ := hc
  have e : sq h (k + 1) = _ := (sq_s h k).trans (a8_o h0 K nd)
  have e0 : sq h (k + 1) 0 = 9 := by rw [e, su_n (by omega), su_e]
  refine ⟨k + 1, RA_2 (i := 7) m (by omega) (fun j g1 g2 => by rw [e, su_n g2, su_n g1]) (by omega) (by omega) (by omega) (by omega) fr (by rw [tp_s, ← (TKr_E tk (by omega) (by omega)).1]; exact tt), e0, by rw [e, su_n (by omega), su_n (by omega)]; exact h6, CW_c (by rw [e, su_n (by omega), su_n (by omega)]) (by rw [e, su_n (by omega), su_n (by omega)]) (fun j g1 g2 => by rw [e, su_n (by omega), su_n (by omega)]) h10, by rw [e, su_e]; exact TKr_W tk K⟩
/-- of, is -/
theorem OK_w {h : Int → Int} {z0 z w z' w' : mZ} {m a nm : Int} (hc : OKr h z0 z (RAn h z w m 0 nm)) (hm : (m = 6 ∧ a = 28518) ∨ (m = 9 ∧ a = 26995)) (n2 : 0 ≤ z 225 2) (n2' : 0 ≤ z' 225 2) (wt : WTp h z z' w' (kcd a)) (fr : Fs z w z' w') : OKr h z0 z' (RAn h z' w' (m + 1) 0 nm) := by
  have gg := WTp_g wt
  refine ⟨fun q => ?_, fun q => ?_, by have := hc.2.2; omega⟩
  · obtain ⟨s0, sK, sn⟩ := WTp_s wt q n2
    obtain ⟨c, c3, c7⟩ := hc.1 s0
    obtain ⟨k, ⟨tk, mm⟩, h0, h6, h10, hn⟩ := c
    have e7 := tk.1
    have sn3 := sn.2.1
    have sn7 := sn.2.2.2
    have sn4 := sn.2.2.1
    rw [e7] at sK sn4
    refine ⟨?_, by omega, by omega⟩
    rcases hm with ⟨rfl, rfl⟩ | ⟨rfl, rfl⟩
    · have sK : tkK h (tp h k) = 8 := sK
      have e : sq h (k + 1) = _ := (sq_s h k).trans (a6_o h0 sK)
      have n : ∀ j, j ≠ 0 → sq h (k + 1) j = sq h k j := fun j g => by rw [e, su_n g]
      have e0 : sq h (k + 1) 0 = 7 := by rw [e, su_e]
      exact ⟨k + 1, RA_2 (i := 7) mm (by omega) (fun j g1 _ => n j g1) (by omega) (by omega) (by omega) (by omega) fr sn4, e0, by rw [n 6 (by omega)]; exact h6, CW_c (n 3 (by omega)) (n 10 (by omega)) (fun j g1 g2 => n j (by omega)) h10, by rw [n 7 (by omega)]; exact hn⟩
    · have sK : tkK h (tp h k) = 10 := sK
      have e : sq h (k + 1) = _ := (sq_s h k).trans (a9_o h0 sK)
      have n : ∀ j, j ≠ 0 → sq h (k + 1) j = sq h k j := fun j g => by rw [e, su_n g]
      have e0 : sq h (k + 1) 0 = 10 := by rw [e, su_e]
      exact ⟨k + 1, RA_2 (i := 7) mm (by omega) (fun j g1 _ => n j g1) (by omega) (by omega) (by omega) (by omega) fr sn4, e0, by rw [n 6 (by omega)]; exact h6, CW_c (n 3 (by omega)) (n 10 (by omega)) (fun j g1 g2 => n j (by omega)) h10, by rw [n 7 (by omega)]; exact hn⟩
  · by_cases c : z 225 2 = 0
    · obtain ⟨c1, _, _⟩ := hc.1 c
      obtain ⟨k, ⟨tk, mm⟩, h0, _⟩ := c1
      have b := WTp_b wt c q
      have e7 := tk.1
      rw [e7] at b
      rcases hm with ⟨rfl, rfl⟩ | ⟨rfl, rfl⟩
      · exact RF_b (a6_b h0 b.1) b.2.1 b.2.2
      · exact RF_b (a9_b h0 b.1) b.2.1 b.2.2
    · have f := WTp_f wt (by omega)
      exact RF_f f.1 f.2 (hc.2.1 (by omega))
theorem RAn_t {h : Int → Int} {z w : mZ} {m x nm : Int} (hc : RAn h z w m x nm) : TKr h z w (z 225 7) := by
  obtain ⟨k, ⟨tk, _⟩, _⟩ := hc
  rw [tk.1]; exact tk
/-- no EDGES: no LINE -/
theorem OK_0 {h : Int → Int} {z0 z w z1 : mZ} {nm : Int} (hc : OKr h z0 z (RAn h z w 7 0 nm)) (hf : z 225 2 = 0) (hE : 3 * z 225 23 / 2 = 0) (wr : WRp z z1 2) (P : Prop) (g0 : z1 225 7 = z 225 7) : OKr h z0 z1 P := by
  obtain ⟨⟨k, ⟨tk, m⟩, h0, h6, h10, hn⟩, c3, c7⟩ := hc.1 hf
  have g := WRp_0 wr hf tk
  have b : z1 225 2 = bdc (tkK h (tp h k)) := g.1
  have bp := bdc_p (tkK h (tp h k))
  have e3 : z 225 23 = sq h k 3 := m.1.1.1
  have eD : ED (sq h k) = 0 := by show 3 * sq h k 3 / 2 = 0; omega
  refine ⟨fun q => absurd q (by omega), fun _ => ?_, by omega⟩
  by_cases c : tkK h (tp h k) = 2
  · exact RF_b (a7_nb h0 c (by omega)) g.1 g.2
  · by_cases d : tkK h (tp h k) = 3
    · exact RF_b (a7_sb h0 d (Or.inl h6)) g.1 g.2
    · exact RF_b (a7_b h0 ⟨c, d⟩) g.1 g.2
/-- a number of a LINE -/
theorem OK_n {h : Int → Int} {z0 z w z1 w1 z' : mZ} {x v nm : Int} (hc : OKr h z0 z (RAn h z w 7 x nm)) (hf : z 225 2 = 0) (hx : 0 ≤ x ∧ x < 3 * z 225 23 / 2) (h3 : z 225 23 ≤ 12) (h4 : 0 ≤ z 225 24 ∧ z 225 24 ≤ 7) (ti : TNp h z z1 w1 v 99) (n2 : 0 ≤ z1 225 2) (fr : Fs z w z1 w1) (a0 : ∀ i, z' 225 i = z1 225 i) (u : ∀ i : Nat, z' 231 i = if i = (18 * z 225 24 + x).toNat then v else z1 231 i) (f1 : ∀ a i, 229 ≤ a → a ≤ 234 → a ≠ 231 → z' a i = z1 a i) : OKr h z0 z' (RAn h z' w1 7 (x + 1) nm) := by
  obtain ⟨⟨k, ⟨tk, m⟩, h0, h6, h10, hn⟩, c3, c7⟩ := hc.1 hf
  have e3 : z 225 23 = sq h k 3 := m.1.1.1
  have e4 : z 225 24 = sq h k 4 := m.1.1.2.1
  have e7 := tk.1
  have gg := TNp_g ti
  have eD : ED (sq h k) = 3 * z 225 23 / 2 := by rw [e3]
  have a2 := a0 2
  have a3 := a0 3
  have a7 := a0 7
  refine ⟨fun q => ?_, fun q => ?_, by omega⟩
  · have s := TNp_s ti (by omega) (by omega)
    have sn := s.2.2
    have sn3 := sn.2.1
    have sn7 := sn.2.2.2
    have sn4 := sn.2.2.1
    have sk := s.2.1
    rw [e7] at sk sn4
    have e : sq h (k + 1) = _ := (sq_s h k).trans (a7_n h0 sk.1 (by omega) (by omega))
    rw [← sk.2.2.2] at e
    have mm := MR_n (z' := z') (w' := w1) (nu := v) h0 (by omega) (by omega) (fun i g1 g2 => a0 i) (by rw [← e4, h6]; exact u) f1 (fun _ _ _ _ => rfl) (MR_f fr m)
    rw [← e] at mm
    have n : ∀ j, j ≠ 6 → j < 200 → sq h (k + 1) j = sq h k j := fun j g1 g2 => by rw [e, su_n g1, su_n (by omega)]
    exact ⟨⟨k + 1, ⟨TKr_f (a0 _) (a0 _) (a0 _) (a0 _) rfl (a0 _) sn4, mm⟩, by rw [n 0 (by omega) (by omega)]; exact h0, by rw [e, su_e, h6], CW_c (n 3 (by omega) (by omega)) (n 10 (by omega) (by omega)) (fun j g1 g2 => n j (by omega) (by omega)) h10, by rw [n 7 (by omega) (by omega)]; exact hn⟩, by omega, by omega⟩
  · refine RF_f (z := z1) a2 a3 ?_
    rcases TNp_b ti hf (by omega) with g | g
    · rw [e7] at g
      by_cases d : tkK h (tp h k) = 3
      · exact RF_b (a7_sb h0 d (Or.inr (by omega))) g.2.1 g.2.2
      · exact RF_b (a7_b h0 ⟨g.1, d⟩) g.2.1 g.2.2
    · rw [e7] at g
      exact RF_i (f := 4) (a7_4 h0 g.1 (by omega) g.2.1) (by omega) g.2.2.1 g.2.2.2
theorem OK_nf {h : Int → Int} {z0 z w z' w' : mZ} {P Q : Prop} (hc : OKr h z0 z P) (a2 : z' 225 2 = z 225 2) (a3 : z' 225 3 = z 225 3) (a7 : z' 225 7 = z 225 7) (pq : z 225 2 = 0 → P → Q) : OKr h z0 z' Q := by
  refine ⟨fun q => ?_, fun q => RF_f a2 a3 (hc.2.1 (by omega)), by have := hc.2.2; omega⟩
  have c := hc.1 (by omega)
  exact ⟨pq (by omega) c.1, by omega, by omega⟩
theorem OK_p {h : Int → Int} {z0 z : mZ} {P Q : Prop} (hc : OKr h z0 z P) (pq : z 225 2 = 0 → P → Q) : OKr h z0 z Q := OK_nf (w := fun _ _ => 0) (w' := fun _ _ => 0) hc rfl rfl rfl pq
/-- a told EDGE is one of the ground, once it is WHOLE -/
theorem TI_w {s : RG} (k : TI s) (hw : WHq s) (h3 : s 3 ≤ 12) (i : Nat) (hi : (i : Int) < 3 * s 3) (hc : cs s = 0) : 0 ≤ s (100 + i) ∧ s (100 + i) < ED s := by
  have q := k i (by omega) (by omega)
  refine ⟨q.1.1, ?_⟩
  apply Classical.byContradiction
  intro c
  have e := hw.2.1 (s (100 + i)).toNat (by omega)
  rw [if_neg (by omega)] at e
  omega
/-- whether the numbers FIT -/
theorem FIT_r {h : Int → Int} {z w : mZ} {k : Nat} (m : MR h (sq h k) z w) (h0 : sq h k 0 = 7) (h6 : ED (sq h k) ≤ sq h k 6) (h3 : z 225 23 ≤ 12) (h4 : 0 ≤ z 225 24 ∧ z 225 24 ≤ 7) (hw : WHq (sq h k)) : FITq (sq h k) ↔ ∀ q : Nat, (q : Int) < z 225 23 → tri (z 231 (18 * z 225 24 + z 229 (3 * q)).toNat) (z 231 (18 * z 225 24 + z 229 (3 * q + 1)).toNat) (z 231 (18 * z 225 24 + z 229 (3 * q + 2)).toNat) := by
  have e3 : z 225 23 = sq h k 3 := m.1.1.1
  have e4 : z 225 24 = sq h k 4 := m.1.1.2.1
  have c0 : cs (sq h k) = 0 := if_neg (by omega)
  have eD : ED (sq h k) = 3 * z 225 23 / 2 := by rw [e3]
  have E : ∀ i : Nat, (i : Int) < 3 * z 225 23 → nmq (sq h k) i = z 231 (18 * z 225 24 + z 229 i).toNat := fun i hi => by
    have e := m.1.2.1 i (by omega) (by omega)
    have b := TI_w m.1.2.2.2 hw (by omega) i (by omega) c0
    rw [← e] at b
    unfold nmq
    rw [← e, ← e4]
    have r := m.2.1.1 (z 225 24).toNat (z 229 i).toNat ⟨⟨by omega, by omega⟩, Or.inr ⟨by omega, h0, by omega⟩⟩
    rw [show (18 * z 225 24 + z 229 i).toNat = 18 * (z 225 24).toNat + (z 229 i).toNat by omega]
    exact r.symm
  unfold FITq
  rw [← e3]
  constructor
  · intro g q hq
    have := g q hq
    rw [E _ (by omega), E _ (by omega), E _ (by omega)] at this
    exact this
  · intro g q hq
    rw [E _ (by omega), E _ (by omega), E _ (by omega)]
    exact g q hq
/-- ahead of a LINE's ; -/
theorem RAf_i {h : Int → Int} {z w : mZ} {x nm : Int} (hc : RAn h z w 7 x nm) (hx : 3 * z 225 23 / 2 ≤ x ∧ x ≠ 0) (h4 : 0 ≤ z 225 24 ∧ z 225 24 ≤ 7) (hf : z 225 6 ≠ 59 ∨ ∀ q : Nat, (q : Int) < z 225 23 → tri (z 231 (18 * z 225 24 + z 229 (3 * q)).toNat) (z 231 (18 * z 225 24 + z 229 (3 * q + 1)).toNat) (z 231 (18 * z 225 24 + z 229 (3 * q + 2)).toNat)) : RAf h z w nm := by
  obtain ⟨k, ⟨tk, m⟩, h0, h6, h10, hn⟩ := hc
  have e3 : z 225 23 = sq h k 3 := m.1.1.1
  have eD : ED (sq h k) = 3 * z 225 23 / 2 := by rw [e3]
  refine ⟨k, ⟨tk, m⟩, h0, ⟨by omega, by omega⟩, h10, hn, fun K => ?_⟩
  rcases hf with g | g
  · exact absurd ((tk3 tk).mpr K) g
  · exact (FIT_r m h0 (by omega) (by have := h10.1.2; omega) h4 h10.2).mpr g
theorem OK_f6 {h : Int → Int} {z0 z w z1 : mZ} {x nm : Int} (hc : OKr h z0 z (RAn h z w 7 x nm)) (hf0 : z 225 2 = 0) (hx : 3 * z 225 23 / 2 ≤ x ∧ x ≠ 0) (h4 : 0 ≤ z 225 24 ∧ z 225 24 ≤ 7) (h59 : z 225 6 = 59) (hf : ¬ ∀ q : Nat, (q : Int) < z 225 23 → tri (z 231 (18 * z 225 24 + z 229 (3 * q)).toNat) (z 231 (18 * z 225 24 + z 229 (3 * q + 1)).toNat) (z 231 (18 * z 225 24 + z 229 (3 * q + 2)).toNat)) (wr : WRp z z1 6) (P : Prop) (g0 : z1 225 7 = z 225 7) : OKr h z0 z1 P := by
  obtain ⟨⟨k, ⟨tk, m⟩, h0, h6, h10, hn⟩, c3, c7⟩ := hc.1 hf0
  have e3 : z 225 23 = sq h k 3 := m.1.1.1
  have eD : ED (sq h k) = 3 * z 225 23 / 2 := by rw [e3]
  have K := (tk3 tk).mp h59
  have g := WRp_0 wr hf0 tk
  rw [if_neg (by omega)] at g
  refine ⟨fun q => absurd q (by omega), fun _ => RF_i (f := 6) (a7_f h0 K ⟨by omega, by omega⟩ (fun F => hf ((FIT_r m h0 (by omega) (by have := h10.1.2; omega) h4 h10.2).mp F))) (by omega) g.1 g.2, by omega⟩
theorem RP_l {h : Int → Int} {z w z' w' : mZ} {nm : Int} (hc : RAf h z w nm) (h4 : 0 ≤ z 225 24 ∧ z 225 24 ≤ 7) (n5 : 0 ≤ z 225 25) (a0 : z' 225 24 = z 225 24 + 1) (a1 : ∀ i, i ≠ 24 → z' 225 i = z 225 i) (f1 : ∀ a i, 229 ≤ a → a ≤ 234 → z' a i = z a i) (u : ∀ e : Nat, w' 227 e = if e = (z 225 24).toNat then nm else w 227 e) (f2 : ∀ a i, a ≠ 227 → w' a i = w a i) : RPz h z' w' := by
  obtain ⟨k, ⟨tk, m⟩, h0, h6, h10, hn, hF⟩ := hc
  have b4 : z 225 24 = sq h k 4 := m.1.1.2.1
  have b5 : z 225 25 = sq h k 5 := m.1.1.2.2
  refine ⟨k, TKr_f (a1 _ (by omega)) (a1 _ (by omega)) (a1 _ (by omega)) (a1 _ (by omega)) (f2 _ _ (by omega)) (a1 _ (by omega)) tk, fun K => ?_, fun K => ?_⟩
  · have e : sq h (k + 1) = _ := (sq_s h k).trans (a7_o h0 K h6 (hF K))
    rw [e]
    rw [b4] at u
    rw [hn] at u
    have n : ∀ j, j ≠ 6 → j ≠ 0 → j ≠ 4 → (j < 400 ∨ 408 ≤ j) → fin7 (sq h k) j = sq h k j := fun j g1 g2 g3 g4 => by unfold fin7; rw [su_n g2, su_n g1, su_n g3, su_n (by omega)]
    refine ⟨MR_l h0 (by omega) h6.2 a0 (a1 _ (by omega)) (a1 _ (by omega)) f1 u (fun i => f2 _ _ (by omega)) m, rfl, Or.inr ⟨?_, ?_, ?_⟩⟩
    · rw [n 10 (by omega) (by omega) (by omega) (by omega)]; exact h10.1.1
    · rw [n 5 (by omega) (by omega) (by omega) (by omega), show fin7 (sq h k) 4 = sq h k 4 + 1 from rfl]; omega
    · exact WHq_c h10.1.2 (n 3 (by omega) (by omega) (by omega) (by omega)) (fun j g1 g2 => n j (by omega) (by omega) (by omega) (by omega)) h10.2
  · by_cases c : tkK h (tp h k) = 2
    · exact a7_nb h0 c h6.2
    · exact a7_b h0 ⟨c, K⟩
end
section
/-! the reference: TWISTS -/
def TMq (h : Int → Int) (p q m : Int) : Prop := (m = 0 ∧ q = p ∧ tkK h p ≠ 4) ∨ (m = 1 ∧ tkK h p = 4 ∧ q = ups h isB (tkE h p))
def TM3 (h : Int → Int) (z0 z w : mZ) (v q m : Int) : Prop := (tkK h q ≠ 2 ∧ z 225 2 = bdc (tkK h q) ∧ z 225 3 = q) ∨ (tkK h q = 2 ∧ (tkN h q = 0 ∨ 9 < tkN h q) ∧ z 225 2 = 4 ∧ z 225 3 = z0 225 7) ∨ (tkK h q = 2 ∧ (tkN h q ≠ 0 ∧ tkN h q ≤ 9 ∧ 0 ≤ tkN h q) ∧ v = (if m = 1 then -tkN h q else tkN h q) ∧ z 225 2 = 0 ∧ z 225 3 = z0 225 3 ∧ TKr h z w (ups h isB (tkE h q)) ∧ z0 225 7 < z 225 7)
def TMp (h : Int → Int) (z0 z w : mZ) (v : Int) : Prop := ((0 < z0 225 2 ∧ SMs z0 z) ∨ (z0 225 2 = 0 ∧ ∃ q m, TMq h (z0 225 7) q m ∧ TM3 h z0 z w v q m)) ∧ z0 225 7 ≤ z 225 7
def RAt (h : Int → Int) (z w : mZ) (x nm l : Int) : Prop := ∃ k, RA h z w k ∧ sq h k 0 = 11 ∧ sq h k 6 = x ∧ CW (sq h k) ∧ nm = tkW8 h (sq h k 7) ∧ sq h k 8 = l
theorem RA8_i {h : Int → Int} {z w : mZ} (hc : RAm h z w 8) (hk : tkK h (z 225 7) = 1) (nd : ∀ i : Nat, (i : Int) < z 225 25 → w 228 i ≠ w 225 9) : RA8 h z w := by
  obtain ⟨k, ⟨tk, m⟩, h0, h6, h10⟩ := hc
  have e7 := tk.1
  rw [e7] at hk
  refine ⟨k, ⟨tk, m⟩, h0, h6, h10, hk, fun q => ?_⟩
  obtain ⟨l, hl, e⟩ := q
  have b5 : z 225 25 = sq h k 5 := m.1.1.2.2
  exact nd l (by omega) (by rw [m.2.1.2.2 l hl, TKr_W tk hk]; exact e)
theorem OK_w3 {h : Int → Int} {z0 z w z1 : mZ} (hc : RAm h z w 8) (hf : z 225 2 = 0) (hk : tkK h (z 225 7) = 1) (hd : ¬ ∀ i : Nat, (i : Int) < z 225 25 → w 228 i ≠ w 225 9) (wr : WRp z z1 3) (P : Prop) (g0 : z0 225 7 ≤ z1 225 7) : OKr h z0 z1 P := by
  obtain ⟨k, ⟨tk, m⟩, h0, _⟩ := hc
  have e7 := tk.1
  rw [e7] at hk
  have g := WRp_0 wr hf tk
  rw [if_neg (by omega)] at g
  have b5 : z 225 25 = sq h k 5 := m.1.1.2.2
  refine ⟨fun q => absurd q (by omega), fun _ => RF_i (f := 3) (a8_3 h0 hk ?_) (by omega) g.1 g.2, g0⟩
  apply Classical.byContradiction
  intro c
  exact hd (fun i hi e => c ⟨i, by omega, by rw [← m.2.1.2.2 i (by omega), e]; exact TKr_W tk hk⟩)
theorem OK_t2 {h : Int → Int} {z0 z w z1 : mZ} {x nm : Int} (hc : OKr h z0 z (RAn h z w 10 x nm)) (hf : z 225 2 = 0) (c : tkK h (z 225 7) ≠ 1 ∨ x = 8) (d : x = 0 ∨ z 225 6 = 1) (wr : WRp z z1 2) (P : Prop) (g0 : z1 225 7 = z 225 7) : OKr h z0 z1 P := by
  obtain ⟨⟨k, ⟨tk, m⟩, h0, h6, h10, hn⟩, c3, c7⟩ := hc.1 hf
  have e7 := tk.1
  rw [e7] at c
  have g := WRp_0 wr hf tk
  have b : z1 225 2 = bdc (tkK h (tp h k)) := g.1
  have bp := bdc_p (tkK h (tp h k))
  have k1 := tk1 tk
  exact ⟨fun q => absurd q (by omega), fun _ => RF_b (a10_b h0 (by rcases d with d | d; (exact Or.inr (by omega)); (have := k1.mp d; exact Or.inl (by omega))) (by omega)) g.1 g.2, by omega⟩
theorem OK_t5 {h : Int → Int} {z0 z w z1 : mZ} {x nm : Int} (hc : OKr h z0 z (RAn h z w 10 x nm)) (hf : z 225 2 = 0) (K : tkK h (z 225 7) = 1) (hx : x < 8) (n4 : 0 ≤ z 225 24) (v0 : fnl (w 227) (w 225 9) (z 225 24).toNat < 0) (wr : WRp z z1 5) (P : Prop) (g0 : z1 225 7 = z 225 7) : OKr h z0 z1 P := by
  obtain ⟨⟨k, ⟨tk, m⟩, h0, h6, h10, hn⟩, c3, c7⟩ := hc.1 hf
  have e7 := tk.1
  rw [e7] at K
  have g := WRp_0 wr hf tk
  rw [if_neg (by omega)] at g
  rw [fn_r tk m K n4] at v0
  exact ⟨fun q => absurd q (by omega), fun _ => RF_i (f := 5) (a10_5 h0 K (by omega) v0) (by omega) g.1 g.2, by omega⟩
theorem RAt_i {h : Int → Int} {z w z' w' : mZ} {x nm : Int} (hc : RAn h z w 10 x nm) (K : tkK h (z 225 7) = 1) (hx : x < 8) (n4 : 0 ≤ z 225 24) (v0 : 0 ≤ fnl (w 227) (w 225 9) (z 225 24).toNat) (fr : Fs z w z' w') (tt : TKr h z' w' (ups h isB (z 225 4))) : RAt h z' w' x nm (fnl (w 227) (w 225 9) (z 225 24).toNat) := by
  obtain ⟨k, ⟨tk, m⟩, h0, h6, h10, hn⟩ := hc
  have e7 := tk.1
  rw [e7] at K
  rw [fn_r tk m K n4] at v0 ⊢
  have e : sq h (k + 1) = _ := (sq_s h k).trans (a10_o h0 K (by omega) v0)
  have n : ∀ j, j ≠ 0 → j ≠ 8 → sq h (k + 1) j = sq h k j := fun j g1 g2 => by rw [e, su_n g1, su_n g2]
  have e0 : sq h (k + 1) 0 = 11 := by rw [e, su_e]
  exact ⟨k + 1, RA_2 (i := 8) m (by omega) n (by omega) (by omega) (fun _ => Or.inl ⟨by omega, by omega⟩) (by omega) fr (by rw [tp_s, ← (TKr_E tk (by omega) (by omega)).1]; exact tt), e0, by rw [n 6 (by omega) (by omega)]; exact h6, CW_c (n 3 (by omega) (by omega)) (n 10 (by omega) (by omega)) (fun j g1 g2 => n j (by omega) (by omega)) h10, by rw [n 7 (by omega) (by omega)]; exact hn, by rw [e, su_n (by omega), su_e]⟩
theorem RAt_t {h : Int → Int} {z w : mZ} {x nm l : Int} (hc : RAt h z w x nm l) : TKr h z w (z 225 7) := by
  obtain ⟨k, ⟨tk, _⟩, _⟩ := hc
  rw [tk.1]; exact tk
/-- the two ways of V: the state at its number -/
theorem RAt_q {h : Int → Int} {z w : mZ} {x nm l q m : Int} (hc : RAt h z w x nm l) (tq : TMq h (z 225 7) q m) : ∃ k, tp h k = q ∧ MR h (sq h k) z w ∧ ((m = 0 ∧ sq h k 0 = 11 ∧ tp h k = z 225 7 ∧ tkK h q ≠ 4) ∨ (m = 1 ∧ sq h k 0 = 12 ∧ sq h k 9 = z 225 7)) ∧ sq h k 6 = x ∧ CW (sq h k) ∧ nm = tkW8 h (sq h k 7) ∧ sq h k 8 = l := by
  obtain ⟨k, ⟨tk, mm⟩, h0, h6, h10, hn, h8⟩ := hc
  have e7 := tk.1
  rw [e7] at tq
  rcases tq with ⟨m0, qp, kp⟩ | ⟨m1, kp, qp⟩
  · exact ⟨k, qp.symm, mm, Or.inl ⟨m0, h0, e7.symm, by rw [qp]; exact kp⟩, h6, h10, hn, h8⟩
  · have e : sq h (k + 1) = _ := (sq_s h k).trans (a11_m h0 kp)
    have n : ∀ j, j ≠ 0 → j ≠ 9 → sq h (k + 1) j = sq h k j := fun j g1 g2 => by rw [e, su_n g1, su_n g2]
    have e0 : sq h (k + 1) 0 = 12 := by rw [e, su_e]
    refine ⟨k + 1, by rw [tp_s]; exact qp.symm, ?_, Or.inr ⟨m1, e0, by rw [e, su_n (by omega), su_e]; exact e7.symm⟩, by rw [n 6 (by omega) (by omega)]; exact h6, CW_c (n 3 (by omega) (by omega)) (n 10 (by omega) (by omega)) (fun j g1 g2 => n j (by omega) (by omega)) h10, by rw [n 7 (by omega) (by omega)]; exact hn, by rw [n 8 (by omega) (by omega)]; exact h8⟩
    refine MR_m (fun j h1 h2 => n j (by omega) (by omega)) (fun j h1 => n j (by omega) (by omega)) ?_ (fun a j q => ?_) (fun l e q => ?_) mm
    · unfold cs; rw [if_neg (by omega), if_neg (by omega)]
    · unfold iw at q ⊢
      rw [n 5 (by omega) (by omega), n 6 (by omega) (by omega), n (520 + a) (by omega) (by omega)] at q
      exact ⟨q.1, q.2.elim Or.inl (fun g => Or.inr ⟨g.1, by omega, g.2.2⟩)⟩
    · unfold il ED at q ⊢
      rw [n 4 (by omega) (by omega), n 6 (by omega) (by omega), n 3 (by omega) (by omega)] at q
      exact ⟨q.1, q.2.elim Or.inl (fun g => absurd g.2.1 (by omega))⟩
/-- a fault in V -/
theorem OK_tf {h : Int → Int} {z0 z w z1 w1 : mZ} {x nm l v : Int} (hc : OKr h z0 z (RAt h z w x nm l)) (n2 : 0 ≤ z 225 2) (ti : TMp h z z1 w1 v) (h2 : 0 < z1 225 2) (P : Prop) : OKr h z0 z1 P := by
  refine ⟨fun q => absurd q (by omega), fun _ => ?_, by have := hc.2.2; have := ti.2; omega⟩
  rcases ti.1 with g | ⟨g, q, m, tq, t3⟩
  · exact RF_f g.2.1 g.2.2.1 (hc.2.1 g.1)
  · obtain ⟨c, _, _⟩ := hc.1 g
    obtain ⟨k, eq, _, hm, _⟩ := RAt_q c tq
    rw [← eq] at t3 hm
    rcases t3 with t | t | t
    · rcases hm with hm | hm
      · exact RF_b (a11_b hm.2.1 ⟨hm.2.2.2, t.1⟩) t.2.1 t.2.2
      · exact RF_b (a12_b hm.2.1 t.1) t.2.1 t.2.2
    · rcases hm with hm | hm
      · exact RF_i (f := 4) (a11_4 hm.2.1 t.1 t.2.1) (by omega) t.2.2.1 (by rw [t.2.2.2]; exact hm.2.2.1.symm)
      · exact RF_i (f := 4) (a12_4 hm.2.1 t.1 t.2.1) (by omega) t.2.2.1 (by rw [t.2.2.2]; exact hm.2.2.symm)
    · have := t.2.2.2.1; omega
/-- a TWIST -/
theorem OK_tm {h : Int → Int} {z0 z w z1 w1 z' : mZ} {x nm l v : Int} (hc : OKr h z0 z (RAt h z w x nm l)) (n2 : 0 ≤ z 225 2) (hx : 0 ≤ x ∧ x ≤ 7) (h4 : z 225 24 ≤ 8) (h5 : 0 ≤ z 225 25 ∧ z 225 25 ≤ 5) (ti : TMp h z z1 w1 v) (h2 : z1 225 2 = 0) (fr : Fs z w z1 w1) (a0 : ∀ i, z' 225 i = z1 225 i) (f1 : ∀ a i, 229 ≤ a → a ≤ 234 → a ≠ 232 → a ≠ 233 → z' a i = z1 a i) (u1 : ∀ i : Nat, z' 232 i = if i = (8 * z 225 25 + x).toNat then l else z1 232 i) (u2 : ∀ i : Nat, z' 233 i = if i = (8 * z 225 25 + x).toNat then v else z1 233 i) : OKr h z0 z' (RAn h z' w1 10 (x + 1) nm) := by
  have a2 := a0 2
  have a3 := a0 3
  have a7 := a0 7
  rcases ti.1 with g | ⟨g, q, m, tq, t3⟩
  · have := g.2.1; omega
  obtain ⟨c, c3, c7⟩ := hc.1 g
  obtain ⟨k, eq, mm, hm, h6, h10, hn, h8⟩ := RAt_q c tq
  have b4 : z 225 24 = sq h k 4 := mm.1.1.2.1
  have b5 : z 225 25 = sq h k 5 := mm.1.1.2.2
  have t : _ := (t3.resolve_left (by have := bdc_p (tkK h q); omega)).resolve_left (by omega)
  rw [← eq] at t hm
  obtain ⟨tK, tN, tv, t2, tt3, tt, t7⟩ := t
  have e : sq h (k + 1) = adt (sq h k) v := by
    rw [sq_s]
    rcases hm with hm | hm
    · rw [a11_o hm.2.1 tK ⟨tN.1, tN.2.1⟩, tv, if_neg (by omega)]
    · rw [a12_o hm.2.1 tK ⟨tN.1, tN.2.1⟩, tv, if_pos hm.1]
  have M := MR_t (z' := z') (w' := w1) (v := v) (hm.imp (fun a => a.2.1) (fun a => a.2.1)) (by omega) (by omega) (by omega) (fun i g1 g2 => a0 i) f1 (by rw [← b5, h6, h8]; exact u1) (by rw [← b5, h6]; exact u2) (fun _ _ _ _ => rfl) (MR_f fr mm)
  rw [← e] at M
  have n : ∀ j, j ≠ 0 → j ≠ 6 → j < 420 → sq h (k + 1) j = sq h k j := fun j g1 g2 g3 => by rw [e]; unfold adt; rw [su_n g1, su_n g2, su_n (by omega), su_n (by omega)]
  refine ⟨fun _ => ⟨⟨k + 1, ⟨TKr_f (a0 _) (a0 _) (a0 _) (a0 _) rfl (a0 _) tt, M⟩, by rw [e]; rfl, ?_, CW_c (n 3 (by omega) (by omega) (by omega)) (n 10 (by omega) (by omega) (by omega)) (fun j g1 g2 => n j (by omega) (by omega) (by omega)) h10, by rw [n 7 (by omega) (by omega) (by omega)]; exact hn⟩, by omega, by omega⟩, fun q => absurd q (by omega), by omega⟩
  rw [e]; unfold adt; rw [su_n (by omega), su_e, h6]
/-- ahead of a WORD's ; -/
theorem RP_w {h : Int → Int} {z w z' w' : mZ} {x nm : Int} (hc : RAn h z w 10 x nm) (hx : 0 < x) (h61 : z 225 6 ≠ 1) (h4 : 0 ≤ z 225 24 ∧ z 225 24 ≤ 8) (h5 : 0 ≤ z 225 25 ∧ z 225 25 ≤ 5) (a0 : z' 225 25 = z 225 25 + 1) (a1 : ∀ i, i ≠ 25 → z' 225 i = z 225 i) (f1 : ∀ a i, 229 ≤ a → a ≤ 233 → z' a i = z a i) (u1 : ∀ e : Nat, z' 234 e = if e = (z 225 25).toNat then x else z 234 e) (u : ∀ e : Nat, w' 228 e = if e = (z 225 25).toNat then nm else w 228 e) (f2 : ∀ a i, a ≠ 228 → w' a i = w a i) : RPz h z' w' := by
  obtain ⟨k, ⟨tk, m⟩, h0, h6, h10, hn⟩ := hc
  have b4 : z 225 24 = sq h k 4 := m.1.1.2.1
  have b5 : z 225 25 = sq h k 5 := m.1.1.2.2
  refine ⟨k, TKr_f (a1 _ (by omega)) (a1 _ (by omega)) (a1 _ (by omega)) (a1 _ (by omega)) (f2 _ _ (by omega)) (a1 _ (by omega)) tk, fun K => ?_, fun K => ?_⟩
  · have e : sq h (k + 1) = _ := (sq_s h k).trans (a10_e h0 K (by omega))
    rw [e]
    rw [b5] at u u1
    rw [hn] at u
    rw [← h6] at u1
    have n : ∀ j, j ≠ 6 → j ≠ 0 → j ≠ 5 → (j < 410 ∨ (416 ≤ j ∧ j < 520)) → fin10 (sq h k) j = sq h k j := fun j g1 g2 g3 g4 => by unfold fin10; rw [su_n g2, su_n g1, su_n g3, su_n (by omega), su_n (by omega)]
    refine ⟨MR_w h0 (by omega) (by omega) a0 (a1 _ (by omega)) (a1 _ (by omega)) f1 u1 u (fun i => f2 _ _ (by omega)) m, rfl, Or.inr ⟨?_, ?_, ?_⟩⟩
    · rw [n 10 (by omega) (by omega) (by omega) (by omega)]; exact h10.1.1
    · rw [n 4 (by omega) (by omega) (by omega) (by omega), show fin10 (sq h k) 5 = sq h k 5 + 1 from rfl]; omega
    · exact WHq_c h10.1.2 (n 3 (by omega) (by omega) (by omega) (by omega)) (fun j g1 g2 => n j (by omega) (by omega) (by omega) (by omega)) h10.2
  · exact a10_b h0 (Or.inl K) (Or.inl (fun q => h61 ((tk1 tk).mpr (Or.inl q))))
theorem hgr_t {T : Nat → Int} {m r p c : Nat} {x u v : Int} (hb : hgx T m (r * m + p) p) (X : ∀ q, BT x q ↔ hgr T m r p c q) (hv : ∀ q, BT v q ↔ BT x q ∨ BT u q) (hu : (u = 2 ^ c ∧ hg T p c) ∨ (u = 0 ∧ ¬ hg T p c)) : ∀ q, BT v q ↔ hgr T m r p (c + 1) q := by
  intro q
  rw [hgr_s, hv q, X q]
  rcases hu with ⟨rfl, g⟩ | ⟨rfl, g⟩
  · rw [BT_2]
    exact ⟨fun a => a.imp id (fun e => ⟨e, hb, g⟩), fun a => a.imp id (fun e => e.1)⟩
  · exact ⟨fun a => a.elim Or.inl (fun e => absurd e (BT_0 q)), fun a => a.elim Or.inl (fun e => absurd e.2.2 g)⟩
theorem WHm_s {m : Int} {T tt : Nat → Int} (hx : ∀ q, q < m.toNat → hgx T m.toNat (m.toNat * m.toNat) q) (h : m % 2 = 0 ∧ ∀ e : Nat, (e : Int) < 18 → tt e = if (e : Int) < 3 * m / 2 then 2 else 0) : WHm m T tt := ⟨h.1, fun e he => h.2 e (by omega), fun q hq => hx q (by omega)⟩
theorem WHm_t {m : Int} {T tt : Nat → Int} (h : WHm m T tt) : m % 2 = 0 ∧ ∀ e : Nat, (e : Int) < 18 → tt e = if (e : Int) < 3 * m / 2 then 2 else 0 := ⟨h.1, fun e he => h.2.1 e (by omega)⟩
end

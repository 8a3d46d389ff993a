/-! the reference, a token further -/
def kwf (l : List Int) (i : Nat) : Int := l.getD i 0
theorem kw_i {l : List Int} {a b : Int} (hl : lets (kwf l) l.length) (ha : wl8 (kwf l) l.length = a) (hb : wl5 (kwf l) l.length = b) {f : Nat → Int} {m : Nat} (hf : lets f m) : wl8 f m = a ↔ wl5 f m = b := by
  rw [← ha, ← hb]; exact (wl_iff hf hl).symm
theorem kw_p {f : Nat → Int} {m : Nat} (hf : lets f m) : wl8 f m = 482804589413 ↔ wl5 f m = 17077349 := kw_i (l := [112, 105, 101, 99, 101]) (by decide) (by decide) (by decide) hf
theorem kw_l {f : Nat → Int} {m : Nat} (hf : lets f m) : wl8 f m = 1818848869 ↔ wl5 f m = 402885 := kw_i (l := [108, 105, 110, 101]) (by decide) (by decide) (by decide) hf
theorem kw_o {f : Nat → Int} {m : Nat} (hf : lets f m) : wl8 f m = 28518 ↔ wl5 f m = 486 := kw_i (l := [111, 102]) (by decide) (by decide) (by decide) hf
theorem kw_w {f : Nat → Int} {m : Nat} (hf : lets f m) : wl8 f m = 2003792484 ↔ wl5 f m = 769604 := kw_i (l := [119, 111, 114, 100]) (by decide) (by decide) (by decide) hf
theorem kw_s {f : Nat → Int} {m : Nat} (hf : lets f m) : wl8 f m = 26995 ↔ wl5 f m = 307 := kw_i (l := [105, 115]) (by decide) (by decide) (by decide) hf
theorem kw5_k (x : Int) : (kw5 x = 6 ↔ x = 17077349) ∧ (kw5 x = 7 ↔ x = 402885) ∧ (kw5 x = 8 ↔ x = 486) ∧ (kw5 x = 9 ↔ x = 769604) ∧ (kw5 x = 10 ↔ x = 307) := by
  unfold kw5
  repeat' split
  all_goals omega
theorem tkS_k (k : Int) (h : 0 ≤ k ∧ k ≤ 10) : (tkS k = 0 ↔ k = 0) ∧ (tkS k = 2 ↔ k = 2) ∧ (tkS k = 3 ↔ k = 5) ∧ (tkS k = 59 ↔ k = 3) ∧ (tkS k = 45 ↔ k = 4) ∧ (tkS k = 1 ↔ (k = 1 ∨ 6 ≤ k)) := by
  unfold tkS
  repeat' split
  all_goals omega
theorem TKr_k {h : Int → Int} {z w : mZ} {p : Int} (k : TKr h z w p) : (0 ≤ tkK h p ∧ tkK h p ≤ 10) ∧ ((z 225 6 = 0 ↔ tkK h p = 0) ∧ (z 225 6 = 2 ↔ tkK h p = 2) ∧ (z 225 6 = 3 ↔ tkK h p = 5) ∧ (z 225 6 = 59 ↔ tkK h p = 3) ∧ (z 225 6 = 45 ↔ tkK h p = 4) ∧ (z 225 6 = 1 ↔ (tkK h p = 1 ∨ 6 ≤ tkK h p))) ∧
    (z 225 6 = 1 → (w 225 9 = 482804589413 ↔ tkK h p = 6) ∧ (w 225 9 = 1818848869 ↔ tkK h p = 7) ∧ (w 225 9 = 28518 ↔ tkK h p = 8) ∧ (w 225 9 = 2003792484 ↔ tkK h p = 9) ∧ (w 225 9 = 26995 ↔ tkK h p = 10)) := by
  obtain ⟨_, _, e6, _, eW, _⟩ := k
  have r := tkK_r h p
  refine ⟨r, by rw [e6]; exact tkS_k _ r, fun q => ?_⟩
  obtain ⟨w1, w2, _, w4⟩ := eW q
  have q5 := kw5_k (tkW5 h p)
  rw [w4] at q5
  rw [w1]
  unfold tkW8
  unfold tkW5 at q5
  exact ⟨(kw_p w2).trans q5.1.symm, (kw_l w2).trans q5.2.1.symm, (kw_o w2).trans q5.2.2.1.symm, (kw_w w2).trans q5.2.2.2.1.symm, (kw_s w2).trans q5.2.2.2.2.symm⟩
theorem tk0 {h : Int → Int} {z w : mZ} {p : Int} (k : TKr h z w p) : z 225 6 = 0 ↔ tkK h p = 0 := (TKr_k k).2.1.1
theorem tk2 {h : Int → Int} {z w : mZ} {p : Int} (k : TKr h z w p) : z 225 6 = 2 ↔ tkK h p = 2 := (TKr_k k).2.1.2.1
theorem tk5 {h : Int → Int} {z w : mZ} {p : Int} (k : TKr h z w p) : z 225 6 = 3 ↔ tkK h p = 5 := (TKr_k k).2.1.2.2.1
theorem tk3 {h : Int → Int} {z w : mZ} {p : Int} (k : TKr h z w p) : z 225 6 = 59 ↔ tkK h p = 3 := (TKr_k k).2.1.2.2.2.1
theorem tk4 {h : Int → Int} {z w : mZ} {p : Int} (k : TKr h z w p) : z 225 6 = 45 ↔ tkK h p = 4 := (TKr_k k).2.1.2.2.2.2.1
theorem tk1 {h : Int → Int} {z w : mZ} {p : Int} (k : TKr h z w p) : z 225 6 = 1 ↔ (tkK h p = 1 ∨ 6 ≤ tkK h p) := (TKr_k k).2.1.2.2.2.2.2
theorem tkn {h : Int → Int} {z w : mZ} {p : Int} (k : TKr h z w p) : (z 225 6 = 1 ∧ w 225 9 ≠ 482804589413 ∧ w 225 9 ≠ 1818848869 ∧ w 225 9 ≠ 28518 ∧ w 225 9 ≠ 2003792484 ∧ w 225 9 ≠ 26995) ↔ tkK h p = 1 := by
  have q := TKr_k k
  by_cases c : z 225 6 = 1
  · have r := q.2.2 c
    have s := q.1
    have u := q.2.1.2.2.2.2.2
    omega
  · have u := q.2.1.2.2.2.2.2
    omega
def kcd (a : Int) : Int := if a = 28518 then 8 else 10
theorem tkw {h : Int → Int} {z w : mZ} {p a : Int} (k : TKr h z w p) (ha : a = 26995 ∨ a = 28518) : (z 225 6 = 1 ∧ w 225 9 = a) ↔ tkK h p = kcd a := by
  have q := TKr_k k
  have u := q.2.1.2.2.2.2.2
  unfold kcd
  rcases ha with rfl | rfl
  · rw [if_neg (by omega)]
    by_cases c : z 225 6 = 1
    · have r := (q.2.2 c).2.2.2.2; omega
    · omega
  · rw [if_pos rfl]
    by_cases c : z 225 6 = 1
    · have r := (q.2.2 c).2.2.1; omega
    · omega
theorem tkp {h : Int → Int} {z w : mZ} {p : Int} (k : TKr h z w p) : ((z 225 6 = 1 ∧ w 225 9 = 482804589413) ↔ tkK h p = 6) ∧ ((z 225 6 = 1 ∧ w 225 9 = 1818848869) ↔ tkK h p = 7) ∧ ((z 225 6 = 1 ∧ w 225 9 = 2003792484) ↔ tkK h p = 9) := by
  have q := TKr_k k
  have u := q.2.1.2.2.2.2.2
  by_cases c : z 225 6 = 1
  · have r := q.2.2 c; omega
  · omega
theorem TKr_a {h : Int → Int} {z w : mZ} {p : Int} (k : TKr h z w p) : (0 ≤ p ∧ p ≤ z 225 5) ∧ p ≤ z 225 4 ∧ z 225 4 ≤ z 225 5 := ⟨k.2.1, k.2.2.2.2.2.2⟩
theorem TKr_E {h : Int → Int} {z w : mZ} {p : Int} (k : TKr h z w p) (c : tkK h p ≠ 0) (d : tkK h p ≠ 5) : z 225 4 = tkE h p ∧ p < z 225 4 := k.2.2.2.2.2.1 c d
theorem TKr_N {h : Int → Int} {z w : mZ} {p : Int} (k : TKr h z w p) (c : tkK h p = 2) : z 225 8 = tkN h p ∧ 0 ≤ tkN h p ∧ tkN h p ≤ 9999 := k.2.2.2.1 c
theorem TKr_W {h : Int → Int} {z w : mZ} {p : Int} (k : TKr h z w p) (c : tkK h p = 1) : w 225 9 = tkW8 h p := (k.2.2.2.2.1 ((tk1 k).mpr (Or.inl c))).1
abbrev bdc (c : Int) : Int := if c = 5 then 1 else 2
/-- what the small readers do: nothing behind a fault; a token further; a fault -/
def WRp (z0 z : mZ) (a : Int) : Prop := (0 < z0 225 2 ∧ z 225 2 = z0 225 2 ∧ z 225 3 = z0 225 3) ∨ (z0 225 2 = 0 ∧ z 225 2 = (if z0 225 6 = 3 then 1 else a) ∧ z 225 3 = z0 225 7)
theorem WRp_0 {h : Int → Int} {z0 w0 z : mZ} {a p : Int} (k : WRp z0 z a) (h0 : z0 225 2 = 0) (t : TKr h z0 w0 p) : z 225 2 = (if tkK h p = 5 then 1 else a) ∧ z 225 3 = p := by
  rcases k with g | g
  · omega
  · refine ⟨?_, g.2.2.trans t.1⟩
    have := tk5 t
    rw [g.2.1]
    by_cases c : z0 225 6 = 3
    · rw [if_pos c, if_pos (this.mp c)]
    · rw [if_neg c, if_neg (fun q => c (this.mpr q))]
def NXs (h : Int → Int) (z0 z w : mZ) : Prop := z 225 2 = 0 ∧ z 225 3 = z0 225 3 ∧ TKr h z w (ups h isB (tkE h (z0 225 7))) ∧ z0 225 7 < z 225 7
def SMs (z0 z : mZ) : Prop := z 225 2 = z0 225 2 ∧ z 225 3 = z0 225 3 ∧ z 225 7 = z0 225 7
def WTp (h : Int → Int) (z0 z w : mZ) (c : Int) : Prop := (0 < z0 225 2 ∧ SMs z0 z) ∨ (z0 225 2 = 0 ∧ tkK h (z0 225 7) = c ∧ NXs h z0 z w) ∨ (z0 225 2 = 0 ∧ tkK h (z0 225 7) ≠ c ∧ z 225 2 = bdc (tkK h (z0 225 7)) ∧ z 225 3 = z0 225 7 ∧ z 225 7 = z0 225 7)
def TNp (h : Int → Int) (z0 z w : mZ) (v b : Int) : Prop := (0 < z0 225 2 ∧ SMs z0 z) ∨ (z0 225 2 = 0 ∧ (tkK h (z0 225 7) = 2 ∧ tkN h (z0 225 7) ≤ b ∧ 0 ≤ tkN h (z0 225 7) ∧ v = tkN h (z0 225 7)) ∧ NXs h z0 z w) ∨ (z0 225 2 = 0 ∧ tkK h (z0 225 7) ≠ 2 ∧ z 225 2 = bdc (tkK h (z0 225 7)) ∧ z 225 3 = z0 225 7 ∧ z 225 7 = z0 225 7) ∨ (z0 225 2 = 0 ∧ (tkK h (z0 225 7) = 2 ∧ b < tkN h (z0 225 7)) ∧ z 225 2 = 4 ∧ z 225 3 = z0 225 7 ∧ z 225 7 = z0 225 7)
theorem bdc_p (c : Int) : 0 < bdc c := by unfold bdc; split <;> omega
theorem WTp_s {h : Int → Int} {z0 z w : mZ} {c : Int} (k : WTp h z0 z w c) (h2 : z 225 2 = 0) (hn : 0 ≤ z0 225 2) : z0 225 2 = 0 ∧ tkK h (z0 225 7) = c ∧ NXs h z0 z w := by
  rcases k with g | g | g
  · have := g.2.1; omega
  · exact g
  · have := bdc_p (tkK h (z0 225 7)); omega
theorem WTp_g {h : Int → Int} {z0 z w : mZ} {c : Int} (k : WTp h z0 z w c) : z0 225 7 ≤ z 225 7 := by
  rcases k with g | g | g
  · have := g.2.2.2; omega
  · have := g.2.2.2.2.2; omega
  · omega
theorem WTp_b {h : Int → Int} {z0 z w : mZ} {c : Int} (k : WTp h z0 z w c) (h0 : z0 225 2 = 0) (h2 : 0 < z 225 2) : tkK h (z0 225 7) ≠ c ∧ z 225 2 = bdc (tkK h (z0 225 7)) ∧ z 225 3 = z0 225 7 := by
  rcases k with g | g | g
  · omega
  · have := g.2.2.1; omega
  · exact ⟨g.2.1, g.2.2.1, g.2.2.2.1⟩
theorem WTp_f {h : Int → Int} {z0 z w : mZ} {c : Int} (k : WTp h z0 z w c) (h0 : 0 < z0 225 2) : z 225 2 = z0 225 2 ∧ z 225 3 = z0 225 3 := by
  rcases k with g | g | g
  · exact ⟨g.2.1, g.2.2.1⟩
  · omega
  · omega
theorem TNp_s {h : Int → Int} {z0 z w : mZ} {v b : Int} (k : TNp h z0 z w v b) (h2 : z 225 2 = 0) (hn : 0 ≤ z0 225 2) : z0 225 2 = 0 ∧ (tkK h (z0 225 7) = 2 ∧ tkN h (z0 225 7) ≤ b ∧ 0 ≤ tkN h (z0 225 7) ∧ v = tkN h (z0 225 7)) ∧ NXs h z0 z w := by
  rcases k with g | g | g | g
  · have := g.2.1; omega
  · exact g
  · have := bdc_p (tkK h (z0 225 7)); omega
  · omega
theorem TNp_g {h : Int → Int} {z0 z w : mZ} {v b : Int} (k : TNp h z0 z w v b) : z0 225 7 ≤ z 225 7 := by
  rcases k with g | g | g | g
  · have := g.2.2.2; omega
  · have := g.2.2.2.2.2; omega
  · omega
  · omega
theorem TNp_b {h : Int → Int} {z0 z w : mZ} {v b : Int} (k : TNp h z0 z w v b) (h0 : z0 225 2 = 0) (h2 : 0 < z 225 2) : (tkK h (z0 225 7) ≠ 2 ∧ z 225 2 = bdc (tkK h (z0 225 7)) ∧ z 225 3 = z0 225 7) ∨ (tkK h (z0 225 7) = 2 ∧ b < tkN h (z0 225 7) ∧ z 225 2 = 4 ∧ z 225 3 = z0 225 7) := by
  rcases k with g | g | g | g
  · omega
  · have := g.2.2.1; omega
  · exact Or.inl ⟨g.2.1, g.2.2.1, g.2.2.2.1⟩
  · exact Or.inr ⟨g.2.1.1, g.2.1.2, g.2.2.1, g.2.2.2.1⟩
theorem TNp_f {h : Int → Int} {z0 z w : mZ} {v b : Int} (k : TNp h z0 z w v b) (h0 : 0 < z0 225 2) : z 225 2 = z0 225 2 ∧ z 225 3 = z0 225 3 := by
  rcases k with g | g | g | g
  · exact ⟨g.2.1, g.2.2.1⟩
  · omega
  · omega
  · omega
def CL0 (s : RG) : Prop := (s 10 ≠ 1 ∧ s 4 + s 5 = 0) ∨ (s 10 = 1 ∧ 0 < s 4 + s 5 ∧ WHq s)
/-- within a PIECE; between lines; ahead of a line's ; -/
def RAe (h : Int → Int) (z w : mZ) (x : Int) : Prop := ∃ k, RA h z w k ∧ sq h k 0 = 1 ∧ sq h k 6 = x ∧ sq h k 10 ≠ 1 ∧ sq h k 4 + sq h k 5 = 0
def RAz (h : Int → Int) (z w : mZ) : Prop := ∃ k, RA h z w k ∧ sq h k 0 = 0 ∧ CL0 (sq h k)
def RPz (h : Int → Int) (z w : mZ) : Prop := ∃ k, TKr h z w (tp h k) ∧ (tkK h (tp h k) = 3 → MR h (sq h (k + 1)) z w ∧ sq h (k + 1) 0 = 0 ∧ CL0 (sq h (k + 1))) ∧ (tkK h (tp h k) ≠ 3 → dl h (sq h k) (tp h k) = bd (sq h k) (tkK h (tp h k)) (tp h k))
def REz (h : Int → Int) (z w : mZ) : Prop := ∃ k, sq h k 0 = 20 ∧ MR h (sq h k) z w
/-- piece: behind its word -/
theorem RA_p {h : Int → Int} {z w z' w' : mZ} {k : Nat} (hc : MR h (sq h k) z w) (hm : sq h k 0 = 0) (K : tkK h (tp h k) = 6) (h10 : sq h k 10 ≠ 1) (h45 : sq h k 4 + sq h k 5 = 0) (h0 : z 225 23 ≤ 11) (fr : Fs z w z' w') (tk : TKr h z' w' (tp h (k + 1))) : RAe h z' w' 0 := by
  have a3 : z 225 23 = sq h k 3 := hc.1.1.1
  have e : sq h (k + 1) = _ := (sq_s h k).trans (a0_p1 hm K h10 (by omega))
  have n : ∀ j, j ≠ 0 → j ≠ 6 → sq h (k + 1) j = sq h k j := fun j g1 g2 => by rw [e, su_n g2, su_n g1]
  have e0 : sq h (k + 1) 0 = 1 := by rw [e, su_n (by omega), su_e]
  have e6 : sq h (k + 1) 6 = 0 := by rw [e, su_e]
  refine ⟨k + 1, ⟨tk, MR_m (fun j h1 h2 => n j (by omega) (by omega)) (fun j h1 => n j (by omega) (by omega)) ?_ (fun a i q => ?_) (fun l e q => ?_) (MR_f fr hc)⟩, e0, e6, by rw [n 10 (by omega) (by omega)]; exact h10, by rw [n 4 (by omega) (by omega), n 5 (by omega) (by omega)]; exact h45⟩
  · unfold cs; rw [e0, if_pos rfl, e6, hm, if_neg (by omega)]
  · unfold iw at q
    rw [e0, n 5 (by omega) (by omega), n (520 + a) (by omega) (by omega)] at q
    exact ⟨q.1, q.2.elim Or.inl (fun g => absurd g.2.1 (by omega))⟩
  · unfold il ED at q
    rw [e0, n 4 (by omega) (by omega), n 3 (by omega) (by omega)] at q
    exact ⟨q.1, q.2.elim Or.inl (fun g => absurd g.2.1 (by omega))⟩
/-- an EDGE -/
theorem RA_e {h : Int → Int} {z w z1 w1 z' : mZ} {k : Nat} {nu : Int} (hc : MR h (sq h k) z w) (hm : sq h k 0 = 1) (h6 : 0 ≤ sq h k 6 ∧ sq h k 6 < 3) (h10 : sq h k 10 ≠ 1) (h45 : sq h k 4 + sq h k 5 = 0) (h3 : 0 ≤ z 225 23 ∧ z 225 23 ≤ 11) (K : tkK h (tp h k) = 2) (N : nu = tkN h (tp h k)) (n0 : 0 ≤ nu ∧ nu < 18) (T2 : 0 ≤ z 230 nu.toNat ∧ z 230 nu.toNat < 2) (fr : Fs z w z1 w1) (tk : TKr h z1 w1 (tp h (k + 1)))
    (a0 : ∀ i, z' 225 i = z1 225 i) (f1 : ∀ a i, 231 ≤ a → a ≤ 234 → z' a i = z1 a i) (u1 : ∀ i : Nat, z' 229 i = if i = (3 * z 225 23 + sq h k 6).toNat then nu else z1 229 i) (u4 : ∀ e : Nat, z' 230 e = if e = nu.toNat then z1 230 e + 1 else z1 230 e) : RAe h z' w1 (sq h k 6 + 1) := by
  have a3 : z 225 23 = sq h k 3 := hc.1.1.1
  rw [a3] at h3 u1
  have e4 := hc.1.2.2.1 nu.toNat (by omega)
  have e : sq h (k + 1) = _ := (sq_s h k).trans (a1_o hm h6.2 K (by omega) (by rw [← N, ← e4]; exact T2.2))
  rw [← N] at e
  have m := MR_e hm h6 h3 n0 (by rw [← e4]; exact T2.1) a0 f1 u1 u4 (MR_f fr hc)
  rw [← e] at m
  have n : ∀ j, j ≠ 6 → j < 100 → sq h (k + 1) j = sq h k j := fun j g1 g2 => by rw [e, su_n g1, su_n (by omega), su_n (by omega)]
  exact ⟨k + 1, ⟨TKr_f (a0 _) (a0 _) (a0 _) (a0 _) rfl (a0 _) tk, m⟩, by rw [n 0 (by omega) (by omega)]; exact hm, by rw [e, su_e], by rw [n 10 (by omega) (by omega)]; exact h10, by rw [n 4 (by omega) (by omega), n 5 (by omega) (by omega)]; exact h45⟩
/-- a PIECE's end, ahead of its ; -/
theorem RP_p {h : Int → Int} {z w z' w' : mZ} (hc : RAe h z w 3) (n4 : 0 ≤ z 225 24) (n5 : 0 ≤ z 225 25) (a0 : z' 225 23 = z 225 23 + 1) (a1 : ∀ i, i ≠ 23 → z' 225 i = z 225 i) (f1 : ∀ a i, 229 ≤ a → a ≤ 234 → z' a i = z a i) (f2 : ∀ a i, w' a i = w a i) : RPz h z' w' := by
  obtain ⟨k, ⟨tk, m⟩, hm, h6, h10, h45⟩ := hc
  have b4 : z 225 24 = sq h k 4 := m.1.1.2.1
  have b5 : z 225 25 = sq h k 5 := m.1.1.2.2
  refine ⟨k, TKr_f (a1 _ (by omega)) (a1 _ (by omega)) (a1 _ (by omega)) (a1 _ (by omega)) (f2 _ _) (a1 _ (by omega)) tk, fun K => ?_, fun K => a1_sb hm (by omega) K⟩
  have e : sq h (k + 1) = _ := (sq_s h k).trans (a1_so hm (by omega) K)
  rw [e]
  refine ⟨MR_p hm h6 (by omega) a0 (fun i g1 g2 => a1 i (by omega)) f1 (fun a i _ _ => f2 a i) m, rfl, Or.inl ⟨h10, h45⟩⟩
/-- an EDGE of the reference: behind toldNumber and its two stores -/
theorem RA_e2 {h : Int → Int} {z w z1 w1 z' : mZ} {x v : Int} (hc : RAe h z w x) (hx : 0 ≤ x ∧ x < 3) (h3 : 0 ≤ z 225 23 ∧ z 225 23 ≤ 11) (hf : z 225 2 = 0) (ti : TNp h z z1 w1 v 17) (h2 : z1 225 2 = 0) (T2 : z 225 6 = 2 → z 225 8 < 18 → z 230 (z 225 8).toNat ≠ 2) (r2 : ∀ e : Nat, e < 18 → 0 ≤ z 230 e ∧ z 230 e ≤ 2) (fr : Fs z w z1 w1)
    (a0 : ∀ i, z' 225 i = z1 225 i) (f1 : ∀ a i, 231 ≤ a → a ≤ 234 → z' a i = z1 a i) (u1 : ∀ i : Nat, z' 229 i = if i = (3 * z 225 23 + x).toNat then v else z1 229 i) (u4 : ∀ e : Nat, z' 230 e = if e = v.toNat then z1 230 e + 1 else z1 230 e) : RAe h z' w1 (x + 1) := by
  obtain ⟨k, ⟨tk, m⟩, hm, h6, h10, h45⟩ := hc
  have s := TNp_s ti h2 (by omega)
  have e7 := tk.1
  rw [e7] at s
  have K := s.2.1.1
  have N := TKr_N tk K
  have nx := s.2.2.2.2.1
  rw [e7] at nx
  have t2 := T2 ((tk2 tk).mpr K) (by omega)
  have r := r2 (z 225 8).toNat (by omega)
  have ev : v = z 225 8 := by omega
  have q := RA_e (nu := v) m hm (by omega) h10 h45 h3 K (by omega) (by omega) (by rw [ev]; exact ⟨by omega, by omega⟩) fr nx a0 f1 (by rw [h6]; exact u1) u4
  rw [h6] at q
  exact q
theorem RA_eb {h : Int → Int} {z w z1 w1 : mZ} {x v : Int} (hc : RAe h z w x) (hx : x < 3) (hf : z 225 2 = 0) (ti : TNp h z z1 w1 v 17) (h2 : 0 < z1 225 2) : RF h z1 := by
  obtain ⟨k, ⟨tk, m⟩, hm, h6, h10, h45⟩ := hc
  have e7 := tk.1
  rcases TNp_b ti hf h2 with g | g
  · rw [e7] at g; exact RF_b (a1_b hm (by omega) g.1) g.2.1 g.2.2
  · rw [e7] at g; exact RF_i (f := 4) (a1_4 hm (by omega) g.1 (by omega)) (by omega) g.2.2.1 g.2.2.2
theorem RA_e3 {h : Int → Int} {z w z1 : mZ} {x : Int} (hc : RAe h z w x) (hx : x < 3) (hf : z 225 2 = 0) (wr : WRp z z1 3) (c1 : z 225 6 = 2) (c2 : z 225 8 < 18) (c3 : z 230 (z 225 8).toNat = 2) : RF h z1 := by
  obtain ⟨k, ⟨tk, m⟩, hm, h6, h10, h45⟩ := hc
  have K := (tk2 tk).mp c1
  have N := TKr_N tk K
  have g := WRp_0 wr hf tk
  rw [if_neg (by omega)] at g
  exact RF_i (f := 3) (a1_3 hm (by omega) K (by omega) (by rw [← N.1, ← m.1.2.2.1 _ (by omega)]; omega)) (by omega) g.1 g.2
theorem RAe_f {h : Int → Int} {z w z' w' : mZ} {x : Int} (hc : RAe h z w x) (a : ∀ i, 4 ≤ i → z' 225 i = z 225 i) (a9 : w' 225 9 = w 225 9) (fr : Fs z w z' w') : RAe h z' w' x := by
  obtain ⟨k, ⟨tk, m⟩, q⟩ := hc
  exact ⟨k, ⟨TKr_f (a _ (by omega)) (a _ (by omega)) (a _ (by omega)) (a _ (by omega)) a9 (a _ (by omega)) tk, MR_f fr m⟩, q⟩
theorem TNp_v {h : Int → Int} {z w z1 w1 : mZ} {x v : Int} (hc : RAe h z w x) (ti : TNp h z z1 w1 v 17) (h2 : z1 225 2 = 0) (hn : 0 ≤ z 225 2) : v = z 225 8 ∧ z 225 6 = 2 := by
  obtain ⟨k, ⟨tk, m⟩, _⟩ := hc
  have s := TNp_s ti h2 hn
  have e7 := tk.1
  rw [e7] at s
  have N := TKr_N tk s.2.1.1
  exact ⟨by omega, (tk2 tk).mpr s.2.1.1⟩

/-! what the reference has read, and the state -/
abbrev il (s : RG) (l e : Nat) : Prop := (l < 8 ∧ e < 18) ∧ (((l : Int) < s 4 ∧ (e : Int) < ED s) ∨ ((l : Int) = s 4 ∧ s 0 = 7 ∧ (e : Int) < s 6))
/-- EDGES of told PIECES have been told -/
def TI (s : RG) : Prop := ∀ i : Nat, i < 36 → (i : Int) < 3 * s 3 + cs s → (0 ≤ s (100 + i) ∧ s (100 + i) < 18) ∧ 1 ≤ s (140 + (s (100 + i)).toNat)
theorem TI_c {s s' : RG} (e3 : s' 3 = s 3) (ec : cs s' = cs s) (g : ∀ j, 100 ≤ j → j < 160 → s' j = s j) (k : TI s) : TI s' := by
  intro i hi hj
  rw [e3, ec] at hj
  have q := k i hi hj
  rw [g (100 + i) (by omega) (by omega)]
  rw [g (140 + (s (100 + i)).toNat) (by omega) (by omega)]
  exact q
def RP1 (s : RG) (z : mZ) : Prop := (z 225 23 = s 3 ∧ z 225 24 = s 4 ∧ z 225 25 = s 5) ∧ (∀ i : Nat, i < 36 → (i : Int) < 3 * s 3 + cs s → z 229 i = s (100 + i)) ∧ (∀ e : Nat, e < 18 → z 230 e = s (140 + e)) ∧ TI s
def RP2 (h : Int → Int) (s : RG) (z w : mZ) : Prop := (∀ l e : Nat, il s l e → z 231 (18 * l + e) = s (200 + 18 * l + e)) ∧ (∀ l : Nat, (l : Int) < s 4 → w 227 l = tkW8 h (s (400 + l))) ∧ ∀ a : Nat, (a : Int) < s 5 → w 228 a = tkW8 h (s (410 + a))
def RP3 (s : RG) (z : mZ) : Prop := (∀ a : Nat, (a : Int) < s 5 → z 234 a = s (520 + a)) ∧ ∀ a i : Nat, iw s a i → z 232 (8 * a + i) = s (420 + 8 * a + i) ∧ z 233 (8 * a + i) = s (470 + 8 * a + i)
def MR (h : Int → Int) (s : RG) (z w : mZ) : Prop := RP1 s z ∧ RP2 h s z w ∧ RP3 s z
def RA (h : Int → Int) (z w : mZ) (k : Nat) : Prop := TKr h z w (tp h k) ∧ MR h (sq h k) z w
def RF (h : Int → Int) (z : mZ) : Prop := ∃ k, sq h k 0 = 21 ∧ z 225 2 = sq h k 1 ∧ z 225 3 = sq h k 2 ∧ 0 < z 225 2
theorem RF_i {h : Int → Int} {z : mZ} {k : Nat} {f p : Int} (e : dl h (sq h k) (tp h k) = flt (sq h k) f p) (hf : 0 < f) (h0 : z 225 2 = f) (h1 : z 225 3 = p) : RF h z := ⟨k + 1, by rw [sq_s, e]; rfl, by rw [sq_s, e]; exact h0, by rw [sq_s, e]; exact h1, by omega⟩
theorem RF_b {h : Int → Int} {z : mZ} {k : Nat} {c p : Int} (e : dl h (sq h k) (tp h k) = bd (sq h k) c p) (h0 : z 225 2 = if c = 5 then 1 else 2) (h1 : z 225 3 = p) : RF h z := RF_i (f := if c = 5 then 1 else 2) e (by split <;> omega) h0 h1
theorem RF_f {h : Int → Int} {z z' : mZ} (h0 : z' 225 2 = z 225 2) (h1 : z' 225 3 = z 225 3) (k : RF h z) : RF h z' := by
  unfold RF at k ⊢
  rw [h0, h1]; exact k
/-- outside of the reader's own places nothing is another -/
def Fs (z w z' w' : mZ) : Prop := (∀ i, 23 ≤ i → i ≤ 25 → z' 225 i = z 225 i) ∧ (∀ a i, 229 ≤ a → a ≤ 234 → z' a i = z a i) ∧ ∀ a i, 227 ≤ a → a ≤ 228 → w' a i = w a i
theorem MR_f {h : Int → Int} {s : RG} {z w z' w' : mZ} (f : Fs z w z' w') (k : MR h s z w) : MR h s z' w' := by
  obtain ⟨f1, f2, f3⟩ := f
  unfold MR RP1 RP2 RP3 at *
  rw [f1 23 (by omega) (by omega), f1 24 (by omega) (by omega), f1 25 (by omega) (by omega), show z' 229 = z 229 from funext fun i => f2 _ _ (by omega) (by omega), show z' 230 = z 230 from funext fun i => f2 _ _ (by omega) (by omega), show z' 231 = z 231 from funext fun i => f2 _ _ (by omega) (by omega), show z' 232 = z 232 from funext fun i => f2 _ _ (by omega) (by omega), show z' 233 = z 233 from funext fun i => f2 _ _ (by omega) (by omega), show z' 234 = z 234 from funext fun i => f2 _ _ (by omega) (by omega), show w' 227 = w 227 from funext fun i => f3 _ _ (by omega) (by omega), show w' 228 = w 228 from funext fun i => f3 _ _ (by omega) (by omega)]
  exact k
theorem MR_m {h : Int → Int} {s s' : RG} {z w : mZ} (g1 : ∀ j, 3 ≤ j → j ≤ 5 → s' j = s j) (g2 : ∀ j, 11 ≤ j → s' j = s j) (g3 : cs s' = cs s) (g4 : ∀ a i, iw s' a i → iw s a i) (g5 : ∀ l e, il s' l e → il s l e) (k : MR h s z w) : MR h s' z w := by
  obtain ⟨k1, k2, k3⟩ := k
  have e3 := g1 3 (by omega) (by omega)
  have e4 := g1 4 (by omega) (by omega)
  have e5 := g1 5 (by omega) (by omega)
  refine ⟨?_, ?_, ?_⟩
  · unfold RP1 at k1 ⊢
    rw [e3, e4, e5, g3]
    exact ⟨k1.1, fun i hi hj => (k1.2.1 i hi hj).trans (g2 _ (by omega)).symm, fun e he => (k1.2.2.1 e he).trans (g2 _ (by omega)).symm, TI_c e3 g3 (fun j h1 _ => g2 j (by omega)) k1.2.2.2⟩
  · unfold RP2 at k2 ⊢
    rw [e4, e5]
    refine ⟨fun l e q => (k2.1 l e (g5 l e q)).trans (g2 _ (by omega)).symm, fun l hl => ?_, fun a ha => ?_⟩
    · rw [g2 _ (by omega)]; exact k2.2.1 l hl
    · rw [g2 _ (by omega)]; exact k2.2.2 a ha
  · refine ⟨fun a ha => ?_, fun a i q => ?_⟩
    · rw [e5] at ha; rw [g2 _ (by omega)]; exact k3.1 a ha
    · rw [g2 _ (by omega), g2 _ (by omega)]; exact k3.2 a i (g4 a i q)
/-- an EDGE told -/
theorem MR_e {h : Int → Int} {s : RG} {z w z' : mZ} {nu : Int} (hm : s 0 = 1) (h6 : 0 ≤ s 6 ∧ s 6 < 3) (h3 : 0 ≤ s 3 ∧ s 3 ≤ 11) (n0 : 0 ≤ nu ∧ nu < 18) (n1 : 0 ≤ s (140 + nu.toNat)) (a0 : ∀ i, z' 225 i = z 225 i) (f1 : ∀ a i, 231 ≤ a → a ≤ 234 → z' a i = z a i) (u1 : ∀ i : Nat, z' 229 i = if i = (3 * s 3 + s 6).toNat then nu else z 229 i) (u4 : ∀ e : Nat, z' 230 e = if e = nu.toNat then z 230 e + 1 else z 230 e) (k : MR h s z w) :
    MR h (su (su (su s (100 + (3 * s 3 + s 6).toNat) nu) (140 + nu.toNat) (s (140 + nu.toNat) + 1)) 6 (s 6 + 1)) z' w := by
  obtain ⟨k1, k2, k3⟩ := k
  generalize hs' : su (su (su s (100 + (3 * s 3 + s 6).toNat) nu) (140 + nu.toNat) (s (140 + nu.toNat) + 1)) 6 (s 6 + 1) = s'
  have ne : ∀ j, j ≠ 6 → (j < 100 ∨ 158 ≤ j) → s' j = s j := fun j h1 h2 => by rw [← hs', su_n h1, su_n (by omega), su_n (by omega)]
  have e6 : s' 6 = s 6 + 1 := by rw [← hs', su_e]
  have e0 := ne 0 (by omega) (by omega)
  have e3 := ne 3 (by omega) (by omega)
  have e4 := ne 4 (by omega) (by omega)
  have e5 := ne 5 (by omega) (by omega)
  have c' : cs s' = s 6 + 1 := by unfold cs; rw [e0, if_pos hm, e6]
  have c : cs s = s 6 := if_pos hm
  refine ⟨?_, ?_, ?_⟩
  · unfold RP1 at k1 ⊢
    rw [e3, e4, e5, c', a0, a0, a0]
    refine ⟨k1.1, fun i hi hj => ?_, fun e he => ?_, ?_⟩
    · rw [u1 i]
      by_cases g : i = (3 * s 3 + s 6).toNat
      · rw [if_pos g, ← hs', su_n (by omega), su_n (by omega), g, su_e]
      · rw [if_neg g, k1.2.1 i hi (by omega), ← hs', su_n (by omega), su_n (by omega), su_n (by omega)]
    · rw [u4 e]
      by_cases g : e = nu.toNat
      · rw [if_pos g, k1.2.2.1 e he, ← hs', su_n (by omega), g, su_e]
      · rw [if_neg g, k1.2.2.1 e he, ← hs', su_n (by omega), su_n (by omega), su_n (by omega)]
    · intro i hi hj
      rw [e3, c'] at hj
      have h140 : ∀ e : Nat, e < 18 → s (140 + e) ≤ s' (140 + e) := fun e he => by
        by_cases g : e = nu.toNat
        · rw [← hs', su_n (by omega), g, su_e]; omega
        · rw [← hs', su_n (by omega), su_n (by omega), su_n (by omega)]; exact Int.le_refl _
      by_cases g : i = (3 * s 3 + s 6).toNat
      · have e1 : s' (100 + i) = nu := by rw [← hs', su_n (by omega), su_n (by omega), g, su_e]
        rw [e1]
        refine ⟨⟨n0.1, n0.2⟩, ?_⟩
        rw [← hs', su_n (by omega), su_e]
        have := n1
        omega
      · have e1 : s' (100 + i) = s (100 + i) := by rw [← hs', su_n (by omega), su_n (by omega), su_n (by omega)]
        have q := k1.2.2.2 i hi (by omega)
        rw [e1]
        have := h140 (s (100 + i)).toNat (by omega)
        exact ⟨q.1, by omega⟩
  · unfold RP2 il ED at k2 ⊢
    rw [e4, e5, e3, e0, e6]
    refine ⟨fun l e q => ?_, fun l hl => ?_, fun a ha => ?_⟩
    · rw [f1 _ _ (by omega) (by omega), ne _ (by omega) (by omega)]
      exact k2.1 l e ⟨q.1, q.2.elim Or.inl (fun g => absurd g.2.1 (by omega))⟩
    · rw [ne _ (by omega) (by omega)]; exact k2.2.1 l hl
    · rw [ne _ (by omega) (by omega)]; exact k2.2.2 a ha
  · refine ⟨fun a ha => ?_, fun a i q => ?_⟩
    · rw [e5] at ha; rw [ne _ (by omega) (by omega), f1 _ _ (by omega) (by omega)]; exact k3.1 a ha
    · unfold iw at q
      rw [e0, e5, e6, ne (520 + a) (by omega) (by omega)] at q
      rw [ne _ (by omega) (by omega), ne _ (by omega) (by omega), f1 _ _ (by omega) (by omega), f1 _ _ (by omega) (by omega)]
      exact k3.2 a i ⟨q.1, q.2.elim Or.inl (fun g => absurd g.2.1 (by omega))⟩
/-- a PIECE's end -/
theorem MR_p {h : Int → Int} {s : RG} {z w z' w' : mZ} (hm : s 0 = 1) (h6 : s 6 = 3) (h4 : s 4 ≤ 0) (a0 : z' 225 23 = z 225 23 + 1) (a1 : ∀ i, 24 ≤ i → i ≤ 25 → z' 225 i = z 225 i) (f1 : ∀ a i, 229 ≤ a → a ≤ 234 → z' a i = z a i) (f2 : ∀ a i, 227 ≤ a → a ≤ 228 → w' a i = w a i) (k : MR h s z w) : MR h (su (su (su s 3 (s 3 + 1)) 6 0) 0 0) z' w' := by
  obtain ⟨k1, k2, k3⟩ := k
  generalize hs' : su (su (su s 3 (s 3 + 1)) 6 0) 0 0 = s'
  have ne : ∀ j, j ≠ 6 → j ≠ 3 → j ≠ 0 → s' j = s j := fun j h1 h2 h3 => by rw [← hs', su_n h3, su_n h1, su_n h2]
  have e0 : s' 0 = 0 := by rw [← hs', su_e]
  have e3 : s' 3 = s 3 + 1 := by rw [← hs', su_n (by omega), su_n (by omega), su_e]
  have e4 := ne 4 (by omega) (by omega) (by omega)
  have e5 := ne 5 (by omega) (by omega) (by omega)
  have c' : cs s' = 0 := by unfold cs; rw [e0, if_neg (by omega)]
  have c : cs s = 3 := by unfold cs; rw [if_pos hm]; exact h6
  have n : ∀ j, 100 ≤ j → s' j = s j := fun j h1 => ne j (by omega) (by omega) (by omega)
  refine ⟨?_, ?_, ?_⟩
  · unfold RP1 at k1 ⊢
    rw [e3, e4, e5, c', a0, a1 24 (by omega) (by omega), a1 25 (by omega) (by omega), show z' 229 = z 229 from funext fun i => f1 _ _ (by omega) (by omega), show z' 230 = z 230 from funext fun i => f1 _ _ (by omega) (by omega)]
    refine ⟨⟨by omega, k1.1.2⟩, fun i hi hj => ?_, fun e he => ?_, fun i hi hj => ?_⟩
    · rw [n _ (by omega)]; exact k1.2.1 i hi (by omega)
    · rw [n _ (by omega)]; exact k1.2.2.1 e he
    · rw [e3, c'] at hj
      have q := k1.2.2.2 i hi (by omega)
      rw [n _ (by omega), n _ (by omega)]; exact q
  · unfold RP2 at k2 ⊢
    rw [e4, e5, show w' 227 = w 227 from funext fun i => f2 _ _ (by omega) (by omega), show w' 228 = w 228 from funext fun i => f2 _ _ (by omega) (by omega)]
    refine ⟨fun l e q => ?_, fun l hl => ?_, fun a ha => ?_⟩
    · unfold il at q
      rw [e4, e0] at q
      rcases q.2 with g | g
      · have := g.1; omega
      · have := g.2.1; omega
    · rw [n _ (by omega)]; exact k2.2.1 l hl
    · rw [n _ (by omega)]; exact k2.2.2 a ha
  · refine ⟨fun a ha => ?_, fun a i q => ?_⟩
    · rw [e5] at ha; rw [n _ (by omega), f1 _ _ (by omega) (by omega)]; exact k3.1 a ha
    · unfold iw at q
      rw [e0, e5, n (520 + a) (by omega)] at q
      rw [n _ (by omega), n _ (by omega), f1 _ _ (by omega) (by omega), f1 _ _ (by omega) (by omega)]
      exact k3.2 a i ⟨q.1, q.2.elim Or.inl (fun g => absurd g.2.1 (by omega))⟩
/-- a LINE's number -/
theorem MR_n {h : Int → Int} {s : RG} {z w z' w' : mZ} {nu : Int} (hm : s 0 = 7) (h6 : 0 ≤ s 6 ∧ s 6 < 18) (h4 : 0 ≤ s 4 ∧ s 4 ≤ 7) (a0 : ∀ i, 23 ≤ i → i ≤ 25 → z' 225 i = z 225 i) (u : ∀ i : Nat, z' 231 i = if i = (18 * s 4 + s 6).toNat then nu else z 231 i) (f1 : ∀ a i, 229 ≤ a → a ≤ 234 → a ≠ 231 → z' a i = z a i) (f2 : ∀ a i, 227 ≤ a → a ≤ 228 → w' a i = w a i) (k : MR h s z w) : MR h (su (su s (200 + (18 * s 4 + s 6).toNat) nu) 6 (s 6 + 1)) z' w' := by
  obtain ⟨k1, k2, k3⟩ := k
  generalize hs' : su (su s (200 + (18 * s 4 + s 6).toNat) nu) 6 (s 6 + 1) = s'
  have n : ∀ j, j ≠ 6 → (j < 200 ∨ 344 ≤ j) → s' j = s j := fun j h1 h2 => by rw [← hs', su_n h1, su_n (by omega)]
  have e0 := n 0 (by omega) (by omega)
  have e6 : s' 6 = s 6 + 1 := by rw [← hs', su_e]
  have e3 := n 3 (by omega) (by omega)
  have e4 := n 4 (by omega) (by omega)
  have e5 := n 5 (by omega) (by omega)
  have c' : cs s' = cs s := by unfold cs; rw [e0, if_neg (by omega), if_neg (by omega)]
  refine ⟨?_, ?_, ?_⟩
  · unfold RP1 at k1 ⊢
    rw [e3, e4, e5, c', a0 23 (by omega) (by omega), a0 24 (by omega) (by omega), a0 25 (by omega) (by omega), show z' 229 = z 229 from funext fun i => f1 _ _ (by omega) (by omega) (by omega), show z' 230 = z 230 from funext fun i => f1 _ _ (by omega) (by omega) (by omega)]
    exact ⟨k1.1, fun i hi hj => (k1.2.1 i hi hj).trans (n _ (by omega) (by omega)).symm, fun e he => (k1.2.2.1 e he).trans (n _ (by omega) (by omega)).symm, TI_c e3 c' (fun j h1 h2 => n j (by omega) (by omega)) k1.2.2.2⟩
  · unfold RP2 il ED at k2 ⊢
    rw [e3, e4, e5, e0, e6, show w' 227 = w 227 from funext fun i => f2 _ _ (by omega) (by omega), show w' 228 = w 228 from funext fun i => f2 _ _ (by omega) (by omega)]
    refine ⟨fun l e q => ?_, fun l hl => ?_, fun a ha => ?_⟩
    · rw [u]
      by_cases g : 18 * l + e = (18 * s 4 + s 6).toNat
      · rw [if_pos g, ← hs', su_n (by omega), show 200 + 18 * l + e = 200 + (18 * s 4 + s 6).toNat by omega, su_e]
      · rw [if_neg g, ← hs', su_n (by omega), su_n (by omega)]
        refine k2.1 l e ⟨q.1, q.2.elim Or.inl (fun g2 => Or.inr ⟨g2.1, hm, ?_⟩)⟩
        have g3 := g2.1
        have g4 := g2.2.2
        omega
    · rw [n _ (by omega) (by omega)]; exact k2.2.1 l hl
    · rw [n _ (by omega) (by omega)]; exact k2.2.2 a ha
  · refine ⟨fun a ha => ?_, fun a i q => ?_⟩
    · rw [e5] at ha; rw [n _ (by omega) (by omega), f1 _ _ (by omega) (by omega) (by omega)]; exact k3.1 a ha
    · unfold iw at q
      rw [e0, e5, n (520 + a) (by omega) (by omega)] at q
      rw [n _ (by omega) (by omega), n _ (by omega) (by omega), f1 _ _ (by omega) (by omega) (by omega), f1 _ _ (by omega) (by omega) (by omega)]
      exact k3.2 a i ⟨q.1, q.2.elim Or.inl (fun g => absurd g.2.1 (by omega))⟩
/-- a LINE's end -/
theorem MR_l {h : Int → Int} {s : RG} {z w z' w' : mZ} (hm : s 0 = 7) (h4 : 0 ≤ s 4 ∧ s 4 ≤ 7) (h6 : ED s ≤ s 6) (a0 : z' 225 24 = z 225 24 + 1) (a3 : z' 225 23 = z 225 23) (a5 : z' 225 25 = z 225 25) (f1 : ∀ a i, 229 ≤ a → a ≤ 234 → z' a i = z a i) (u : ∀ e : Nat, w' 227 e = if e = (s 4).toNat then tkW8 h (s 7) else w 227 e) (f2 : ∀ i, w' 228 i = w 228 i) (k : MR h s z w) : MR h (fin7 s) z' w' := by
  obtain ⟨k1, k2, k3⟩ := k
  generalize hs' : fin7 s = s'
  unfold fin7 at hs'
  have n : ∀ j, j ≠ 6 → j ≠ 0 → j ≠ 4 → j ≠ 400 + (s 4).toNat → s' j = s j := fun j h1 h2 h3 h4 => by rw [← hs', su_n h2, su_n h1, su_n h3, su_n h4]
  have e0 : s' 0 = 0 := by rw [← hs', su_e]
  have e4 : s' 4 = s 4 + 1 := by rw [← hs', su_n (by omega), su_n (by omega), su_e]
  have e40 : s' (400 + (s 4).toNat) = s 7 := by rw [← hs', su_n (by omega), su_n (by omega), su_n (by omega), su_e]
  have e5 := n 5 (by omega) (by omega) (by omega) (by omega)
  have e3 := n 3 (by omega) (by omega) (by omega) (by omega)
  have c' : cs s' = cs s := by unfold cs; rw [e0, if_neg (by omega), if_neg (by omega)]
  refine ⟨?_, ?_, ?_⟩
  · unfold RP1 at k1 ⊢
    rw [e3, e4, e5, c', a0, a3, a5, show z' 229 = z 229 from funext fun i => f1 _ _ (by omega) (by omega), show z' 230 = z 230 from funext fun i => f1 _ _ (by omega) (by omega)]
    exact ⟨⟨k1.1.1, by omega, k1.1.2.2⟩, fun i hi hj => (k1.2.1 i hi hj).trans (n _ (by omega) (by omega) (by omega) (by omega)).symm, fun e he => (k1.2.2.1 e he).trans (n _ (by omega) (by omega) (by omega) (by omega)).symm, TI_c e3 c' (fun j h1 h2 => n j (by omega) (by omega) (by omega) (by omega)) k1.2.2.2⟩
  · unfold RP2 il ED at k2 ⊢
    rw [e3, e4, e5, e0, show w' 228 = w 228 from funext f2]
    refine ⟨fun l e q => ?_, fun l hl => ?_, fun a ha => ?_⟩
    · rw [f1 _ _ (by omega) (by omega), n _ (by omega) (by omega) (by omega) (by omega)]
      refine k2.1 l e ⟨q.1, ?_⟩
      rcases q.2 with g | g
      · by_cases c : (l : Int) = s 4
        · exact Or.inr ⟨c, hm, by have := g.2; unfold ED at h6; omega⟩
        · exact Or.inl ⟨by have := g.1; omega, g.2⟩
      · have := g.2.1; omega
    · by_cases g : l = (s 4).toNat
      · rw [u l, if_pos g, g, e40]
      · rw [u l, if_neg g, n _ (by omega) (by omega) (by omega) (by omega)]; exact k2.2.1 l (by omega)
    · rw [n _ (by omega) (by omega) (by omega) (by omega)]; exact k2.2.2 a ha
  · refine ⟨fun a ha => ?_, fun a i q => ?_⟩
    · rw [e5] at ha; rw [n _ (by omega) (by omega) (by omega) (by omega), f1 _ _ (by omega) (by omega)]; exact k3.1 a ha
    · unfold iw at q
      rw [e0, e5, n (520 + a) (by omega) (by omega) (by omega) (by omega)] at q
      rw [n _ (by omega) (by omega) (by omega) (by omega), n _ (by omega) (by omega) (by omega) (by omega), f1 _ _ (by omega) (by omega), f1 _ _ (by omega) (by omega)]
      exact k3.2 a i ⟨q.1, q.2.elim Or.inl (fun g => absurd g.2.1 (by omega))⟩
/-- a TWIST told -/
theorem MR_t {h : Int → Int} {s : RG} {z w z' w' : mZ} {v : Int} (hm : s 0 = 11 ∨ s 0 = 12) (h5 : 0 ≤ s 5 ∧ s 5 ≤ 5) (h6 : 0 ≤ s 6 ∧ s 6 ≤ 7) (h4 : s 4 ≤ 8) (a0 : ∀ i, 23 ≤ i → i ≤ 25 → z' 225 i = z 225 i) (f1 : ∀ a i, 229 ≤ a → a ≤ 234 → a ≠ 232 → a ≠ 233 → z' a i = z a i) (u1 : ∀ i : Nat, z' 232 i = if i = (8 * s 5 + s 6).toNat then s 8 else z 232 i) (u2 : ∀ i : Nat, z' 233 i = if i = (8 * s 5 + s 6).toNat then v else z 233 i) (f2 : ∀ a i, 227 ≤ a → a ≤ 228 → w' a i = w a i) (k : MR h s z w) : MR h (adt s v) z' w' := by
  obtain ⟨k1, k2, k3⟩ := k
  generalize hs' : adt s v = s'
  unfold adt at hs'
  have n : ∀ j, j ≠ 6 → j ≠ 0 → j ≠ 420 + (8 * s 5 + s 6).toNat → j ≠ 470 + (8 * s 5 + s 6).toNat → s' j = s j := fun j h1 h2 h3 h4 => by rw [← hs', su_n h2, su_n h1, su_n h4, su_n h3]
  have e0 : s' 0 = 10 := by rw [← hs', su_e]
  have e6 : s' 6 = s 6 + 1 := by rw [← hs', su_n (by omega), su_e]
  have ea : s' (420 + (8 * s 5 + s 6).toNat) = s 8 := by rw [← hs', su_n (by omega), su_n (by omega), su_n (by omega), su_e]
  have eb : s' (470 + (8 * s 5 + s 6).toNat) = v := by rw [← hs', su_n (by omega), su_n (by omega), su_e]
  have e5 := n 5 (by omega) (by omega) (by omega) (by omega)
  have e4 := n 4 (by omega) (by omega) (by omega) (by omega)
  have e3 := n 3 (by omega) (by omega) (by omega) (by omega)
  have c' : cs s' = cs s := by unfold cs; rw [e0, if_neg (by omega), if_neg (by omega)]
  refine ⟨?_, ?_, ?_⟩
  · unfold RP1 at k1 ⊢
    rw [e3, e4, e5, c', a0 23 (by omega) (by omega), a0 24 (by omega) (by omega), a0 25 (by omega) (by omega), show z' 229 = z 229 from funext fun i => f1 _ _ (by omega) (by omega) (by omega) (by omega), show z' 230 = z 230 from funext fun i => f1 _ _ (by omega) (by omega) (by omega) (by omega)]
    exact ⟨k1.1, fun i hi hj => (k1.2.1 i hi hj).trans (n _ (by omega) (by omega) (by omega) (by omega)).symm, fun e he => (k1.2.2.1 e he).trans (n _ (by omega) (by omega) (by omega) (by omega)).symm, TI_c e3 c' (fun j h1 h2 => n j (by omega) (by omega) (by omega) (by omega)) k1.2.2.2⟩
  · unfold RP2 il ED at k2 ⊢
    rw [e3, e4, e5, e0, show w' 227 = w 227 from funext fun i => f2 _ _ (by omega) (by omega), show w' 228 = w 228 from funext fun i => f2 _ _ (by omega) (by omega)]
    refine ⟨fun l e q => ?_, fun l hl => ?_, fun a ha => ?_⟩
    · rw [f1 _ _ (by omega) (by omega) (by omega) (by omega), n _ (by omega) (by omega) (by omega) (by omega)]
      exact k2.1 l e ⟨q.1, q.2.elim Or.inl (fun g => absurd g.2.1 (by omega))⟩
    · rw [n _ (by omega) (by omega) (by omega) (by omega)]; exact k2.2.1 l hl
    · rw [n _ (by omega) (by omega) (by omega) (by omega)]; exact k2.2.2 a ha
  · refine ⟨fun a ha => ?_, fun a i q => ?_⟩
    · rw [e5] at ha; rw [n _ (by omega) (by omega) (by omega) (by omega), f1 _ _ (by omega) (by omega) (by omega) (by omega)]; exact k3.1 a ha
    · unfold iw at q
      rw [e0, e5, e6, n (520 + a) (by omega) (by omega) (by omega) (by omega)] at q
      rw [u1, u2]
      by_cases g : 8 * a + i = (8 * s 5 + s 6).toNat
      · rw [if_pos g, if_pos g, show 420 + 8 * a + i = 420 + (8 * s 5 + s 6).toNat by omega, show 470 + 8 * a + i = 470 + (8 * s 5 + s 6).toNat by omega, ea, eb]
        exact ⟨rfl, rfl⟩
      · rw [if_neg g, if_neg g, n _ (by omega) (by omega) (by omega) (by omega), n _ (by omega) (by omega) (by omega) (by omega)]
        refine k3.2 a i ⟨q.1, q.2.elim Or.inl (fun g2 => Or.inr ⟨g2.1, by omega, ?_⟩)⟩
        have g3 := g2.1
        have g4 := g2.2.2
        omega
/-- a WORD's end -/
theorem MR_w {h : Int → Int} {s : RG} {z w z' w' : mZ} (hm : s 0 = 10) (h4 : s 4 ≤ 8) (h5 : 0 ≤ s 5 ∧ s 5 ≤ 5) (a0 : z' 225 25 = z 225 25 + 1) (a3 : z' 225 23 = z 225 23) (a5 : z' 225 24 = z 225 24) (f1 : ∀ a i, 229 ≤ a → a ≤ 233 → z' a i = z a i) (u1 : ∀ e : Nat, z' 234 e = if e = (s 5).toNat then s 6 else z 234 e) (u : ∀ e : Nat, w' 228 e = if e = (s 5).toNat then tkW8 h (s 7) else w 228 e) (f2 : ∀ i, w' 227 i = w 227 i) (k : MR h s z w) : MR h (fin10 s) z' w' := by
  obtain ⟨k1, k2, k3⟩ := k
  generalize hs' : fin10 s = s'
  unfold fin10 at hs'
  have n : ∀ j, j ≠ 6 → j ≠ 0 → j ≠ 5 → j ≠ 410 + (s 5).toNat → j ≠ 520 + (s 5).toNat → s' j = s j := fun j h1 h2 h3 h4 h5 => by rw [← hs', su_n h2, su_n h1, su_n h3, su_n h5, su_n h4]
  have e0 : s' 0 = 0 := by rw [← hs', su_e]
  have e5 : s' 5 = s 5 + 1 := by rw [← hs', su_n (by omega), su_n (by omega), su_e]
  have ea : s' (410 + (s 5).toNat) = s 7 := by rw [← hs', su_n (by omega), su_n (by omega), su_n (by omega), su_n (by omega), su_e]
  have eb : s' (520 + (s 5).toNat) = s 6 := by rw [← hs', su_n (by omega), su_n (by omega), su_n (by omega), su_e]
  have e4 := n 4 (by omega) (by omega) (by omega) (by omega) (by omega)
  have e3 := n 3 (by omega) (by omega) (by omega) (by omega) (by omega)
  have c' : cs s' = cs s := by unfold cs; rw [e0, if_neg (by omega), if_neg (by omega)]
  refine ⟨?_, ?_, ?_⟩
  · unfold RP1 at k1 ⊢
    rw [e3, e4, e5, c', a0, a3, a5, show z' 229 = z 229 from funext fun i => f1 _ _ (by omega) (by omega), show z' 230 = z 230 from funext fun i => f1 _ _ (by omega) (by omega)]
    exact ⟨⟨k1.1.1, k1.1.2.1, by omega⟩, fun i hi hj => (k1.2.1 i hi hj).trans (n _ (by omega) (by omega) (by omega) (by omega) (by omega)).symm, fun e he => (k1.2.2.1 e he).trans (n _ (by omega) (by omega) (by omega) (by omega) (by omega)).symm, TI_c e3 c' (fun j h1 h2 => n j (by omega) (by omega) (by omega) (by omega) (by omega)) k1.2.2.2⟩
  · unfold RP2 il ED at k2 ⊢
    rw [e3, e4, e5, e0, show w' 227 = w 227 from funext f2]
    refine ⟨fun l e q => ?_, fun l hl => ?_, fun a ha => ?_⟩
    · rw [f1 _ _ (by omega) (by omega), n _ (by omega) (by omega) (by omega) (by omega) (by omega)]
      exact k2.1 l e ⟨q.1, q.2.elim Or.inl (fun g => absurd g.2.1 (by omega))⟩
    · rw [n _ (by omega) (by omega) (by omega) (by omega) (by omega)]; exact k2.2.1 l hl
    · by_cases g : a = (s 5).toNat
      · rw [u a, if_pos g, g, ea]
      · rw [u a, if_neg g, n _ (by omega) (by omega) (by omega) (by omega) (by omega)]; exact k2.2.2 a (by omega)
  · refine ⟨fun a ha => ?_, fun a i q => ?_⟩
    · rw [e5] at ha
      by_cases g : a = (s 5).toNat
      · rw [u1 a, if_pos g, g, eb]
      · rw [u1 a, if_neg g, n _ (by omega) (by omega) (by omega) (by omega) (by omega)]; exact k3.1 a (by omega)
    · unfold iw at q
      rw [e0, e5] at q
      rw [n _ (by omega) (by omega) (by omega) (by omega) (by omega), n _ (by omega) (by omega) (by omega) (by omega) (by omega), f1 _ _ (by omega) (by omega), f1 _ _ (by omega) (by omega)]
      refine k3.2 a i ⟨q.1, ?_⟩
      rcases q.2 with g | g
      · by_cases g2 : a = (s 5).toNat
        · rw [g2, eb] at g
          exact Or.inr ⟨by omega, by omega, by omega⟩
        · rw [n _ (by omega) (by omega) (by omega) (by omega) (by omega)] at g
          exact Or.inl ⟨by omega, g.2⟩
      · exact absurd g.2.1 (by omega)

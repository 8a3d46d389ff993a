/-! what the class has read, and the state -/
abbrev cs (s : RG) : Int := if s 0 = 1 then s 6 else 0
def wdq (h : Int → Int) (q : Int) : Prop := lets (tkF h q) (tkM h q) ∧ tkM h q ≤ 8
theorem w58 {h : Int → Int} {p q : Int} (a : wdq h p) (b : wdq h q) : tkW5 h p = tkW5 h q ↔ tkW8 h p = tkW8 h q := wl_iff a.1 b.1
abbrev iw (s : RG) (a i : Nat) : Prop := (a < 6 ∧ i < 8) ∧ (((a : Int) < s 5 ∧ (i : Int) < s (520 + a)) ∨ ((a : Int) = s 5 ∧ (10 ≤ s 0 ∧ s 0 ≤ 12) ∧ (i : Int) < s 6))
def MA (s : RG) (z : mZ) (t : Nat) : Prop := (z t 0 = s 3 ∧ z t 3 = s 4 ∧ z t 4 = s 5 ∧ z 3 5 = s 10) ∧ (s 10 = 1 → z t 1 = ED s)
def MT (s : RG) (z : mZ) (t : Nat) : Prop := (∀ i : Nat, i < 36 → (i : Int) < 3 * s 3 + cs s → z (t + 1) i = s (100 + i)) ∧ (∀ e : Nat, e < 18 → z (t + 4) e = s (140 + e)) ∧ (s 10 = 0 → PI (z (t + 1)) (z (t + 4)) (z (t + 5)) (z (t + 6)) (3 * s 3 + cs s))
def ML (s : RG) (w : mZ) (t : Nat) : Prop := ∀ l e : Nat, l < 8 → e < 18 → w (t + 8 + l) e = s (200 + 18 * l + e)
def MN (h : Int → Int) (s : RG) (w : mZ) (t : Nat) : Prop := (∀ l : Nat, (l : Int) < s 4 → w (t + 16) l = tkW5 h (s (400 + l)) ∧ wdq h (s (400 + l))) ∧ (∀ l l' : Nat, (l : Int) < s 4 → (l' : Int) < s 4 → tkW8 h (s (400 + l)) = tkW8 h (s (400 + l')) → l = l') ∧ ∀ a : Nat, (a : Int) < s 5 → w (t + 17) a = tkW5 h (s (410 + a)) ∧ wdq h (s (410 + a))
def MW (s : RG) (z : mZ) (t : Nat) : Prop := (∀ a : Nat, (a : Int) < s 5 → z (t + 18) a = s (520 + a)) ∧ ∀ a i : Nat, iw s a i → z (t + 20 + a) i = s (420 + 8 * a + i) ∧ z (t + 27 + a) i = s (470 + 8 * a + i)
def MC (h : Int → Int) (s : RG) (z w : mZ) (t : Nat) : Prop := MA s z t ∧ MT s z t ∧ ML s w t ∧ MN h s w t ∧ MW s z t
def CA (h : Int → Int) (z w : mZ) (t k : Nat) : Prop := TKc h z w (tp h k) ∧ MC h (sq h k) z w t
/-- a fault, as the text has it -/
def CF (h : Int → Int) (z : mZ) : Prop := ∃ k, sq h k 0 = 21 ∧ z 3 0 = sq h k 1 ∧ z 3 1 = sq h k 2 ∧ z 3 0 ≠ 0
theorem CF_i {h : Int → Int} {z : mZ} {k : Nat} {f p : Int} (e : dl h (sq h k) (tp h k) = flt (sq h k) f p) (hf : f ≠ 0) (h0 : z 3 0 = f) (h1 : z 3 1 = p) : CF h z := ⟨k + 1, by rw [sq_s, e]; rfl, by rw [sq_s, e]; exact h0, by rw [sq_s, e]; exact h1, by omega⟩
theorem CF_b {h : Int → Int} {z : mZ} {k : Nat} {c p : Int} (e : dl h (sq h k) (tp h k) = bd (sq h k) c p) (h0 : z 3 0 = if c = 5 then 1 else 2) (h1 : z 3 1 = p) : CF h z := CF_i (f := if c = 5 then 1 else 2) e (by split <;> omega) h0 h1
/-- memory as it was, the state's own places alone another -/
theorem MC_f {h : Int → Int} {s : RG} {z w z' w' : mZ} {t : Nat} (a0 : z' t 0 = z t 0) (a1 : z' t 1 = z t 1) (a3 : z' t 3 = z t 3) (a4 : z' t 4 = z t 4) (a5 : z' 3 5 = z 3 5) (f1 : ∀ a i, t + 1 ≤ a → a ≤ t + 32 → z' a i = z a i) (f2 : ∀ a i, t + 8 ≤ a → a ≤ t + 17 → w' a i = w a i) (k : MC h s z w t) : MC h s z' w' t := by
  obtain ⟨k1, k2, k3, k4, k5⟩ := k
  refine ⟨?_, ?_, ?_, ?_, ?_⟩
  · unfold MA at k1 ⊢; rw [a0, a1, a3, a4, a5]; exact k1
  · unfold MT at k2 ⊢
    rw [show z' (t + 1) = z (t + 1) from funext fun i => f1 _ _ (by omega) (by omega), show z' (t + 4) = z (t + 4) from funext fun i => f1 _ _ (by omega) (by omega), show z' (t + 5) = z (t + 5) from funext fun i => f1 _ _ (by omega) (by omega), show z' (t + 6) = z (t + 6) from funext fun i => f1 _ _ (by omega) (by omega)]
    exact k2
  · intro l e hl he; rw [f2 _ _ (by omega) (by omega)]; exact k3 l e hl he
  · unfold MN at k4 ⊢
    rw [show w' (t + 16) = w (t + 16) from funext fun i => f2 _ _ (by omega) (by omega), show w' (t + 17) = w (t + 17) from funext fun i => f2 _ _ (by omega) (by omega)]
    exact k4
  · unfold MW at k5 ⊢
    rw [show z' (t + 18) = z (t + 18) from funext fun i => f1 _ _ (by omega) (by omega)]
    refine ⟨k5.1, fun a i q => ?_⟩
    rw [f1 _ _ (by omega) (by have := q.1; omega), f1 _ _ (by omega) (by have := q.1; omega)]
    exact k5.2 a i q
/-- steps that change no data -/
theorem MC_m {h : Int → Int} {s s' : RG} {z w : mZ} {t : Nat} (g1 : ∀ j, 3 ≤ j → j ≤ 5 → s' j = s j) (g2 : ∀ j, 10 ≤ j → s' j = s j) (g3 : cs s' = cs s) (g4 : ∀ a i, iw s' a i → iw s a i) (k : MC h s z w t) : MC h s' z w t := by
  obtain ⟨k1, k2, k3, k4, k5⟩ := k
  have e3 := g1 3 (by omega) (by omega)
  have e4 := g1 4 (by omega) (by omega)
  have e5 := g1 5 (by omega) (by omega)
  have e10 := g2 10 (by omega)
  refine ⟨?_, ?_, ?_, ?_, ?_⟩
  · unfold MA ED at k1 ⊢; rw [e3, e4, e5, e10]; exact k1
  · unfold MT at k2 ⊢
    rw [e3, e10, g3]
    exact ⟨fun i hi hj => (k2.1 i hi hj).trans (g2 _ (by omega)).symm, fun e he => (k2.2.1 e he).trans (g2 _ (by omega)).symm, k2.2.2⟩
  · exact fun l e hl he => (k3 l e hl he).trans (g2 _ (by omega)).symm
  · unfold MN at k4 ⊢
    rw [e4, e5]
    refine ⟨fun l hl => ?_, fun l l' h1 h2 => ?_, fun a ha => ?_⟩
    · rw [g2 _ (by omega)]; exact k4.1 l hl
    · rw [g2 _ (by omega), g2 _ (by omega)]; exact k4.2.1 l l' h1 h2
    · rw [g2 _ (by omega)]; exact k4.2.2 a ha
  · refine ⟨fun a ha => ?_, fun a i q => ?_⟩
    · rw [e5] at ha; rw [g2 _ (by omega)]; exact k5.1 a ha
    · rw [g2 _ (by omega), g2 _ (by omega)]; exact k5.2 a i (g4 a i q)
/-- an EDGE told -/
theorem MC_e {h : Int → Int} {s : RG} {z w z' : mZ} {t : Nat} {nu : Int} (hm : s 0 = 1) (h6 : 0 ≤ s 6 ∧ s 6 < 3) (h3 : 0 ≤ s 3 ∧ s 3 ≤ 11) (n0 : 0 ≤ nu ∧ nu < 18) (a0 : z' t 0 = z t 0) (a1 : z' t 1 = z t 1) (a3 : z' t 3 = z t 3) (a4 : z' t 4 = z t 4) (a5 : z' 3 5 = z 3 5) (f1 : ∀ a i, t + 18 ≤ a → a ≤ t + 32 → z' a i = z a i)
    (u1 : ∀ i : Nat, z' (t + 1) i = if i = (3 * s 3 + s 6).toNat then nu else z (t + 1) i) (u4 : ∀ e : Nat, z' (t + 4) e = if e = nu.toNat then z (t + 4) e + 1 else z (t + 4) e) (pi : PI (z' (t + 1)) (z' (t + 4)) (z' (t + 5)) (z' (t + 6)) (3 * s 3 + s 6 + 1)) (k : MC h s z w t) :
    MC h (su (su (su s (100 + (3 * s 3 + s 6).toNat) nu) (140 + nu.toNat) (s (140 + nu.toNat) + 1)) 6 (s 6 + 1)) z' w t := by
  obtain ⟨k1, k2, k3, k4, k5⟩ := k
  generalize hs' : su (su (su s (100 + (3 * s 3 + s 6).toNat) nu) (140 + nu.toNat) (s (140 + nu.toNat) + 1)) 6 (s 6 + 1) = s'
  have ne : ∀ j, j ≠ 6 → (j < 100 ∨ 158 ≤ j) → s' j = s j := fun j h1 h2 => by rw [← hs', su_n h1, su_n (by omega), su_n (by omega)]
  have e6 : s' 6 = s 6 + 1 := by rw [← hs', su_e]
  have e0 := ne 0 (by omega) (by omega)
  have e3 := ne 3 (by omega) (by omega)
  have e4 := ne 4 (by omega) (by omega)
  have e5 := ne 5 (by omega) (by omega)
  have e10 := ne 10 (by omega) (by omega)
  have c' : cs s' = s 6 + 1 := by unfold cs; rw [e0, if_pos hm, e6]
  have c : cs s = s 6 := if_pos hm
  refine ⟨?_, ?_, ?_, ?_, ?_⟩
  · unfold MA ED at k1 ⊢; rw [e3, e4, e5, e10, a0, a1, a3, a4, a5]; exact k1
  · unfold MT at k2 ⊢
    rw [e3, e10, c']
    refine ⟨fun i hi hj => ?_, fun e he => ?_, fun _ => by rw [← Int.add_assoc]; exact pi⟩
    · rw [u1 i]
      by_cases g : i = (3 * s 3 + s 6).toNat
      · rw [if_pos g, ← hs', su_n (by omega), su_n (by omega), g, su_e]
      · rw [if_neg g, k2.1 i hi (by omega), ← hs', su_n (by omega), su_n (by omega), su_n (by omega)]
    · rw [u4 e]
      by_cases g : e = nu.toNat
      · rw [if_pos g, k2.2.1 e he, ← hs', su_n (by omega), g, su_e]
      · rw [if_neg g, k2.2.1 e he, ← hs', su_n (by omega), su_n (by omega), su_n (by omega)]
  · exact fun l e hl he => (k3 l e hl he).trans (ne _ (by omega) (by omega)).symm
  · unfold MN at k4 ⊢
    rw [e4, e5]
    refine ⟨fun l hl => ?_, fun l l' h1 h2 => ?_, fun a ha => ?_⟩
    · rw [ne _ (by omega) (by omega)]; exact k4.1 l hl
    · rw [ne _ (by omega) (by omega), ne _ (by omega) (by omega)]; exact k4.2.1 l l' h1 h2
    · rw [ne _ (by omega) (by omega)]; exact k4.2.2 a ha
  · refine ⟨fun a ha => ?_, fun a i q => ?_⟩
    · rw [e5] at ha; rw [ne _ (by omega) (by omega), f1 _ _ (by omega) (by omega)]; exact k5.1 a ha
    · unfold iw at q
      rw [e0, e5, e6, ne (520 + a) (by omega) (by omega)] at q
      rw [ne _ (by omega) (by omega), ne _ (by omega) (by omega), f1 _ _ (by omega) (by omega), f1 _ _ (by omega) (by omega)]
      exact k5.2 a i ⟨q.1, q.2.elim Or.inl (fun g => absurd g.2.1 (by omega))⟩
/-- a PIECE's end -/
theorem MC_p {h : Int → Int} {s : RG} {z w z' : mZ} {t : Nat} (hm : s 0 = 1) (h6 : s 6 = 3) (h10 : s 10 = 0) (a0 : z' t 0 = z t 0 + 1) (a3 : z' t 3 = z t 3) (a4 : z' t 4 = z t 4) (a5 : z' 3 5 = z 3 5) (f1 : ∀ a i, t + 1 ≤ a → a ≤ t + 32 → z' a i = z a i) (k : MC h s z w t) :
    MC h (su (su (su s 3 (s 3 + 1)) 6 0) 0 0) z' w t := by
  obtain ⟨k1, k2, k3, k4, k5⟩ := k
  generalize hs' : su (su (su s 3 (s 3 + 1)) 6 0) 0 0 = s'
  have ne : ∀ j, j ≠ 6 → j ≠ 3 → j ≠ 0 → s' j = s j := fun j h1 h2 h3 => by rw [← hs', su_n h3, su_n h1, su_n h2]
  have e0 : s' 0 = 0 := by rw [← hs', su_e]
  have e3 : s' 3 = s 3 + 1 := by rw [← hs', su_n (by omega), su_n (by omega), su_e]
  have e4 := ne 4 (by omega) (by omega) (by omega)
  have e5 := ne 5 (by omega) (by omega) (by omega)
  have e10 := ne 10 (by omega) (by omega) (by omega)
  have c' : cs s' = 0 := by unfold cs; rw [e0, if_neg (by omega)]
  have c : cs s = 3 := by unfold cs; rw [if_pos hm]; exact h6
  have n : ∀ j, 100 ≤ j → s' j = s j := fun j h1 => ne j (by omega) (by omega) (by omega)
  refine ⟨?_, ?_, ?_, ?_, ?_⟩
  · unfold MA at k1 ⊢; rw [e3, e4, e5, e10, a0, a3, a4, a5]; exact ⟨⟨by omega, k1.1.2⟩, fun q => absurd q (by omega)⟩
  · unfold MT at k2 ⊢
    rw [e3, e10, c', show z' (t + 1) = z (t + 1) from funext fun i => f1 _ _ (by omega) (by omega), show z' (t + 4) = z (t + 4) from funext fun i => f1 _ _ (by omega) (by omega), show z' (t + 5) = z (t + 5) from funext fun i => f1 _ _ (by omega) (by omega), show z' (t + 6) = z (t + 6) from funext fun i => f1 _ _ (by omega) (by omega)]
    refine ⟨fun i hi hj => ?_, fun e he => ?_, fun q => ?_⟩
    · rw [n _ (by omega)]; exact k2.1 i hi (by omega)
    · rw [n _ (by omega)]; exact k2.2.1 e he
    · have k6 := k2.2.2 h10
      rw [c] at k6
      rw [show 3 * (s 3 + 1) + 0 = 3 * s 3 + 3 by omega]; exact k6
  · exact fun l e hl he => (k3 l e hl he).trans (n _ (by omega)).symm
  · unfold MN at k4 ⊢
    rw [e4, e5]
    refine ⟨fun l hl => ?_, fun l l' h1 h2 => ?_, fun a ha => ?_⟩
    · rw [n _ (by omega)]; exact k4.1 l hl
    · rw [n _ (by omega), n _ (by omega)]; exact k4.2.1 l l' h1 h2
    · rw [n _ (by omega)]; exact k4.2.2 a ha
  · refine ⟨fun a ha => ?_, fun a i q => ?_⟩
    · rw [e5] at ha; rw [n _ (by omega), f1 _ _ (by omega) (by omega)]; exact k5.1 a ha
    · unfold iw at q
      rw [e0, e5, n (520 + a) (by omega)] at q
      rw [n _ (by omega), n _ (by omega), f1 _ _ (by omega) (by omega), f1 _ _ (by omega) (by omega)]
      exact k5.2 a i ⟨q.1, q.2.elim Or.inl (fun g => absurd g.2.1 (by omega))⟩
/-- the PIECES closed -/
theorem MC_c {h : Int → Int} {s : RG} {z w z' : mZ} {t : Nat} (a0 : z' t 0 = z t 0) (a1 : z' t 1 = ED s) (a3 : z' t 3 = z t 3) (a4 : z' t 4 = z t 4) (a5 : z' 3 5 = 1) (f1 : ∀ a i, t + 1 ≤ a → a ≤ t + 32 → a ≠ t + 2 → a ≠ t + 3 → z' a i = z a i) (k : MC h s z w t) : MC h (su s 10 1) z' w t := by
  obtain ⟨k1, k2, k3, k4, k5⟩ := k
  generalize hs' : su s 10 1 = s'
  have n : ∀ j, j ≠ 10 → s' j = s j := fun j h1 => by rw [← hs', su_n h1]
  have e10 : s' 10 = 1 := by rw [← hs', su_e]
  have c' : cs s' = cs s := by unfold cs; rw [n 0 (by omega), n 6 (by omega)]
  refine ⟨?_, ?_, ?_, ?_, ?_⟩
  · unfold MA ED at k1 ⊢; rw [n 3 (by omega), n 4 (by omega), n 5 (by omega), e10, a0, a1, a3, a4, a5]; exact ⟨⟨k1.1.1, k1.1.2.1, k1.1.2.2.1, rfl⟩, fun _ => rfl⟩
  · unfold MT at k2 ⊢
    rw [n 3 (by omega), e10, c', show z' (t + 1) = z (t + 1) from funext fun i => f1 _ _ (by omega) (by omega) (by omega) (by omega), show z' (t + 4) = z (t + 4) from funext fun i => f1 _ _ (by omega) (by omega) (by omega) (by omega)]
    exact ⟨fun i hi hj => (k2.1 i hi hj).trans (n _ (by omega)).symm, fun e he => (k2.2.1 e he).trans (n _ (by omega)).symm, fun q => absurd q (by omega)⟩
  · exact fun l e hl he => (k3 l e hl he).trans (n _ (by omega)).symm
  · unfold MN at k4 ⊢
    rw [n 4 (by omega), n 5 (by omega)]
    refine ⟨fun l hl => ?_, fun l l' h1 h2 => ?_, fun a ha => ?_⟩
    · rw [n _ (by omega)]; exact k4.1 l hl
    · rw [n _ (by omega), n _ (by omega)]; exact k4.2.1 l l' h1 h2
    · rw [n _ (by omega)]; exact k4.2.2 a ha
  · refine ⟨fun a ha => ?_, fun a i q => ?_⟩
    · rw [n 5 (by omega)] at ha; rw [n _ (by omega), f1 _ _ (by omega) (by omega) (by omega) (by omega)]; exact k5.1 a ha
    · unfold iw at q
      rw [n 0 (by omega), n 5 (by omega), n 6 (by omega), n (520 + a) (by omega)] at q
      rw [n _ (by omega), n _ (by omega), f1 _ _ (by omega) (by omega) (by omega) (by omega), f1 _ _ (by omega) (by omega) (by omega) (by omega)]
      exact k5.2 a i q
/-- a LINE's number -/
theorem MC_n {h : Int → Int} {s : RG} {z w w' : mZ} {t : Nat} {nu : Int} (hm : s 0 = 7) (h6 : 0 ≤ s 6 ∧ s 6 < 18) (h4 : 0 ≤ s 4 ∧ s 4 ≤ 7) (u : ∀ e : Nat, w' (t + 8 + (s 4).toNat) e = if e = (s 6).toNat then nu else w (t + 8 + (s 4).toNat) e) (f : ∀ a i, t + 8 ≤ a → a ≤ t + 17 → a ≠ t + 8 + (s 4).toNat → w' a i = w a i) (k : MC h s z w t) : MC h (su (su s (200 + (18 * s 4 + s 6).toNat) nu) 6 (s 6 + 1)) z w' t := by
  obtain ⟨k1, k2, k3, k4, k5⟩ := k
  generalize hs' : su (su s (200 + (18 * s 4 + s 6).toNat) nu) 6 (s 6 + 1) = s'
  have n : ∀ j, j ≠ 6 → (j < 200 ∨ 344 ≤ j) → s' j = s j := fun j h1 h2 => by rw [← hs', su_n h1, su_n (by omega)]
  have e0 := n 0 (by omega) (by omega)
  have c' : cs s' = cs s := by unfold cs; rw [e0, if_neg (by omega), if_neg (by omega)]
  refine ⟨?_, ?_, ?_, ?_, ?_⟩
  · unfold MA ED at k1 ⊢; rw [n 3 (by omega) (by omega), n 4 (by omega) (by omega), n 5 (by omega) (by omega), n 10 (by omega) (by omega)]; exact k1
  · unfold MT at k2 ⊢
    rw [n 3 (by omega) (by omega), n 10 (by omega) (by omega), c']
    exact ⟨fun i hi hj => (k2.1 i hi hj).trans (n _ (by omega) (by omega)).symm, fun e he => (k2.2.1 e he).trans (n _ (by omega) (by omega)).symm, k2.2.2⟩
  · intro l e hl he
    by_cases g : l = (s 4).toNat
    · rw [g, u e]
      by_cases g2 : e = (s 6).toNat
      · rw [if_pos g2, ← hs', su_n (by omega), g2, show 200 + 18 * (s 4).toNat + (s 6).toNat = 200 + (18 * s 4 + s 6).toNat by omega, su_e]
      · rw [if_neg g2, ← hs', su_n (by omega), su_n (by omega)]; exact k3 _ e (by omega) he
    · rw [f _ _ (by omega) (by omega) (by omega), ← hs', su_n (by omega), su_n (by omega)]; exact k3 l e hl he
  · unfold MN at k4 ⊢
    rw [n 4 (by omega) (by omega), n 5 (by omega) (by omega), show w' (t + 16) = w (t + 16) from funext fun i => f _ _ (by omega) (by omega) (by omega), show w' (t + 17) = w (t + 17) from funext fun i => f _ _ (by omega) (by omega) (by omega)]
    refine ⟨fun l hl => ?_, fun l l' h1 h2 => ?_, fun a ha => ?_⟩
    · rw [n _ (by omega) (by omega)]; exact k4.1 l hl
    · rw [n _ (by omega) (by omega), n _ (by omega) (by omega)]; exact k4.2.1 l l' h1 h2
    · rw [n _ (by omega) (by omega)]; exact k4.2.2 a ha
  · refine ⟨fun a ha => ?_, fun a i q => ?_⟩
    · rw [n 5 (by omega) (by omega)] at ha; rw [n _ (by omega) (by omega)]; exact k5.1 a ha
    · unfold iw at q
      rw [e0, n 5 (by omega) (by omega), n (520 + a) (by omega) (by omega)] at q
      rw [n _ (by omega) (by omega), n _ (by omega) (by omega)]
      exact k5.2 a i ⟨q.1, q.2.elim Or.inl (fun g => absurd g.2.1 (by omega))⟩
/-- a LINE's end -/
theorem MC_l {h : Int → Int} {s : RG} {z w z' w' : mZ} {t : Nat} (hm : s 0 = 7) (h4 : 0 ≤ s 4 ∧ s 4 ≤ 7) (h7 : wdq h (s 7)) (hd : ¬ ∃ l : Nat, (l : Int) < s 4 ∧ tkW8 h (s (400 + l)) = tkW8 h (s 7)) (a0 : z' t 0 = z t 0) (a1 : z' t 1 = z t 1) (a3 : z' t 3 = z t 3 + 1) (a4 : z' t 4 = z t 4) (a5 : z' 3 5 = z 3 5) (f1 : ∀ a i, t + 1 ≤ a → a ≤ t + 32 → z' a i = z a i)
    (u : ∀ e : Nat, w' (t + 16) e = if e = (s 4).toNat then tkW5 h (s 7) else w (t + 16) e) (f : ∀ a i, t + 8 ≤ a → a ≤ t + 17 → a ≠ t + 16 → w' a i = w a i) (k : MC h s z w t) : MC h (fin7 s) z' w' t := by
  obtain ⟨k1, k2, k3, k4, k5⟩ := k
  generalize hs' : fin7 s = s'
  unfold fin7 at hs'
  have n : ∀ j, j ≠ 6 → j ≠ 0 → j ≠ 4 → j ≠ 400 + (s 4).toNat → s' j = s j := fun j h1 h2 h3 h4 => by rw [← hs', su_n h2, su_n h1, su_n h3, su_n h4]
  have e0 : s' 0 = 0 := by rw [← hs', su_e]
  have e4 : s' 4 = s 4 + 1 := by rw [← hs', su_n (by omega), su_n (by omega), su_e]
  have e40 : s' (400 + (s 4).toNat) = s 7 := by rw [← hs', su_n (by omega), su_n (by omega), su_n (by omega), su_e]
  have e5 := n 5 (by omega) (by omega) (by omega) (by omega)
  have e3 := n 3 (by omega) (by omega) (by omega) (by omega)
  have e10 := n 10 (by omega) (by omega) (by omega) (by omega)
  have c' : cs s' = cs s := by unfold cs; rw [e0, if_neg (by omega), if_neg (by omega)]
  refine ⟨?_, ?_, ?_, ?_, ?_⟩
  · unfold MA ED at k1 ⊢; rw [e3, e4, e5, e10, a0, a1, a3, a4, a5]; exact ⟨⟨k1.1.1, by omega, k1.1.2.2⟩, k1.2⟩
  · unfold MT at k2 ⊢
    rw [e3, e10, c', show z' (t + 1) = z (t + 1) from funext fun i => f1 _ _ (by omega) (by omega), show z' (t + 4) = z (t + 4) from funext fun i => f1 _ _ (by omega) (by omega), show z' (t + 5) = z (t + 5) from funext fun i => f1 _ _ (by omega) (by omega), show z' (t + 6) = z (t + 6) from funext fun i => f1 _ _ (by omega) (by omega)]
    exact ⟨fun i hi hj => (k2.1 i hi hj).trans (n _ (by omega) (by omega) (by omega) (by omega)).symm, fun e he => (k2.2.1 e he).trans (n _ (by omega) (by omega) (by omega) (by omega)).symm, k2.2.2⟩
  · intro l e hl he
    rw [f _ _ (by omega) (by omega) (by omega), n _ (by omega) (by omega) (by omega) (by omega)]; exact k3 l e hl he
  · unfold MN at k4 ⊢
    rw [e4, e5, show w' (t + 17) = w (t + 17) from funext fun i => f _ _ (by omega) (by omega) (by omega)]
    have L : ∀ l : Nat, (l : Int) < s 4 → s' (400 + l) = s (400 + l) := fun l hl => n _ (by omega) (by omega) (by omega) (by omega)
    refine ⟨fun l hl => ?_, fun l l' h1 h2 q => ?_, fun a ha => ?_⟩
    · by_cases g : l = (s 4).toNat
      · rw [u l, if_pos g, g, e40]; exact ⟨rfl, h7⟩
      · rw [u l, if_neg g, L l (by omega)]; exact k4.1 l (by omega)
    · by_cases g : l = (s 4).toNat
      · by_cases g' : l' = (s 4).toNat
        · omega
        · rw [g, e40, L l' (by omega)] at q
          exact absurd ⟨l', by omega, q.symm⟩ hd
      · by_cases g' : l' = (s 4).toNat
        · rw [g', e40, L l (by omega)] at q
          exact absurd ⟨l, by omega, q⟩ hd
        · rw [L l (by omega), L l' (by omega)] at q
          exact k4.2.1 l l' (by omega) (by omega) q
    · rw [n _ (by omega) (by omega) (by omega) (by omega)]; exact k4.2.2 a ha
  · refine ⟨fun a ha => ?_, fun a i q => ?_⟩
    · rw [e5] at ha; rw [n _ (by omega) (by omega) (by omega) (by omega), f1 _ _ (by omega) (by omega)]; exact k5.1 a ha
    · unfold iw at q
      rw [e0, e5, n (520 + a) (by omega) (by omega) (by omega) (by omega)] at q
      rw [n _ (by omega) (by omega) (by omega) (by omega), n _ (by omega) (by omega) (by omega) (by omega), f1 _ _ (by omega) (by omega), f1 _ _ (by omega) (by omega)]
      exact k5.2 a i ⟨q.1, q.2.elim Or.inl (fun g => absurd g.2.1 (by omega))⟩
/-- a TWIST told -/
theorem MC_t {h : Int → Int} {s : RG} {z w z' : mZ} {t : Nat} {v : Int} (hm : s 0 = 11 ∨ s 0 = 12) (h5 : 0 ≤ s 5 ∧ s 5 ≤ 5) (h6 : 0 ≤ s 6 ∧ s 6 ≤ 7) (h4 : s 4 ≤ 8) (a0 : z' t 0 = z t 0) (a1 : z' t 1 = z t 1) (a3 : z' t 3 = z t 3) (a4 : z' t 4 = z t 4) (a5 : z' 3 5 = z 3 5) (f1 : ∀ a i, t + 1 ≤ a → a ≤ t + 32 → a ≠ t + 20 + (s 5).toNat → a ≠ t + 27 + (s 5).toNat → z' a i = z a i)
    (u1 : ∀ i : Nat, z' (t + 20 + (s 5).toNat) i = if i = (s 6).toNat then s 8 else z (t + 20 + (s 5).toNat) i) (u2 : ∀ i : Nat, z' (t + 27 + (s 5).toNat) i = if i = (s 6).toNat then v else z (t + 27 + (s 5).toNat) i) (k : MC h s z w t) : MC h (adt s v) z' w t := by
  obtain ⟨k1, k2, k3, k4, k5⟩ := k
  generalize hs' : adt s v = s'
  unfold adt at hs'
  have n : ∀ j, j ≠ 6 → j ≠ 0 → j ≠ 420 + (8 * s 5 + s 6).toNat → j ≠ 470 + (8 * s 5 + s 6).toNat → s' j = s j := fun j h1 h2 h3 h4 => by rw [← hs', su_n h2, su_n h1, su_n h4, su_n h3]
  have e0 : s' 0 = 10 := by rw [← hs', su_e]
  have e6 : s' 6 = s 6 + 1 := by rw [← hs', su_n (by omega), su_e]
  have ea : s' (420 + (8 * s 5 + s 6).toNat) = s 8 := by rw [← hs', su_n (by omega), su_n (by omega), su_n (by omega), su_e]
  have eb : s' (470 + (8 * s 5 + s 6).toNat) = v := by rw [← hs', su_n (by omega), su_n (by omega), su_e]
  have e5 := n 5 (by omega) (by omega) (by omega) (by omega)
  have e4 := n 4 (by omega) (by omega) (by omega) (by omega)
  have e3 := n 3 (by omega) (by omega) (by omega) (by omega)
  have e10 := n 10 (by omega) (by omega) (by omega) (by omega)
  have c' : cs s' = cs s := by unfold cs; rw [e0, if_neg (by omega), if_neg (by omega)]
  refine ⟨?_, ?_, ?_, ?_, ?_⟩
  · unfold MA ED at k1 ⊢; rw [e3, e4, e5, e10, a0, a1, a3, a4, a5]; exact k1
  · unfold MT at k2 ⊢
    rw [e3, e10, c', show z' (t + 1) = z (t + 1) from funext fun i => f1 _ _ (by omega) (by omega) (by omega) (by omega), show z' (t + 4) = z (t + 4) from funext fun i => f1 _ _ (by omega) (by omega) (by omega) (by omega), show z' (t + 5) = z (t + 5) from funext fun i => f1 _ _ (by omega) (by omega) (by omega) (by omega), show z' (t + 6) = z (t + 6) from funext fun i => f1 _ _ (by omega) (by omega) (by omega) (by omega)]
    exact ⟨fun i hi hj => (k2.1 i hi hj).trans (n _ (by omega) (by omega) (by omega) (by omega)).symm, fun e he => (k2.2.1 e he).trans (n _ (by omega) (by omega) (by omega) (by omega)).symm, k2.2.2⟩
  · intro l e hl he
    rw [n _ (by omega) (by omega) (by omega) (by omega)]; exact k3 l e hl he
  · unfold MN at k4 ⊢
    rw [e4, e5]
    refine ⟨fun l hl => ?_, fun l l' h1 h2 => ?_, fun a ha => ?_⟩
    · rw [n _ (by omega) (by omega) (by omega) (by omega)]; exact k4.1 l hl
    · rw [n _ (by omega) (by omega) (by omega) (by omega), n _ (by omega) (by omega) (by omega) (by omega)]; exact k4.2.1 l l' h1 h2
    · rw [n _ (by omega) (by omega) (by omega) (by omega)]; exact k4.2.2 a ha
  · refine ⟨fun a ha => ?_, fun a i q => ?_⟩
    · rw [e5] at ha; rw [n _ (by omega) (by omega) (by omega) (by omega), f1 _ _ (by omega) (by omega) (by omega) (by omega)]; exact k5.1 a ha
    · unfold iw at q
      rw [e0, e5, e6, n (520 + a) (by omega) (by omega) (by omega) (by omega)] at q
      by_cases g : a = (s 5).toNat
      · by_cases g2 : i = (s 6).toNat
        · rw [g, g2, u1, u2, if_pos rfl, if_pos rfl, show 420 + 8 * (s 5).toNat + (s 6).toNat = 420 + (8 * s 5 + s 6).toNat by omega, show 470 + 8 * (s 5).toNat + (s 6).toNat = 470 + (8 * s 5 + s 6).toNat by omega, ea, eb]
          exact ⟨rfl, rfl⟩
        · rw [g, u1, u2, if_neg g2, if_neg g2, n _ (by omega) (by omega) (by omega) (by omega), n _ (by omega) (by omega) (by omega) (by omega)]
          exact k5.2 _ i ⟨⟨by omega, q.1.2⟩, Or.inr ⟨by omega, by omega, by omega⟩⟩
      · rw [n _ (by omega) (by omega) (by omega) (by omega), n _ (by omega) (by omega) (by omega) (by omega), f1 _ _ (by omega) (by omega) (by omega) (by omega), f1 _ _ (by omega) (by omega) (by omega) (by omega)]
        exact k5.2 a i ⟨q.1, q.2.elim Or.inl (fun g => absurd g.1 (by omega))⟩
/-- a WORD's end -/
theorem MC_w {h : Int → Int} {s : RG} {z w z' w' : mZ} {t : Nat} (hm : s 0 = 10) (h4 : s 4 ≤ 8) (h5 : 0 ≤ s 5 ∧ s 5 ≤ 5) (h7 : wdq h (s 7)) (a0 : z' t 0 = z t 0) (a1 : z' t 1 = z t 1) (a3 : z' t 3 = z t 3) (a4 : z' t 4 = z t 4 + 1) (a5 : z' 3 5 = z 3 5) (f1 : ∀ a i, t + 1 ≤ a → a ≤ t + 32 → a ≠ t + 18 → z' a i = z a i)
    (u1 : ∀ e : Nat, z' (t + 18) e = if e = (s 5).toNat then s 6 else z (t + 18) e) (u : ∀ e : Nat, w' (t + 17) e = if e = (s 5).toNat then tkW5 h (s 7) else w (t + 17) e) (f : ∀ a i, t + 8 ≤ a → a ≤ t + 17 → a ≠ t + 17 → w' a i = w a i) (k : MC h s z w t) : MC h (fin10 s) z' w' t := by
  obtain ⟨k1, k2, k3, k4, k5⟩ := k
  generalize hs' : fin10 s = s'
  unfold fin10 at hs'
  have n : ∀ j, j ≠ 6 → j ≠ 0 → j ≠ 5 → j ≠ 410 + (s 5).toNat → j ≠ 520 + (s 5).toNat → s' j = s j := fun j h1 h2 h3 h4 h5 => by rw [← hs', su_n h2, su_n h1, su_n h3, su_n h5, su_n h4]
  have e0 : s' 0 = 0 := by rw [← hs', su_e]
  have e5 : s' 5 = s 5 + 1 := by rw [← hs', su_n (by omega), su_n (by omega), su_e]
  have ea : s' (410 + (s 5).toNat) = s 7 := by rw [← hs', su_n (by omega), su_n (by omega), su_n (by omega), su_n (by omega), su_e]
  have eb : s' (520 + (s 5).toNat) = s 6 := by rw [← hs', su_n (by omega), su_n (by omega), su_n (by omega), su_e]
  have e4 := n 4 (by omega) (by omega) (by omega) (by omega) (by omega)
  have e3 := n 3 (by omega) (by omega) (by omega) (by omega) (by omega)
  have e10 := n 10 (by omega) (by omega) (by omega) (by omega) (by omega)
  have c' : cs s' = cs s := by unfold cs; rw [e0, if_neg (by omega), if_neg (by omega)]
  refine ⟨?_, ?_, ?_, ?_, ?_⟩
  · unfold MA ED at k1 ⊢; rw [e3, e4, e5, e10, a0, a1, a3, a4, a5]; exact ⟨⟨k1.1.1, k1.1.2.1, by omega, k1.1.2.2.2⟩, k1.2⟩
  · unfold MT at k2 ⊢
    rw [e3, e10, c', show z' (t + 1) = z (t + 1) from funext fun i => f1 _ _ (by omega) (by omega) (by omega), show z' (t + 4) = z (t + 4) from funext fun i => f1 _ _ (by omega) (by omega) (by omega), show z' (t + 5) = z (t + 5) from funext fun i => f1 _ _ (by omega) (by omega) (by omega), show z' (t + 6) = z (t + 6) from funext fun i => f1 _ _ (by omega) (by omega) (by omega)]
    exact ⟨fun i hi hj => (k2.1 i hi hj).trans (n _ (by omega) (by omega) (by omega) (by omega) (by omega)).symm, fun e he => (k2.2.1 e he).trans (n _ (by omega) (by omega) (by omega) (by omega) (by omega)).symm, k2.2.2⟩
  · intro l e hl he
    rw [f _ _ (by omega) (by omega) (by omega), n _ (by omega) (by omega) (by omega) (by omega) (by omega)]; exact k3 l e hl he
  · unfold MN at k4 ⊢
    rw [e4, e5, show w' (t + 16) = w (t + 16) from funext fun i => f _ _ (by omega) (by omega) (by omega)]
    refine ⟨fun l hl => ?_, fun l l' h1 h2 => ?_, fun a ha => ?_⟩
    · rw [n _ (by omega) (by omega) (by omega) (by omega) (by omega)]; exact k4.1 l hl
    · rw [n _ (by omega) (by omega) (by omega) (by omega) (by omega), n _ (by omega) (by omega) (by omega) (by omega) (by omega)]; exact k4.2.1 l l' h1 h2
    · by_cases g : a = (s 5).toNat
      · rw [u a, if_pos g, g, ea]; exact ⟨rfl, h7⟩
      · rw [u a, if_neg g, n _ (by omega) (by omega) (by omega) (by omega) (by omega)]; exact k4.2.2 a (by omega)
  · refine ⟨fun a ha => ?_, fun a i q => ?_⟩
    · rw [e5] at ha
      by_cases g : a = (s 5).toNat
      · rw [u1 a, if_pos g, g, eb]
      · rw [u1 a, if_neg g, n _ (by omega) (by omega) (by omega) (by omega) (by omega)]; exact k5.1 a (by omega)
    · unfold iw at q
      rw [e0, e5] at q
      rw [n _ (by omega) (by omega) (by omega) (by omega) (by omega), n _ (by omega) (by omega) (by omega) (by omega) (by omega), f1 _ _ (by omega) (by omega) (by omega), f1 _ _ (by omega) (by omega) (by omega)]
      refine k5.2 a i ⟨q.1, ?_⟩
      rcases q.2 with g | g
      · by_cases g2 : a = (s 5).toNat
        · rw [g2, eb] at g
          exact Or.inr ⟨by omega, by omega, by omega⟩
        · rw [n _ (by omega) (by omega) (by omega) (by omega) (by omega)] at g
          exact Or.inl ⟨by omega, g.2⟩
      · exact absurd g.2.1 (by omega)

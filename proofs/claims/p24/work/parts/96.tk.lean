/-! the class: LINES and WORDS, a token further -/
theorem CA_2 {h : Int → Int} {z w z' w' : mZ} {t k i : Nat} (ht : 159 ≤ t) (hc : MC h (sq h k) z w t) (hi : 7 ≤ i ∧ i ≤ 9) (n : ∀ j, j ≠ 0 → j ≠ i → sq h (k + 1) j = sq h k j) (h0 : sq h k 0 ≠ 1) (h0' : sq h (k + 1) 0 ≠ 1) (h6 : (10 ≤ sq h (k + 1) 0 ∧ sq h (k + 1) 0 ≤ 12) → (10 ≤ sq h k 0 ∧ sq h k 0 ≤ 12) ∨ sq h k 6 ≤ 0) (fr : Fr z w z' w') (tk : TKc h z' w' (tp h (k + 1))) : CA h z' w' t (k + 1) := by
  refine ⟨tk, MC_m (fun j h1 h2 => n j (by omega) (by omega)) (fun j h1 => n j (by omega) (by omega)) ?_ (fun a j q => ?_) (MC_r ht fr hc)⟩
  · unfold cs; rw [if_neg h0, if_neg h0']
  · unfold iw at q ⊢
    rw [n 5 (by omega) (by omega), n 6 (by omega) (by omega), n (520 + a) (by omega) (by omega)] at q
    refine ⟨q.1, q.2.elim Or.inl (fun g => ?_)⟩
    rcases h6 g.2.1 with g2 | g2
    · exact Or.inr ⟨g.1, g2, g.2.2⟩
    · have := g.2.2; omega
/-- a LINE's, a WORD's first word -/
theorem CA_b {h : Int → Int} {z w z' w' : mZ} {t k : Nat} {m : Int} (ht : 159 ≤ t) (hc : MC h (su (sq h k) 10 1) z w t) (hm : sq h k 0 = 0) (e : sq h (k + 1) = su (su (su (sq h k) 0 m) 10 1) 6 0) (m1 : m = 5 ∨ m = 8) (fr : Fr z w z' w') (tk : TKc h z' w' (tp h (k + 1))) : CA h z' w' t (k + 1) ∧ sq h (k + 1) 0 = m ∧ sq h (k + 1) 6 = 0 ∧ sq h (k + 1) 10 = 1 := by
  have n : ∀ j, j ≠ 0 → j ≠ 6 → sq h (k + 1) j = su (sq h k) 10 1 j := fun j h1 h2 => by
    rw [e, su_n h2]
    by_cases c : j = 10
    · rw [c, su_e, su_e]
    · rw [su_n c, su_n h1, su_n c]
  have e0 : sq h (k + 1) 0 = m := by rw [e, su_n (by omega), su_n (by omega), su_e]
  refine ⟨⟨tk, MC_m (fun j h1 h2 => n j (by omega) (by omega)) (fun j h1 => n j (by omega) (by omega)) ?_ (fun a j q => ?_) (MC_r ht fr hc)⟩, e0, by rw [e, su_e], by rw [e, su_n (by omega), su_e]⟩
  · unfold cs; rw [e0, if_neg (by omega), su_n (by omega), hm, if_neg (by omega)]
  · unfold iw at q ⊢
    rw [n 5 (by omega) (by omega), n (520 + a) (by omega) (by omega), e0] at q
    exact ⟨q.1, q.2.elim Or.inl (fun g => absurd g.2.1 (by omega))⟩
/-- names told -/
theorem nm_y {h : Int → Int} {s : RG} {w : mZ} {t : Nat} {p x v : Int} (k : MN h s w t) (hp : x = tkW5 h p) (wp : wdq h p) (c : 0 ≤ v ∧ v < s 4 ∧ w (t + 16) v.toNat = x) : ∃ l : Nat, (l : Int) < s 4 ∧ tkW8 h (s (400 + l)) = tkW8 h p := by
  have q := k.1 v.toNat (by omega)
  exact ⟨v.toNat, by omega, (w58 q.2 wp).mp (by rw [← q.1, c.2.2, hp])⟩
theorem nm_n {h : Int → Int} {s : RG} {w : mZ} {t : Nat} {p x : Int} (k : MN h s w t) (hp : x = tkW5 h p) (wp : wdq h p) (c : ∀ i : Nat, (i : Int) < s 4 → w (t + 16) i ≠ x) : ¬ ∃ l : Nat, (l : Int) < s 4 ∧ tkW8 h (s (400 + l)) = tkW8 h p := by
  rintro ⟨l, hl, e⟩
  have q := k.1 l hl
  exact c l hl (by rw [q.1, hp]; exact (w58 q.2 wp).mpr e)
theorem nw_y {h : Int → Int} {s : RG} {w : mZ} {t : Nat} {p x v : Int} (k : MN h s w t) (hp : x = tkW5 h p) (wp : wdq h p) (c : 0 ≤ v ∧ v < s 5 ∧ w (t + 17) v.toNat = x) : ∃ l : Nat, (l : Int) < s 5 ∧ tkW8 h (s (410 + l)) = tkW8 h p := by
  have q := k.2.2 v.toNat (by omega)
  exact ⟨v.toNat, by omega, (w58 q.2 wp).mp (by rw [← q.1, c.2.2, hp])⟩
theorem nw_n {h : Int → Int} {s : RG} {w : mZ} {t : Nat} {p x : Int} (k : MN h s w t) (hp : x = tkW5 h p) (wp : wdq h p) (c : ∀ i : Nat, (i : Int) < s 5 → w (t + 17) i ≠ x) : ¬ ∃ l : Nat, (l : Int) < s 5 ∧ tkW8 h (s (410 + l)) = tkW8 h p := by
  rintro ⟨l, hl, e⟩
  have q := k.2.2 l hl
  exact c l hl (by rw [q.1, hp]; exact (w58 q.2 wp).mpr e)
theorem fnl_n {W : Nat → Int} {x : Int} : ∀ m : Nat, (∀ l, l < m → W l ≠ x) → fnl W x m = -1
  | 0, _ => rfl
  | m + 1, c => by
    show (if W m = x then (m : Int) else fnl W x m) = -1
    rw [if_neg (c m (by omega))]; exact fnl_n m (fun l hl => c l (by omega))
theorem fnl_y {W : Nat → Int} {x : Int} {v : Nat} : ∀ m : Nat, v < m → W v = x → (∀ l, l < m → W l = x → l = v) → fnl W x m = v
  | 0, h, _, _ => absurd h (by omega)
  | m + 1, h, hv, u => by
    show (if W m = x then (m : Int) else fnl W x m) = v
    by_cases c : W m = x
    · rw [if_pos c]; have := u m (by omega) c; omega
    · rw [if_neg c]
      refine fnl_y m ?_ hv (fun l hl => u l (by omega))
      rcases (show v < m ∨ v = m by omega) with g | g
      · exact g
      · rw [g] at hv; exact absurd hv c
/-- the LINE of a name, as the class finds it -/
theorem fn_y {h : Int → Int} {s : RG} {w : mZ} {t : Nat} {p x v : Int} (k : MN h s w t) (hp : x = tkW5 h p) (wp : wdq h p) (c : 0 ≤ v ∧ v < s 4 ∧ w (t + 16) v.toNat = x) : fnq h s p = v := by
  have q := k.1 v.toNat (by omega)
  have e : tkW8 h (s (400 + v.toNat)) = tkW8 h p := (w58 q.2 wp).mp (by rw [← q.1, c.2.2, hp])
  have r := fnl_y (W := fun l => tkW8 h (s (400 + l))) (x := tkW8 h p) (v := v.toNat) (s 4).toNat (by omega) e (fun l hl g => k.2.1 l v.toNat (by omega) (by omega) (g.trans e.symm))
  exact r.trans (by omega)
theorem fn_n {h : Int → Int} {s : RG} {w : mZ} {t : Nat} {p x : Int} (k : MN h s w t) (hp : x = tkW5 h p) (wp : wdq h p) (c : ∀ i : Nat, (i : Int) < s 4 → w (t + 16) i ≠ x) : fnq h s p = -1 := by
  refine fnl_n _ (fun l hl g => ?_)
  have q := k.1 l (by omega)
  exact c l (by omega) (by rw [q.1, hp]; exact (w58 q.2 wp).mpr g)
/-- a LINE's number; a LINE's end -/
theorem CA_n {h : Int → Int} {z w w1 z' w' : mZ} {t k : Nat} {nu : Int} (ht : 159 ≤ t) (hc : MC h (sq h k) z w t) (hm : sq h k 0 = 7) (h6 : 0 ≤ sq h k 6 ∧ sq h k 6 < z t 1) (h1 : z t 1 ≤ 18) (h5 : z 3 5 = 1) (h4 : 0 ≤ z t 3 ∧ z t 3 ≤ 7) (K : tkK h (tp h k) = 2) (N : nu = tkN h (tp h k)) (n0 : nu ≤ 99)
    (u : ∀ e : Nat, w1 (t + 8 + (z t 3).toNat) e = if e = (sq h k 6).toNat then nu else w (t + 8 + (z t 3).toNat) e) (f : ∀ a i, a ≠ t + 8 + (z t 3).toNat → w1 a i = w a i)
    (fr : Fr z w1 z' w') (tk : TKc h z' w' (tp h (k + 1))) : CA h z' w' t (k + 1) ∧ sq h (k + 1) 0 = 7 ∧ sq h (k + 1) 6 = sq h k 6 + 1 ∧ sq h (k + 1) 7 = sq h k 7 ∧ (∀ j, j ≠ 6 → (j < 200 ∨ 344 ≤ j) → sq h (k + 1) j = sq h k j) := by
  have a4 : z t 3 = sq h k 4 := hc.1.1.2.1
  have a1 : z t 1 = ED (sq h k) := hc.1.2 (by have := hc.1.1.2.2.2; omega)
  rw [a4] at u f h4
  have e : sq h (k + 1) = _ := (sq_s h k).trans (a7_n hm K (by omega) (by omega))
  rw [← N] at e
  have m := MC_n hm (by omega) h4 u (fun a i _ _ h3 => f a i h3) hc
  rw [← e] at m
  have n : ∀ j, j ≠ 6 → (j < 200 ∨ 344 ≤ j) → sq h (k + 1) j = sq h k j := fun j g1 g2 => by rw [e, su_n g1, su_n (by omega)]
  exact ⟨⟨tk, MC_r ht fr m⟩, (n 0 (by omega) (by omega)).trans hm, by rw [e, su_e], n 7 (by omega) (by omega), n⟩
theorem CA_le {h : Int → Int} {z w z1 w1 z' w' : mZ} {t k : Nat} (ht : 159 ≤ t) (hc : MC h (sq h k) z w t) (hm : sq h k 0 = 7) (h6 : sq h k 6 ≠ 0 ∧ z t 1 ≤ sq h k 6) (h5 : z 3 5 = 1) (h4 : 0 ≤ z t 3 ∧ z t 3 ≤ 7) (K : tkK h (tp h k) = 3) (F : FITq (sq h k)) (h7 : wdq h (sq h k 7)) (hd : ¬ ∃ l : Nat, (l : Int) < sq h k 4 ∧ tkW8 h (sq h k (400 + l)) = tkW8 h (sq h k 7))
    (a3 : z1 t 3 = z t 3 + 1) (f1 : ∀ a i, (a = t → i ≠ 3) → z1 a i = z a i) (u : ∀ e : Nat, w1 (t + 16) e = if e = (z t 3).toNat then tkW5 h (sq h k 7) else w (t + 16) e) (f : ∀ a i, a ≠ t + 16 → w1 a i = w a i)
    (fr : Fr z1 w1 z' w') (tk : TKc h z' w' (tp h (k + 1))) : CA h z' w' t (k + 1) ∧ sq h (k + 1) 0 = 0 := by
  have a4 : z t 3 = sq h k 4 := hc.1.1.2.1
  have a1 : z t 1 = ED (sq h k) := hc.1.2 (by have := hc.1.1.2.2.2; omega)
  rw [a4] at u h4
  have e : sq h (k + 1) = _ := (sq_s h k).trans (a7_o hm K (by omega) F)
  have m := MC_l hm h4 h7 hd (f1 _ _ (by omega)) (f1 _ _ (by omega)) a3 (f1 _ _ (by omega)) (f1 _ _ (by omega)) (fun a i g1 g2 => f1 _ _ (by omega)) u (fun a i _ _ g => f a i g) hc
  rw [← e] at m
  exact ⟨⟨tk, MC_r ht fr m⟩, by rw [e]; rfl⟩
/-- whether a LINE's numbers FIT -/
theorem FIT_i {h : Int → Int} {s : RG} {z w : mZ} {t : Nat} (hc : MC h s z w t) (hm : s 0 ≠ 1) (h3 : s 3 ≤ 12) (h4 : 0 ≤ s 4 ∧ s 4 ≤ 7) (hT : ∀ i : Nat, i < 36 → 0 ≤ z (t + 1) i ∧ z (t + 1) i < 18) (q : Nat) (hq : (q : Int) < s 3) : tri (nmq s (3 * q)) (nmq s (3 * q + 1)) (nmq s (3 * q + 2)) ↔ tri (w (t + 8 + (s 4).toNat) (z (t + 1) (3 * q)).toNat) (w (t + 8 + (s 4).toNat) (z (t + 1) (3 * q + 1)).toNat) (w (t + 8 + (s 4).toNat) (z (t + 1) (3 * q + 2)).toNat) := by
  have E : ∀ i : Nat, i < 36 → (i : Int) < 3 * s 3 → nmq s i = w (t + 8 + (s 4).toNat) (z (t + 1) i).toNat := fun i h1 h2 => by
    have c : cs s = 0 := if_neg hm
    unfold nmq
    rw [← hc.2.1.1 i h1 (by omega)]
    exact (hc.2.2.1 _ _ (by omega) (by have := hT i h1; omega)).symm
  rw [E _ (by omega) (by omega), E _ (by omega) (by omega), E _ (by omega) (by omega)]
theorem FIT_y {h : Int → Int} {s : RG} {z w : mZ} {t : Nat} (hc : MC h s z w t) (hm : s 0 ≠ 1) (h3 : s 3 ≤ 12) (h4 : 0 ≤ s 4 ∧ s 4 ≤ 7) (hT : ∀ i : Nat, i < 36 → 0 ≤ z (t + 1) i ∧ z (t + 1) i < 18) (g : ∀ q : Nat, (q : Int) < z t 0 → tri (w (t + 8 + (z t 3).toNat) (z (t + 1) (3 * q)).toNat) (w (t + 8 + (z t 3).toNat) (z (t + 1) (3 * q + 1)).toNat) (w (t + 8 + (z t 3).toNat) (z (t + 1) (3 * q + 2)).toNat)) : FITq s := by
  intro q hq
  have g2 := g q (by rw [hc.1.1.1]; exact hq)
  rw [hc.1.1.2.1] at g2
  exact (FIT_i hc hm h3 h4 hT q hq).mpr g2
theorem FIT_n {h : Int → Int} {s : RG} {z w : mZ} {t : Nat} (hc : MC h s z w t) (hm : s 0 ≠ 1) (h3 : s 3 ≤ 12) (h4 : 0 ≤ s 4 ∧ s 4 ≤ 7) (hT : ∀ i : Nat, i < 36 → 0 ≤ z (t + 1) i ∧ z (t + 1) i < 18) (g : ¬ ∀ q : Nat, (q : Int) < z t 0 → tri (w (t + 8 + (z t 3).toNat) (z (t + 1) (3 * q)).toNat) (w (t + 8 + (z t 3).toNat) (z (t + 1) (3 * q + 1)).toNat) (w (t + 8 + (z t 3).toNat) (z (t + 1) (3 * q + 2)).toNat)) : ¬ FITq s := by
  intro F
  refine g (fun q hq => ?_)
  rw [hc.1.1.1] at hq
  rw [hc.1.1.2.1]
  exact (FIT_i hc hm h3 h4 hT q hq).mp (F q hq)
/-- a TWIST; a WORD's end -/
theorem CA_t {h : Int → Int} {z w z1 z' w' : mZ} {t k : Nat} {v : Int} (ht : 159 ≤ t) (hc : MC h (sq h k) z w t) (hm : sq h k 0 = 11 ∨ sq h k 0 = 12) (e : sq h (k + 1) = adt (sq h k) v) (h5 : 0 ≤ z t 4 ∧ z t 4 ≤ 5) (h6 : 0 ≤ sq h k 6 ∧ sq h k 6 ≤ 7) (h4 : z t 3 ≤ 8) (f1 : ∀ a i, a ≠ t + 20 + (z t 4).toNat → a ≠ t + 27 + (z t 4).toNat → z1 a i = z a i)
    (u1 : ∀ i : Nat, z1 (t + 20 + (z t 4).toNat) i = if i = (sq h k 6).toNat then sq h k 8 else z (t + 20 + (z t 4).toNat) i) (u2 : ∀ i : Nat, z1 (t + 27 + (z t 4).toNat) i = if i = (sq h k 6).toNat then v else z (t + 27 + (z t 4).toNat) i)
    (fr : Fr z1 w z' w') (tk : TKc h z' w' (tp h (k + 1))) : CA h z' w' t (k + 1) ∧ sq h (k + 1) 0 = 10 ∧ sq h (k + 1) 6 = sq h k 6 + 1 ∧ (∀ j, j ≠ 0 → j ≠ 6 → (j < 420 ∨ 520 ≤ j) → sq h (k + 1) j = sq h k j) := by
  have a5 : z t 4 = sq h k 5 := hc.1.1.2.2.1
  have a4 : z t 3 = sq h k 4 := hc.1.1.2.1
  rw [a5] at h5 f1 u1 u2
  have m := MC_t (v := v) hm h5 h6 (by omega) (f1 t 0 (by omega) (by omega)) (f1 _ _ (by omega) (by omega)) (f1 _ _ (by omega) (by omega)) (f1 _ _ (by omega) (by omega)) (f1 _ _ (by omega) (by omega)) (fun a i _ _ g1 g2 => f1 a i g1 g2) u1 u2 hc
  rw [← e] at m
  refine ⟨⟨tk, MC_r ht fr m⟩, by rw [e]; rfl, ?_, fun j g1 g2 g3 => ?_⟩
  · rw [e]; unfold adt; rw [su_n (by omega), su_e]
  · rw [e]; unfold adt; rw [su_n g1, su_n g2, su_n (by omega), su_n (by omega)]
theorem CA_we {h : Int → Int} {z w z1 w1 z' w' : mZ} {t k : Nat} (ht : 159 ≤ t) (hc : MC h (sq h k) z w t) (hm : sq h k 0 = 10) (h6 : 0 < sq h k 6) (h5 : 0 ≤ z t 4 ∧ z t 4 ≤ 5) (h4 : z t 3 ≤ 8) (K : tkK h (tp h k) = 3) (h7 : wdq h (sq h k 7)) (fr : Fr z w z1 w1) (tk : TKc h z1 w1 (tp h (k + 1)))
    (a4 : z' t 4 = z1 t 4 + 1) (f1 : ∀ a i, (a = t → i ≠ 4) → a ≠ t + 18 → z' a i = z1 a i) (u1 : ∀ e : Nat, z' (t + 18) e = if e = (z t 4).toNat then sq h k 6 else z1 (t + 18) e) (u : ∀ e : Nat, w' (t + 17) e = if e = (z t 4).toNat then tkW5 h (sq h k 7) else w1 (t + 17) e) (f : ∀ a i, a ≠ t + 17 → w' a i = w1 a i) : CA h z' w' t (k + 1) ∧ sq h (k + 1) 0 = 0 := by
  have a5 : z t 4 = sq h k 5 := hc.1.1.2.2.1
  have a3 : z t 3 = sq h k 4 := hc.1.1.2.1
  rw [a5] at h5 u1 u
  have e : sq h (k + 1) = _ := (sq_s h k).trans (a10_e hm K h6)
  have m := MC_w (z' := z') (w' := w') hm (by omega) h5 h7 (f1 t 0 (by omega) (by omega)) (f1 _ _ (by omega) (by omega)) (f1 _ _ (by omega) (by omega)) a4 (f1 _ _ (by omega) (by omega)) (fun a i g1 g2 g3 => f1 _ _ (by omega) g3) u1 u (fun a i _ _ g => f a i g) (MC_r ht fr hc)
  rw [← e] at m
  exact ⟨⟨TKc_f (f1 _ _ (by omega) (by omega)) (f1 _ _ (by omega) (by omega)) (f1 _ _ (by omega) (by omega)) (f1 _ _ (by omega) (by omega)) (f _ _ (by omega)) (f1 _ _ (by omega) (by omega)) tk, m⟩, by rw [e]; rfl⟩
theorem MC_0 {h : Int → Int} {z w : mZ} {t : Nat} (a0 : z t 0 = 0) (a1 : z t 1 = 0) (a3 : z t 3 = 0) (a4 : z t 4 = 0) (a5 : z 3 5 = 0) (u : ∀ e : Nat, e < 18 → z (t + 4) e = 0) (r : ∀ l e : Nat, l < 8 → e < 18 → w (t + 8 + l) e = 0) : MC h (sq h 0) z w t := by
  refine ⟨⟨⟨a0, a3, a4, a5⟩, fun q => absurd q (by show ¬ (0 : Int) = 1; omega)⟩, ⟨fun i _ hi => ?_, u, fun _ => PI_n u⟩, r, ⟨fun l hl => ?_, fun l _ hl => ?_, fun a ha => ?_⟩, fun a ha => ?_, fun a i q => ?_⟩
  · have hi : (i : Int) < 3 * 0 + 0 := hi
    omega
  · have hl : (l : Int) < 0 := hl
    omega
  · have hl : (l : Int) < 0 := hl
    omega
  · have ha : (a : Int) < 0 := ha
    omega
  · have ha : (a : Int) < 0 := ha
    omega
  · rcases q.2 with g | g
    · have g : (a : Int) < 0 := g.1
      omega
    · have g : (10 : Int) ≤ 0 := g.2.1.1
      omega
/-- the text's end -/
theorem MC_end {h : Int → Int} {z w : mZ} {t k : Nat} (hm : sq h k 0 = 0) (K : tkK h (tp h k) = 0) (hc : MC h (su (sq h k) 10 1) z w t) (c : clq (sq h k)) : ∃ k, sq h k 0 = 20 ∧ MC h (sq h k) z w t := by
  have e : sq h (k + 1) = _ := (sq_s h k).trans (a0_e1 hm K c)
  have n : ∀ j, j ≠ 0 → sq h (k + 1) j = su (sq h k) 10 1 j := fun j g => by
    rw [e]
    by_cases d : j = 10
    · rw [d, su_e, su_e]
    · rw [su_n d, su_n g, su_n d]
  have e0 : sq h (k + 1) 0 = 20 := by rw [e, su_n (by omega), su_e]
  refine ⟨k + 1, e0, MC_m (fun j h1 h2 => n j (by omega)) (fun j h1 => n j (by omega)) ?_ (fun a i q => ?_) hc⟩
  · unfold cs; rw [e0, if_neg (by omega), su_n (by omega), hm, if_neg (by omega)]
  · unfold iw at q ⊢
    rw [e0, n 5 (by omega), n (520 + a) (by omega)] at q
    exact ⟨q.1, q.2.elim Or.inl (fun g => absurd g.2.1 (by omega))⟩
theorem su_i {s : RG} (h : s 10 = 1) : su s 10 1 = s := by
  funext j
  by_cases c : j = 10
  · rw [c, su_e, h]
  · rw [su_n c]
/-- between two lines of the text; the PIECES closed; at the end -/
def CAz (h : Int → Int) (z w : mZ) (t : Nat) : Prop := ∃ k, CA h z w t k ∧ sq h k 0 = 0
def CCz (h : Int → Int) (z w : mZ) (t : Nat) : Prop := ∃ k, (TKc h z w (tp h k) ∧ MC h (su (sq h k) 10 1) z w t) ∧ clq (sq h k) ∧ sq h k 0 = 0
def CEz (h : Int → Int) (z w : mZ) (t : Nat) : Prop := ∃ k, sq h k 0 = 20 ∧ MC h (sq h k) z w t
theorem CEz_i {h : Int → Int} {z w : mZ} {t k : Nat} (hm : sq h k 0 = 0) (K : tkK h (tp h k) = 0) (hc : MC h (su (sq h k) 10 1) z w t) (c : clq (sq h k)) : CEz h z w t := MC_end hm K hc c

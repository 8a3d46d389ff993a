/-! the reference: lines, the whole text -/
theorem RAm_t {h : Int → Int} {z w : mZ} {m : Int} (hc : RAm h z w m) : TKr h z w (z 225 7) := by
  obtain ⟨k, ⟨tk, _⟩, _⟩ := hc
  rw [tk.1]; exact tk
theorem RA8_t {h : Int → Int} {z w : mZ} (hc : RA8 h z w) : TKr h z w (z 225 7) := by
  obtain ⟨k, ⟨tk, _⟩, _⟩ := hc
  rw [tk.1]; exact tk
theorem RPz_t {h : Int → Int} {z w : mZ} (hc : RPz h z w) : TKr h z w (z 225 7) := by
  obtain ⟨k, tk, _⟩ := hc
  rw [tk.1]; exact tk
theorem RAz_t {h : Int → Int} {z w : mZ} (hc : RAz h z w) : TKr h z w (z 225 7) := by
  obtain ⟨k, ⟨tk, _⟩, _⟩ := hc
  rw [tk.1]; exact tk
theorem WHq_r {h : Int → Int} {z w : mZ} {k : Nat} (m : MR h (sq h k) z w) (h0 : sq h k 0 = 0) (h3 : z 225 23 ≤ 12) : WHq (sq h k) ↔ WHm (z 225 23) (z 229) (z 230) := by
  have e3 : z 225 23 = sq h k 3 := m.1.1.1
  have c0 : cs (sq h k) = 0 := if_neg (by omega)
  rw [WHm_q, ← e3]
  exact WHm_c (fun i hi => (m.1.2.1 i (by omega) (by omega)).symm) (fun e he => (m.1.2.2.1 e he).symm)
theorem RL_2 {h : Int → Int} {z w z1 : mZ} {k : Nat} (hc : RA h z w k) (h0 : sq h k 0 = 0) (hcl : CL0 (sq h k)) (n4 : 0 ≤ z 225 24) (n5 : 0 ≤ z 225 25) (c0 : tkK h (tp h k) ≠ 0) (c6 : tkK h (tp h k) = 6 → 0 < z 225 24 + z 225 25 ∨ 12 ≤ z 225 23) (c7 : tkK h (tp h k) = 7 → 8 ≤ z 225 24) (c9 : tkK h (tp h k) = 9 → 6 ≤ z 225 25) (hf : z 225 2 = 0) (wr : WRp z z1 2) : RF h z1 := by
  obtain ⟨tk, m⟩ := hc
  have e3 : z 225 23 = sq h k 3 := m.1.1.1
  have e4 : z 225 24 = sq h k 4 := m.1.1.2.1
  have e5 : z 225 25 = sq h k 5 := m.1.1.2.2
  have g := WRp_0 wr hf tk
  have cl : 0 < z 225 24 + z 225 25 → sq h k 10 = 1 := fun q => by
    rcases hcl with a | a
    · omega
    · exact a.1
  by_cases d6 : tkK h (tp h k) = 6
  · exact RF_b (a0_p2 h0 d6 ((c6 d6).imp cl (by omega))) g.1 g.2
  · by_cases d7 : tkK h (tp h k) = 7
    · have := c7 d7
      exact RF_b (a0_l2 h0 d7 (Or.inl (cl (by omega))) (by omega)) g.1 g.2
    · by_cases d9 : tkK h (tp h k) = 9
      · have := c9 d9
        exact RF_b (a0_w2 h0 d9 (Or.inl (cl (by omega))) (by omega)) g.1 g.2
      · exact RF_b (a0_b h0 ⟨c0, d6, d7, d9⟩) g.1 g.2
theorem RL_n {s : RG} (hcl : CL0 s) (h0 : s 4 + s 5 = 0) (hw : ¬ WHq s) : ¬ clq s := by
  rintro (a | a)
  · rcases hcl with b | b
    · exact b.1 a
    · have := b.2.1; omega
  · exact hw a
theorem RL_6 {h : Int → Int} {z w z1 : mZ} {k : Nat} (hc : RA h z w k) (h0 : sq h k 0 = 0) (hcl : CL0 (sq h k)) (hs : z 225 24 + z 225 25 = 0) (h3 : z 225 23 ≤ 12) (K : tkK h (tp h k) = 0 ∨ tkK h (tp h k) = 7 ∨ tkK h (tp h k) = 9) (hw : ¬ WHm (z 225 23) (z 229) (z 230)) (hf : z 225 2 = 0) (wr : WRp z z1 6) : RF h z1 := by
  obtain ⟨tk, m⟩ := hc
  have e4 : z 225 24 = sq h k 4 := m.1.1.2.1
  have e5 : z 225 25 = sq h k 5 := m.1.1.2.2
  have g := WRp_0 wr hf tk
  have nc := RL_n hcl (by omega) (fun q => hw ((WHq_r m h0 h3).mp q))
  rcases K with K | K | K
  · rw [if_neg (by omega)] at g
    exact RF_i (f := 6) (a0_e2 h0 K nc) (by omega) g.1 g.2
  · rw [if_neg (by omega)] at g
    exact RF_i (f := 6) (a0_lw h0 K nc) (by omega) g.1 g.2
  · rw [if_neg (by omega)] at g
    exact RF_i (f := 6) (a0_ww h0 K nc) (by omega) g.1 g.2
theorem RL_w {h : Int → Int} {z w : mZ} {k : Nat} (hc : RA h z w k) (h0 : sq h k 0 = 0) (hcl : CL0 (sq h k)) (h3 : z 225 23 ≤ 12) (c : 0 < z 225 24 + z 225 25 ∨ WHm (z 225 23) (z 229) (z 230)) : WHq (sq h k) := by
  obtain ⟨tk, m⟩ := hc
  have e4 : z 225 24 = sq h k 4 := m.1.1.2.1
  have e5 : z 225 25 = sq h k 5 := m.1.1.2.2
  rcases c with c | c
  · rcases hcl with a | a
    · omega
    · exact a.2.2
  · exact (WHq_r m h0 h3).mpr c
/-- a ; that isn't there; one that is -/
theorem OK_s2 {h : Int → Int} {z0 z w z1 : mZ} (hc : OKr h z0 z (RPz h z w)) (hf : z 225 2 = 0) (h59 : z 225 6 ≠ 59) (wr : WRp z z1 2) (P : Prop) (g0 : z1 225 7 = z 225 7) : OKr h z0 z1 P := by
  obtain ⟨⟨k, tk, _, hb⟩, c3, c7⟩ := hc.1 hf
  have g := WRp_0 wr hf tk
  have b : z1 225 2 = bdc (tkK h (tp h k)) := g.1
  have bp := bdc_p (tkK h (tp h k))
  exact ⟨fun q => absurd q (by omega), fun _ => RF_b (hb (fun q => h59 ((tk3 tk).mpr q))) g.1 g.2, by omega⟩
theorem RAz_i {h : Int → Int} {z w z' w' : mZ} (hc : RPz h z w) (h59 : z 225 6 = 59) (fr : Fs z w z' w') (tt : TKr h z' w' (ups h isB (z 225 4))) : RAz h z' w' := by
  obtain ⟨k, tk, hy, _⟩ := hc
  have K := (tk3 tk).mp h59
  obtain ⟨m, h0, hcl⟩ := hy K
  exact ⟨k + 1, ⟨by rw [tp_s, ← (TKr_E tk (by omega) (by omega)).1]; exact tt, MR_f fr m⟩, h0, hcl⟩
theorem RAz_0 {h : Int → Int} {z w : mZ} (tt : TKr h z w (ups h isB 0)) (a3 : z 225 23 = 0) (a4 : z 225 24 = 0) (a5 : z 225 25 = 0) (u : ∀ e : Nat, e < 18 → z 230 e = 0) : RAz h z w := by
  have c0 : cs (sq h 0) = 0 := if_neg (by show ¬ (0 : Int) = 1; omega)
  refine ⟨0, ⟨tt, ⟨⟨a3, a4, a5⟩, fun i _ hi => ?_, u, fun i _ hi => ?_⟩, ⟨fun l e q => ?_, fun l hl => ?_, fun a ha => ?_⟩, fun a ha => ?_, fun a i q => ?_⟩, rfl, Or.inl ⟨by show ¬ (0 : Int) = 1; omega, rfl⟩⟩
  · have hi : (i : Int) < 3 * 0 + cs (sq h 0) := hi
    omega
  · have hi : (i : Int) < 3 * 0 + cs (sq h 0) := hi
    omega
  · rcases q.2 with g | g
    · have g : (l : Int) < 0 := g.1
      omega
    · have g : (0 : Int) = 7 := g.2.1
      omega
  · have hl : (l : Int) < 0 := hl
    omega
  · have ha : (a : Int) < 0 := ha
    omega
  · have ha : (a : Int) < 0 := ha
    omega
  · rcases q.2 with g | g
    · have g : (a : Int) < 0 := g.1
      omega
    · have g : (10 : Int) ≤ 0 := g.2.1.1
      omega
theorem REz_i {h : Int → Int} {z w : mZ} (hc : RAz h z w) (h3 : z 225 23 ≤ 12) (h60 : z 225 6 = 0) (c : 0 < z 225 24 + z 225 25 ∨ WHm (z 225 23) (z 229) (z 230)) : REz h z w := by
  obtain ⟨k, hR, h0, hcl⟩ := hc
  have hw := RL_w hR h0 hcl h3 c
  obtain ⟨tk, m⟩ := hR
  have K := (tk0 tk).mp h60
  have e : sq h (k + 1) = _ := (sq_s h k).trans (a0_e1 h0 K (Or.inr hw))
  have n : ∀ j, j ≠ 0 → j ≠ 10 → sq h (k + 1) j = sq h k j := fun j g1 g2 => by rw [e, su_n g2, su_n g1]
  have e0 : sq h (k + 1) 0 = 20 := by rw [e, su_n (by omega), su_e]
  refine ⟨k + 1, e0, MR_m (fun j h1 h2 => n j (by omega) (by omega)) (fun j h1 => n j (by omega) (by omega)) ?_ (fun a j q => ?_) (fun l e q => ?_) m⟩
  · unfold cs; rw [e0, if_neg (by omega), h0, if_neg (by omega)]
  · unfold iw at q ⊢
    rw [e0, n 5 (by omega) (by omega), n (520 + a) (by omega) (by omega)] at q
    exact ⟨q.1, q.2.elim Or.inl (fun g => absurd g.2.1 (by omega))⟩
  · unfold il ED at q ⊢
    rw [e0, n 4 (by omega) (by omega), n 3 (by omega) (by omega)] at q
    exact ⟨q.1, q.2.elim Or.inl (fun g => absurd g.2.1 (by omega))⟩
theorem RA5_t {h : Int → Int} {z w : mZ} (hc : RA5 h z w) : TKr h z w (z 225 7) := by
  obtain ⟨k, ⟨tk, _⟩, _⟩ := hc
  rw [tk.1]; exact tk
theorem TMp_v {h : Int → Int} {z z1 w1 : mZ} {v : Int} (ti : TMp h z z1 w1 v) (h2 : z1 225 2 = 0) : -9 ≤ v ∧ v ≤ 9 := by
  rcases ti.1 with g | ⟨g, q, m, tq, t3⟩
  · have := g.2.1; omega
  · have t := (t3.resolve_left (by have := bdc_p (tkK h q); omega)).resolve_left (by omega)
    have tn := t.2.1
    have tv := t.2.2.1
    by_cases c : m = 1
    · rw [if_pos c] at tv; omega
    · rw [if_neg c] at tv; omega

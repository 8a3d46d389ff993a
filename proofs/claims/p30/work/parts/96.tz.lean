section
/-! the reference: lines, the whole text -/
theorem RAm_t {h : Int → Int} {z w : mZ} {m : Int} (hc : RAm h z w m) : TKr h z w (z 225 7) := by
  obtain ⟨k, ⟨tk, _⟩, _⟩ := hc
  rw [tk.1]; exact tk
theorem RA8_t {h : Int → Int} {z w : mZ} (hc : RA8 h z w) : TKr h z w (z 225 7) := by
  obtain ⟨k, ⟨tk, _⟩, _⟩ := hc
  rw [tk.1]; exact tk
theorem RPz_t {h : Int → Int} {z w : mZ} (hc : RPz h z w) : TKr h z w (z 225 7) := by
  obtain ⟨k, tk, _⟩ := hc
  rw [tk.1]; exact tk
theorem RAz_t {h : Int → Int} {z w : mZ} (hc : RAz h z w) : TKr h z w (z 225 7) := by
  obtain ⟨k, ⟨tk, _⟩, _⟩ := hc
  rw [tk.1]; exact tk
theorem WHq_r {h : Int → Int} {z w : mZ} {k : Nat} (m : MR h (sq h k) z w) (h0 : sq h k 0 = 0) (h3 : z 225 23 ≤ 12) : WHq (sq h k) ↔ WHm (z 225 23) (z 229) (z 230) := by
  have e3 : z 225 23 = sq h k 3 := m.1.1.1
  have c0 : cs (sq h k) = 0 := if_neg (by omega)
  rw [WHm_q, ← e3]
  exact WHm_c (fun i hi => (m.1.2.1 i (by omega) (by omega)).symm) (fun e he => (m.1.2.2.1 e he).symm)
theorem RL_2 {h : Int → Int} {z w z1 : mZ} {k : Nat} (hc : RA h z w k) (h0 : sq h k 0 = 0) (hcl : CL0 (sq h k)) (n4 : 0 ≤ z 225 24) (n5 : 0 ≤ z 225 25) (c0 : tkK h (tp h k) ≠ 0) (c6 : tkK h (tp h k) = 6 → 0 < z 225 24 + z 225 25 ∨ 12 ≤ z 225 23) (c7 : tkK h (tp h k) = 7 → 8 ≤ z 225 24) (c9 : tkK h (tp h k) = 9 → 6 ≤ z 225 25) (hf : z 225 2 = 0) (wr : WRp z z1 2) : RF h z1 := by
  obtain ⟨tk, m⟩ := hc
  have e3 : z 225 23 = sq h k 3 := m.1.1.1
  have e4 : z 225 24 = sq h k 4 := m.1.1.2.1
  have e5 : z 225 25 = sq h k 5 := m.1.1.2.2
  have g := WRp_0 wr hf tk
  have cl : 0 < z 225 24 + z 225 25 → sq h k 10 = 1 := fun q => by
    rcases hcl with a | a
    · omega
    · exact a.1
  by_cases d6 : tkK h (tp h k) = 6
  · exact RF_b (a0_p2 h0 d6 ((c6 d6).imp cl (by omega))) g.1 g.2
  · by_cases d7 : tkK h (tp h k) = 7
    · have := c7 d7
      exact RF_b (a0_l2 h0 d7 (Or.inl (cl (by omega))) (by omega)) g.1 g.2
    · by_cases d9 : tkK h (tp h k) = 9
      · have := c9 d9
        exact RF_b (a0_w2 h0 d9 (Or.inl (cl (by omega))) (by omega)) g.1 g.2
      · exact RF_b (a0_b h0 ⟨c0, d6, d7, d9⟩) g.1 g.2
theorem RL_n {s : RG} (hcl : CL0 s) (h0 : s 4 + s 5 = 0) (hw : ¬ WHq s) : ¬ clq s := by
  rintro (a | a)
  · rcases hcl with b | b
    · exact b.1 a
    · have := b.2.1; omega
  · exact hw a
theorem RL_6 {h : Int → Int} {z w z1 : mZ} {k : Nat} (hc : RA h z w k) (h0 : sq h k 0 = 0) (hcl : CL0 (sq h k)) (hs : z 225 24 + z 225 25 = 0) (h3 : z 225 23 ≤ 12) (K : tkK h (tp h k) = 0 ∨ tkK h (tp h k) = 7 ∨ tkK h (tp h k) = 9) (hw : ¬ WHm (z 225 23) (z 229) (z 230)) (hf : z 225 2 = 0) (wr : WRp z z1 6) : RF h z1 := by
  obtain ⟨tk, m⟩ := hc
  have e4 : z 225 24 = sq h k 4 := m.1.1.2.1
  have e5 : z 225 25 = sq h k 5 := m.1.1.2.2
  have g := WRp_0 wr hf tk
  have nc := RL_n hcl (by omega) (fun q => hw ((WHq_r m h0 h3).mp q))
  rcases K with K | K | K
  · rw [if_neg (by omega)] at g
    exact RF_i (f := 6) (a0_e2 h0 K nc) (by omega) g.1 g.2
  · rw [if_neg (by omega)] at g
    exact RF_i (f := 6) (a0_lw h0 K nc) (by omega) g.1 g.2
  · rw [if_neg (by omega)] at g
    exact RF_i (f := 6) (a0_ww h0 K nc) (by omega) g.1 g.2
theorem RL_w {h : Int → Int} {z w : mZ} {k : Nat} (hc : RA h z w k) (h0 : sq h k 0 = 0) (hcl : CL0 (sq h k)) (h3 : z 225 23 ≤ 12) (c : 0 < z 225 24 + z 225 25 ∨ WHm (z 225 23) (z 229) (z 230)) : WHq (sq h k) := by
  obtain ⟨tk, m⟩ := hc
  have e4 : z 225 24 = sq h k 4 := m.1.1.2.1
  have e5 : z 225 25 = sq h k 5 := m.1.1.2.2
  rcases c with c | c
  · rcases hcl with a | a
    · omega
    · exact a.2.2
  · exact (WHq_r m h0 h3).mpr c
/-- a ; that isn't there; one that is -/
theorem OK_s2 {h : Int → Int} {z0 z w z1 : mZ} (hc : OKr h z0 z (RPz h z w)) (hf : z 225 2 = 0) (h59 : z 225 6 ≠ 59) (wr : WRp z z1 2) (P : Prop) (g0 : z1 225 7 = z 225 7) : OKr h z0 z1 P := by
  obtain ⟨⟨k, tk, _, hb⟩, c3, c7⟩ := hc.1 hf
  have g := WRp_0 wr hf tk
  have b : z1 225 2 = bdc (tkK h (tp h k)) := g.1
  have bp := bdc_p (tkK h (tp h k))
  exact ⟨fun q => absurd q (by omega), fun _ => RF_b (hb (fun q => h59 ((tk3 tk).mpr q))) g.1 g.2, by omega⟩
theorem RAz_i {h : Int → Int} {z w z' w' : mZ} (hc : RPz h z w) (h59 : z 225 6 = 59) (fr : Fs z w z' w') (tt : TKr h z' w' (ups h isB (z 225 4))) : RAz h z' w' := by
  obtain ⟨k, tk, hy, _⟩ := hc
  have K := (tk3 tk).mp h59
  obtain ⟨m, h0, hcl⟩ := hy K
  exact ⟨k + 1, ⟨by rw [tp_s, ← (TKr_E tk (by omega) (by omega)).1]; exact tt, MR_f fr m⟩, h0, hcl⟩
theorem RAz_0 {h : Int → Int} {z w : mZ} (tt : TKr h z w (ups h isB 0)) (a3 : z 225 23 = 0) (a4 : z 225 24 = 0) (a5 : z 225 25 = 0) (u : ∀ e : Nat, e < 18 → z 230 e = 0) : RAz h z w := by
  have c0 : cs (sq h 0) = 0 := if_neg (by show ¬ (0 : Int) = 1; omega)
  refine ⟨0, ⟨tt, ⟨⟨a3, a4, a5⟩, fun i _ hi => ?_, u, fun i _ hi => ?_⟩, ⟨fun l e q => ?_, fun l hl => ?_, fun a ha => ?_⟩, fun a ha => ?_, fun a i q => ?_⟩, rfl, Or.inl ⟨by show ¬ (0 : Int) = 1; omega, rfl⟩⟩
  · have hi : (i : Int) < 3 * 0 + cs (sq h 0) := hi
    omega
  · have hi : (i : Int) < 3 * 0 + cs (sq h 0) := hi
    omega
  · rcases q.2 with g | g
    · have g : (l : Int) < 0 := g.1
      omega
    · have g : (0 : Int) = 7 := g.2.1
      omega
  · have hl : (l : Int) < 0 := hl
    omega
  · have ha : (a : Int) < 0 := ha
    omega
  · have ha : (a : Int) < 0 := ha
    omega
  · rcases q.2 with g | g
    · have g : (a : Int) < 0 := g.1
      omega
    · have g : (10 : Int) ≤ 0 := g.2.1.1
      omega
theorem REz_i {h : Int → Int} {z w : mZ} (hc : RAz h z w) (h3 : z 225 23 ≤ 12) (h60 : z 225 6 = 0) (c : 0 < z 225 24 + z 225 25 ∨ WHm (z 225 23) (z 229) (z 230)) : REz h z w := by
  obtain ⟨k, hR, h0, hcl⟩ := hc
  have hw := RL_w hR h0 hcl h3 c
  obtain ⟨tk, m⟩ := hR
  have K := (tk0 tk).mp h60
  have e : sq h (k + 1) = _ := (sq_s h k).trans (a0_e1 h0 K (Or.inr hw))
  have n : ∀ j, j ≠ 0 → j ≠ 10 → sq h (k + 1) j = sq h k j := fun j g1 g2 => by rw [e, su_n g2, su_n g1]
  have e0 : sq h (k + 1) 0 = 20 := by rw [e, su_n (by omega), su_e]
  refine ⟨k + 1, e0, MR_m (fun j h1 h2 => n j (by omega) (by omega)) (fun j h1 => n j (by omega) (by omega)) ?_ (fun a j q => ?_) (fun l e q => ?_) m⟩
  · unfold cs; rw [e0, if_neg (by omega), h0, if_neg (by omega)]
  · unfold iw at q ⊢
    rw [e0, n 5 (by omega) (by omega), n (520 + a) (by omega) (by omega)] at q
    exact ⟨q.1, q.2.elim Or.inl (fun g => absurd g.2.1 (by omega))⟩
  · unfold il ED at q ⊢
    rw [e0, n 4 (by omega) (by omega), n 3 (by omega) (by omega)] at q
    exact ⟨q.1, q.2.elim Or.inl (fun g => absurd g.2.1 (by omega))⟩
theorem RA5_t {h : Int → Int} {z w : mZ} (hc : RA5 h z w) : TKr h z w (z 225 7) := by
  obtain ⟨k, ⟨tk, _⟩, _⟩ := hc
  rw [tk.1]; exact tk
theorem TMp_v {h : Int → Int} {z z1 w1 : mZ} {v : Int} (ti : TMp h z z1 w1 v) (h2 : z1 225 2 = 0) : -9 ≤ v ∧ v ≤ 9 := by
  rcases ti.1 with g | ⟨g, q, m, tq, t3⟩
  · have := g.2.1; omega
  · have t := (t3.resolve_left (by have := bdc_p (tkK h q); omega)).resolve_left (by omega)
    have tn := t.2.1
    have tv := t.2.2.1
    by_cases c : m = 1
    · rw [if_pos c] at tv; omega
    · rw [if_neg c] at tv; omega
end
section
/-! methods, printed by wip/tools/vcg.py -/
/-- LoopGroundModel isWhole -/
abbrev S_163x  : mS := []
abbrev E_163x  (z0 w0 : mZ) (x y tx it mt tt ct : Option Nat) : Int → mZ → mZ → mP → Prop := fun v z w p => p = (pq x y tx it mt tt ct) ∧ z0 = z ∧ w0 = w ∧ 0 ≤ v ∧ v ≤ 1 ∧ ((v = 1 → WHm (z0 225 23) (z0 229) (z0 230)) ∧ (v = 0 → ¬ WHm (z0 225 23) (z0 229) (z0 230)))
theorem m_163x {d : Nat} {z0 w0 : mZ} {x y tx it mt tt ct : Option Nat}  (hz : rz z0) (hw : rw_ w0) : wc (d + 2) 163 [.ref 225] (mk z0 w0 (pq x y tx it mt tt ct)) (poI S_163x z0 w0 (E_163x  z0 w0 x y tx it mt tt ct)) := by
  have hst : st_ S_163x z0 w0 z0 w0 := st_rf hz hw
  have hz47 := rd_225_23 hz
  have h23 := rd_225_23 hz
  have key : ∀ N : Nat, (∀ (x1 x2 : Int) , 0 ≤ x1 ∧ x1 ≤ 1 → 0 ≤ x2 ∧ x2 ≤ 18 → ((x1 = 1 → z0 225 23 % 2 = 0 ∧ ∀ e : Nat, (e : Int) < x2 → z0 230 e = if (e : Int) < 3 * z0 225 23 / 2 then 2 else 0) ∧ (x1 = 0 → ¬ (z0 225 23 % 2 = 0 ∧ ∀ e : Nat, (e : Int) < x2 → z0 230 e = if (e : Int) < 3 * z0 225 23 / 2 then 2 else 0))) → 97 * (18 - x2) + 305635 < (N : Int) → wp_ (d + 1) 163 6 (some .boolean) (17, [(0, .ref 225), (1, .int (Int32.ofInt x1)), (2, .int (Int32.ofInt x2))], [], mk z0 w0 (pq x y tx it mt tt ct)) (poI S_163x z0 w0 (E_163x  z0 w0 x y tx it mt tt ct))) ∧ (∀ (x1 x2 x3 : Int) , 0 ≤ x1 ∧ x1 ≤ 1 → 0 ≤ x2 ∧ x2 ≤ 2147483647 → 0 ≤ x3 ∧ x3 ≤ 12 → ((x1 = 1 → z0 225 23 % 2 = 0 ∧ ∀ e : Nat, (e : Int) < 18 → z0 230 e = if (e : Int) < 3 * z0 225 23 / 2 then 2 else 0) ∧ (x1 = 0 → ¬ (z0 225 23 % 2 = 0 ∧ ∀ e : Nat, (e : Int) < 18 → z0 230 e = if (e : Int) < 3 * z0 225 23 / 2 then 2 else 0))) → (0 ≤ x2 ∧ (z0 225 23 ≠ 0 → ∀ q, BT x2 q ↔ hgx (z0 229) (z0 225 23).toNat (x3.toNat * (z0 225 23).toNat) q)) → (x3 ≤ z0 225 23) → 21825 * (12 - x3) + 20428 < (N : Int) → wp_ (d + 1) 163 6 (some .boolean) (65, [(0, .ref 225), (1, .int (Int32.ofInt x1)), (2, .int (Int32.ofInt x2)), (3, .int (Int32.ofInt x3))], [], mk z0 w0 (pq x y tx it mt tt ct)) (poI S_163x z0 w0 (E_163x  z0 w0 x y tx it mt tt ct))) ∧ (∀ (x1 x2 x3 x4 : Int) , 0 ≤ x1 ∧ x1 ≤ 1 → 0 ≤ x2 ∧ x2 ≤ 2147483647 → 0 ≤ x3 ∧ x3 ≤ 11 → 0 ≤ x4 ∧ x4 ≤ 12 → 1 ≤ z0 225 23 ∧ z0 225 23 ≤ 12 → ((x1 = 1 → z0 225 23 % 2 = 0 ∧ ∀ e : Nat, (e : Int) < 18 → z0 230 e = if (e : Int) < 3 * z0 225 23 / 2 then 2 else 0) ∧ (x1 = 0 → ¬ (z0 225 23 % 2 = 0 ∧ ∀ e : Nat, (e : Int) < 18 → z0 230 e = if (e : Int) < 3 * z0 225 23 / 2 then 2 else 0))) → (0 ≤ x2 ∧ ∀ q, BT x2 q ↔ hgx (z0 229) (z0 225 23).toNat (x3.toNat * (z0 225 23).toNat + x4.toNat) q) → (x3 < z0 225 23 ∧ x4 ≤ z0 225 23) → 21825 * (12 - x3) + 1455 * (12 - x4) + 1410 < (N : Int) → wp_ (d + 1) 163 6 (some .boolean) (76, [(0, .ref 225), (1, .int (Int32.ofInt x1)), (2, .int (Int32.ofInt x2)), (3, .int (Int32.ofInt x3)), (4, .int (Int32.ofInt x4))], [], mk z0 w0 (pq x y tx it mt tt ct)) (poI S_163x z0 w0 (E_163x  z0 w0 x y tx it mt tt ct))) ∧ (∀ (x1 x2 x3 x4 x5 : Int) , 0 ≤ x1 ∧ x1 ≤ 1 → 0 ≤ x2 ∧ x2 ≤ 2147483647 → 0 ≤ x3 ∧ x3 ≤ 11 → 0 ≤ x4 ∧ x4 ≤ 11 → 0 ≤ x5 ∧ x5 ≤ 12 → 1 ≤ z0 225 23 ∧ z0 225 23 ≤ 12 → ((x1 = 1 → z0 225 23 % 2 = 0 ∧ ∀ e : Nat, (e : Int) < 18 → z0 230 e = if (e : Int) < 3 * z0 225 23 / 2 then 2 else 0) ∧ (x1 = 0 → ¬ (z0 225 23 % 2 = 0 ∧ ∀ e : Nat, (e : Int) < 18 → z0 230 e = if (e : Int) < 3 * z0 225 23 / 2 then 2 else 0))) → (0 ≤ x2 ∧ ∀ q, BT x2 q ↔ hgr (z0 229) (z0 225 23).toNat x3.toNat x4.toNat x5.toNat q) → (x3 < z0 225 23 ∧ x4 < z0 225 23 ∧ x5 ≤ z0 225 23) → (hgx (z0 229) (z0 225 23).toNat (x3.toNat * (z0 225 23).toNat + x4.toNat) x4.toNat) → 21825 * (12 - x3) + 1455 * (12 - x4) + 97 * (12 - x5) + 39 < (N : Int) → wp_ (d + 1) 163 6 (some .boolean) (98, [(0, .ref 225), (1, .int (Int32.ofInt x1)), (2, .int (Int32.ofInt x2)), (3, .int (Int32.ofInt x3)), (4, .int (Int32.ofInt x4)), (5, .int (Int32.ofInt x5))], [], mk z0 w0 (pq x y tx it mt tt ct)) (poI S_163x z0 w0 (E_163x  z0 w0 x y tx it mt tt ct))) := by
    intro N
    induction N with
    | zero =>
      refine ⟨?_, ?_, ?_, ?_⟩
      · intro x1 x2 
        intros; exfalso; omega
      · intro x1 x2 x3 
        intros; exfalso; omega
      · intro x1 x2 x3 x4 
        intros; exfalso; omega
      · intro x1 x2 x3 x4 x5 
        intros; exfalso; omega
    | succ N ih =>
      obtain ⟨ih0, ih1, ih2, ih3⟩ := ih
      refine ⟨?_, ?_, ?_, ?_⟩
      · intro x1 x2  hx1 hx2 asi hM
        refine r_ld (pc' := 18) rfl rfl rfl rfl ?_
        refine r_cb (pc' := 20) rfl (by decide) rfl ?_
        refine r_ige (pc' := 23) rfl rfl ⟨by omega, by omega⟩ ⟨by decide, by decide⟩ (fun hc48 => ?_) (fun hc48 => ?_)
        · skip
          refine r_c0 (pc' := 62) rfl rfl ?_
          refine r_st (pc' := 63) (lv' := [(2, _), (0, _), (1, _)]) rfl rfl rfl rfl ?_
          refine r_c0 (pc' := 64) rfl rfl ?_
          refine r_st (pc' := 65) (lv' := [(3, _), (2, _), (0, _), (1, _)]) rfl rfl rfl rfl ?_
          exact w_lv (sub_c rfl (sub_c rfl (sub_c rfl (sub_c rfl sub_n)))) rfl (ih1 x1 1 0 ⟨by omega, by omega⟩ ⟨by omega, by omega⟩ ⟨by omega, by omega⟩ (by first | exact asi | (rw [show x2 = 18 by omega] at asi; exact asi)) (by first | exact ⟨by omega, fun _ q => by rw [show (0 : Int).toNat * (z0 225 23).toNat = 0 from Nat.zero_mul _]; exact BT_1 q⟩ | exact ⟨by omega, fun _ q => by rw [as1.2 q, show x4.toNat = (z0 225 23).toNat by omega, show (x3 + 1).toNat * (z0 225 23).toNat = x3.toNat * (z0 225 23).toNat + (z0 225 23).toNat from by rw [show (x3 + 1).toNat = x3.toNat + 1 by omega]; exact Nat.succ_mul _ _]⟩) (by first | omega | assumption) (by omega))
        · skip
          refine r_ld (pc' := 24) rfl rfl rfl rfl ?_
          refine r_zeq (pc' := 27) rfl rfl ⟨by omega, by omega⟩ (fun hc49 => ?_) (fun hc49 => ?_)
          · skip
            refine r_c0 (pc' := 54) rfl rfl ?_
            refine r_st (pc' := 55) (lv' := [(1, _), (0, _), (2, _)]) rfl rfl rfl rfl ?_
            refine r_inc (pc' := 58) (lv' := [(1, _), (0, _)]) rfl rfl rfl rfl rfl ?_
            refine r_go rfl ?_
            exact w_lv (sub_c rfl (sub_c rfl (sub_c rfl sub_n))) rfl (ih0 0 (x2 + 1) ⟨by omega, by omega⟩ ⟨by omega, by omega⟩ (by first | exact ⟨fun _ => ⟨by omega, fun e he => absurd he (by omega)⟩, fun q => absurd q (by omega)⟩ | exact ⟨fun q => absurd q (by omega), fun _ q => by have := q.1; omega⟩ | exact ⟨fun q => absurd q (by omega), fun _ q => asi.2 (by omega) ⟨q.1, fun e he => q.2 e (by omega)⟩⟩ | (refine ⟨fun _ => ⟨(asi.1 (by omega)).1, fun e he => ?_⟩, fun q => absurd q (by omega)⟩; by_cases c : e = x2.toNat; (subst c; first | (rw [if_pos (by omega)]; omega) | (rw [if_neg (by omega)]; omega)); exact (asi.1 (by omega)).2 e (by omega)) | (refine ⟨fun q => absurd q (by omega), fun _ q => ?_⟩; have q2 := q.2 x2.toNat (by omega); first | (rw [if_pos (by omega)] at q2; omega) | (rw [if_neg (by omega)] at q2; omega))) (by omega))
          · skip
            refine r_ld (pc' := 28) rfl rfl rfl rfl ?_
            refine r_gr (b := 230) (pc' := 31) rfl rfl sh_225 rfl pp_225_13 ?_
            refine r_ld (pc' := 32) rfl rfl rfl rfl ?_
            have hb50 := rd_230 hz (i := x2.toNat) (by omega)
            refine r_ia (pc' := 33) rfl rfl sh_230 rfl (by omega) (by omega) rfl ?_
            refine r_ld (pc' := 34) rfl rfl rfl rfl ?_
            refine r_ld (pc' := 35) rfl rfl rfl rfl ?_
            have hb51 := rd_225_23 hz
            refine r_cVI (pc' := 38) rfl rfl rfl rfl rfl sh_225 (m_160 (d := d)  hst.1 hst.2.1 ) (fun v52 z53 w54 p55 h56 hs57 hE58 => ?_)
            obtain ⟨rfl, rfl, rfl, hE58⟩ := hE58
            refine r_ige (pc' := 41) rfl rfl ⟨by omega, by omega⟩ ⟨by omega, by omega⟩ (fun hc60 => ?_) (fun hc60 => ?_)
            · skip
              refine r_c0 (pc' := 46) rfl rfl ?_
              refine r_ine (pc' := 49) rfl rfl ⟨by omega, by omega⟩ ⟨by decide, by decide⟩ (fun hc61 => ?_) (fun hc61 => ?_)
              · skip
                refine r_c0 (pc' := 54) rfl rfl ?_
                refine r_st (pc' := 55) (lv' := [(1, _), (0, _), (2, _)]) rfl rfl rfl rfl ?_
                refine r_inc (pc' := 58) (lv' := [(1, _), (0, _)]) rfl rfl rfl rfl rfl ?_
                refine r_go rfl ?_
                exact w_lv (sub_c rfl (sub_c rfl (sub_c rfl sub_n))) rfl (ih0 0 (x2 + 1) ⟨by omega, by omega⟩ ⟨by omega, by omega⟩ (by first | exact ⟨fun _ => ⟨by omega, fun e he => absurd he (by omega)⟩, fun q => absurd q (by omega)⟩ | exact ⟨fun q => absurd q (by omega), fun _ q => by have := q.1; omega⟩ | exact ⟨fun q => absurd q (by omega), fun _ q => asi.2 (by omega) ⟨q.1, fun e he => q.2 e (by omega)⟩⟩ | (refine ⟨fun _ => ⟨(asi.1 (by omega)).1, fun e he => ?_⟩, fun q => absurd q (by omega)⟩; by_cases c : e = x2.toNat; (subst c; first | (rw [if_pos (by omega)]; omega) | (rw [if_neg (by omega)]; omega)); exact (asi.1 (by omega)).2 e (by omega)) | (refine ⟨fun q => absurd q (by omega), fun _ q => ?_⟩; have q2 := q.2 x2.toNat (by omega); first | (rw [if_pos (by omega)] at q2; omega) | (rw [if_neg (by omega)] at q2; omega))) (by omega))
              · skip
                refine r_c0 (pc' := 50) rfl rfl ?_
                refine r_go rfl ?_
                refine r_st (pc' := 55) (lv' := [(1, _), (0, _), (2, _)]) rfl rfl rfl rfl ?_
                refine r_inc (pc' := 58) (lv' := [(1, _), (0, _)]) rfl rfl rfl rfl rfl ?_
                refine r_go rfl ?_
                exact w_lv (sub_c rfl (sub_c rfl (sub_c rfl sub_n))) rfl (ih0 1 (x2 + 1) ⟨by omega, by omega⟩ ⟨by omega, by omega⟩ (by first | exact ⟨fun _ => ⟨by omega, fun e he => absurd he (by omega)⟩, fun q => absurd q (by omega)⟩ | exact ⟨fun q => absurd q (by omega), fun _ q => by have := q.1; omega⟩ | exact ⟨fun q => absurd q (by omega), fun _ q => asi.2 (by omega) ⟨q.1, fun e he => q.2 e (by omega)⟩⟩ | (refine ⟨fun _ => ⟨(asi.1 (by omega)).1, fun e he => ?_⟩, fun q => absurd q (by omega)⟩; by_cases c : e = x2.toNat; (subst c; first | (rw [if_pos (by omega)]; omega) | (rw [if_neg (by omega)]; omega)); exact (asi.1 (by omega)).2 e (by omega)) | (refine ⟨fun q => absurd q (by omega), fun _ q => ?_⟩; have q2 := q.2 x2.toNat (by omega); first | (rw [if_pos (by omega)] at q2; omega) | (rw [if_neg (by omega)] at q2; omega))) (by omega))
            · skip
              refine r_c0 (pc' := 42) rfl rfl ?_
              refine r_go rfl ?_
              refine r_ine (pc' := 49) rfl rfl ⟨by omega, by omega⟩ ⟨by decide, by decide⟩ (fun hc62 => ?_) (fun hc62 => ?_)
              · skip
                refine r_c0 (pc' := 54) rfl rfl ?_
                refine r_st (pc' := 55) (lv' := [(1, _), (0, _), (2, _)]) rfl rfl rfl rfl ?_
                refine r_inc (pc' := 58) (lv' := [(1, _), (0, _)]) rfl rfl rfl rfl rfl ?_
                refine r_go rfl ?_
                exact w_lv (sub_c rfl (sub_c rfl (sub_c rfl sub_n))) rfl (ih0 0 (x2 + 1) ⟨by omega, by omega⟩ ⟨by omega, by omega⟩ (by first | exact ⟨fun _ => ⟨by omega, fun e he => absurd he (by omega)⟩, fun q => absurd q (by omega)⟩ | exact ⟨fun q => absurd q (by omega), fun _ q => by have := q.1; omega⟩ | exact ⟨fun q => absurd q (by omega), fun _ q => asi.2 (by omega) ⟨q.1, fun e he => q.2 e (by omega)⟩⟩ | (refine ⟨fun _ => ⟨(asi.1 (by omega)).1, fun e he => ?_⟩, fun q => absurd q (by omega)⟩; by_cases c : e = x2.toNat; (subst c; first | (rw [if_pos (by omega)]; omega) | (rw [if_neg (by omega)]; omega)); exact (asi.1 (by omega)).2 e (by omega)) | (refine ⟨fun q => absurd q (by omega), fun _ q => ?_⟩; have q2 := q.2 x2.toNat (by omega); first | (rw [if_pos (by omega)] at q2; omega) | (rw [if_neg (by omega)] at q2; omega))) (by omega))
              · skip
                refine r_c0 (pc' := 50) rfl rfl ?_
                refine r_go rfl ?_
                refine r_st (pc' := 55) (lv' := [(1, _), (0, _), (2, _)]) rfl rfl rfl rfl ?_
                refine r_inc (pc' := 58) (lv' := [(1, _), (0, _)]) rfl rfl rfl rfl rfl ?_
                refine r_go rfl ?_
                exact w_lv (sub_c rfl (sub_c rfl (sub_c rfl sub_n))) rfl (ih0 1 (x2 + 1) ⟨by omega, by omega⟩ ⟨by omega, by omega⟩ (by first | exact ⟨fun _ => ⟨by omega, fun e he => absurd he (by omega)⟩, fun q => absurd q (by omega)⟩ | exact ⟨fun q => absurd q (by omega), fun _ q => by have := q.1; omega⟩ | exact ⟨fun q => absurd q (by omega), fun _ q => asi.2 (by omega) ⟨q.1, fun e he => q.2 e (by omega)⟩⟩ | (refine ⟨fun _ => ⟨(asi.1 (by omega)).1, fun e he => ?_⟩, fun q => absurd q (by omega)⟩; by_cases c : e = x2.toNat; (subst c; first | (rw [if_pos (by omega)]; omega) | (rw [if_neg (by omega)]; omega)); exact (asi.1 (by omega)).2 e (by omega)) | (refine ⟨fun q => absurd q (by omega), fun _ q => ?_⟩; have q2 := q.2 x2.toNat (by omega); first | (rw [if_pos (by omega)] at q2; omega) | (rw [if_neg (by omega)] at q2; omega))) (by omega))
      · intro x1 x2 x3  hx1 hx2 hx3 asi as1 as2 hM
        refine r_ld (pc' := 66) rfl rfl rfl rfl ?_
        refine r_ld (pc' := 67) rfl rfl rfl rfl ?_
        have hb63 := rd_225_23 hz
        refine r_gi (pc' := 70) rfl rfl sh_225 rfl rfl ?_
        refine r_ige (pc' := 73) rfl rfl ⟨by omega, by omega⟩ ⟨by omega, by omega⟩ (fun hc64 => ?_) (fun hc64 => ?_)
        · skip
          refine r_ld (pc' := 148) rfl rfl rfl rfl ?_
          refine r_zeq (pc' := 151) rfl rfl ⟨by omega, by omega⟩ (fun hc65 => ?_) (fun hc65 => ?_)
          · skip
            refine r_c0 (pc' := 175) rfl rfl ?_
            exact r_rz rfl (by omega) (po_I hst ⟨by decide, by decide⟩ ⟨rfl, rfl, rfl, by omega, by omega, (by first | exact ⟨fun q => absurd q (by omega), fun _ q => asi.2 (by omega) (WHm_t q)⟩ | exact ⟨fun _ => WHm_s (fun q hq => absurd hq (by omega)) (asi.1 (by omega)), fun q => absurd q (by omega)⟩ | (have he := hg_end (T := z0 229) (m := (z0 225 23).toNat) (x := x2) as1.1 (by omega) (by have q9 := as1.2 (by omega); rw [show x3.toNat = (z0 225 23).toNat by omega] at q9; exact q9) hsl164; first | exact ⟨fun _ => WHm_s (he.mp (by omega)) (asi.1 (by omega)), fun q => absurd q (by omega)⟩ | exact ⟨fun q => absurd q (by omega), fun _ q => absurd (he.mpr (fun c hc => q.2.2 c (by omega))) (by omega)⟩))⟩)
          · skip
            refine r_ld (pc' := 152) rfl rfl rfl rfl ?_
            refine r_gi (pc' := 155) rfl rfl sh_225 rfl rfl ?_
            refine r_zeq (pc' := 158) rfl rfl ⟨by omega, by omega⟩ (fun hc66 => ?_) (fun hc66 => ?_)
            · skip
              refine r_c0 (pc' := 171) rfl rfl ?_
              refine r_go rfl ?_
              exact r_rz rfl (by omega) (po_I hst ⟨by decide, by decide⟩ ⟨rfl, rfl, rfl, by omega, by omega, (by first | exact ⟨fun q => absurd q (by omega), fun _ q => asi.2 (by omega) (WHm_t q)⟩ | exact ⟨fun _ => WHm_s (fun q hq => absurd hq (by omega)) (asi.1 (by omega)), fun q => absurd q (by omega)⟩ | (have he := hg_end (T := z0 229) (m := (z0 225 23).toNat) (x := x2) as1.1 (by omega) (by have q9 := as1.2 (by omega); rw [show x3.toNat = (z0 225 23).toNat by omega] at q9; exact q9) hsl164; first | exact ⟨fun _ => WHm_s (he.mp (by omega)) (asi.1 (by omega)), fun q => absurd q (by omega)⟩ | exact ⟨fun q => absurd q (by omega), fun _ q => absurd (he.mpr (fun c hc => q.2.2 c (by omega))) (by omega)⟩))⟩)
            · skip
              refine r_ld (pc' := 159) rfl rfl rfl rfl ?_
              refine r_c0 (pc' := 160) rfl rfl ?_
              refine r_ld (pc' := 161) rfl rfl rfl rfl ?_
              refine r_gi (pc' := 164) rfl rfl sh_225 rfl rfl ?_
              refine r_sh1 (pc' := 165) rfl rfl (by omega) (by omega) (fun v67 hsl164 h68 h69 => ?_)
              refine r_c0 (pc' := 166) rfl rfl ?_
              refine r_sub (pc' := 167) rfl rfl ?_
              refine r_ine (pc' := 170) rfl rfl ⟨by omega, by omega⟩ ⟨by omega, by omega⟩ (fun hc70 => ?_) (fun hc70 => ?_)
              · skip
                refine r_c0 (pc' := 175) rfl rfl ?_
                exact r_rz rfl (by omega) (po_I hst ⟨by decide, by decide⟩ ⟨rfl, rfl, rfl, by omega, by omega, (by first | exact ⟨fun q => absurd q (by omega), fun _ q => asi.2 (by omega) (WHm_t q)⟩ | exact ⟨fun _ => WHm_s (fun q hq => absurd hq (by omega)) (asi.1 (by omega)), fun q => absurd q (by omega)⟩ | (have he := hg_end (T := z0 229) (m := (z0 225 23).toNat) (x := x2) as1.1 (by omega) (by have q9 := as1.2 (by omega); rw [show x3.toNat = (z0 225 23).toNat by omega] at q9; exact q9) hsl164; first | exact ⟨fun _ => WHm_s (he.mp (by omega)) (asi.1 (by omega)), fun q => absurd q (by omega)⟩ | exact ⟨fun q => absurd q (by omega), fun _ q => absurd (he.mpr (fun c hc => q.2.2 c (by omega))) (by omega)⟩))⟩)
              · skip
                refine r_c0 (pc' := 171) rfl rfl ?_
                refine r_go rfl ?_
                exact r_rz rfl (by omega) (po_I hst ⟨by decide, by decide⟩ ⟨rfl, rfl, rfl, by omega, by omega, (by first | exact ⟨fun q => absurd q (by omega), fun _ q => asi.2 (by omega) (WHm_t q)⟩ | exact ⟨fun _ => WHm_s (fun q hq => absurd hq (by omega)) (asi.1 (by omega)), fun q => absurd q (by omega)⟩ | (have he := hg_end (T := z0 229) (m := (z0 225 23).toNat) (x := x2) as1.1 (by omega) (by have q9 := as1.2 (by omega); rw [show x3.toNat = (z0 225 23).toNat by omega] at q9; exact q9) hsl164; first | exact ⟨fun _ => WHm_s (he.mp (by omega)) (asi.1 (by omega)), fun q => absurd q (by omega)⟩ | exact ⟨fun q => absurd q (by omega), fun _ q => absurd (he.mpr (fun c hc => q.2.2 c (by omega))) (by omega)⟩))⟩)
        · skip
          refine r_c0 (pc' := 74) rfl rfl ?_
          refine r_st (pc' := 76) (lv' := [(4, _), (0, _), (1, _), (2, _), (3, _)]) rfl rfl rfl rfl ?_
          exact w_lv (sub_c rfl (sub_c rfl (sub_c rfl (sub_c rfl (sub_c rfl sub_n))))) rfl (ih2 x1 x2 x3 0 ⟨by omega, by omega⟩ ⟨by omega, by omega⟩ ⟨by omega, by omega⟩ ⟨by omega, by omega⟩ ⟨by omega, by omega⟩ (by exact asi) (by first | exact ⟨as1.1, fun q => as1.2 (by omega) q⟩ | exact ⟨as1.1, fun q => by rw [as1.2 q, show (x4 + 1).toNat = x4.toNat + 1 by omega, hgr_n (by omega) (fun c => by have := hbt.mp c; omega)]⟩ | exact ⟨as1.1, fun q => by rw [as1.2 q, show (x4 + 1).toNat = x4.toNat + 1 by omega, show x5.toNat = (z0 225 23).toNat by omega]; exact hgr_m (by omega)⟩) (by first | omega | assumption) (by omega))
      · intro x1 x2 x3 x4  hx1 hx2 hx3 hx4 hz0_0 asi as1 as2 hM
        refine r_ld (pc' := 78) rfl rfl rfl rfl ?_
        refine r_ld (pc' := 79) rfl rfl rfl rfl ?_
        refine r_gi (pc' := 82) rfl rfl sh_225 rfl rfl ?_
        refine r_ige (pc' := 85) rfl rfl ⟨by omega, by omega⟩ ⟨by omega, by omega⟩ (fun hc71 => ?_) (fun hc71 => ?_)
        · skip
          refine r_inc (pc' := 144) (lv' := [(0, _), (1, _), (2, _), (4, _)]) rfl rfl rfl rfl rfl ?_
          refine r_go rfl ?_
          exact w_lv (sub_c rfl (sub_c rfl (sub_c rfl (sub_c rfl sub_n)))) rfl (ih1 x1 x2 (x3 + 1) ⟨by omega, by omega⟩ ⟨by omega, by omega⟩ ⟨by omega, by omega⟩ (by first | exact asi | (rw [show x2 = 18 by omega] at asi; exact asi)) (by first | exact ⟨by omega, fun _ q => by rw [show (0 : Int).toNat * (z0 225 23).toNat = 0 from Nat.zero_mul _]; exact BT_1 q⟩ | exact ⟨by omega, fun _ q => by rw [as1.2 q, show x4.toNat = (z0 225 23).toNat by omega, show (x3 + 1).toNat * (z0 225 23).toNat = x3.toNat * (z0 225 23).toNat + (z0 225 23).toNat from by rw [show (x3 + 1).toNat = x3.toNat + 1 by omega]; exact Nat.succ_mul _ _]⟩) (by first | omega | assumption) (by omega))
        · skip
          refine r_ld (pc' := 86) rfl rfl rfl rfl ?_
          refine r_ld (pc' := 88) rfl rfl rfl rfl ?_
          refine r_shrv (pc' := 89) rfl rfl ⟨by omega, by omega⟩ (by omega) (by omega) (fun v72 hsv88 h73 => ?_)
          unfold inI at h73
          refine r_c0 (pc' := 90) rfl rfl ?_
          refine r_msk (m := 1) (n := 1) (pc' := 91) rfl rfl ⟨by omega, by omega⟩ (by decide) (by decide) ?_
          refine r_c0 (pc' := 92) rfl rfl ?_
          have hbt := BT_d as1.1 x4.toNat
          rw [hsv88, as1.2] at hbt
          refine r_ine (pc' := 95) rfl rfl ⟨by omega, by omega⟩ ⟨by decide, by decide⟩ (fun hc74 => ?_) (fun hc74 => ?_)
          · skip
            refine r_inc (pc' := 138) (lv' := [(0, _), (1, _), (2, _), (3, _)]) rfl rfl rfl rfl rfl ?_
            refine r_go rfl ?_
            exact w_lv (sub_c rfl (sub_c rfl (sub_c rfl (sub_c rfl (sub_c rfl sub_n))))) rfl (ih2 x1 x2 x3 (x4 + 1) ⟨by omega, by omega⟩ ⟨by omega, by omega⟩ ⟨by omega, by omega⟩ ⟨by omega, by omega⟩ ⟨by omega, by omega⟩ (by exact asi) (by first | exact ⟨as1.1, fun q => as1.2 (by omega) q⟩ | exact ⟨as1.1, fun q => by rw [as1.2 q, show (x4 + 1).toNat = x4.toNat + 1 by omega, hgr_n (by omega) (fun c => by have := hbt.mp c; omega)]⟩ | exact ⟨as1.1, fun q => by rw [as1.2 q, show (x4 + 1).toNat = x4.toNat + 1 by omega, show x5.toNat = (z0 225 23).toNat by omega]; exact hgr_m (by omega)⟩) (by first | omega | assumption) (by omega))
          · skip
            refine r_c0 (pc' := 96) rfl rfl ?_
            refine r_st (pc' := 98) (lv' := [(5, _), (0, _), (1, _), (2, _), (3, _), (4, _)]) rfl rfl rfl rfl ?_
            exact w_lv (sub_c rfl (sub_c rfl (sub_c rfl (sub_c rfl (sub_c rfl (sub_c rfl sub_n)))))) rfl (ih3 x1 x2 x3 x4 0 ⟨by omega, by omega⟩ ⟨by omega, by omega⟩ ⟨by omega, by omega⟩ ⟨by omega, by omega⟩ ⟨by omega, by omega⟩ ⟨by omega, by omega⟩ (by exact asi) (by first | exact ⟨as1.1, fun q => (as1.2 q).trans hgr_0.symm⟩ | exact ⟨by omega, by rw [show (x5 + 1).toNat = x5.toNat + 1 by omega]; exact hgr_t as3 as1.2 hob127 (by first | exact Or.inl ⟨hsl122, hhg.1 (by omega)⟩ | exact Or.inr ⟨rfl, hhg.2 (by omega)⟩)⟩) (by first | omega | assumption) (by first | exact as3 | exact hbt.mpr (by omega)) (by omega))
      · intro x1 x2 x3 x4 x5  hx1 hx2 hx3 hx4 hx5 hz0_0 asi as1 as2 as3 hM
        refine r_ld (pc' := 100) rfl rfl rfl rfl ?_
        refine r_ld (pc' := 101) rfl rfl rfl rfl ?_
        refine r_gi (pc' := 104) rfl rfl sh_225 rfl rfl ?_
        refine r_ige (pc' := 107) rfl rfl ⟨by omega, by omega⟩ ⟨by omega, by omega⟩ (fun hc75 => ?_) (fun hc75 => ?_)
        · skip
          refine r_inc (pc' := 138) (lv' := [(0, _), (1, _), (2, _), (3, _), (5, _)]) rfl rfl rfl rfl rfl ?_
          refine r_go rfl ?_
          exact w_lv (sub_c rfl (sub_c rfl (sub_c rfl (sub_c rfl (sub_c rfl sub_n))))) rfl (ih2 x1 x2 x3 (x4 + 1) ⟨by omega, by omega⟩ ⟨by omega, by omega⟩ ⟨by omega, by omega⟩ ⟨by omega, by omega⟩ ⟨by omega, by omega⟩ (by exact asi) (by first | exact ⟨as1.1, fun q => as1.2 (by omega) q⟩ | exact ⟨as1.1, fun q => by rw [as1.2 q, show (x4 + 1).toNat = x4.toNat + 1 by omega, hgr_n (by omega) (fun c => by have := hbt.mp c; omega)]⟩ | exact ⟨as1.1, fun q => by rw [as1.2 q, show (x4 + 1).toNat = x4.toNat + 1 by omega, show x5.toNat = (z0 225 23).toNat by omega]; exact hgr_m (by omega)⟩) (by first | omega | assumption) (by omega))
        · skip
          refine r_ld (pc' := 108) rfl rfl rfl rfl ?_
          refine r_ld (pc' := 109) rfl rfl rfl rfl ?_
          refine r_ld (pc' := 111) rfl rfl rfl rfl ?_
          refine r_ld (pc' := 113) rfl rfl rfl rfl ?_
          refine r_cVI (pc' := 116) rfl rfl rfl rfl rfl sh_225 (m_164x (d := d) x4 x5 hst.1 hst.2.1 ⟨by omega, by omega⟩ ⟨by omega, by omega⟩) (fun v76 z77 w78 p79 h80 hs81 hE82 => ?_)
          obtain ⟨rfl, rfl, rfl, hE82⟩ := hE82
          have hhg := hE82.2.2
          refine r_zeq (pc' := 119) rfl rfl ⟨by omega, by omega⟩ (fun hc84 => ?_) (fun hc84 => ?_)
          · skip
            refine r_c0 (pc' := 127) rfl rfl ?_
            refine r_orb (pc' := 128) rfl rfl ⟨by omega, by omega⟩ ⟨by omega, by omega⟩ (fun v85 h86 hob127 => ?_)
            refine r_st (pc' := 129) (lv' := [(2, _), (0, _), (1, _), (3, _), (4, _), (5, _)]) rfl rfl rfl rfl ?_
            refine r_inc (pc' := 132) (lv' := [(2, _), (0, _), (1, _), (3, _), (4, _)]) rfl rfl rfl rfl rfl ?_
            refine r_go rfl ?_
            exact w_lv (sub_c rfl (sub_c rfl (sub_c rfl (sub_c rfl (sub_c rfl (sub_c rfl sub_n)))))) rfl (ih3 x1 v85 x3 x4 (x5 + 1) ⟨by omega, by omega⟩ ⟨by omega, by omega⟩ ⟨by omega, by omega⟩ ⟨by omega, by omega⟩ ⟨by omega, by omega⟩ ⟨by omega, by omega⟩ (by exact asi) (by first | exact ⟨as1.1, fun q => (as1.2 q).trans hgr_0.symm⟩ | exact ⟨by omega, by rw [show (x5 + 1).toNat = x5.toNat + 1 by omega]; exact hgr_t as3 as1.2 hob127 (by first | exact Or.inl ⟨hsl122, hhg.1 (by omega)⟩ | exact Or.inr ⟨rfl, hhg.2 (by omega)⟩)⟩) (by first | omega | assumption) (by first | exact as3 | exact hbt.mpr (by omega)) (by omega))
          · skip
            refine r_c0 (pc' := 120) rfl rfl ?_
            refine r_ld (pc' := 122) rfl rfl rfl rfl ?_
            refine r_sh1 (pc' := 123) rfl rfl (by omega) (by omega) (fun v87 hsl122 h88 h89 => ?_)
            refine r_go rfl ?_
            refine r_orb (pc' := 128) rfl rfl ⟨by omega, by omega⟩ ⟨by omega, by omega⟩ (fun v90 h91 hob127 => ?_)
            refine r_st (pc' := 129) (lv' := [(2, _), (0, _), (1, _), (3, _), (4, _), (5, _)]) rfl rfl rfl rfl ?_
            refine r_inc (pc' := 132) (lv' := [(2, _), (0, _), (1, _), (3, _), (4, _)]) rfl rfl rfl rfl rfl ?_
            refine r_go rfl ?_
            exact w_lv (sub_c rfl (sub_c rfl (sub_c rfl (sub_c rfl (sub_c rfl (sub_c rfl sub_n)))))) rfl (ih3 x1 v90 x3 x4 (x5 + 1) ⟨by omega, by omega⟩ ⟨by omega, by omega⟩ ⟨by omega, by omega⟩ ⟨by omega, by omega⟩ ⟨by omega, by omega⟩ ⟨by omega, by omega⟩ (by exact asi) (by first | exact ⟨as1.1, fun q => (as1.2 q).trans hgr_0.symm⟩ | exact ⟨by omega, by rw [show (x5 + 1).toNat = x5.toNat + 1 by omega]; exact hgr_t as3 as1.2 hob127 (by first | exact Or.inl ⟨hsl122, hhg.1 (by omega)⟩ | exact Or.inr ⟨rfl, hhg.2 (by omega)⟩)⟩) (by first | omega | assumption) (by first | exact as3 | exact hbt.mpr (by omega)) (by omega))
  refine w_m rfl rfl ?_
  refine r_ld (pc' := 1) rfl rfl rfl rfl ?_
  have hb92 := rd_225_23 hz
  refine r_gi (pc' := 4) rfl rfl sh_225 rfl rfl ?_
  refine r_c0 (pc' := 5) rfl rfl ?_
  refine r_rm (pc' := 6) (v := (z0 225 23) % 2) rfl rfl ⟨by omega, by omega⟩ ⟨by decide, by decide⟩ (by decide) (tmod_n (by omega)) ?_
  refine r_zne (pc' := 9) rfl rfl ⟨by omega, by omega⟩ (fun hc93 => ?_) (fun hc93 => ?_)
  · skip
    refine r_c0 (pc' := 14) rfl rfl ?_
    refine r_st (pc' := 15) (lv' := [(1, _), (0, _)]) rfl rfl rfl rfl ?_
    refine r_c0 (pc' := 16) rfl rfl ?_
    refine r_st (pc' := 17) (lv' := [(2, _), (1, _), (0, _)]) rfl rfl rfl rfl ?_
    exact w_lv (sub_c rfl (sub_c rfl (sub_c rfl sub_n))) rfl ((key ((97 * (18 - 0) + 305635 : Int).toNat + 1)).1 0 0 ⟨by omega, by omega⟩ ⟨by omega, by omega⟩ (by first | exact ⟨fun _ => ⟨by omega, fun e he => absurd he (by omega)⟩, fun q => absurd q (by omega)⟩ | exact ⟨fun q => absurd q (by omega), fun _ q => by have := q.1; omega⟩ | exact ⟨fun q => absurd q (by omega), fun _ q => asi.2 (by omega) ⟨q.1, fun e he => q.2 e (by omega)⟩⟩ | (refine ⟨fun _ => ⟨(asi.1 (by omega)).1, fun e he => ?_⟩, fun q => absurd q (by omega)⟩; by_cases c : e = x2.toNat; (subst c; first | (rw [if_pos (by omega)]; omega) | (rw [if_neg (by omega)]; omega)); exact (asi.1 (by omega)).2 e (by omega)) | (refine ⟨fun q => absurd q (by omega), fun _ q => ?_⟩; have q2 := q.2 x2.toNat (by omega); first | (rw [if_pos (by omega)] at q2; omega) | (rw [if_neg (by omega)] at q2; omega))) (by omega))
  · skip
    refine r_c0 (pc' := 10) rfl rfl ?_
    refine r_go rfl ?_
    refine r_st (pc' := 15) (lv' := [(1, _), (0, _)]) rfl rfl rfl rfl ?_
    refine r_c0 (pc' := 16) rfl rfl ?_
    refine r_st (pc' := 17) (lv' := [(2, _), (1, _), (0, _)]) rfl rfl rfl rfl ?_
    exact w_lv (sub_c rfl (sub_c rfl (sub_c rfl sub_n))) rfl ((key ((97 * (18 - 0) + 305635 : Int).toNat + 1)).1 1 0 ⟨by omega, by omega⟩ ⟨by omega, by omega⟩ (by first | exact ⟨fun _ => ⟨by omega, fun e he => absurd he (by omega)⟩, fun q => absurd q (by omega)⟩ | exact ⟨fun q => absurd q (by omega), fun _ q => by have := q.1; omega⟩ | exact ⟨fun q => absurd q (by omega), fun _ q => asi.2 (by omega) ⟨q.1, fun e he => q.2 e (by omega)⟩⟩ | (refine ⟨fun _ => ⟨(asi.1 (by omega)).1, fun e he => ?_⟩, fun q => absurd q (by omega)⟩; by_cases c : e = x2.toNat; (subst c; first | (rw [if_pos (by omega)]; omega) | (rw [if_neg (by omega)]; omega)); exact (asi.1 (by omega)).2 e (by omega)) | (refine ⟨fun q => absurd q (by omega), fun _ q => ?_⟩; have q2 := q.2 x2.toNat (by omega); first | (rw [if_pos (by omega)] at q2; omega) | (rw [if_neg (by omega)] at q2; omega))) (by omega))
/-- LoopGroundModel readLineOf -/
abbrev S_167x  : mS := [(225, 225, 4, 4), (225, 225, 7, 7), (225, 225, 9, 9), (225, 225, 8, 8), (225, 225, 6, 6), (225, 225, 2, 2), (225, 225, 3, 3), (231, 231, 0, 143), (227, 227, 0, 7), (225, 225, 24, 24)]
abbrev E_167x (h : Int → Int) (z0 w0 : mZ) (x y tx it mt tt ct : Option Nat) : mZ → mZ → mP → Prop := fun z w p => p = (pq x y tx it mt tt ct) ∧ (OKr h z0 z (RPz h z w))
theorem m_167x {d : Nat} {z0 w0 : mZ} {x y tx it mt tt ct : Option Nat} (h : Int → Int) (hz : rz z0) (hw : rw_ w0) (hh : tr8 z0 = h) (hra : ∃ k, RA h z0 w0 k ∧ sq h k 0 = 0 ∧ tkK h (tp h k) = 7 ∧ WHq (sq h k)) (hf0 : z0 225 2 = 0) (hzb0 : 0 ≤ z0 225 24 ∧ z0 225 24 ≤ 7) : wc (d + 4) 167 [.ref 225] (mk z0 w0 (pq x y tx it mt tt ct)) (poV S_167x z0 w0 (E_167x h z0 w0 x y tx it mt tt ct)) := by
  have hst : st_ S_167x z0 w0 z0 w0 := st_rf hz hw
  have hz159 := rd_225_2 hz
  have hz160 := rd_225_23 hz
  have hz161 := rd_225_24 hz
  obtain ⟨k, hRA, hm, hK, hWQ⟩ := hra
  have hta := TKr_a hRA.1
  have ht7 := hRA.1.1
  have hrg := TKr_E hRA.1 (by omega) (by omega)
  have h23 := rd_225_23 hz
  have key : ∀ N : Nat, (∀ (z w : mZ), st_ S_167x z0 w0 z w → z 225 24 = z0 225 24 → (OKr h z0 z (RA5 h z w)) → 1937 < (N : Int) → wp_ (d + 3) 167 4 none (31, [(0, .ref 225)], [], mk z w (pq x y tx it mt tt ct)) (poV S_167x z0 w0 (E_167x h z0 w0 x y tx it mt tt ct))) ∧ (∀ (x1 : Int) (z w : mZ), (-9223372036854775808) ≤ x1 ∧ x1 ≤ 9223372036854775807 → st_ S_167x z0 w0 z w → z 225 24 = z0 225 24 → (OKr h z0 z (RAn h z w 6 0 x1)) → 1929 < (N : Int) → wp_ (d + 3) 167 4 none (47, [(0, .ref 225), (1, .long (Int64.ofInt x1))], [], mk z w (pq x y tx it mt tt ct)) (poV S_167x z0 w0 (E_167x h z0 w0 x y tx it mt tt ct))) ∧ (∀ (x1 x3 : Int) (z w : mZ), (-9223372036854775808) ≤ x1 ∧ x1 ≤ 9223372036854775807 → 0 ≤ x3 ∧ x3 ≤ 18 → st_ S_167x z0 w0 z w → z 225 24 = z0 225 24 → (OKr h z0 z (RAn h z w 7 x3 x1)) → ((z 225 2 = 0 → (3 * z0 225 23 / 2) ≠ 0) ∧ x3 ≤ (3 * z0 225 23 / 2)) → 93 * (18 - x3) + 55 < (N : Int) → wp_ (d + 3) 167 4 none (75, [(0, .ref 225), (1, .long (Int64.ofInt x1)), (3, .int (Int32.ofInt x3))], [], mk z w (pq x y tx it mt tt ct)) (poV S_167x z0 w0 (E_167x h z0 w0 x y tx it mt tt ct))) ∧ (∀ (x1 : Int) (z w : mZ), (-9223372036854775808) ≤ x1 ∧ x1 ≤ 9223372036854775807 → st_ S_167x z0 w0 z w → z 225 24 = z0 225 24 → (OKr h z0 z (RAn h z w 7 (3 * z0 225 23 / 2) x1)) → (z 225 2 = 0 → (3 * z0 225 23 / 2) ≠ 0) → 33 < (N : Int) → wp_ (d + 3) 167 4 none (117, [(0, .ref 225), (1, .long (Int64.ofInt x1))], [], mk z w (pq x y tx it mt tt ct)) (poV S_167x z0 w0 (E_167x h z0 w0 x y tx it mt tt ct))) ∧ (∀ (x1 : Int) (z w : mZ), (-9223372036854775808) ≤ x1 ∧ x1 ≤ 9223372036854775807 → st_ S_167x z0 w0 z w → z 225 24 = z0 225 24 → (OKr h z0 z (RAf h z w x1)) → 16 < (N : Int) → wp_ (d + 3) 167 4 none (153, [(0, .ref 225), (1, .long (Int64.ofInt x1))], [], mk z w (pq x y tx it mt tt ct)) (poV S_167x z0 w0 (E_167x h z0 w0 x y tx it mt tt ct))) := by
    intro N
    induction N with
    | zero =>
      refine ⟨?_, ?_, ?_, ?_, ?_⟩
      · intro  z w
        intros; exfalso; omega
      · intro x1 z w
        intros; exfalso; omega
      · intro x1 x3 z w
        intros; exfalso; omega
      · intro x1 z w
        intros; exfalso; omega
      · intro x1 z w
        intros; exfalso; omega
    | succ N ih =>
      obtain ⟨ih0, ih1, ih2, ih3, ih4⟩ := ih
      refine ⟨?_, ?_, ?_, ?_, ?_⟩
      · intro  z w  hst un_z_225_24 as1 hM
        refine r_ld (pc' := 32) rfl rfl rfl rfl ?_
        have hb162 := rd_225_9 hst.2.1
        refine r_gl (pc' := 35) rfl rfl sh_225 rfl rfl ?_
        refine r_st (pc' := 36) (lv' := [(1, _), (0, _)]) rfl rfl rfl rfl ?_
        refine r_ld (pc' := 37) rfl rfl rfl rfl ?_
        have hb163 := rd_225_2 hst.1
        refine r_gi (pc' := 40) rfl rfl sh_225 rfl rfl ?_
        refine r_zne (pc' := 43) rfl rfl ⟨by omega, by omega⟩ (fun hc164 => ?_) (fun hc164 => ?_)
        · skip
          have hb165 := rd_225_3 hst.1
          have hb166 := rd_225_7 hst.1
          exact w_lv (sub_c rfl (sub_c rfl sub_n)) rfl (ih1 (w 225 9) z w ⟨by omega, by omega⟩ hst (un_z_225_24) (by first | exact ⟨fun _ => ⟨c10, by have := (as1.1 (by omega)).2; omega, by have := (as1.1 (by omega)).2; omega⟩, fun q => absurd q (by omega), by have := as1.2.2; omega⟩ | exact OK_p as1 (fun q _ => absurd q (by omega))) (by omega))
        · skip
          have hta := TKr_a (RA5_t (as1.1 (by omega)).1)
          refine r_ld (pc' := 44) rfl rfl rfl rfl ?_
          have hb167 := rd_225_4 hst.1
          have hb168 := rd_225_5 hz
          have hf169 : z 225 5 = z0 225 5 := (hst.2.2.1 _ _ (notS_c (by omega) (notS_c (by omega) (notS_c (by omega) (notS_c (by omega) (notS_c (by omega) (notS_c (by omega) (notS_c (by omega) (notS_c (by omega) (notS_c (by omega) (notS_c (by omega) notS_n)))))))))))
          refine r_cVV (pc' := 47) rfl rfl rfl rfl rfl sh_225 (m_152x (d := d + 1) h hst.1 hst.2.1 (by exact (tr8_f (fun i => hst.2.2.1 226 i (notS_c (by omega) (notS_c (by omega) (notS_c (by omega) (notS_c (by omega) (notS_c (by omega) (notS_c (by omega) (notS_c (by omega) (notS_c (by omega) (notS_c (by omega) (notS_c (by omega) (notS_n)))))))))))) (hst.2.2.1 225 5 (notS_c (by omega) (notS_c (by omega) (notS_c (by omega) (notS_c (by omega) (notS_c (by omega) (notS_c (by omega) (notS_c (by omega) (notS_c (by omega) (notS_c (by omega) (notS_c (by omega) (notS_n))))))))))))).trans hh) (by omega)) (fun z171 w172 p173 hs175 hE176 => ?_)
          have hs177 := st_tr hst hs175 (sub_B rfl)
          obtain ⟨rfl, hE176⟩ := hE176
          have htt := hE176
          have hfs : Fs z w z171 w172 := ⟨fun i g1 g2 => (hs175.2.2.1 _ _ (notS_c (by omega) (notS_c (by omega) (notS_c (by omega) (notS_c (by omega) (notS_c (by omega) notS_n)))))), fun a i g1 g2 => (hs175.2.2.1 _ _ (notS_c (by omega) (notS_c (by omega) (notS_c (by omega) (notS_c (by omega) (notS_c (by omega) notS_n)))))), fun a i g1 g2 => (hs175.2.2.2 _ _ (notS_c (by omega) (notS_c (by omega) (notS_c (by omega) (notS_c (by omega) (notS_c (by omega) notS_n))))))⟩
          have c10 := RA5_n (as1.1 (by omega)).1 hfs htt.1
          have hf178 : z171 225 2 = z 225 2 := (hs175.2.2.1 _ _ (notS_c (by omega) (notS_c (by omega) (notS_c (by omega) (notS_c (by omega) (notS_c (by omega) notS_n))))))
          have hb179 := rd_225_3 hst.1
          have hf180 : z171 225 3 = z 225 3 := (hs175.2.2.1 _ _ (notS_c (by omega) (notS_c (by omega) (notS_c (by omega) (notS_c (by omega) (notS_c (by omega) notS_n))))))
          have hb181 := rd_225_7 hs177.1
          exact w_lv (sub_c rfl (sub_c rfl sub_n)) rfl (ih1 (w 225 9) z171 w172 ⟨by omega, by omega⟩ hs177 (((hs175.2.2.1 _ _ (notS_c (by omega) (notS_c (by omega) (notS_c (by omega) (notS_c (by omega) (notS_c (by omega) notS_n)))))).trans un_z_225_24)) (by first | exact ⟨fun _ => ⟨c10, by have := (as1.1 (by omega)).2; omega, by have := (as1.1 (by omega)).2; omega⟩, fun q => absurd q (by omega), by have := as1.2.2; omega⟩ | exact OK_p as1 (fun q _ => absurd q (by omega))) (by omega))
      · intro x1 z w  hx1 hst un_z_225_24 as1 hM
        refine r_ld (pc' := 48) rfl rfl rfl rfl ?_
        refine r_al (pc' := 51) rfl rfl rfl rfl ?_
        have hb182 := rd_225_2 hst.1
        have hb183 := rd_225_7 hst.1
        refine r_cVV (pc' := 54) rfl rfl rfl rfl rfl sh_225 (m_157x (d := d) h 28518 hst.1 hst.2.1 ⟨by omega, by omega⟩ (by exact (tr8_f (fun i => hst.2.2.1 226 i (notS_c (by omega) (notS_c (by omega) (notS_c (by omega) (notS_c (by omega) (notS_c (by omega) (notS_c (by omega) (notS_c (by omega) (notS_c (by omega) (notS_c (by omega) (notS_c (by omega) (notS_n)))))))))))) (hst.2.2.1 225 5 (notS_c (by omega) (notS_c (by omega) (notS_c (by omega) (notS_c (by omega) (notS_c (by omega) (notS_c (by omega) (notS_c (by omega) (notS_c (by omega) (notS_c (by omega) (notS_c (by omega) (notS_n))))))))))))).trans hh) (by exact fun q => RAn_t (as1.1 q).1) (by first | omega | assumption)) (fun z185 w186 p187 hs189 hE190 => ?_)
        have hs191 := st_tr hst hs189 (sub_B rfl)
        obtain ⟨rfl, hE190⟩ := hE190
        have hwt := hE190
        have hfs : Fs z w z185 w186 := ⟨fun i g1 g2 => (hs189.2.2.1 _ _ (notS_c (by omega) (notS_c (by omega) (notS_c (by omega) (notS_c (by omega) (notS_c (by omega) (notS_c (by omega) (notS_c (by omega) notS_n)))))))), fun a i g1 g2 => (hs189.2.2.1 _ _ (notS_c (by omega) (notS_c (by omega) (notS_c (by omega) (notS_c (by omega) (notS_c (by omega) (notS_c (by omega) (notS_c (by omega) notS_n)))))))), fun a i g1 g2 => (hs189.2.2.2 _ _ (notS_c (by omega) (notS_c (by omega) (notS_c (by omega) (notS_c (by omega) (notS_c (by omega) (notS_c (by omega) (notS_c (by omega) notS_n))))))))⟩
        have n2a := rd_225_2 hs191.1
        have n2b := rd_225_2 hst.1
        have c11 : OKr h z0 z185 (RAn h z185 w186 7 0 x1) := OK_w as1 (Or.inl ⟨rfl, rfl⟩) (by omega) (by omega) hwt hfs
        refine r_ld (pc' := 55) rfl rfl rfl rfl ?_
        have hb192 := rd_225_2 hs191.1
        refine r_gi (pc' := 58) rfl rfl sh_225 rfl rfl ?_
        refine r_zne (pc' := 61) rfl rfl ⟨by omega, by omega⟩ (fun hc193 => ?_) (fun hc193 => ?_)
        · skip
          refine r_c0 (pc' := 74) rfl rfl ?_
          refine r_st (pc' := 75) (lv' := [(3, _), (0, _), (1, _)]) rfl rfl rfl rfl ?_
          have hb194 := rd_225_3 hs191.1
          have hb195 := rd_225_7 hs191.1
          exact w_lv (sub_c rfl (sub_c rfl (sub_c rfl sub_n))) rfl (ih2 x1 0 z185 w186 ⟨by omega, by omega⟩ ⟨by omega, by omega⟩ hs191 (((hs189.2.2.1 _ _ (notS_c (by omega) (notS_c (by omega) (notS_c (by omega) (notS_c (by omega) (notS_c (by omega) (notS_c (by omega) (notS_c (by omega) notS_n)))))))).trans un_z_225_24)) (by first | exact c11 | exact OK_0 c11 (by omega) (by omega) hwr _ (by omega) | exact OK_n (v := NOV) (z1 := NOMARK) (w1 := NOMARK) (z' := z185) as1 (by omega) (by omega) (by omega) (by omega) hti (by have := rd_225_2 hs191.1; have : z185 225 2 = NOMARK 225 2 := NOMARK; omega) hft (fun i => NOMARK) (fun i => by rw [hqn, mu_sf]; dsimp only; rw [un_z_225_24]) (fun a i g1 g2 g3 => NOMARK)) (by first | omega | exact ⟨fun q => absurd q (by omega), by omega⟩ | (have g := OK_0 c11 (by omega) (by omega) hwr False (by omega); exact ⟨fun q => (g.1 q).1.elim, by omega⟩) | exact ⟨fun q => as2.1 (by omega), by omega⟩) (by omega))
        · skip
          refine r_ld (pc' := 62) rfl rfl rfl rfl ?_
          have m23 : z185 225 23 = z0 225 23 := hs191.2.2.1 _ _ (notS_c (by omega) (notS_c (by omega) (notS_c (by omega) (notS_c (by omega) (notS_c (by omega) (notS_c (by omega) (notS_c (by omega) (notS_c (by omega) (notS_c (by omega) (notS_c (by omega) (notS_n)))))))))))
          have hb196 := rd_225_23 hz
          have hf197 : z185 225 23 = z0 225 23 := ((hs189.2.2.1 _ _ (notS_c (by omega) (notS_c (by omega) (notS_c (by omega) (notS_c (by omega) (notS_c (by omega) (notS_c (by omega) (notS_c (by omega) notS_n)))))))).trans (hst.2.2.1 _ _ (notS_c (by omega) (notS_c (by omega) (notS_c (by omega) (notS_c (by omega) (notS_c (by omega) (notS_c (by omega) (notS_c (by omega) (notS_c (by omega) (notS_c (by omega) (notS_c (by omega) notS_n))))))))))))
          refine r_cVI (pc' := 65) rfl rfl rfl rfl rfl sh_225 (m_160 (d := d + 2)  hs191.1 hs191.2.1 ) (fun v198 z199 w200 p201 h202 hs203 hE204 => ?_)
          obtain ⟨rfl, rfl, rfl, hE204⟩ := hE204
          have hne := hE204.2.2
          refine r_zne (pc' := 68) rfl rfl ⟨by omega, by omega⟩ (fun hc206 => ?_) (fun hc206 => ?_)
          · skip
            refine r_c0 (pc' := 74) rfl rfl ?_
            refine r_st (pc' := 75) (lv' := [(3, _), (0, _), (1, _)]) rfl rfl rfl rfl ?_
            have hb207 := rd_225_3 hs191.1
            have hb208 := rd_225_7 hs191.1
            exact w_lv (sub_c rfl (sub_c rfl (sub_c rfl sub_n))) rfl (ih2 x1 0 z185 w186 ⟨by omega, by omega⟩ ⟨by omega, by omega⟩ hs191 (((hs189.2.2.1 _ _ (notS_c (by omega) (notS_c (by omega) (notS_c (by omega) (notS_c (by omega) (notS_c (by omega) (notS_c (by omega) (notS_c (by omega) notS_n)))))))).trans un_z_225_24)) (by first | exact c11 | exact OK_0 c11 (by omega) (by omega) hwr _ (by omega) | exact OK_n (v := NOV) (z1 := NOMARK) (w1 := NOMARK) (z' := z185) as1 (by omega) (by omega) (by omega) (by omega) hti (by have := rd_225_2 hs191.1; have : z185 225 2 = NOMARK 225 2 := NOMARK; omega) hft (fun i => NOMARK) (fun i => by rw [hqn, mu_sf]; dsimp only; rw [un_z_225_24]) (fun a i g1 g2 g3 => NOMARK)) (by first | omega | exact ⟨fun q => absurd q (by omega), by omega⟩ | (have g := OK_0 c11 (by omega) (by omega) hwr False (by omega); exact ⟨fun q => (g.1 q).1.elim, by omega⟩) | exact ⟨fun q => as2.1 (by omega), by omega⟩) (by omega))
          · skip
            refine r_ld (pc' := 69) rfl rfl rfl rfl ?_
            refine r_c0 (pc' := 70) rfl rfl ?_
            refine r_cVV (pc' := 73) rfl rfl rfl rfl rfl sh_225 (m_154x (d := d + 1) 2 hs191.1 hs191.2.1 ⟨by omega, by omega⟩) (fun z210 w211 p212 hs214 hE215 => ?_)
            have hs216 := st_tr hs191 hs214 (sub_B rfl)
            obtain ⟨rfl, hE215⟩ := hE215
            have hwr := hE215
            refine r_c0 (pc' := 74) rfl rfl ?_
            refine r_st (pc' := 75) (lv' := [(3, _), (0, _), (1, _)]) rfl rfl rfl rfl ?_
            have hb217 := rd_225_2 hs216.1
            have hb218 := rd_225_3 hs216.1
            have hb219 := rd_225_7 hs191.1
            have hf220 : z210 225 7 = z185 225 7 := (hs214.2.2.1 _ _ (notS_c (by omega) (notS_c (by omega) notS_n)))
            exact w_lv (sub_c rfl (sub_c rfl (sub_c rfl sub_n))) rfl (ih2 x1 0 z210 w211 ⟨by omega, by omega⟩ ⟨by omega, by omega⟩ hs216 (((hs214.2.2.1 _ _ (notS_c (by omega) (notS_c (by omega) notS_n))).trans ((hs189.2.2.1 _ _ (notS_c (by omega) (notS_c (by omega) (notS_c (by omega) (notS_c (by omega) (notS_c (by omega) (notS_c (by omega) (notS_c (by omega) notS_n)))))))).trans un_z_225_24))) (by first | exact c11 | exact OK_0 c11 (by omega) (by omega) hwr _ (by omega) | exact OK_n (v := NOV) (z1 := NOMARK) (w1 := NOMARK) (z' := z210) as1 (by omega) (by omega) (by omega) (by omega) hti (by have := rd_225_2 hs216.1; have : z210 225 2 = NOMARK 225 2 := NOMARK; omega) hft (fun i => NOMARK) (fun i => by rw [hqn, mu_sf]; dsimp only; rw [un_z_225_24]) (fun a i g1 g2 g3 => NOMARK)) (by first | omega | exact ⟨fun q => absurd q (by omega), by omega⟩ | (have g := OK_0 c11 (by omega) (by omega) hwr False (by omega); exact ⟨fun q => (g.1 q).1.elim, by omega⟩) | exact ⟨fun q => as2.1 (by omega), by omega⟩) (by omega))
      · intro x1 x3 z w  hx1 hx3 hst un_z_225_24 as1 as2 hM
        refine r_ld (pc' := 76) rfl rfl rfl rfl ?_
        refine r_ld (pc' := 77) rfl rfl rfl rfl ?_
        have m23 : z 225 23 = z0 225 23 := hst.2.2.1 _ _ (notS_c (by omega) (notS_c (by omega) (notS_c (by omega) (notS_c (by omega) (notS_c (by omega) (notS_c (by omega) (notS_c (by omega) (notS_c (by omega) (notS_c (by omega) (notS_c (by omega) (notS_n)))))))))))
        have hb221 := rd_225_23 hz
        have hf222 : z 225 23 = z0 225 23 := (hst.2.2.1 _ _ (notS_c (by omega) (notS_c (by omega) (notS_c (by omega) (notS_c (by omega) (notS_c (by omega) (notS_c (by omega) (notS_c (by omega) (notS_c (by omega) (notS_c (by omega) (notS_c (by omega) notS_n)))))))))))
        refine r_cVI (pc' := 80) rfl rfl rfl rfl rfl sh_225 (m_160 (d := d + 2)  hst.1 hst.2.1 ) (fun v223 z224 w225 p226 h227 hs228 hE229 => ?_)
        obtain ⟨rfl, rfl, rfl, hE229⟩ := hE229
        have hne := hE229.2.2
        refine r_ige (pc' := 83) rfl rfl ⟨by omega, by omega⟩ ⟨by omega, by omega⟩ (fun hc231 => ?_) (fun hc231 => ?_)
        · skip
          have hb232 := rd_225_2 hst.1
          have hb233 := rd_225_3 hst.1
          have hb234 := rd_225_7 hst.1
          exact w_lv (sub_c rfl (sub_c rfl sub_n)) rfl (ih3 x1 z w ⟨by omega, by omega⟩ hst (un_z_225_24) (by first | exact OK_p as1 (fun q _ => absurd q (by omega)) | (rw [show (3 * z0 225 23 / 2) = x3 by omega]; exact as1)) (by exact as2.1) (by omega))
        · skip
          refine r_ld (pc' := 84) rfl rfl rfl rfl ?_
          have hb235 := rd_225_2 hst.1
          refine r_gi (pc' := 87) rfl rfl sh_225 rfl rfl ?_
          refine r_zne (pc' := 90) rfl rfl ⟨by omega, by omega⟩ (fun hc236 => ?_) (fun hc236 => ?_)
          · skip
            have hb237 := rd_225_3 hst.1
            have hb238 := rd_225_7 hst.1
            exact w_lv (sub_c rfl (sub_c rfl sub_n)) rfl (ih3 x1 z w ⟨by omega, by omega⟩ hst (un_z_225_24) (by first | exact OK_p as1 (fun q _ => absurd q (by omega)) | (rw [show (3 * z0 225 23 / 2) = x3 by omega]; exact as1)) (by exact as2.1) (by omega))
          · skip
            have hb24 := rd_225_24 hst.1
            refine r_ld (pc' := 91) rfl rfl rfl rfl ?_
            refine r_gr (b := 231) (pc' := 94) rfl rfl sh_225 rfl pp_225_14 ?_
            refine r_cb (pc' := 96) rfl (by decide) rfl ?_
            refine r_ld (pc' := 97) rfl rfl rfl rfl ?_
            refine r_gi (pc' := 100) rfl rfl sh_225 rfl un_z_225_24 ?_
            refine r_mul (pc' := 101) rfl rfl ?_
            refine r_ld (pc' := 102) rfl rfl rfl rfl ?_
            refine r_add (pc' := 103) rfl rfl ?_
            refine r_ld (pc' := 104) rfl rfl rfl rfl ?_
            refine r_c0 (pc' := 105) rfl rfl ?_
            refine r_cb (pc' := 107) rfl (by decide) rfl ?_
            have hb239 := rd_225_7 hst.1
            refine r_cVI (pc' := 110) rfl rfl rfl rfl rfl sh_225 (m_158x (d := d) h 0 99 hst.1 hst.2.1 ⟨by omega, by omega⟩ ⟨by omega, by omega⟩ (by exact (tr8_f (fun i => hst.2.2.1 226 i (notS_c (by omega) (notS_c (by omega) (notS_c (by omega) (notS_c (by omega) (notS_c (by omega) (notS_c (by omega) (notS_c (by omega) (notS_c (by omega) (notS_c (by omega) (notS_c (by omega) (notS_n)))))))))))) (hst.2.2.1 225 5 (notS_c (by omega) (notS_c (by omega) (notS_c (by omega) (notS_c (by omega) (notS_c (by omega) (notS_c (by omega) (notS_c (by omega) (notS_c (by omega) (notS_c (by omega) (notS_c (by omega) (notS_n))))))))))))).trans hh) (by exact fun q => RAn_t (as1.1 q).1)) (fun v240 z241 w242 p243 h244 hs245 hE246 => ?_)
            have hs247 := st_tr hst hs245 (sub_B rfl)
            obtain ⟨rfl, hE246⟩ := hE246
            have hti := hE246.2.2
            have htg := TNp_g hti
            have hft : Fs z w z241 w242 := ⟨fun i g1 g2 => (hs245.2.2.1 _ _ (notS_c (by omega) (notS_c (by omega) (notS_c (by omega) (notS_c (by omega) (notS_c (by omega) (notS_c (by omega) (notS_c (by omega) notS_n)))))))), fun a i g1 g2 => (hs245.2.2.1 _ _ (notS_c (by omega) (notS_c (by omega) (notS_c (by omega) (notS_c (by omega) (notS_c (by omega) (notS_c (by omega) (notS_c (by omega) notS_n)))))))), fun a i g1 g2 => (hs245.2.2.2 _ _ (notS_c (by omega) (notS_c (by omega) (notS_c (by omega) (notS_c (by omega) (notS_c (by omega) (notS_c (by omega) (notS_c (by omega) notS_n))))))))⟩
            refine r_is (pc' := 111) rfl rfl sh_231 rfl (by omega) (by omega) hs247 (inS_s (inS_s (inS_s (inS_s (inS_s (inS_s (inS_s (inS_0 (by omega) (by omega) (by omega) (by omega))))))))) (wr_231 ⟨by omega, by omega⟩) (fun z248 hq249 hs250 => ?_)
            have hqn := hq249
            refine r_inc (pc' := 114) (lv' := [(0, _), (1, _)]) rfl rfl rfl rfl rfl ?_
            refine r_go rfl ?_
            have hb251 := rd_225_2 hs247.1
            have hf252 : z248 225 2 = z241 225 2 := ((congrFun (congrFun hq249 _) _).trans (mu_ne (by omega)))
            have hb253 := rd_225_3 hs247.1
            have hf254 : z248 225 3 = z241 225 3 := ((congrFun (congrFun hq249 _) _).trans (mu_ne (by omega)))
            have hb255 := rd_225_7 hs247.1
            have hf256 : z248 225 7 = z241 225 7 := ((congrFun (congrFun hq249 _) _).trans (mu_ne (by omega)))
            exact w_lv (sub_c rfl (sub_c rfl (sub_c rfl sub_n))) rfl (ih2 x1 (x3 + 1) z248 w242 ⟨by omega, by omega⟩ ⟨by omega, by omega⟩ hs250 ((((congrFun (congrFun hq249 _) _).trans (mu_ne (by omega))).trans ((hs245.2.2.1 _ _ (notS_c (by omega) (notS_c (by omega) (notS_c (by omega) (notS_c (by omega) (notS_c (by omega) (notS_c (by omega) (notS_c (by omega) notS_n)))))))).trans un_z_225_24))) (by first | exact c11 | exact OK_0 c11 (by omega) (by omega) hwr _ (by omega) | exact OK_n (v := v240) (z1 := z241) (w1 := w242) (z' := z248) as1 (by omega) (by omega) (by omega) (by omega) hti (by have := rd_225_2 hs250.1; have : z248 225 2 = z241 225 2 := ((congrFun (congrFun hq249 _) _).trans (mu_ne (by omega))); omega) hft (fun i => ((congrFun (congrFun hq249 _) _).trans (mu_ne (by omega)))) (fun i => by rw [hqn, mu_sf]; dsimp only; rw [un_z_225_24]) (fun a i g1 g2 g3 => ((congrFun (congrFun hq249 _) _).trans (mu_ne (by omega))))) (by first | omega | exact ⟨fun q => absurd q (by omega), by omega⟩ | (have g := OK_0 c11 (by omega) (by omega) hwr False (by omega); exact ⟨fun q => (g.1 q).1.elim, by omega⟩) | exact ⟨fun q => as2.1 (by omega), by omega⟩) (by omega))
      · intro x1 z w  hx1 hst un_z_225_24 as1 as2 hM
        refine r_ld (pc' := 118) rfl rfl rfl rfl ?_
        have hb257 := rd_225_2 hst.1
        refine r_gi (pc' := 121) rfl rfl sh_225 rfl rfl ?_
        refine r_zne (pc' := 124) rfl rfl ⟨by omega, by omega⟩ (fun hc258 => ?_) (fun hc258 => ?_)
        · skip
          have hb259 := rd_225_3 hst.1
          have hb260 := rd_225_7 hst.1
          exact w_lv (sub_c rfl (sub_c rfl sub_n)) rfl (ih4 x1 z w ⟨by omega, by omega⟩ hst (un_z_225_24) (by first | exact OK_p as1 (fun q _ => absurd q (by omega)) | exact OK_p as1 (fun _ c => RAf_i c ⟨by omega, as2 (by omega)⟩ (by omega) (Or.inl (by omega))) | exact OK_p as1 (fun _ c => RAf_i c ⟨by omega, as2 (by omega)⟩ (by omega) (Or.inr (by rw [un_z_225_24]; exact hnf.1 (by omega)))) | exact OK_f6 as1 (by omega) ⟨by omega, as2 (by omega)⟩ (by omega) (by omega) (by rw [un_z_225_24]; exact hnf.2 (by omega)) hwr _ (by omega)) (by omega))
        · skip
          have m23 : z 225 23 = z0 225 23 := hst.2.2.1 _ _ (notS_c (by omega) (notS_c (by omega) (notS_c (by omega) (notS_c (by omega) (notS_c (by omega) (notS_c (by omega) (notS_c (by omega) (notS_c (by omega) (notS_c (by omega) (notS_c (by omega) (notS_n)))))))))))
          refine r_ld (pc' := 125) rfl rfl rfl rfl ?_
          have hb261 := rd_225_6 hst.1
          refine r_gi (pc' := 128) rfl rfl sh_225 rfl rfl ?_
          refine r_cb (pc' := 130) rfl (by decide) rfl ?_
          refine r_ine (pc' := 133) rfl rfl ⟨by omega, by omega⟩ ⟨by decide, by decide⟩ (fun hc262 => ?_) (fun hc262 => ?_)
          · skip
            have hb263 := rd_225_3 hst.1
            have hb264 := rd_225_7 hst.1
            exact w_lv (sub_c rfl (sub_c rfl sub_n)) rfl (ih4 x1 z w ⟨by omega, by omega⟩ hst (un_z_225_24) (by first | exact OK_p as1 (fun q _ => absurd q (by omega)) | exact OK_p as1 (fun _ c => RAf_i c ⟨by omega, as2 (by omega)⟩ (by omega) (Or.inl (by omega))) | exact OK_p as1 (fun _ c => RAf_i c ⟨by omega, as2 (by omega)⟩ (by omega) (Or.inr (by rw [un_z_225_24]; exact hnf.1 (by omega)))) | exact OK_f6 as1 (by omega) ⟨by omega, as2 (by omega)⟩ (by omega) (by omega) (by rw [un_z_225_24]; exact hnf.2 (by omega)) hwr _ (by omega)) (by omega))
          · skip
            have hK3 := (as1.1 (by omega)).1
            refine r_ld (pc' := 134) rfl rfl rfl rfl ?_
            refine r_cb (pc' := 136) rfl (by decide) rfl ?_
            refine r_ld (pc' := 137) rfl rfl rfl rfl ?_
            refine r_gi (pc' := 140) rfl rfl sh_225 rfl un_z_225_24 ?_
            refine r_mul (pc' := 141) rfl rfl ?_
            have hb265 := rd_225_23 hz
            have hf266 : z 225 23 = z0 225 23 := (hst.2.2.1 _ _ (notS_c (by omega) (notS_c (by omega) (notS_c (by omega) (notS_c (by omega) (notS_c (by omega) (notS_c (by omega) (notS_c (by omega) (notS_c (by omega) (notS_c (by omega) (notS_c (by omega) notS_n)))))))))))
            refine r_cVI (pc' := 144) rfl rfl rfl rfl rfl sh_225 (m_166x (d := d + 2) (18 * (z0 225 24)) hst.1 hst.2.1 ⟨by omega, by omega⟩) (fun v267 z268 w269 p270 h271 hs272 hE273 => ?_)
            obtain ⟨rfl, rfl, rfl, hE273⟩ := hE273
            have hnf := hE273.2.2
            refine r_zne (pc' := 147) rfl rfl ⟨by omega, by omega⟩ (fun hc275 => ?_) (fun hc275 => ?_)
            · skip
              have hb276 := rd_225_3 hst.1
              have hb277 := rd_225_7 hst.1
              exact w_lv (sub_c rfl (sub_c rfl sub_n)) rfl (ih4 x1 z w ⟨by omega, by omega⟩ hst (un_z_225_24) (by first | exact OK_p as1 (fun q _ => absurd q (by omega)) | exact OK_p as1 (fun _ c => RAf_i c ⟨by omega, as2 (by omega)⟩ (by omega) (Or.inl (by omega))) | exact OK_p as1 (fun _ c => RAf_i c ⟨by omega, as2 (by omega)⟩ (by omega) (Or.inr (by rw [un_z_225_24]; exact hnf.1 (by omega)))) | exact OK_f6 as1 (by omega) ⟨by omega, as2 (by omega)⟩ (by omega) (by omega) (by rw [un_z_225_24]; exact hnf.2 (by omega)) hwr _ (by omega)) (by omega))
            · skip
              refine r_ld (pc' := 148) rfl rfl rfl rfl ?_
              refine r_cb (pc' := 150) rfl (by decide) rfl ?_
              refine r_cVV (pc' := 153) rfl rfl rfl rfl rfl sh_225 (m_154x (d := d + 1) 6 hst.1 hst.2.1 ⟨by omega, by omega⟩) (fun z279 w280 p281 hs283 hE284 => ?_)
              have hs285 := st_tr hst hs283 (sub_B rfl)
              obtain ⟨rfl, hE284⟩ := hE284
              have hwr := hE284
              have hb286 := rd_225_2 hs285.1
              have hb287 := rd_225_3 hs285.1
              have hb288 := rd_225_7 hst.1
              have hf289 : z279 225 7 = z 225 7 := (hs283.2.2.1 _ _ (notS_c (by omega) (notS_c (by omega) notS_n)))
              exact w_lv (sub_c rfl (sub_c rfl sub_n)) rfl (ih4 x1 z279 w280 ⟨by omega, by omega⟩ hs285 (((hs283.2.2.1 _ _ (notS_c (by omega) (notS_c (by omega) notS_n))).trans un_z_225_24)) (by first | exact OK_p as1 (fun q _ => absurd q (by omega)) | exact OK_p as1 (fun _ c => RAf_i c ⟨by omega, as2 (by omega)⟩ (by omega) (Or.inl (by omega))) | exact OK_p as1 (fun _ c => RAf_i c ⟨by omega, as2 (by omega)⟩ (by omega) (Or.inr (by rw [un_z_225_24]; exact hnf.1 (by omega)))) | exact OK_f6 as1 (by omega) ⟨by omega, as2 (by omega)⟩ (by omega) (by omega) (by rw [un_z_225_24]; exact hnf.2 (by omega)) hwr _ (by omega)) (by omega))
      · intro x1 z w  hx1 hst un_z_225_24 as1 hM
        refine r_ld (pc' := 154) rfl rfl rfl rfl ?_
        have hb290 := rd_225_2 hst.1
        refine r_gi (pc' := 157) rfl rfl sh_225 rfl rfl ?_
        refine r_zle (pc' := 160) rfl rfl ⟨by omega, by omega⟩ (fun hc291 => ?_) (fun hc291 => ?_)
        · skip
          have hb24 := rd_225_24 hst.1
          have hb25 := rd_225_25 hst.1
          refine r_ld (pc' := 162) rfl rfl rfl rfl ?_
          refine r_gr (b := 227) (pc' := 165) rfl rfl sh_225 rfl pp_225_10 ?_
          refine r_ld (pc' := 166) rfl rfl rfl rfl ?_
          refine r_gi (pc' := 169) rfl rfl sh_225 rfl un_z_225_24 ?_
          refine r_ld (pc' := 170) rfl rfl rfl rfl ?_
          refine r_ls (pc' := 171) rfl rfl sh_227 rfl (by omega) (by omega) hst (inS_s (inS_s (inS_s (inS_s (inS_s (inS_s (inS_s (inS_s (inS_0 (by omega) (by omega) (by omega) (by omega)))))))))) (wr_227 ⟨by omega, by omega⟩) (fun w292 hq293 hs294 => ?_)
          have hqm := hq293
          refine r_ld (pc' := 172) rfl rfl rfl rfl ?_
          refine r_al (pc' := 173) rfl rfl rfl rfl ?_
          refine r_gi (pc' := 176) rfl rfl sh_225 rfl un_z_225_24 ?_
          refine r_c0 (pc' := 177) rfl rfl ?_
          refine r_add (pc' := 178) rfl rfl ?_
          refine r_pi (pc' := 181) rfl rfl sh_225 rfl rfl hs294 (inS_s (inS_s (inS_s (inS_s (inS_s (inS_s (inS_s (inS_s (inS_s (inS_0 (by omega) (by omega) (by omega) (by omega))))))))))) (wr_225_24 ⟨by omega, by omega⟩) (fun z295 hq296 hs297 => ?_)
          have hqc := hq296
          have hf298 : z295 225 2 = z 225 2 := ((congrFun (congrFun hq296 _) _).trans (mu_ne (by omega)))
          have hb299 := rd_225_3 hst.1
          have hf300 : z295 225 3 = z 225 3 := ((congrFun (congrFun hq296 _) _).trans (mu_ne (by omega)))
          have hb301 := rd_225_7 hst.1
          have hf302 : z295 225 7 = z 225 7 := ((congrFun (congrFun hq296 _) _).trans (mu_ne (by omega)))
          have hf303 : z295 225 24 = (z0 225 24) + 1 := ((congrFun (congrFun hq296 _) _).trans mu_eq)
          exact r_ret rfl (po_V hs297 ⟨rfl, (by have q9 := as1.1 (by omega); refine ⟨fun _ => ⟨RP_l q9.1 (by omega) (by omega) (by omega) (fun i g1 => ((congrFun (congrFun hq296 _) _).trans (mu_ne (by omega)))) (fun a i g1 g2 => ((congrFun (congrFun hq296 _) _).trans (mu_ne (by omega)))) (fun e => by rw [hqm, un_z_225_24, mu_sf]) (fun a i g1 => ((congrFun (congrFun hq293 _) _).trans (mu_ne (by omega)))), by omega, by omega⟩, fun q => absurd q (by omega), by have := as1.2.2; omega⟩)⟩)
        · skip
          have hb304 := rd_225_3 hst.1
          have hb305 := rd_225_7 hst.1
          have hf306 : z 225 24 = z0 225 24 := un_z_225_24
          exact r_ret rfl (po_V hst ⟨rfl, (by exact OK_p as1 (fun q _ => absurd q (by omega)))⟩)
  refine w_m rfl rfl ?_
  refine r_ld (pc' := 1) rfl rfl rfl rfl ?_
  have hb307 := rd_225_4 hz
  have hb308 := rd_225_5 hz
  refine r_cVV (pc' := 4) rfl rfl rfl rfl rfl sh_225 (m_152x (d := d + 1) h hst.1 hst.2.1 (by exact (tr8_f (fun i => hst.2.2.1 226 i (notS_c (by omega) (notS_c (by omega) (notS_c (by omega) (notS_c (by omega) (notS_c (by omega) (notS_c (by omega) (notS_c (by omega) (notS_c (by omega) (notS_c (by omega) (notS_c (by omega) (notS_n)))))))))))) (hst.2.2.1 225 5 (notS_c (by omega) (notS_c (by omega) (notS_c (by omega) (notS_c (by omega) (notS_c (by omega) (notS_c (by omega) (notS_c (by omega) (notS_c (by omega) (notS_c (by omega) (notS_c (by omega) (notS_n))))))))))))).trans hh) (by first | omega | assumption)) (fun z310 w311 p312 hs314 hE315 => ?_)
  have hs316 := st_tr hst hs314 (sub_B rfl)
  obtain ⟨rfl, hE315⟩ := hE315
  have htt := hE315
  have hfs : Fs z0 w0 z310 w311 := ⟨fun i g1 g2 => (hs314.2.2.1 _ _ (notS_c (by omega) (notS_c (by omega) (notS_c (by omega) (notS_c (by omega) (notS_c (by omega) notS_n)))))), fun a i g1 g2 => (hs314.2.2.1 _ _ (notS_c (by omega) (notS_c (by omega) (notS_c (by omega) (notS_c (by omega) (notS_c (by omega) notS_n)))))), fun a i g1 g2 => (hs314.2.2.2 _ _ (notS_c (by omega) (notS_c (by omega) (notS_c (by omega) (notS_c (by omega) (notS_c (by omega) notS_n))))))⟩
  have c9 := RA_b (m := 5) hRA.2 hm ((sq_s h k).trans (a0_l1 hm hK (Or.inr hWQ) (by have := hRA.2.1.1.2.1; omega))) (Or.inl rfl) hWQ (by omega) hfs (by rw [tp_s, ← hrg.1]; exact htt.1)
  have m2 : z310 225 2 = z0 225 2 := (hs314.2.2.1 _ _ (notS_c (by omega) (notS_c (by omega) (notS_c (by omega) (notS_c (by omega) (notS_c (by omega) notS_n))))))
  have m3 : z310 225 3 = z0 225 3 := (hs314.2.2.1 _ _ (notS_c (by omega) (notS_c (by omega) (notS_c (by omega) (notS_c (by omega) (notS_c (by omega) notS_n))))))
  refine r_ld (pc' := 5) rfl rfl rfl rfl ?_
  have hb24 := rd_225_24 hs316.1
  have hb317 := rd_225_7 hs316.1
  refine r_cVI (pc' := 8) rfl rfl rfl rfl rfl sh_225 (m_156x (d := d + 2) h hs316.1 hs316.2.1 (by have q9 := htt.1; rw [← q9.1] at q9; exact q9)) (fun v318 z319 w320 p321 h322 hs323 hE324 => ?_)
  obtain ⟨rfl, rfl, rfl, hE324⟩ := hE324
  have hin := hE324.2.2
  refine r_zne (pc' := 11) rfl rfl ⟨by omega, by omega⟩ (fun hc326 => ?_) (fun hc326 => ?_)
  · skip
    refine r_ld (pc' := 20) rfl rfl rfl rfl ?_
    have hb327 := rd_225_9 hs316.2.1
    have hf328 : z310 225 24 = z0 225 24 := (hs314.2.2.1 _ _ (notS_c (by omega) (notS_c (by omega) (notS_c (by omega) (notS_c (by omega) (notS_c (by omega) notS_n))))))
    have hF329 : w311 227 = w0 227 := (funext fun _ => hs314.2.2.2 _ _ (notS_c (by omega) (notS_c (by omega) (notS_c (by omega) (notS_c (by omega) (notS_c (by omega) notS_n))))))
    refine r_cVI (pc' := 23) rfl rfl rfl rfl rfl sh_225 (m_165x (d := d + 2)  hs316.1 hs316.2.1 ) (fun v330 z331 w332 p333 h334 hs335 hE336 => ?_)
    obtain ⟨rfl, rfl, rfl, hE336⟩ := hE336
    have hfl := hE336.2.2
    refine r_zlt (pc' := 26) rfl rfl ⟨by omega, by omega⟩ (fun hc338 => ?_) (fun hc338 => ?_)
    · skip
      have hb339 := rd_225_2 hz
      have hf340 : z310 225 2 = z0 225 2 := (hs314.2.2.1 _ _ (notS_c (by omega) (notS_c (by omega) (notS_c (by omega) (notS_c (by omega) (notS_c (by omega) notS_n))))))
      have hb341 := rd_225_3 hz
      have hf342 : z310 225 3 = z0 225 3 := (hs314.2.2.1 _ _ (notS_c (by omega) (notS_c (by omega) (notS_c (by omega) (notS_c (by omega) (notS_c (by omega) notS_n))))))
      exact w_lv (sub_c rfl sub_n) rfl ((key ((1937 : Int).toNat + 1)).1 z310 w311 hs316 ((hs314.2.2.1 _ _ (notS_c (by omega) (notS_c (by omega) (notS_c (by omega) (notS_c (by omega) (notS_c (by omega) notS_n))))))) (by first | exact OK_nb c9 (Or.inl rfl) (by omega) (hin.2 (by omega)) hwr _ (by omega) | exact OK_n3 c9 (by omega) (hin.1 (by omega)) (by omega) (by rw [← hfl]; omega) hwr _ (by omega) | exact ⟨fun _ => ⟨RA5_i c9 (hin.1 (by omega)) (by omega) (by rw [← hfl]; omega), by omega, by omega⟩, fun q => absurd q (by omega), by omega⟩) (by omega))
    · skip
      refine r_ld (pc' := 27) rfl rfl rfl rfl ?_
      refine r_c0 (pc' := 28) rfl rfl ?_
      refine r_cVV (pc' := 31) rfl rfl rfl rfl rfl sh_225 (m_154x (d := d + 1) 3 hs316.1 hs316.2.1 ⟨by omega, by omega⟩) (fun z344 w345 p346 hs348 hE349 => ?_)
      have hs350 := st_tr hs316 hs348 (sub_B rfl)
      obtain ⟨rfl, hE349⟩ := hE349
      have hwr := hE349
      have hb351 := rd_225_2 hs350.1
      have hb352 := rd_225_3 hs350.1
      have hf353 : z344 225 7 = z310 225 7 := (hs348.2.2.1 _ _ (notS_c (by omega) (notS_c (by omega) notS_n)))
      exact w_lv (sub_c rfl sub_n) rfl ((key ((1937 : Int).toNat + 1)).1 z344 w345 hs350 (((hs348.2.2.1 _ _ (notS_c (by omega) (notS_c (by omega) notS_n))).trans (hs314.2.2.1 _ _ (notS_c (by omega) (notS_c (by omega) (notS_c (by omega) (notS_c (by omega) (notS_c (by omega) notS_n)))))))) (by first | exact OK_nb c9 (Or.inl rfl) (by omega) (hin.2 (by omega)) hwr _ (by omega) | exact OK_n3 c9 (by omega) (hin.1 (by omega)) (by omega) (by rw [← hfl]; omega) hwr _ (by omega) | exact ⟨fun _ => ⟨RA5_i c9 (hin.1 (by omega)) (by omega) (by rw [← hfl]; omega), by omega, by omega⟩, fun q => absurd q (by omega), by omega⟩) (by omega))
  · skip
    refine r_ld (pc' := 12) rfl rfl rfl rfl ?_
    refine r_c0 (pc' := 13) rfl rfl ?_
    refine r_cVV (pc' := 16) rfl rfl rfl rfl rfl sh_225 (m_154x (d := d + 1) 2 hs316.1 hs316.2.1 ⟨by omega, by omega⟩) (fun z355 w356 p357 hs359 hE360 => ?_)
    have hs361 := st_tr hs316 hs359 (sub_B rfl)
    obtain ⟨rfl, hE360⟩ := hE360
    have hwr := hE360
    refine r_go rfl ?_
    have hb362 := rd_225_2 hs361.1
    have hb363 := rd_225_3 hs361.1
    have hf364 : z355 225 7 = z310 225 7 := (hs359.2.2.1 _ _ (notS_c (by omega) (notS_c (by omega) notS_n)))
    exact w_lv (sub_c rfl sub_n) rfl ((key ((1937 : Int).toNat + 1)).1 z355 w356 hs361 (((hs359.2.2.1 _ _ (notS_c (by omega) (notS_c (by omega) notS_n))).trans (hs314.2.2.1 _ _ (notS_c (by omega) (notS_c (by omega) (notS_c (by omega) (notS_c (by omega) (notS_c (by omega) notS_n)))))))) (by first | exact OK_nb c9 (Or.inl rfl) (by omega) (hin.2 (by omega)) hwr _ (by omega) | exact OK_n3 c9 (by omega) (hin.1 (by omega)) (by omega) (by rw [← hfl]; omega) hwr _ (by omega) | exact ⟨fun _ => ⟨RA5_i c9 (hin.1 (by omega)) (by omega) (by rw [← hfl]; omega), by omega, by omega⟩, fun q => absurd q (by omega), by omega⟩) (by omega))
end

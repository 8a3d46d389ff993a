/-! methods, printed by wip/tools/vcg.py -/
/-- Told fitsIn -/
abbrev S_79x  : mS := []
abbrev E_79x (t : Nat) (a1 : Int) (n : Nat) (z0 w0 : mZ) (x y tx it mt tt ct : Option Nat) : Int → mZ → mZ → mP → Prop := fun v z w p => p = (pq x y tx it mt tt ct) ∧ z0 = z ∧ w0 = w ∧ 0 ≤ v ∧ v ≤ 1 ∧ ((v = 1 → tri (w0 n (z0 (t + 1) (3 * a1).toNat).toNat) (w0 n (z0 (t + 1) (3 * a1 + 1).toNat).toNat) (w0 n (z0 (t + 1) (3 * a1 + 2).toNat).toNat)) ∧ (v = 0 → ¬ tri (w0 n (z0 (t + 1) (3 * a1).toNat).toNat) (w0 n (z0 (t + 1) (3 * a1 + 1).toNat).toNat) (w0 n (z0 (t + 1) (3 * a1 + 2).toNat).toNat)))
theorem m_79x {d : Nat} {z0 w0 : mZ} {x y tx it mt tt ct : Option Nat} (t : Nat) (a1 : Int) (n : Nat) (hz : rz z0) (hw : rw_ w0) (ha1 : 0 ≤ a1 ∧ a1 ≤ 11) (ht : isT t) (hn : lr n) (b15n : 15 ≤ n) (hnb : ∀ e : Nat, e < 18 → 0 ≤ w0 n e ∧ w0 n e ≤ 100000000000000) : wc (d + 1) 79 [.ref t, .int (Int32.ofInt a1), .ref n] (mk z0 w0 (pq x y tx it mt tt ct)) (poI S_79x z0 w0 (E_79x t a1 n z0 w0 x y tx it mt tt ct)) := by
  have hst : st_ S_79x z0 w0 z0 w0 := st_rf hz hw
  have htb : 159 ≤ t ∧ t ≤ 192 := by have := ht; unfold isT at this; omega
  refine w_m rfl rfl ?_
  refine r_ld (pc' := 1) rfl rfl rfl rfl ?_
  refine r_ld (pc' := 2) rfl rfl rfl rfl ?_
  refine r_gr (b := t + 1) (pc' := 5) rfl rfl (sh_T ht) rfl (pp_T_5 ht) ?_
  refine r_c0 (pc' := 6) rfl rfl ?_
  refine r_ld (pc' := 7) rfl rfl rfl rfl ?_
  refine r_mul (pc' := 8) rfl rfl ?_
  have hb11 := rd_T1 ht hz (i := (3 * a1).toNat) (by omega)
  refine r_ia (pc' := 9) rfl rfl (sh_T1 ht) rfl (by omega) (by omega) rfl ?_
  have hb12 := nb_rd hnb hw (i := (z0 (t + 1) (3 * a1).toNat).toNat) (by omega)
  refine r_la (pc' := 10) rfl rfl hn.1 rfl (by omega) (by omega) rfl ?_
  refine r_st (pc' := 11) (lv' := [(3, _), (0, _), (1, _), (2, _)]) rfl rfl rfl rfl ?_
  refine r_ld (pc' := 12) rfl rfl rfl rfl ?_
  refine r_ld (pc' := 13) rfl rfl rfl rfl ?_
  refine r_gr (b := t + 1) (pc' := 16) rfl rfl (sh_T ht) rfl (pp_T_5 ht) ?_
  refine r_c0 (pc' := 17) rfl rfl ?_
  refine r_ld (pc' := 18) rfl rfl rfl rfl ?_
  refine r_mul (pc' := 19) rfl rfl ?_
  refine r_c0 (pc' := 20) rfl rfl ?_
  refine r_add (pc' := 21) rfl rfl ?_
  have hb13 := rd_T1 ht hz (i := ((3 * a1) + 1).toNat) (by omega)
  refine r_ia (pc' := 22) rfl rfl (sh_T1 ht) rfl (by omega) (by omega) rfl ?_
  have hb14 := nb_rd hnb hw (i := (z0 (t + 1) ((3 * a1) + 1).toNat).toNat) (by omega)
  refine r_la (pc' := 23) rfl rfl hn.1 rfl (by omega) (by omega) rfl ?_
  refine r_st (pc' := 25) (lv' := [(5, _), (3, _), (0, _), (1, _), (2, _)]) rfl rfl rfl rfl ?_
  refine r_ld (pc' := 26) rfl rfl rfl rfl ?_
  refine r_ld (pc' := 27) rfl rfl rfl rfl ?_
  refine r_gr (b := t + 1) (pc' := 30) rfl rfl (sh_T ht) rfl (pp_T_5 ht) ?_
  refine r_c0 (pc' := 31) rfl rfl ?_
  refine r_ld (pc' := 32) rfl rfl rfl rfl ?_
  refine r_mul (pc' := 33) rfl rfl ?_
  refine r_c0 (pc' := 34) rfl rfl ?_
  refine r_add (pc' := 35) rfl rfl ?_
  have hb15 := rd_T1 ht hz (i := ((3 * a1) + 2).toNat) (by omega)
  refine r_ia (pc' := 36) rfl rfl (sh_T1 ht) rfl (by omega) (by omega) rfl ?_
  have hb16 := nb_rd hnb hw (i := (z0 (t + 1) ((3 * a1) + 2).toNat).toNat) (by omega)
  refine r_la (pc' := 37) rfl rfl hn.1 rfl (by omega) (by omega) rfl ?_
  refine r_st (pc' := 39) (lv' := [(7, _), (5, _), (3, _), (0, _), (1, _), (2, _)]) rfl rfl rfl rfl ?_
  refine r_ld (pc' := 40) rfl rfl rfl rfl ?_
  refine r_ld (pc' := 42) rfl rfl rfl rfl ?_
  refine r_ladd (pc' := 43) rfl rfl ?_
  refine r_ld (pc' := 45) rfl rfl rfl rfl ?_
  refine r_ladd (pc' := 46) rfl rfl ?_
  refine r_al (pc' := 49) rfl rfl rfl rfl ?_
  refine r_lrm (pc' := 50) (v := (((w0 n (z0 (t + 1) (3 * a1).toNat).toNat) + (w0 n (z0 (t + 1) ((3 * a1) + 1).toNat).toNat)) + (w0 n (z0 (t + 1) ((3 * a1) + 2).toNat).toNat)) % 2) rfl rfl ⟨by omega, by omega⟩ ⟨by decide, by decide⟩ (by decide) (tmod_n (by omega)) ?_
  refine r_lc0 (pc' := 51) rfl rfl ?_
  refine r_lne (pc' := 55) rfl rfl rfl ⟨by omega, by omega⟩ ⟨by decide, by decide⟩ (fun hc17 => ?_) (fun hc17 => ?_)
  · skip
    refine r_c0 (pc' := 90) rfl rfl ?_
    exact r_rz rfl (by omega) (po_I hst ⟨by decide, by decide⟩ ⟨rfl, rfl, rfl, by omega, by omega, (by first | exact ⟨fun _ => ⟨by omega, by omega, by omega, by omega⟩, fun q => absurd q (by omega)⟩ | exact ⟨fun q => absurd q (by omega), fun _ g => by have g1 := g.1; have g2 := g.2.1; have g3 := g.2.2.1; have g4 := g.2.2.2; omega⟩)⟩)
  · skip
    refine r_ld (pc' := 56) rfl rfl rfl rfl ?_
    refine r_ld (pc' := 58) rfl rfl rfl rfl ?_
    refine r_ld (pc' := 60) rfl rfl rfl rfl ?_
    refine r_ladd (pc' := 61) rfl rfl ?_
    refine r_lgt (pc' := 65) rfl rfl rfl ⟨by omega, by omega⟩ ⟨by omega, by omega⟩ (fun hc18 => ?_) (fun hc18 => ?_)
    · skip
      refine r_c0 (pc' := 90) rfl rfl ?_
      exact r_rz rfl (by omega) (po_I hst ⟨by decide, by decide⟩ ⟨rfl, rfl, rfl, by omega, by omega, (by first | exact ⟨fun _ => ⟨by omega, by omega, by omega, by omega⟩, fun q => absurd q (by omega)⟩ | exact ⟨fun q => absurd q (by omega), fun _ g => by have g1 := g.1; have g2 := g.2.1; have g3 := g.2.2.1; have g4 := g.2.2.2; omega⟩)⟩)
    · skip
      refine r_ld (pc' := 67) rfl rfl rfl rfl ?_
      refine r_ld (pc' := 68) rfl rfl rfl rfl ?_
      refine r_ld (pc' := 70) rfl rfl rfl rfl ?_
      refine r_ladd (pc' := 71) rfl rfl ?_
      refine r_lgt (pc' := 75) rfl rfl rfl ⟨by omega, by omega⟩ ⟨by omega, by omega⟩ (fun hc19 => ?_) (fun hc19 => ?_)
      · skip
        refine r_c0 (pc' := 90) rfl rfl ?_
        exact r_rz rfl (by omega) (po_I hst ⟨by decide, by decide⟩ ⟨rfl, rfl, rfl, by omega, by omega, (by first | exact ⟨fun _ => ⟨by omega, by omega, by omega, by omega⟩, fun q => absurd q (by omega)⟩ | exact ⟨fun q => absurd q (by omega), fun _ g => by have g1 := g.1; have g2 := g.2.1; have g3 := g.2.2.1; have g4 := g.2.2.2; omega⟩)⟩)
      · skip
        refine r_ld (pc' := 77) rfl rfl rfl rfl ?_
        refine r_ld (pc' := 78) rfl rfl rfl rfl ?_
        refine r_ld (pc' := 80) rfl rfl rfl rfl ?_
        refine r_ladd (pc' := 81) rfl rfl ?_
        refine r_lgt (pc' := 85) rfl rfl rfl ⟨by omega, by omega⟩ ⟨by omega, by omega⟩ (fun hc20 => ?_) (fun hc20 => ?_)
        · skip
          refine r_c0 (pc' := 90) rfl rfl ?_
          exact r_rz rfl (by omega) (po_I hst ⟨by decide, by decide⟩ ⟨rfl, rfl, rfl, by omega, by omega, (by first | exact ⟨fun _ => ⟨by omega, by omega, by omega, by omega⟩, fun q => absurd q (by omega)⟩ | exact ⟨fun q => absurd q (by omega), fun _ g => by have g1 := g.1; have g2 := g.2.1; have g3 := g.2.2.1; have g4 := g.2.2.2; omega⟩)⟩)
        · skip
          refine r_c0 (pc' := 86) rfl rfl ?_
          refine r_go rfl ?_
          exact r_rz rfl (by omega) (po_I hst ⟨by decide, by decide⟩ ⟨rfl, rfl, rfl, by omega, by omega, (by first | exact ⟨fun _ => ⟨by omega, by omega, by omega, by omega⟩, fun q => absurd q (by omega)⟩ | exact ⟨fun q => absurd q (by omega), fun _ g => by have g1 := g.1; have g2 := g.2.1; have g3 := g.2.2.1; have g4 := g.2.2.2; omega⟩)⟩)
/-- Told fits -/
abbrev S_80x  : mS := []
abbrev E_80x (t : Nat) (n : Nat) (z0 w0 : mZ) (x y tx it mt tt ct : Option Nat) : Int → mZ → mZ → mP → Prop := fun v z w p => p = (pq x y tx it mt tt ct) ∧ z0 = z ∧ w0 = w ∧ 0 ≤ v ∧ v ≤ 1 ∧ ((v = 1 → ∀ q : Nat, (q : Int) < z0 t 0 → tri (w0 n (z0 (t + 1) (3 * q)).toNat) (w0 n (z0 (t + 1) (3 * q + 1)).toNat) (w0 n (z0 (t + 1) (3 * q + 2)).toNat)) ∧ (v = 0 → ¬ ∀ q : Nat, (q : Int) < z0 t 0 → tri (w0 n (z0 (t + 1) (3 * q)).toNat) (w0 n (z0 (t + 1) (3 * q + 1)).toNat) (w0 n (z0 (t + 1) (3 * q + 2)).toNat)))
theorem m_80x {d : Nat} {z0 w0 : mZ} {x y tx it mt tt ct : Option Nat} (t : Nat) (n : Nat) (hz : rz z0) (hw : rw_ w0) (ht : isT t) (hn : lr n) (b15n : 15 ≤ n) (hnb : ∀ e : Nat, e < 18 → 0 ≤ w0 n e ∧ w0 n e ≤ 100000000000000) : wc (d + 2) 80 [.ref t, .ref n] (mk z0 w0 (pq x y tx it mt tt ct)) (poI S_80x z0 w0 (E_80x t n z0 w0 x y tx it mt tt ct)) := by
  have hst : st_ S_80x z0 w0 z0 w0 := st_rf hz hw
  have htb : 159 ≤ t ∧ t ≤ 192 := by have := ht; unfold isT at this; omega
  have hz12 := rd_T_0 ht hz
  have key : ∀ N : Nat, (∀ (x2 : Int) , 0 ≤ x2 ∧ x2 ≤ 12 → (∀ q : Nat, (q : Int) < x2 → tri (w0 n (z0 (t + 1) (3 * q)).toNat) (w0 n (z0 (t + 1) (3 * q + 1)).toNat) (w0 n (z0 (t + 1) (3 * q + 2)).toNat)) → 17 * (12 - x2) + 14 < (N : Int) → wp_ (d + 1) 80 3 (some .boolean) (2, [(0, .ref t), (1, .ref n), (2, .int (Int32.ofInt x2))], [], mk z0 w0 (pq x y tx it mt tt ct)) (poI S_80x z0 w0 (E_80x t n z0 w0 x y tx it mt tt ct))) := by
    intro N
    induction N with
    | zero =>
      intro x2 
      intros; exfalso; omega
    | succ N ih =>
      have ih0 := ih; clear ih
      intro x2  hx2 as1 hM
      refine r_ld (pc' := 3) rfl rfl rfl rfl ?_
      refine r_ld (pc' := 4) rfl rfl rfl rfl ?_
      have hb13 := rd_T_0 ht hz
      refine r_gi (pc' := 7) rfl rfl (sh_T ht) rfl rfl ?_
      refine r_ige (pc' := 10) rfl rfl ⟨by omega, by omega⟩ ⟨by omega, by omega⟩ (fun hc14 => ?_) (fun hc14 => ?_)
      · skip
        refine r_c0 (pc' := 28) rfl rfl ?_
        exact r_rz rfl (by omega) (po_I hst ⟨by decide, by decide⟩ ⟨rfl, rfl, rfl, by omega, by omega, (by first | exact ⟨fun _ q hq => as1 q (by omega), fun q => absurd q (by omega)⟩ | exact ⟨fun q => absurd q (by omega), fun _ q => hfi.2 (by omega) (q x2.toNat (by omega))⟩)⟩)
      · skip
        refine r_ld (pc' := 11) rfl rfl rfl rfl ?_
        refine r_ld (pc' := 12) rfl rfl rfl rfl ?_
        refine r_ld (pc' := 13) rfl rfl rfl rfl ?_
        refine r_cVI (pc' := 16) rfl rfl rfl rfl rfl (sh_T ht) (m_79x (d := d) t x2 n hst.1 hst.2.1 ⟨by omega, by omega⟩ ht hn (by first | omega | assumption) (by first | omega | assumption)) (fun v15 z16 w17 p18 h19 hs20 hE21 => ?_)
        obtain ⟨rfl, rfl, rfl, hE21⟩ := hE21
        have hfi := hE21.2.2
        rw [show (3 * x2).toNat = 3 * x2.toNat by omega, show (3 * x2 + 1).toNat = 3 * x2.toNat + 1 by omega, show (3 * x2 + 2).toNat = 3 * x2.toNat + 2 by omega] at hfi
        refine r_zne (pc' := 19) rfl rfl ⟨by omega, by omega⟩ (fun hc23 => ?_) (fun hc23 => ?_)
        · skip
          refine r_inc (pc' := 24) (lv' := [(0, _), (1, _)]) rfl rfl rfl rfl rfl ?_
          refine r_go rfl ?_
          exact w_lv (sub_c rfl (sub_c rfl (sub_c rfl sub_n))) rfl (ih0 (x2 + 1) ⟨by omega, by omega⟩ (by first | (intro q hq; exfalso; omega) | (intro q hq; by_cases k : q = x2.toNat; (rw [k]; exact hfi.1 (by omega)); exact as1 q (by omega))) (by omega))
        · skip
          refine r_c0 (pc' := 20) rfl rfl ?_
          exact r_rz rfl (by omega) (po_I hst ⟨by decide, by decide⟩ ⟨rfl, rfl, rfl, by omega, by omega, (by first | exact ⟨fun _ q hq => as1 q (by omega), fun q => absurd q (by omega)⟩ | exact ⟨fun q => absurd q (by omega), fun _ q => hfi.2 (by omega) (q x2.toNat (by omega))⟩)⟩)
  refine w_m rfl rfl ?_
  refine r_c0 (pc' := 1) rfl rfl ?_
  refine r_st (pc' := 2) (lv' := [(2, _), (0, _), (1, _)]) rfl rfl rfl rfl ?_
  exact w_lv (sub_c rfl (sub_c rfl (sub_c rfl sub_n))) rfl ((key ((17 * (12 - 0) + 14 : Int).toNat + 1)) 0 ⟨by omega, by omega⟩ (by first | (intro q hq; exfalso; omega) | (intro q hq; by_cases k : q = x2.toNat; (rw [k]; exact hfi.1 (by omega)); exact as1 q (by omega))) (by omega))
/-- Reader readLoops -/
abbrev S_38x (t : Nat) : mS := [(3, 3, 6, 6), (3, 3, 8, 8), (3, 3, 7, 7), (3, 3, 9, 9), (3, 3, 10, 10), (3, 3, 0, 0), (3, 3, 1, 1), (t + 8, t + 15, 0, 17), (t + 16, t + 16, 0, 7), (t, t, 3, 3)]
abbrev E_38x (t : Nat) (h : Int → Int) (z0 w0 : mZ) (x y mt tt ct : Option Nat) : mZ → mZ → mP → Prop := fun z w p => p = (pq x y (some 2) (some t) mt tt ct) ∧ ((z 3 0 = 0 → CAz h z w t ∧ z 3 1 = z0 3 1 ∧ z0 3 8 < z 3 8) ∧ (z 3 0 ≠ 0 → CF h z))
set_option maxHeartbeats 8000000 in
theorem m_38x {d : Nat} {z0 w0 : mZ} {x y mt tt ct : Option Nat} (t : Nat) (h : Int → Int) (hz : rz z0) (hw : rw_ w0) (ht : isT t) (hh : tc z0 = h) (hca : ∃ k, (TKc h z0 w0 (tp h k) ∧ MC h (su (sq h k) 10 1) z0 w0 t) ∧ clq (sq h k) ∧ sq h k 0 = 0 ∧ tkK h (tp h k) = 7) (h00 : z0 3 0 = 0) (h51 : z0 3 5 = 1) : wc (d + 5) 38 [.ref 3] (mk z0 w0 (pq x y (some 2) (some t) mt tt ct)) (poV (S_38x t) z0 w0 (E_38x t h z0 w0 x y mt tt ct)) := by
  have hst : st_ (S_38x t) z0 w0 z0 w0 := st_rf hz hw
  have htb : 159 ≤ t ∧ t ≤ 192 := by have := ht; unfold isT at this; omega
  have hz213 := rd_3_0 hz
  have hz214 := rd_3_1 hz
  have hz215 := rd_3_5 hz
  have hz216 := rd_3_8 hz
  unfold TKc at hca
  obtain ⟨k, ⟨⟨e8, e0, e7, eN, eW, eE, e3⟩, hMC⟩, hcl, hm, hK⟩ := hca
  have hz3 := rd_T_3 ht hz
  have hz1 := rd_T_1 ht hz
  have hMA := hMC.1.1
  have hs4 : su (sq h k) 10 1 4 = sq h k 4 := rfl
  have key : ∀ N : Nat, (∀ (x1 x2 x5 x6 : Int) (z w : mZ), 0 ≤ x1 ∧ x1 ≤ 7 → (-9223372036854775808) ≤ x2 ∧ x2 ≤ 9223372036854775807 → 0 ≤ x5 ∧ x5 ≤ 18 → 0 ≤ x6 ∧ x6 ≤ 18 → 0 ≤ z0 t 3 ∧ z0 t 3 ≤ 7 → st_ (S_38x t) z0 w0 z w → z t 3 = z0 t 3 → (∃ k, CA h z w t k ∧ sq h k 0 = 7 ∧ sq h k 6 = x5 ∧ (x2 = tkW5 h (sq h k 7) ∧ wdq h (sq h k 7)) ∧ ¬ ∃ l : Nat, (l : Int) < sq h k 4 ∧ tkW8 h (sq h k (400 + l)) = tkW8 h (sq h k 7)) → (x1 = z t 3 ∧ x1 ≤ 7 ∧ z 3 0 = 0 ∧ z 3 5 = 1 ∧ z 3 1 = z0 3 1 ∧ z0 3 8 < z 3 8 ∧ x5 = x6 ∧ x5 ≤ z t 1) → 117 * (18 - x5) + 79 < (N : Int) → wp_ (d + 4) 38 7 none (71, [(0, .ref 3), (1, .int (Int32.ofInt x1)), (2, .long (Int64.ofInt x2)), (4, .ref (t + 8 + (z0 t 3).toNat)), (5, .int (Int32.ofInt x5)), (6, .int (Int32.ofInt x6))], [], mk z w (pq x y (some 2) (some t) mt tt ct)) (poV (S_38x t) z0 w0 (E_38x t h z0 w0 x y mt tt ct))) ∧ (∀ (x1 x2 x5 : Int) (z w : mZ), 0 ≤ x1 ∧ x1 ≤ 7 → (-9223372036854775808) ≤ x2 ∧ x2 ≤ 9223372036854775807 → 0 ≤ x5 ∧ x5 ≤ 18 → 0 ≤ z0 t 3 ∧ z0 t 3 ≤ 7 → st_ (S_38x t) z0 w0 z w → z t 3 = z0 t 3 → (∃ k, CA h z w t k ∧ sq h k 0 = 7 ∧ sq h k 6 = x5 ∧ (x2 = tkW5 h (sq h k 7) ∧ wdq h (sq h k 7)) ∧ ¬ ∃ l : Nat, (l : Int) < sq h k 4 ∧ tkW8 h (sq h k (400 + l)) = tkW8 h (sq h k 7)) → (x1 = z t 3 ∧ x1 ≤ 7 ∧ z 3 0 = 0 ∧ z 3 5 = 1 ∧ z 3 1 = z0 3 1 ∧ z0 3 8 < z 3 8 ∧ x5 ≤ z t 1 ∧ z 3 7 ≠ 2) → 42 < (N : Int) → wp_ (d + 4) 38 7 none (146, [(0, .ref 3), (1, .int (Int32.ofInt x1)), (2, .long (Int64.ofInt x2)), (4, .ref (t + 8 + (z0 t 3).toNat)), (5, .int (Int32.ofInt x5))], [], mk z w (pq x y (some 2) (some t) mt tt ct)) (poV (S_38x t) z0 w0 (E_38x t h z0 w0 x y mt tt ct))) ∧ (∀ (z w : mZ), 0 ≤ z0 t 3 ∧ z0 t 3 ≤ 7 → st_ (S_38x t) z0 w0 z w → z t 3 = z0 t 3 → (∃ k, TKc h z w (tp h k) ∧ sq h k 0 = 7 ∧ ((z 3 7 ≠ 2 ∧ z 3 7 ≠ 3) ∨ (z 3 7 = 3 ∧ (sq h k 6 = 0 ∨ sq h k 6 < ED (sq h k))))) → 4 < (N : Int) → wp_ (d + 4) 38 7 none (171, [(0, .ref 3)], [], mk z w (pq x y (some 2) (some t) mt tt ct)) (poV (S_38x t) z0 w0 (E_38x t h z0 w0 x y mt tt ct))) := by
    intro N
    induction N with
    | zero =>
      refine ⟨?_, ?_, ?_⟩
      · intro x1 x2 x5 x6 z w
        intros; exfalso; omega
      · intro x1 x2 x5 z w
        intros; exfalso; omega
      · intro  z w
        intros; exfalso; omega
    | succ N ih =>
      obtain ⟨ih0, ih1, ih2⟩ := ih
      refine ⟨?_, ?_, ?_⟩
      · intro x1 x2 x5 x6 z w  hx1 hx2 hx5 hx6 hz0_0 hst un_z_t_3 as1 as2 hM
        refine r_ld (pc' := 73) rfl rfl rfl rfl ?_
        refine r_cb (pc' := 75) rfl (by decide) rfl ?_
        refine r_igt (pc' := 78) rfl rfl ⟨by omega, by omega⟩ ⟨by decide, by decide⟩ (fun hc217 => ?_) (fun hc217 => ?_)
        · exfalso; omega
        · skip
          refine r_ld (pc' := 79) rfl rfl rfl rfl ?_
          have hb218 := rd_3_7 hst.1
          refine r_gi (pc' := 82) rfl rfl sh_3 rfl rfl ?_
          refine r_c0 (pc' := 83) rfl rfl ?_
          refine r_ine (pc' := 86) rfl rfl ⟨by omega, by omega⟩ ⟨by decide, by decide⟩ (fun hc219 => ?_) (fun hc219 => ?_)
          · skip
            have hf220 : z t 3 = z0 t 3 := un_z_t_3
            have hb221 := rd_3_0 hst.1
            have hb222 := rd_3_5 hz
            have hf223 : z 3 5 = z0 3 5 := (hst.2.2.1 _ _ (notS_c (by omega) (notS_c (by omega) (notS_c (by omega) (notS_c (by omega) (notS_c (by omega) (notS_c (by omega) (notS_c (by omega) (notS_c (by omega) (notS_c (by omega) (notS_c (by omega) notS_n)))))))))))
            have hb224 := rd_3_1 hst.1
            have hb225 := rd_3_8 hst.1
            have hb226 := rd_T_1 ht hz
            have hf227 : z t 1 = z0 t 1 := (hst.2.2.1 _ _ (notS_c (by omega) (notS_c (by omega) (notS_c (by omega) (notS_c (by omega) (notS_c (by omega) (notS_c (by omega) (notS_c (by omega) (notS_c (by omega) (notS_c (by omega) (notS_c (by omega) notS_n)))))))))))
            exact w_lv (sub_c rfl (sub_c rfl (sub_c rfl (sub_c rfl (sub_c rfl sub_n))))) rfl (ih1 x1 x2 x5 z w ⟨by omega, by omega⟩ ⟨by omega, by omega⟩ ⟨by omega, by omega⟩ ⟨by omega, by omega⟩ hst (un_z_t_3) (by exact as1) (by first | omega | assumption | (simp only [hf220, hf223, hf227]; assumption)) (by omega))
          · skip
            obtain ⟨k, hcx, hm7, h67, hn7, hd7⟩ := as1
            have hcy := hcx
            unfold CA TKc at hcy
            obtain ⟨⟨f8, f0, f7, fN, fW, fE, f3⟩, hMD⟩ := hcy
            have hzt1 := rd_T_1 ht hst.1
            have n1 : z t 1 = z0 t 1 := hst.2.2.1 _ _ (notS_c (by omega) (notS_c (by omega) (notS_c (by omega) (notS_c (by omega) (notS_c (by omega) (notS_c (by omega) (notS_c (by omega) (notS_c (by omega) (notS_c (by omega) (notS_c (by omega) (notS_n)))))))))))
            have n0 : z t 0 = z0 t 0 := hst.2.2.1 _ _ (notS_c (by omega) (notS_c (by omega) (notS_c (by omega) (notS_c (by omega) (notS_c (by omega) (notS_c (by omega) (notS_c (by omega) (notS_c (by omega) (notS_c (by omega) (notS_c (by omega) (notS_n)))))))))))
            have n33 : z 3 3 = z0 3 3 := hst.2.2.1 _ _ (notS_c (by omega) (notS_c (by omega) (notS_c (by omega) (notS_c (by omega) (notS_c (by omega) (notS_c (by omega) (notS_c (by omega) (notS_c (by omega) (notS_c (by omega) (notS_c (by omega) (notS_n)))))))))))
            have hED : z t 1 = ED (sq h k) := hMD.1.2 (by have := hMD.1.1.2.2.2; omega)
            refine r_ld (pc' := 88) rfl rfl rfl rfl ?_
            refine r_ld (pc' := 89) rfl rfl rfl rfl ?_
            refine r_gr (b := t) (pc' := 92) rfl rfl sh_3 rfl pp_3_4 ?_
            have hb228 := rd_T_1 ht hz
            refine r_gi (pc' := 95) rfl rfl (sh_T ht) rfl (hst.2.2.1 _ _ (notS_c (by omega) (notS_c (by omega) (notS_c (by omega) (notS_c (by omega) (notS_c (by omega) (notS_c (by omega) (notS_c (by omega) (notS_c (by omega) (notS_c (by omega) (notS_c (by omega) notS_n))))))))))) ?_
            refine r_ilt (pc' := 98) rfl rfl ⟨by omega, by omega⟩ ⟨by omega, by omega⟩ (fun hc229 => ?_) (fun hc229 => ?_)
            · skip
              have hN := fN (by omega)
              refine r_ld (pc' := 105) rfl rfl rfl rfl ?_
              have hb230 := rd_3_9 hst.1
              refine r_gi (pc' := 108) rfl rfl sh_3 rfl rfl ?_
              refine r_cb (pc' := 110) rfl (by decide) rfl ?_
              refine r_ile (pc' := 113) rfl rfl ⟨by omega, by omega⟩ ⟨by decide, by decide⟩ (fun hc231 => ?_) (fun hc231 => ?_)
              · skip
                refine r_ld (pc' := 125) rfl rfl rfl rfl ?_
                refine r_ld (pc' := 127) rfl rfl rfl rfl ?_
                refine r_ld (pc' := 128) rfl rfl rfl rfl ?_
                refine r_gi (pc' := 131) rfl rfl sh_3 rfl rfl ?_
                refine r_i2l (pc' := 132) rfl rfl ⟨by omega, by omega⟩ ?_
                refine r_ls (pc' := 133) rfl rfl (sh_T8 ht (by omega)) rfl (by omega) (by omega) hst (inS_s (inS_s (inS_s (inS_s (inS_s (inS_s (inS_s (inS_0 (by omega) (by omega) (by omega) (by omega))))))))) (wr_T8 ht (k := (z0 t 3).toNat) (by omega) ⟨by omega, by omega⟩) (fun w232 hq233 hs234 => ?_)
                have hqw := hq233
                refine r_inc (pc' := 136) (lv' := [(0, _), (1, _), (2, _), (4, _), (6, _)]) rfl rfl rfl rfl rfl ?_
                refine r_ld (pc' := 137) rfl rfl rfl rfl ?_
                have hb235 := rd_3_6 hst.1
                have hb236 := rd_3_3 hz
                have hf237 : z 3 3 = z0 3 3 := (hst.2.2.1 _ _ (notS_c (by omega) (notS_c (by omega) (notS_c (by omega) (notS_c (by omega) (notS_c (by omega) (notS_c (by omega) (notS_c (by omega) (notS_c (by omega) (notS_c (by omega) (notS_c (by omega) notS_n)))))))))))
                refine r_cVV (pc' := 140) rfl rfl rfl rfl rfl sh_3 (m_46x (d := d + 1) t h hs234.1 hs234.2.1 ht (by exact (tc_f (fun i => hs234.2.2.1 2 i (notS_c (by omega) (notS_c (by omega) (notS_c (by omega) (notS_c (by omega) (notS_c (by omega) (notS_c (by omega) (notS_c (by omega) (notS_c (by omega) (notS_c (by omega) (notS_c (by omega) (notS_n)))))))))))) (hs234.2.2.1 3 3 (notS_c (by omega) (notS_c (by omega) (notS_c (by omega) (notS_c (by omega) (notS_c (by omega) (notS_c (by omega) (notS_c (by omega) (notS_c (by omega) (notS_c (by omega) (notS_c (by omega) (notS_n))))))))))))).trans hh) (by first | omega | assumption | (simp only [hf237]; assumption))) (fun z239 w240 p241 hs243 hE244 => ?_)
                have hs245 := st_tr hs234 hs243 (subS_c (fun _ _ _ _ _ _ => inS_0 (by omega) (by omega) (by omega) (by omega)) (subS_c (fun _ _ _ _ _ _ => inS_s (inS_0 (by omega) (by omega) (by omega) (by omega))) (subS_c (fun _ _ _ _ _ _ => inS_s (inS_s (inS_0 (by omega) (by omega) (by omega) (by omega)))) (subS_c (fun _ _ _ _ _ _ => inS_s (inS_s (inS_s (inS_0 (by omega) (by omega) (by omega) (by omega))))) (subS_c (fun _ _ _ _ _ _ => inS_s (inS_s (inS_s (inS_s (inS_0 (by omega) (by omega) (by omega) (by omega)))))) subS_n)))))
                obtain ⟨rfl, hE244⟩ := hE244
                have hrt := hE244
                have hfe : Fr z w232 z239 w240 := ⟨fun a i ha => (hs243.2.2.1 _ _ (notS_c (by omega) (notS_c (by omega) (notS_c (by omega) (notS_c (by omega) (notS_c (by omega) notS_n)))))), (hs243.2.2.1 _ _ (notS_c (by omega) (notS_c (by omega) (notS_c (by omega) (notS_c (by omega) (notS_c (by omega) notS_n)))))), fun a i ha => (hs243.2.2.2 _ _ (notS_c (by omega) (notS_c (by omega) (notS_c (by omega) (notS_c (by omega) (notS_c (by omega) notS_n))))))⟩
                refine r_inc (pc' := 143) (lv' := [(5, _), (0, _), (1, _), (2, _), (4, _)]) rfl rfl rfl rfl rfl ?_
                refine r_go rfl ?_
                have hf246 : z239 t 3 = z0 t 3 := ((hs243.2.2.1 _ _ (notS_c (by omega) (notS_c (by omega) (notS_c (by omega) (notS_c (by omega) (notS_c (by omega) notS_n)))))).trans un_z_t_3)
                have hb247 := rd_3_0 hst.1
                have hf248 : z239 3 0 = z 3 0 := (hs243.2.2.1 _ _ (notS_c (by omega) (notS_c (by omega) (notS_c (by omega) (notS_c (by omega) (notS_c (by omega) notS_n))))))
                have hb249 := rd_3_5 hz
                have hf250 : z239 3 5 = z0 3 5 := ((hs243.2.2.1 _ _ (notS_c (by omega) (notS_c (by omega) (notS_c (by omega) (notS_c (by omega) (notS_c (by omega) notS_n)))))).trans (hst.2.2.1 _ _ (notS_c (by omega) (notS_c (by omega) (notS_c (by omega) (notS_c (by omega) (notS_c (by omega) (notS_c (by omega) (notS_c (by omega) (notS_c (by omega) (notS_c (by omega) (notS_c (by omega) notS_n))))))))))))
                have hb251 := rd_3_1 hst.1
                have hf252 : z239 3 1 = z 3 1 := (hs243.2.2.1 _ _ (notS_c (by omega) (notS_c (by omega) (notS_c (by omega) (notS_c (by omega) (notS_c (by omega) notS_n))))))
                have hb253 := rd_3_8 hs245.1
                have hf254 : z239 t 1 = z0 t 1 := ((hs243.2.2.1 _ _ (notS_c (by omega) (notS_c (by omega) (notS_c (by omega) (notS_c (by omega) (notS_c (by omega) notS_n)))))).trans (hst.2.2.1 _ _ (notS_c (by omega) (notS_c (by omega) (notS_c (by omega) (notS_c (by omega) (notS_c (by omega) (notS_c (by omega) (notS_c (by omega) (notS_c (by omega) (notS_c (by omega) (notS_c (by omega) notS_n))))))))))))
                have hb255 := rd_3_7 hs245.1
                exact w_lv (sub_c rfl (sub_c rfl (sub_c rfl (sub_c rfl (sub_c rfl (sub_c rfl sub_n)))))) rfl (ih0 x1 x2 (x5 + 1) (x6 + 1) z239 w240 ⟨by omega, by omega⟩ ⟨by omega, by omega⟩ ⟨by omega, by omega⟩ ⟨by omega, by omega⟩ ⟨by omega, by omega⟩ hs245 (((hs243.2.2.1 _ _ (notS_c (by omega) (notS_c (by omega) (notS_c (by omega) (notS_c (by omega) (notS_c (by omega) notS_n)))))).trans un_z_t_3)) (by first | (have q9 := CA_n (nu := z 3 9) (w1 := w232) (by omega) hMD hm7 (by omega) (by omega) (by omega) (by omega) (by omega) hN.1 (by omega) (fun e => by rw [hqw, un_z_t_3, mu_sf]; dsimp only; rw [h67]) (fun a i g1 => by rw [hqw]; exact mu_ne (by omega)) hfe (by rw [tp_s, ← (fE (by omega)).1]; exact hrt.1); exact ⟨k + 1, q9.1, q9.2.1, by omega, by rw [q9.2.2.2.1]; exact hn7, by rw [q9.2.2.2.1, q9.2.2.2.2 4 (by omega) (by omega)]; intro g; obtain ⟨l, hl, g2⟩ := g; rw [q9.2.2.2.2 _ (by omega) (by omega)] at g2; exact hd7 ⟨l, hl, g2⟩⟩) | (have e7x : sq h (k + 1 + 1 + 1) 7 = tp h (k + 1) := (by rw [ec, su_n (by omega), eb, su_e]); exact ⟨k + 1 + 1 + 1, c11, by rw [ec, su_e], by rw [ec, su_n (by omega), eb, su_n (by omega), su_n (by omega)]; exact c9.2.2.1, by rw [e7x]; exact ⟨by have := hwa.1; omega, hwa.2⟩, by rw [e7x, ec, eb, su_n (by omega), su_n (by omega), su_n (by omega)]; intro g; obtain ⟨l, hl, g2⟩ := g; rw [su_n (by omega), su_n (by omega), su_n (by omega)] at g2; exact hnd ⟨l, hl, g2⟩⟩)) (by first | omega | assumption | (simp only [hf246, hf248, hf250, hf252, hf254]; assumption)) (by omega))
              · skip
                refine r_ld (pc' := 114) rfl rfl rfl rfl ?_
                refine r_c0 (pc' := 115) rfl rfl ?_
                refine r_ld (pc' := 116) rfl rfl rfl rfl ?_
                have hb256 := rd_3_8 hst.1
                refine r_gi (pc' := 119) rfl rfl sh_3 rfl rfl ?_
                refine r_cVV (pc' := 122) rfl rfl rfl rfl rfl sh_3 (m_33x (d := d + 3) 4 (z 3 8) hst.1 hst.2.1 ⟨by omega, by omega⟩ ⟨by omega, by omega⟩) (fun z258 w259 p260 hs262 hE263 => ?_)
                have hs264 := st_tr hst hs262 (subS_c (fun _ _ _ _ _ _ => inS_s (inS_s (inS_s (inS_s (inS_s (inS_0 (by omega) (by omega) (by omega) (by omega))))))) (subS_c (fun _ _ _ _ _ _ => inS_s (inS_s (inS_s (inS_s (inS_s (inS_s (inS_0 (by omega) (by omega) (by omega) (by omega)))))))) subS_n))
                obtain ⟨rfl, hE263⟩ := hE263
                have hrg := hE263
                have hb265 := rd_3_0 hs264.1
                have hb266 := rd_3_1 hs264.1
                have hf267 : z258 3 8 = z 3 8 := (hs262.2.2.1 _ _ (notS_c (by omega) (notS_c (by omega) notS_n)))
                have hb268 := rd_T_0 ht hz
                have hf269 : z258 t 0 = z0 t 0 := ((hs262.2.2.1 _ _ (notS_c (by omega) (notS_c (by omega) notS_n))).trans (hst.2.2.1 _ _ (notS_c (by omega) (notS_c (by omega) (notS_c (by omega) (notS_c (by omega) (notS_c (by omega) (notS_c (by omega) (notS_c (by omega) (notS_c (by omega) (notS_c (by omega) (notS_c (by omega) notS_n))))))))))))
                have hf270 : z258 t 1 = z0 t 1 := ((hs262.2.2.1 _ _ (notS_c (by omega) (notS_c (by omega) notS_n))).trans (hst.2.2.1 _ _ (notS_c (by omega) (notS_c (by omega) (notS_c (by omega) (notS_c (by omega) (notS_c (by omega) (notS_c (by omega) (notS_c (by omega) (notS_c (by omega) (notS_c (by omega) (notS_c (by omega) notS_n))))))))))))
                have hf271 : z258 t 3 = z0 t 3 := ((hs262.2.2.1 _ _ (notS_c (by omega) (notS_c (by omega) notS_n))).trans un_z_t_3)
                exact r_ret rfl (po_V hs264 ⟨rfl, (by exact ⟨fun q => absurd q (by omega), fun _ => CF_i (f := 4) (a7_4 hm7 (by omega) (by omega) (by omega)) (by omega) (by omega) (by omega)⟩)⟩)
            · skip
              refine r_ld (pc' := 99) rfl rfl rfl rfl ?_
              have hb272 := rd_3_8 hst.1
              refine r_cVI (pc' := 102) rfl rfl rfl rfl rfl sh_3 (m_34x (d := d + 2)  hst.1 hst.2.1 ) (fun v273 z274 w275 p276 h277 hs278 hE279 => ?_)
              have hs280 := st_tr hst hs278 (subS_c (fun _ _ _ _ _ _ => inS_s (inS_s (inS_s (inS_s (inS_s (inS_0 (by omega) (by omega) (by omega) (by omega))))))) (subS_c (fun _ _ _ _ _ _ => inS_s (inS_s (inS_s (inS_s (inS_s (inS_s (inS_0 (by omega) (by omega) (by omega) (by omega)))))))) subS_n))
              obtain ⟨rfl, hE279⟩ := hE279
              have hrf := hE279
              refine r_al (pc' := 103) rfl rfl rfl rfl ?_
              have hb281 := rd_3_0 hs280.1
              have hb282 := rd_3_1 hs280.1
              have hf283 : z274 3 8 = z 3 8 := (hs278.2.2.1 _ _ (notS_c (by omega) (notS_c (by omega) notS_n)))
              have hb284 := rd_T_0 ht hz
              have hf285 : z274 t 0 = z0 t 0 := ((hs278.2.2.1 _ _ (notS_c (by omega) (notS_c (by omega) notS_n))).trans (hst.2.2.1 _ _ (notS_c (by omega) (notS_c (by omega) (notS_c (by omega) (notS_c (by omega) (notS_c (by omega) (notS_c (by omega) (notS_c (by omega) (notS_c (by omega) (notS_c (by omega) (notS_c (by omega) notS_n))))))))))))
              have hf286 : z274 t 1 = z0 t 1 := ((hs278.2.2.1 _ _ (notS_c (by omega) (notS_c (by omega) notS_n))).trans (hst.2.2.1 _ _ (notS_c (by omega) (notS_c (by omega) (notS_c (by omega) (notS_c (by omega) (notS_c (by omega) (notS_c (by omega) (notS_c (by omega) (notS_c (by omega) (notS_c (by omega) (notS_c (by omega) notS_n))))))))))))
              have hf287 : z274 t 3 = z0 t 3 := ((hs278.2.2.1 _ _ (notS_c (by omega) (notS_c (by omega) notS_n))).trans un_z_t_3)
              exact r_ret rfl (po_V hs280 ⟨rfl, (by exact ⟨fun q => absurd q (by rw [hrf.2.2.2.1]; split <;> omega), fun _ => CF_b (a7_nb hm7 (by omega) (by omega)) (by rw [← f7]; exact hrf.2.2.2.1) (by omega)⟩)⟩)
      · intro x1 x2 x5 z w  hx1 hx2 hx5 hz0_0 hst un_z_t_3 as1 as2 hM
        refine r_ld (pc' := 147) rfl rfl rfl rfl ?_
        have hb288 := rd_3_7 hst.1
        refine r_gi (pc' := 150) rfl rfl sh_3 rfl rfl ?_
        refine r_c0 (pc' := 151) rfl rfl ?_
        refine r_ine (pc' := 154) rfl rfl ⟨by omega, by omega⟩ ⟨by decide, by decide⟩ (fun hc289 => ?_) (fun hc289 => ?_)
        · skip
          have hf290 : z t 3 = z0 t 3 := un_z_t_3
          have hb291 := rd_T_1 ht hz
          have hf292 : z t 1 = z0 t 1 := (hst.2.2.1 _ _ (notS_c (by omega) (notS_c (by omega) (notS_c (by omega) (notS_c (by omega) (notS_c (by omega) (notS_c (by omega) (notS_c (by omega) (notS_c (by omega) (notS_c (by omega) (notS_c (by omega) notS_n)))))))))))
          have hb293 := rd_3_0 hst.1
          have hb294 := rd_3_5 hz
          have hf295 : z 3 5 = z0 3 5 := (hst.2.2.1 _ _ (notS_c (by omega) (notS_c (by omega) (notS_c (by omega) (notS_c (by omega) (notS_c (by omega) (notS_c (by omega) (notS_c (by omega) (notS_c (by omega) (notS_c (by omega) (notS_c (by omega) notS_n)))))))))))
          have hb296 := rd_3_1 hst.1
          have hb297 := rd_3_8 hst.1
          exact w_lv (sub_c rfl sub_n) rfl (ih2 z w ⟨by omega, by omega⟩ hst (un_z_t_3) (by first | (obtain ⟨k, q1, q2, q3, q4⟩ := as1; refine ⟨k, q1.1, q2, ?_⟩; first | exact Or.inl ⟨by omega, by omega⟩ | exact Or.inr ⟨by omega, by have q5 : z t 1 = ED (sq h k) := q1.2.1.2 (by have := q1.2.1.1.2.2.2; omega); omega⟩)) (by omega))
        · skip
          refine r_ld (pc' := 156) rfl rfl rfl rfl ?_
          refine r_zeq (pc' := 159) rfl rfl ⟨by omega, by omega⟩ (fun hc298 => ?_) (fun hc298 => ?_)
          · skip
            have hf299 : z t 3 = z0 t 3 := un_z_t_3
            have hb300 := rd_T_1 ht hz
            have hf301 : z t 1 = z0 t 1 := (hst.2.2.1 _ _ (notS_c (by omega) (notS_c (by omega) (notS_c (by omega) (notS_c (by omega) (notS_c (by omega) (notS_c (by omega) (notS_c (by omega) (notS_c (by omega) (notS_c (by omega) (notS_c (by omega) notS_n)))))))))))
            have hb302 := rd_3_0 hst.1
            have hb303 := rd_3_5 hz
            have hf304 : z 3 5 = z0 3 5 := (hst.2.2.1 _ _ (notS_c (by omega) (notS_c (by omega) (notS_c (by omega) (notS_c (by omega) (notS_c (by omega) (notS_c (by omega) (notS_c (by omega) (notS_c (by omega) (notS_c (by omega) (notS_c (by omega) notS_n)))))))))))
            have hb305 := rd_3_1 hst.1
            have hb306 := rd_3_8 hst.1
            exact w_lv (sub_c rfl sub_n) rfl (ih2 z w ⟨by omega, by omega⟩ hst (un_z_t_3) (by first | (obtain ⟨k, q1, q2, q3, q4⟩ := as1; refine ⟨k, q1.1, q2, ?_⟩; first | exact Or.inl ⟨by omega, by omega⟩ | exact Or.inr ⟨by omega, by have q5 : z t 1 = ED (sq h k) := q1.2.1.2 (by have := q1.2.1.1.2.2.2; omega); omega⟩)) (by omega))
          · skip
            refine r_ld (pc' := 161) rfl rfl rfl rfl ?_
            refine r_ld (pc' := 162) rfl rfl rfl rfl ?_
            refine r_gr (b := t) (pc' := 165) rfl rfl sh_3 rfl pp_3_4 ?_
            have hb307 := rd_T_1 ht hz
            refine r_gi (pc' := 168) rfl rfl (sh_T ht) rfl (hst.2.2.1 _ _ (notS_c (by omega) (notS_c (by omega) (notS_c (by omega) (notS_c (by omega) (notS_c (by omega) (notS_c (by omega) (notS_c (by omega) (notS_c (by omega) (notS_c (by omega) (notS_c (by omega) notS_n))))))))))) ?_
            refine r_ige (pc' := 171) rfl rfl ⟨by omega, by omega⟩ ⟨by omega, by omega⟩ (fun hc308 => ?_) (fun hc308 => ?_)
            · skip
              obtain ⟨k, hcx, hm7, h67, hn7, hd7⟩ := as1
              have hcy := hcx
              unfold CA TKc at hcy
              obtain ⟨⟨f8, f0, f7, fN, fW, fE, f3⟩, hMD⟩ := hcy
              have n1 : z t 1 = z0 t 1 := hst.2.2.1 _ _ (notS_c (by omega) (notS_c (by omega) (notS_c (by omega) (notS_c (by omega) (notS_c (by omega) (notS_c (by omega) (notS_c (by omega) (notS_c (by omega) (notS_c (by omega) (notS_c (by omega) (notS_n)))))))))))
              have n0 : z t 0 = z0 t 0 := hst.2.2.1 _ _ (notS_c (by omega) (notS_c (by omega) (notS_c (by omega) (notS_c (by omega) (notS_c (by omega) (notS_c (by omega) (notS_c (by omega) (notS_c (by omega) (notS_c (by omega) (notS_c (by omega) (notS_n)))))))))))
              have n33 : z 3 3 = z0 3 3 := hst.2.2.1 _ _ (notS_c (by omega) (notS_c (by omega) (notS_c (by omega) (notS_c (by omega) (notS_c (by omega) (notS_c (by omega) (notS_c (by omega) (notS_c (by omega) (notS_c (by omega) (notS_c (by omega) (notS_n)))))))))))
              have hED : z t 1 = ED (sq h k) := hMD.1.2 (by have := hMD.1.1.2.2.2; omega)
              have hzt0 := rd_T_0 ht hst.1
              have hzT : ∀ i : Nat, i < 36 → 0 ≤ z (t + 1) i ∧ z (t + 1) i < 18 := fun i hi => by have := rd_T1 ht hst.1 (i := i) hi; omega
              refine r_ld (pc' := 178) rfl rfl rfl rfl ?_
              refine r_gr (b := t) (pc' := 181) rfl rfl sh_3 rfl pp_3_4 ?_
              refine r_ld (pc' := 183) rfl rfl rfl rfl ?_
              have hb309 := rd_T_0 ht hz
              have hf310 : z t 0 = z0 t 0 := (hst.2.2.1 _ _ (notS_c (by omega) (notS_c (by omega) (notS_c (by omega) (notS_c (by omega) (notS_c (by omega) (notS_c (by omega) (notS_c (by omega) (notS_c (by omega) (notS_c (by omega) (notS_c (by omega) notS_n)))))))))))
              refine r_cVI (pc' := 186) rfl rfl rfl rfl rfl (sh_T ht) (m_80x (d := d + 2) t (t + 8 + (z0 t 3).toNat) hst.1 hst.2.1 ht (lr_T8 ht (k := (z0 t 3).toNat) (by omega) ) (by first | omega | assumption | (simp only [hf310]; assumption)) (fun e he => by have q := rd_T8 ht (k := (z0 t 3).toNat) (by omega) hst.2.1 (i := e) he; exact ⟨by omega, by omega⟩)) (fun v311 z312 w313 p314 h315 hs316 hE317 => ?_)
              obtain ⟨rfl, rfl, rfl, hE317⟩ := hE317
              have hfi := hE317.2.2
              refine r_zne (pc' := 189) rfl rfl ⟨by omega, by omega⟩ (fun hc319 => ?_) (fun hc319 => ?_)
              · skip
                refine r_ld (pc' := 201) rfl rfl rfl rfl ?_
                refine r_gr (b := t) (pc' := 204) rfl rfl sh_3 rfl pp_3_4 ?_
                refine r_gr (b := t + 16) (pc' := 207) rfl rfl (sh_T ht) rfl (pp_T_12 ht) ?_
                refine r_ld (pc' := 208) rfl rfl rfl rfl ?_
                refine r_ld (pc' := 209) rfl rfl rfl rfl ?_
                refine r_ls (pc' := 210) rfl rfl (sh_T16 ht) rfl (by omega) (by omega) hst (inS_s (inS_s (inS_s (inS_s (inS_s (inS_s (inS_s (inS_s (inS_0 (by omega) (by omega) (by omega) (by omega)))))))))) (wr_T16 ht ⟨by omega, by omega⟩) (fun w320 hq321 hs322 => ?_)
                have hqn := hq321
                refine r_ld (pc' := 211) rfl rfl rfl rfl ?_
                refine r_gr (b := t) (pc' := 214) rfl rfl sh_3 rfl pp_3_4 ?_
                refine r_al (pc' := 215) rfl rfl rfl rfl ?_
                refine r_gi (pc' := 218) rfl rfl (sh_T ht) rfl un_z_t_3 ?_
                refine r_c0 (pc' := 219) rfl rfl ?_
                refine r_add (pc' := 220) rfl rfl ?_
                refine r_pi (pc' := 223) rfl rfl (sh_T ht) rfl rfl hs322 (inS_s (inS_s (inS_s (inS_s (inS_s (inS_s (inS_s (inS_s (inS_s (inS_0 (by omega) (by omega) (by omega) (by omega))))))))))) (wr_T_3 ht ⟨by omega, by omega⟩) (fun z323 hq324 hs325 => ?_)
                have hg3 : z323 t 3 = z t 3 + 1 := by have q := (congrFun (congrFun hq324 t) 3).trans mu_eq; omega
                have hg1 : ∀ a i, (a = t → i ≠ 3) → z323 a i = z a i := fun a i ha => ((congrFun (congrFun hq324 _) _).trans (mu_ne (by omega)))
                refine r_ld (pc' := 224) rfl rfl rfl rfl ?_
                have hb326 := rd_3_6 hst.1
                have hf327 : z323 3 6 = z 3 6 := ((congrFun (congrFun hq324 _) _).trans (mu_ne (by omega)))
                have hb328 := rd_3_3 hz
                have hf329 : z323 3 3 = z0 3 3 := (((congrFun (congrFun hq324 _) _).trans (mu_ne (by omega))).trans (hst.2.2.1 _ _ (notS_c (by omega) (notS_c (by omega) (notS_c (by omega) (notS_c (by omega) (notS_c (by omega) (notS_c (by omega) (notS_c (by omega) (notS_c (by omega) (notS_c (by omega) (notS_c (by omega) notS_n))))))))))))
                refine r_cVV (pc' := 227) rfl rfl rfl rfl rfl sh_3 (m_46x (d := d + 1) t h hs325.1 hs325.2.1 ht (by exact (tc_f (fun i => hs325.2.2.1 2 i (notS_c (by omega) (notS_c (by omega) (notS_c (by omega) (notS_c (by omega) (notS_c (by omega) (notS_c (by omega) (notS_c (by omega) (notS_c (by omega) (notS_c (by omega) (notS_c (by omega) (notS_n)))))))))))) (hs325.2.2.1 3 3 (notS_c (by omega) (notS_c (by omega) (notS_c (by omega) (notS_c (by omega) (notS_c (by omega) (notS_c (by omega) (notS_c (by omega) (notS_c (by omega) (notS_c (by omega) (notS_c (by omega) (notS_n))))))))))))).trans hh) (by first | omega | assumption | (simp only [hf327, hf329]; assumption))) (fun z331 w332 p333 hs335 hE336 => ?_)
                have hs337 := st_tr hs325 hs335 (subS_c (fun _ _ _ _ _ _ => inS_0 (by omega) (by omega) (by omega) (by omega)) (subS_c (fun _ _ _ _ _ _ => inS_s (inS_0 (by omega) (by omega) (by omega) (by omega))) (subS_c (fun _ _ _ _ _ _ => inS_s (inS_s (inS_0 (by omega) (by omega) (by omega) (by omega)))) (subS_c (fun _ _ _ _ _ _ => inS_s (inS_s (inS_s (inS_0 (by omega) (by omega) (by omega) (by omega))))) (subS_c (fun _ _ _ _ _ _ => inS_s (inS_s (inS_s (inS_s (inS_0 (by omega) (by omega) (by omega) (by omega)))))) subS_n)))))
                obtain ⟨rfl, hE336⟩ := hE336
                have hrt := hE336
                have hfg : Fr z323 w320 z331 w332 := ⟨fun a i ha => (hs335.2.2.1 _ _ (notS_c (by omega) (notS_c (by omega) (notS_c (by omega) (notS_c (by omega) (notS_c (by omega) notS_n)))))), (hs335.2.2.1 _ _ (notS_c (by omega) (notS_c (by omega) (notS_c (by omega) (notS_c (by omega) (notS_c (by omega) notS_n)))))), fun a i ha => (hs335.2.2.2 _ _ (notS_c (by omega) (notS_c (by omega) (notS_c (by omega) (notS_c (by omega) (notS_c (by omega) notS_n))))))⟩
                have hb338 := rd_3_0 hst.1
                have hf339 : z331 3 0 = z 3 0 := ((hs335.2.2.1 _ _ (notS_c (by omega) (notS_c (by omega) (notS_c (by omega) (notS_c (by omega) (notS_c (by omega) notS_n)))))).trans ((congrFun (congrFun hq324 _) _).trans (mu_ne (by omega))))
                have hb340 := rd_3_1 hst.1
                have hf341 : z331 3 1 = z 3 1 := ((hs335.2.2.1 _ _ (notS_c (by omega) (notS_c (by omega) (notS_c (by omega) (notS_c (by omega) (notS_c (by omega) notS_n)))))).trans ((congrFun (congrFun hq324 _) _).trans (mu_ne (by omega))))
                have hb342 := rd_3_8 hs337.1
                have hf343 : z331 t 0 = z0 t 0 := ((hs335.2.2.1 _ _ (notS_c (by omega) (notS_c (by omega) (notS_c (by omega) (notS_c (by omega) (notS_c (by omega) notS_n)))))).trans (((congrFun (congrFun hq324 _) _).trans (mu_ne (by omega))).trans (hst.2.2.1 _ _ (notS_c (by omega) (notS_c (by omega) (notS_c (by omega) (notS_c (by omega) (notS_c (by omega) (notS_c (by omega) (notS_c (by omega) (notS_c (by omega) (notS_c (by omega) (notS_c (by omega) notS_n)))))))))))))
                have hf344 : z331 t 1 = z0 t 1 := ((hs335.2.2.1 _ _ (notS_c (by omega) (notS_c (by omega) (notS_c (by omega) (notS_c (by omega) (notS_c (by omega) notS_n)))))).trans (((congrFun (congrFun hq324 _) _).trans (mu_ne (by omega))).trans (hst.2.2.1 _ _ (notS_c (by omega) (notS_c (by omega) (notS_c (by omega) (notS_c (by omega) (notS_c (by omega) (notS_c (by omega) (notS_c (by omega) (notS_c (by omega) (notS_c (by omega) (notS_c (by omega) notS_n)))))))))))))
                have hf345 : z331 t 3 = (z0 t 3) + 1 := ((hs335.2.2.1 _ _ (notS_c (by omega) (notS_c (by omega) (notS_c (by omega) (notS_c (by omega) (notS_c (by omega) notS_n)))))).trans ((congrFun (congrFun hq324 _) _).trans mu_eq))
                exact r_ret rfl (po_V hs337 ⟨rfl, (by have q9 := CA_le (z1 := z323) (w1 := w320) (by omega) hMD hm7 (by omega) (by omega) (by omega) (by omega) (FIT_y hMD (by omega) (by have := hMD.1.1; omega) (by have := hMD.1.1; omega) hzT (by rw [un_z_t_3]; exact hfi.1 (by omega))) hn7.2 hd7 hg3 hg1 (fun e => by rw [hqn, ← as2.1, mu_sf]; dsimp only; rw [← hn7.1]) (fun a i g1 => by rw [hqn]; exact mu_ne (by omega)) hfg (by rw [tp_s, ← (fE (by omega)).1, show z 3 6 = z323 3 6 from (hg1 3 6 (by omega)).symm]; exact hrt.1); exact ⟨fun _ => ⟨⟨k + 1, q9.1, q9.2⟩, by omega, by omega⟩, fun q => absurd (by omega) q⟩)⟩)
              · skip
                refine r_ld (pc' := 190) rfl rfl rfl rfl ?_
                refine r_cb (pc' := 192) rfl (by decide) rfl ?_
                refine r_ld (pc' := 193) rfl rfl rfl rfl ?_
                have hb346 := rd_3_8 hst.1
                refine r_gi (pc' := 196) rfl rfl sh_3 rfl rfl ?_
                refine r_cVV (pc' := 199) rfl rfl rfl rfl rfl sh_3 (m_33x (d := d + 3) 6 (z 3 8) hst.1 hst.2.1 ⟨by omega, by omega⟩ ⟨by omega, by omega⟩) (fun z348 w349 p350 hs352 hE353 => ?_)
                have hs354 := st_tr hst hs352 (subS_c (fun _ _ _ _ _ _ => inS_s (inS_s (inS_s (inS_s (inS_s (inS_0 (by omega) (by omega) (by omega) (by omega))))))) (subS_c (fun _ _ _ _ _ _ => inS_s (inS_s (inS_s (inS_s (inS_s (inS_s (inS_0 (by omega) (by omega) (by omega) (by omega)))))))) subS_n))
                obtain ⟨rfl, hE353⟩ := hE353
                have hrg := hE353
                have hb355 := rd_3_0 hs354.1
                have hb356 := rd_3_1 hs354.1
                have hf357 : z348 3 8 = z 3 8 := (hs352.2.2.1 _ _ (notS_c (by omega) (notS_c (by omega) notS_n)))
                have hf358 : z348 t 0 = z0 t 0 := ((hs352.2.2.1 _ _ (notS_c (by omega) (notS_c (by omega) notS_n))).trans (hst.2.2.1 _ _ (notS_c (by omega) (notS_c (by omega) (notS_c (by omega) (notS_c (by omega) (notS_c (by omega) (notS_c (by omega) (notS_c (by omega) (notS_c (by omega) (notS_c (by omega) (notS_c (by omega) notS_n))))))))))))
                have hf359 : z348 t 1 = z0 t 1 := ((hs352.2.2.1 _ _ (notS_c (by omega) (notS_c (by omega) notS_n))).trans (hst.2.2.1 _ _ (notS_c (by omega) (notS_c (by omega) (notS_c (by omega) (notS_c (by omega) (notS_c (by omega) (notS_c (by omega) (notS_c (by omega) (notS_c (by omega) (notS_c (by omega) (notS_c (by omega) notS_n))))))))))))
                have hf360 : z348 t 3 = z0 t 3 := ((hs352.2.2.1 _ _ (notS_c (by omega) (notS_c (by omega) notS_n))).trans un_z_t_3)
                exact r_ret rfl (po_V hs354 ⟨rfl, (by exact ⟨fun q => absurd q (by omega), fun _ => CF_i (f := 6) (a7_f hm7 (by omega) ⟨by omega, by omega⟩ (FIT_n hMD (by omega) (by have := hMD.1.1; omega) (by have := hMD.1.1; omega) hzT (by rw [un_z_t_3]; exact hfi.2 (by omega)))) (by omega) (by omega) (by omega)⟩)⟩)
            · skip
              have hf361 : z t 3 = z0 t 3 := un_z_t_3
              have hf362 : z t 1 = z0 t 1 := (hst.2.2.1 _ _ (notS_c (by omega) (notS_c (by omega) (notS_c (by omega) (notS_c (by omega) (notS_c (by omega) (notS_c (by omega) (notS_c (by omega) (notS_c (by omega) (notS_c (by omega) (notS_c (by omega) notS_n)))))))))))
              have hb363 := rd_3_0 hst.1
              have hb364 := rd_3_5 hz
              have hf365 : z 3 5 = z0 3 5 := (hst.2.2.1 _ _ (notS_c (by omega) (notS_c (by omega) (notS_c (by omega) (notS_c (by omega) (notS_c (by omega) (notS_c (by omega) (notS_c (by omega) (notS_c (by omega) (notS_c (by omega) (notS_c (by omega) notS_n)))))))))))
              have hb366 := rd_3_1 hst.1
              have hb367 := rd_3_8 hst.1
              exact w_lv (sub_c rfl sub_n) rfl (ih2 z w ⟨by omega, by omega⟩ hst (un_z_t_3) (by first | (obtain ⟨k, q1, q2, q3, q4⟩ := as1; refine ⟨k, q1.1, q2, ?_⟩; first | exact Or.inl ⟨by omega, by omega⟩ | exact Or.inr ⟨by omega, by have q5 : z t 1 = ED (sq h k) := q1.2.1.2 (by have := q1.2.1.1.2.2.2; omega); omega⟩)) (by omega))
      · intro  z w  hz0_0 hst un_z_t_3 as1 hM
        obtain ⟨k, hct, hm7, hor⟩ := as1
        have hcv := hct
        unfold TKc at hcv
        refine r_ld (pc' := 172) rfl rfl rfl rfl ?_
        have hb368 := rd_3_7 hst.1
        have hb369 := rd_3_8 hst.1
        refine r_cVI (pc' := 175) rfl rfl rfl rfl rfl sh_3 (m_34x (d := d + 2)  hst.1 hst.2.1 ) (fun v370 z371 w372 p373 h374 hs375 hE376 => ?_)
        have hs377 := st_tr hst hs375 (subS_c (fun _ _ _ _ _ _ => inS_s (inS_s (inS_s (inS_s (inS_s (inS_0 (by omega) (by omega) (by omega) (by omega))))))) (subS_c (fun _ _ _ _ _ _ => inS_s (inS_s (inS_s (inS_s (inS_s (inS_s (inS_0 (by omega) (by omega) (by omega) (by omega)))))))) subS_n))
        obtain ⟨rfl, hE376⟩ := hE376
        have hrf := hE376
        refine r_al (pc' := 176) rfl rfl rfl rfl ?_
        have hb378 := rd_3_0 hs377.1
        have hb379 := rd_3_1 hs377.1
        have hf380 : z371 3 8 = z 3 8 := (hs375.2.2.1 _ _ (notS_c (by omega) (notS_c (by omega) notS_n)))
        have hb381 := rd_T_0 ht hz
        have hf382 : z371 t 0 = z0 t 0 := ((hs375.2.2.1 _ _ (notS_c (by omega) (notS_c (by omega) notS_n))).trans (hst.2.2.1 _ _ (notS_c (by omega) (notS_c (by omega) (notS_c (by omega) (notS_c (by omega) (notS_c (by omega) (notS_c (by omega) (notS_c (by omega) (notS_c (by omega) (notS_c (by omega) (notS_c (by omega) notS_n))))))))))))
        have hb383 := rd_T_1 ht hz
        have hf384 : z371 t 1 = z0 t 1 := ((hs375.2.2.1 _ _ (notS_c (by omega) (notS_c (by omega) notS_n))).trans (hst.2.2.1 _ _ (notS_c (by omega) (notS_c (by omega) (notS_c (by omega) (notS_c (by omega) (notS_c (by omega) (notS_c (by omega) (notS_c (by omega) (notS_c (by omega) (notS_c (by omega) (notS_c (by omega) notS_n))))))))))))
        have hf385 : z371 t 3 = z0 t 3 := ((hs375.2.2.1 _ _ (notS_c (by omega) (notS_c (by omega) notS_n))).trans un_z_t_3)
        exact r_ret rfl (po_V hs377 ⟨rfl, (by refine ⟨fun q => absurd q (by rw [hrf.2.2.2.1]; split <;> omega), fun _ => ?_⟩; rcases hor with g | g; (exact CF_b (a7_b hm7 (by omega)) (by rw [← hcv.2.2.1]; exact hrf.2.2.2.1) (by omega)); (exact CF_b (a7_sb hm7 (by omega) g.2) (by rw [← hcv.2.2.1]; exact hrf.2.2.2.1) (by omega)))⟩)
  refine w_m rfl rfl ?_
  refine r_ld (pc' := 1) rfl rfl rfl rfl ?_
  refine r_gr (b := t) (pc' := 4) rfl rfl sh_3 rfl pp_3_4 ?_
  have hb386 := rd_T_3 ht hz
  refine r_gi (pc' := 7) rfl rfl (sh_T ht) rfl rfl ?_
  refine r_st (pc' := 8) (lv' := [(1, _), (0, _)]) rfl rfl rfl rfl ?_
  refine r_ld (pc' := 9) rfl rfl rfl rfl ?_
  refine r_cb (pc' := 11) rfl (by decide) rfl ?_
  refine r_ilt (pc' := 14) rfl rfl ⟨by omega, by omega⟩ ⟨by decide, by decide⟩ (fun hc387 => ?_) (fun hc387 => ?_)
  · skip
    refine r_ld (pc' := 21) rfl rfl rfl rfl ?_
    have hb388 := rd_3_6 hz
    have hb389 := rd_3_3 hz
    refine r_cVV (pc' := 24) rfl rfl rfl rfl rfl sh_3 (m_46x (d := d + 1) t h hst.1 hst.2.1 ht (by exact (tc_f (fun i => hst.2.2.1 2 i (notS_c (by omega) (notS_c (by omega) (notS_c (by omega) (notS_c (by omega) (notS_c (by omega) (notS_c (by omega) (notS_c (by omega) (notS_c (by omega) (notS_c (by omega) (notS_c (by omega) (notS_n)))))))))))) (hst.2.2.1 3 3 (notS_c (by omega) (notS_c (by omega) (notS_c (by omega) (notS_c (by omega) (notS_c (by omega) (notS_c (by omega) (notS_c (by omega) (notS_c (by omega) (notS_c (by omega) (notS_c (by omega) (notS_n))))))))))))).trans hh) (by first | omega | assumption)) (fun z391 w392 p393 hs395 hE396 => ?_)
    have hs397 := st_tr hst hs395 (subS_c (fun _ _ _ _ _ _ => inS_0 (by omega) (by omega) (by omega) (by omega)) (subS_c (fun _ _ _ _ _ _ => inS_s (inS_0 (by omega) (by omega) (by omega) (by omega))) (subS_c (fun _ _ _ _ _ _ => inS_s (inS_s (inS_0 (by omega) (by omega) (by omega) (by omega)))) (subS_c (fun _ _ _ _ _ _ => inS_s (inS_s (inS_s (inS_0 (by omega) (by omega) (by omega) (by omega))))) (subS_c (fun _ _ _ _ _ _ => inS_s (inS_s (inS_s (inS_s (inS_0 (by omega) (by omega) (by omega) (by omega)))))) subS_n)))))
    obtain ⟨rfl, hE396⟩ := hE396
    have hrt := hE396
    have hfa : Fr z0 w0 z391 w392 := ⟨fun a i ha => (hs395.2.2.1 _ _ (notS_c (by omega) (notS_c (by omega) (notS_c (by omega) (notS_c (by omega) (notS_c (by omega) notS_n)))))), (hs395.2.2.1 _ _ (notS_c (by omega) (notS_c (by omega) (notS_c (by omega) (notS_c (by omega) (notS_c (by omega) notS_n)))))), fun a i ha => (hs395.2.2.2 _ _ (notS_c (by omega) (notS_c (by omega) (notS_c (by omega) (notS_c (by omega) (notS_c (by omega) notS_n))))))⟩
    have c9 := CA_b (m := 5) (by omega) hMC hm ((sq_s h k).trans (a0_l1 hm hK hcl (by omega))) (by omega) hfa (by rw [tp_s, ← (eE (by omega)).1]; exact hrt.1)
    have hcy := c9.1
    unfold CA TKc at hcy
    obtain ⟨⟨g8, g0, g7, gN, gW, gE, g3⟩, hMD⟩ := hcy
    refine r_ld (pc' := 25) rfl rfl rfl rfl ?_
    have hb398 := rd_3_10 hs397.2.1
    refine r_gl (pc' := 28) rfl rfl sh_3 rfl rfl ?_
    refine r_st (pc' := 29) (lv' := [(2, _), (1, _), (0, _)]) rfl rfl rfl rfl ?_
    refine r_ld (pc' := 30) rfl rfl rfl rfl ?_
    refine r_ld (pc' := 31) rfl rfl rfl rfl ?_
    refine r_gr (b := t) (pc' := 34) rfl rfl sh_3 rfl pp_3_4 ?_
    refine r_ld (pc' := 35) rfl rfl rfl rfl ?_
    have hf399 : z391 t 3 = z0 t 3 := (hs395.2.2.1 _ _ (notS_c (by omega) (notS_c (by omega) (notS_c (by omega) (notS_c (by omega) (notS_c (by omega) notS_n))))))
    refine r_cVI (pc' := 38) rfl rfl rfl rfl rfl (sh_T ht) (m_82x (d := d + 2) t (w392 3 10) hs397.1 hs397.2.1 ⟨by omega, by omega⟩ ht) (fun v400 z401 w402 p403 h404 hs405 hE406 => ?_)
    obtain ⟨rfl, rfl, rfl, hE406⟩ := hE406
    have hln := hE406.2.2
    have hb408 := rd_3_8 hs397.1
    have hb409 := rd_3_7 hs397.1
    have hb410 := rd_3_0 hz
    have hf411 : z391 3 0 = z0 3 0 := (hs395.2.2.1 _ _ (notS_c (by omega) (notS_c (by omega) (notS_c (by omega) (notS_c (by omega) (notS_c (by omega) notS_n))))))
    have hb412 := rd_3_1 hz
    have hf413 : z391 3 1 = z0 3 1 := (hs395.2.2.1 _ _ (notS_c (by omega) (notS_c (by omega) (notS_c (by omega) (notS_c (by omega) (notS_c (by omega) notS_n))))))
    refine r_cVI (pc' := 41) rfl rfl rfl rfl rfl sh_3 (m_41x (d := d) t h v400 hs397.1 hs397.2.1 ⟨by omega, by omega⟩ ht (by exact (tc_f (fun i => hs397.2.2.1 2 i (notS_c (by omega) (notS_c (by omega) (notS_c (by omega) (notS_c (by omega) (notS_c (by omega) (notS_c (by omega) (notS_c (by omega) (notS_c (by omega) (notS_c (by omega) (notS_c (by omega) (notS_n)))))))))))) (hs397.2.2.1 3 3 (notS_c (by omega) (notS_c (by omega) (notS_c (by omega) (notS_c (by omega) (notS_c (by omega) (notS_c (by omega) (notS_c (by omega) (notS_c (by omega) (notS_c (by omega) (notS_c (by omega) (notS_n))))))))))))).trans hh) (by rw [g8]; exact c9.1.1)) (fun v414 z415 w416 p417 h418 hs419 hE420 => ?_)
    have hs421 := st_tr hs397 hs419 (subS_c (fun _ _ _ _ _ _ => inS_0 (by omega) (by omega) (by omega) (by omega)) (subS_c (fun _ _ _ _ _ _ => inS_s (inS_0 (by omega) (by omega) (by omega) (by omega))) (subS_c (fun _ _ _ _ _ _ => inS_s (inS_s (inS_0 (by omega) (by omega) (by omega) (by omega)))) (subS_c (fun _ _ _ _ _ _ => inS_s (inS_s (inS_s (inS_0 (by omega) (by omega) (by omega) (by omega))))) (subS_c (fun _ _ _ _ _ _ => inS_s (inS_s (inS_s (inS_s (inS_0 (by omega) (by omega) (by omega) (by omega)))))) (subS_c (fun _ _ _ _ _ _ => inS_s (inS_s (inS_s (inS_s (inS_s (inS_0 (by omega) (by omega) (by omega) (by omega))))))) (subS_c (fun _ _ _ _ _ _ => inS_s (inS_s (inS_s (inS_s (inS_s (inS_s (inS_0 (by omega) (by omega) (by omega) (by omega)))))))) subS_n)))))))
    obtain ⟨rfl, hE420⟩ := hE420
    have hpn := hE420.2.2
    have hfb : Fr z391 w392 z415 w416 := ⟨fun a i ha => (hs419.2.2.1 _ _ (notS_c (by omega) (notS_c (by omega) (notS_c (by omega) (notS_c (by omega) (notS_c (by omega) (notS_c (by omega) (notS_c (by omega) notS_n)))))))), (hs419.2.2.1 _ _ (notS_c (by omega) (notS_c (by omega) (notS_c (by omega) (notS_c (by omega) (notS_c (by omega) (notS_c (by omega) (notS_c (by omega) notS_n)))))))), fun a i ha => (hs419.2.2.2 _ _ (notS_c (by omega) (notS_c (by omega) (notS_c (by omega) (notS_c (by omega) (notS_c (by omega) (notS_c (by omega) (notS_c (by omega) notS_n))))))))⟩
    refine r_zeq (pc' := 44) rfl rfl ⟨by omega, by omega⟩ (fun hc422 => ?_) (fun hc422 => ?_)
    · skip
      have hb423 := rd_3_0 hs421.1
      have hb424 := rd_3_1 hs421.1
      have hb425 := rd_3_8 hs421.1
      have hb426 := rd_T_0 ht hz
      have hf427 : z415 t 0 = z0 t 0 := ((hs419.2.2.1 _ _ (notS_c (by omega) (notS_c (by omega) (notS_c (by omega) (notS_c (by omega) (notS_c (by omega) (notS_c (by omega) (notS_c (by omega) notS_n)))))))).trans (hs395.2.2.1 _ _ (notS_c (by omega) (notS_c (by omega) (notS_c (by omega) (notS_c (by omega) (notS_c (by omega) notS_n)))))))
      have hb428 := rd_T_1 ht hz
      have hf429 : z415 t 1 = z0 t 1 := ((hs419.2.2.1 _ _ (notS_c (by omega) (notS_c (by omega) (notS_c (by omega) (notS_c (by omega) (notS_c (by omega) (notS_c (by omega) (notS_c (by omega) notS_n)))))))).trans (hs395.2.2.1 _ _ (notS_c (by omega) (notS_c (by omega) (notS_c (by omega) (notS_c (by omega) (notS_c (by omega) notS_n)))))))
      have hf430 : z415 t 3 = z0 t 3 := ((hs419.2.2.1 _ _ (notS_c (by omega) (notS_c (by omega) (notS_c (by omega) (notS_c (by omega) (notS_c (by omega) (notS_c (by omega) (notS_c (by omega) notS_n)))))))).trans (hs395.2.2.1 _ _ (notS_c (by omega) (notS_c (by omega) (notS_c (by omega) (notS_c (by omega) (notS_c (by omega) notS_n)))))))
      exact r_ret rfl (po_V hs421 ⟨rfl, (by first  | (have hp := hpo.resolve_left (by omega); exact ⟨fun q => absurd q (by rw [hp.2.2.1]; split <;> omega), fun _ => CF_b (a6_b (by rw [eb, su_n (by omega), su_e]) (by omega)) (by rw [← u7]; exact hp.2.2.1) (by omega)⟩)  | (rcases hpn.resolve_left (by omega) with hp | hp; (exact ⟨fun q => absurd q (by rw [hp.2.2.1]; split <;> omega), fun _ => CF_b (a5_b c9.2.1 (by omega)) (by rw [← g7]; exact hp.2.2.1) (by omega)⟩); (have hwa := gW (by omega); exact ⟨fun q => absurd q (by omega), fun _ => CF_i (f := 3) (a5_3 c9.2.1 (by omega) (nm_y hMD.2.2.2.1 hwa.1 hwa.2 (by have q := hln.resolve_left (by omega); exact ⟨q.1, by have := hMD.1.1; omega, q.2.2⟩))) (by omega) (by omega) (by omega)⟩)))⟩)
    · skip
      have hpm := hpn.resolve_right (by omega)
      have hwa := gW (by omega)
      have hnd := nm_n hMD.2.2.2.1 (x := w392 3 10) (p := tp h (k + 1)) hwa.1 hwa.2 (fun i hi => (hln.resolve_right (by omega)).2 i (by have := hMD.1.1; omega))
      have eb : sq h (k + 1 + 1) = _ := (sq_s h (k + 1)).trans (a5_o c9.2.1 (by omega) hnd)
      have c10 := CA_2 (i := 7) (by omega) hMD (by omega) (fun j g1 g2 => by rw [eb, su_n (by omega), su_n (by omega)]) (by omega) (by rw [eb, su_n (by omega), su_e]; omega) (by rw [eb, su_n (by omega), su_e]; omega) hfb (by rw [tp_s, ← g8]; exact hpm.2.2.2.1)
      have hcy := c10
      unfold CA TKc at hcy
      obtain ⟨⟨u8, u0, u7, uN, uW, uE, u3⟩, hME⟩ := hcy
      refine r_ld (pc' := 45) rfl rfl rfl rfl ?_
      refine r_cb (pc' := 47) rfl (by decide) rfl ?_
      have hb431 := rd_3_8 hs421.1
      have hb432 := rd_3_7 hs421.1
      have hb433 := rd_3_0 hs421.1
      have hb434 := rd_3_1 hs421.1
      refine r_cVI (pc' := 50) rfl rfl rfl rfl rfl sh_3 (m_42x (d := d) t h 8 hs421.1 hs421.2.1 ⟨by omega, by omega⟩ ht (by exact (tc_f (fun i => hs421.2.2.1 2 i (notS_c (by omega) (notS_c (by omega) (notS_c (by omega) (notS_c (by omega) (notS_c (by omega) (notS_c (by omega) (notS_c (by omega) (notS_c (by omega) (notS_c (by omega) (notS_c (by omega) (notS_n)))))))))))) (hs421.2.2.1 3 3 (notS_c (by omega) (notS_c (by omega) (notS_c (by omega) (notS_c (by omega) (notS_c (by omega) (notS_c (by omega) (notS_c (by omega) (notS_c (by omega) (notS_c (by omega) (notS_c (by omega) (notS_n))))))))))))).trans hh) (by rw [u8]; exact c10.1) (by first | omega | assumption)) (fun v435 z436 w437 p438 h439 hs440 hE441 => ?_)
      have hs442 := st_tr hs421 hs440 (subS_c (fun _ _ _ _ _ _ => inS_0 (by omega) (by omega) (by omega) (by omega)) (subS_c (fun _ _ _ _ _ _ => inS_s (inS_0 (by omega) (by omega) (by omega) (by omega))) (subS_c (fun _ _ _ _ _ _ => inS_s (inS_s (inS_0 (by omega) (by omega) (by omega) (by omega)))) (subS_c (fun _ _ _ _ _ _ => inS_s (inS_s (inS_s (inS_0 (by omega) (by omega) (by omega) (by omega))))) (subS_c (fun _ _ _ _ _ _ => inS_s (inS_s (inS_s (inS_s (inS_0 (by omega) (by omega) (by omega) (by omega)))))) (subS_c (fun _ _ _ _ _ _ => inS_s (inS_s (inS_s (inS_s (inS_s (inS_0 (by omega) (by omega) (by omega) (by omega))))))) (subS_c (fun _ _ _ _ _ _ => inS_s (inS_s (inS_s (inS_s (inS_s (inS_s (inS_0 (by omega) (by omega) (by omega) (by omega)))))))) subS_n)))))))
      obtain ⟨rfl, hE441⟩ := hE441
      have hpo := hE441.2.2
      have hfc : Fr z415 w416 z436 w437 := ⟨fun a i ha => (hs440.2.2.1 _ _ (notS_c (by omega) (notS_c (by omega) (notS_c (by omega) (notS_c (by omega) (notS_c (by omega) (notS_c (by omega) (notS_c (by omega) notS_n)))))))), (hs440.2.2.1 _ _ (notS_c (by omega) (notS_c (by omega) (notS_c (by omega) (notS_c (by omega) (notS_c (by omega) (notS_c (by omega) (notS_c (by omega) notS_n)))))))), fun a i ha => (hs440.2.2.2 _ _ (notS_c (by omega) (notS_c (by omega) (notS_c (by omega) (notS_c (by omega) (notS_c (by omega) (notS_c (by omega) (notS_c (by omega) notS_n))))))))⟩
      refine r_zne (pc' := 53) rfl rfl ⟨by omega, by omega⟩ (fun hc443 => ?_) (fun hc443 => ?_)
      · skip
        have hpq := hpo.resolve_right (by omega)
        have eb0 : sq h (k + 1 + 1) 0 = 6 := by rw [eb, su_n (by omega), su_e]
        have ec : sq h (k + 1 + 1 + 1) = _ := (sq_s h (k + 1 + 1)).trans (a6_o eb0 (by omega))
        have c11 := CA_2 (i := 7) (by omega) hME (by omega) (fun j g1 g2 => by rw [ec, su_n (by omega)]) (by omega) (by rw [ec, su_e]; omega) (by rw [ec, su_e, eb0, eb, su_n (by omega), su_n (by omega)]; have := c9.2.2.1; omega) hfc (by rw [tp_s, ← u8]; exact hpq.2.2.1)
        refine r_ld (pc' := 55) rfl rfl rfl rfl ?_
        refine r_gr (b := t) (pc' := 58) rfl rfl sh_3 rfl pp_3_4 ?_
        refine r_gr (b := t + 7) (pc' := 61) rfl rfl (sh_T ht) rfl (pp_T_11 ht) ?_
        refine r_ld (pc' := 62) rfl rfl rfl rfl ?_
        refine r_aa (b := t + 8 + (z0 t 3).toNat) (pc' := 63) rfl rfl (sh_T7 ht) (Or.inl rfl) rfl (by omega) (by omega) (pa_T7 ht (by omega)) ?_
        refine r_st (pc' := 65) (lv' := [(4, _), (2, _), (1, _), (0, _)]) rfl rfl rfl rfl ?_
        refine r_c0 (pc' := 66) rfl rfl ?_
        refine r_st (pc' := 68) (lv' := [(5, _), (4, _), (2, _), (1, _), (0, _)]) rfl rfl rfl rfl ?_
        refine r_c0 (pc' := 69) rfl rfl ?_
        refine r_st (pc' := 71) (lv' := [(6, _), (5, _), (4, _), (2, _), (1, _), (0, _)]) rfl rfl rfl rfl ?_
        have hf444 : z436 t 3 = z0 t 3 := ((hs440.2.2.1 _ _ (notS_c (by omega) (notS_c (by omega) (notS_c (by omega) (notS_c (by omega) (notS_c (by omega) (notS_c (by omega) (notS_c (by omega) notS_n)))))))).trans ((hs419.2.2.1 _ _ (notS_c (by omega) (notS_c (by omega) (notS_c (by omega) (notS_c (by omega) (notS_c (by omega) (notS_c (by omega) (notS_c (by omega) notS_n)))))))).trans (hs395.2.2.1 _ _ (notS_c (by omega) (notS_c (by omega) (notS_c (by omega) (notS_c (by omega) (notS_c (by omega) notS_n))))))))
        have hb445 := rd_3_0 hs442.1
        have hb446 := rd_3_5 hz
        have hf447 : z436 3 5 = z0 3 5 := ((hs440.2.2.1 _ _ (notS_c (by omega) (notS_c (by omega) (notS_c (by omega) (notS_c (by omega) (notS_c (by omega) (notS_c (by omega) (notS_c (by omega) notS_n)))))))).trans ((hs419.2.2.1 _ _ (notS_c (by omega) (notS_c (by omega) (notS_c (by omega) (notS_c (by omega) (notS_c (by omega) (notS_c (by omega) (notS_c (by omega) notS_n)))))))).trans (hs395.2.2.1 _ _ (notS_c (by omega) (notS_c (by omega) (notS_c (by omega) (notS_c (by omega) (notS_c (by omega) notS_n))))))))
        have hb448 := rd_3_1 hs442.1
        have hb449 := rd_3_8 hs442.1
        have hb450 := rd_T_1 ht hz
        have hf451 : z436 t 1 = z0 t 1 := ((hs440.2.2.1 _ _ (notS_c (by omega) (notS_c (by omega) (notS_c (by omega) (notS_c (by omega) (notS_c (by omega) (notS_c (by omega) (notS_c (by omega) notS_n)))))))).trans ((hs419.2.2.1 _ _ (notS_c (by omega) (notS_c (by omega) (notS_c (by omega) (notS_c (by omega) (notS_c (by omega) (notS_c (by omega) (notS_c (by omega) notS_n)))))))).trans (hs395.2.2.1 _ _ (notS_c (by omega) (notS_c (by omega) (notS_c (by omega) (notS_c (by omega) (notS_c (by omega) notS_n))))))))
        have hb452 := rd_3_7 hs442.1
        exact w_lv (sub_c rfl (sub_c rfl (sub_c rfl (sub_c rfl (sub_c rfl (sub_c rfl sub_n)))))) rfl ((key ((117 * (18 - 0) + 79 : Int).toNat + 1)).1 (z0 t 3) (w392 3 10) 0 0 z436 w437 ⟨by omega, by omega⟩ ⟨by omega, by omega⟩ ⟨by omega, by omega⟩ ⟨by omega, by omega⟩ ⟨by omega, by omega⟩ hs442 (((hs440.2.2.1 _ _ (notS_c (by omega) (notS_c (by omega) (notS_c (by omega) (notS_c (by omega) (notS_c (by omega) (notS_c (by omega) (notS_c (by omega) notS_n)))))))).trans ((hs419.2.2.1 _ _ (notS_c (by omega) (notS_c (by omega) (notS_c (by omega) (notS_c (by omega) (notS_c (by omega) (notS_c (by omega) (notS_c (by omega) notS_n)))))))).trans (hs395.2.2.1 _ _ (notS_c (by omega) (notS_c (by omega) (notS_c (by omega) (notS_c (by omega) (notS_c (by omega) notS_n))))))))) (by first | (have q9 := CA_n (nu := z 3 9) (w1 := NOMARK) (by omega) hMD hm7 (by omega) (by omega) (by omega) (by omega) (by omega) hN.1 (by omega) (fun e => by rw [hqw, un_z_t_3, mu_sf]; dsimp only; rw [h67]) (fun a i g1 => by rw [hqw]; exact mu_ne (by omega)) hfe (by rw [tp_s, ← (fE (by omega)).1]; exact hrt.1); exact ⟨k + 1, q9.1, q9.2.1, by omega, by rw [q9.2.2.2.1]; exact hn7, by rw [q9.2.2.2.1, q9.2.2.2.2 4 (by omega) (by omega)]; intro g; obtain ⟨l, hl, g2⟩ := g; rw [q9.2.2.2.2 _ (by omega) (by omega)] at g2; exact hd7 ⟨l, hl, g2⟩⟩) | (have e7x : sq h (k + 1 + 1 + 1) 7 = tp h (k + 1) := (by rw [ec, su_n (by omega), eb, su_e]); exact ⟨k + 1 + 1 + 1, c11, by rw [ec, su_e], by rw [ec, su_n (by omega), eb, su_n (by omega), su_n (by omega)]; exact c9.2.2.1, by rw [e7x]; exact ⟨by have := hwa.1; omega, hwa.2⟩, by rw [e7x, ec, eb, su_n (by omega), su_n (by omega), su_n (by omega)]; intro g; obtain ⟨l, hl, g2⟩ := g; rw [su_n (by omega), su_n (by omega), su_n (by omega)] at g2; exact hnd ⟨l, hl, g2⟩⟩)) (by first | omega | assumption | (simp only [hf444, hf447, hf451]; assumption)) (by omega))
      · skip
        have hb453 := rd_3_0 hs442.1
        have hb454 := rd_3_1 hs442.1
        have hb455 := rd_3_8 hs442.1
        have hb456 := rd_T_0 ht hz
        have hf457 : z436 t 0 = z0 t 0 := ((hs440.2.2.1 _ _ (notS_c (by omega) (notS_c (by omega) (notS_c (by omega) (notS_c (by omega) (notS_c (by omega) (notS_c (by omega) (notS_c (by omega) notS_n)))))))).trans ((hs419.2.2.1 _ _ (notS_c (by omega) (notS_c (by omega) (notS_c (by omega) (notS_c (by omega) (notS_c (by omega) (notS_c (by omega) (notS_c (by omega) notS_n)))))))).trans (hs395.2.2.1 _ _ (notS_c (by omega) (notS_c (by omega) (notS_c (by omega) (notS_c (by omega) (notS_c (by omega) notS_n))))))))
        have hb458 := rd_T_1 ht hz
        have hf459 : z436 t 1 = z0 t 1 := ((hs440.2.2.1 _ _ (notS_c (by omega) (notS_c (by omega) (notS_c (by omega) (notS_c (by omega) (notS_c (by omega) (notS_c (by omega) (notS_c (by omega) notS_n)))))))).trans ((hs419.2.2.1 _ _ (notS_c (by omega) (notS_c (by omega) (notS_c (by omega) (notS_c (by omega) (notS_c (by omega) (notS_c (by omega) (notS_c (by omega) notS_n)))))))).trans (hs395.2.2.1 _ _ (notS_c (by omega) (notS_c (by omega) (notS_c (by omega) (notS_c (by omega) (notS_c (by omega) notS_n))))))))
        have hf460 : z436 t 3 = z0 t 3 := ((hs440.2.2.1 _ _ (notS_c (by omega) (notS_c (by omega) (notS_c (by omega) (notS_c (by omega) (notS_c (by omega) (notS_c (by omega) (notS_c (by omega) notS_n)))))))).trans ((hs419.2.2.1 _ _ (notS_c (by omega) (notS_c (by omega) (notS_c (by omega) (notS_c (by omega) (notS_c (by omega) (notS_c (by omega) (notS_c (by omega) notS_n)))))))).trans (hs395.2.2.1 _ _ (notS_c (by omega) (notS_c (by omega) (notS_c (by omega) (notS_c (by omega) (notS_c (by omega) notS_n))))))))
        exact r_ret rfl (po_V hs442 ⟨rfl, (by first  | (have hp := hpo.resolve_left (by omega); exact ⟨fun q => absurd q (by rw [hp.2.2.1]; split <;> omega), fun _ => CF_b (a6_b (by rw [eb, su_n (by omega), su_e]) (by omega)) (by rw [← u7]; exact hp.2.2.1) (by omega)⟩)  | (rcases hpn.resolve_left (by omega) with hp | hp; (exact ⟨fun q => absurd q (by rw [hp.2.2.1]; split <;> omega), fun _ => CF_b (a5_b c9.2.1 (by omega)) (by rw [← g7]; exact hp.2.2.1) (by omega)⟩); (have hwa := gW (by omega); exact ⟨fun q => absurd q (by omega), fun _ => CF_i (f := 3) (a5_3 c9.2.1 (by omega) (nm_y hMD.2.2.2.1 hwa.1 hwa.2 (by have q := hln.resolve_left (by omega); exact ⟨q.1, by have := hMD.1.1; omega, q.2.2⟩))) (by omega) (by omega) (by omega)⟩)))⟩)
  · skip
    refine r_ld (pc' := 15) rfl rfl rfl rfl ?_
    have hb461 := rd_3_7 hz
    have hb462 := rd_3_8 hz
    refine r_cVI (pc' := 18) rfl rfl rfl rfl rfl sh_3 (m_34x (d := d + 2)  hst.1 hst.2.1 ) (fun v463 z464 w465 p466 h467 hs468 hE469 => ?_)
    have hs470 := st_tr hst hs468 (subS_c (fun _ _ _ _ _ _ => inS_s (inS_s (inS_s (inS_s (inS_s (inS_0 (by omega) (by omega) (by omega) (by omega))))))) (subS_c (fun _ _ _ _ _ _ => inS_s (inS_s (inS_s (inS_s (inS_s (inS_s (inS_0 (by omega) (by omega) (by omega) (by omega)))))))) subS_n))
    obtain ⟨rfl, hE469⟩ := hE469
    have hrf := hE469
    refine r_al (pc' := 19) rfl rfl rfl rfl ?_
    have hb471 := rd_3_0 hs470.1
    have hb472 := rd_3_1 hs470.1
    have hf473 : z464 3 8 = z0 3 8 := (hs468.2.2.1 _ _ (notS_c (by omega) (notS_c (by omega) notS_n)))
    have hb474 := rd_T_0 ht hz
    have hf475 : z464 t 0 = z0 t 0 := (hs468.2.2.1 _ _ (notS_c (by omega) (notS_c (by omega) notS_n)))
    have hb476 := rd_T_1 ht hz
    have hf477 : z464 t 1 = z0 t 1 := (hs468.2.2.1 _ _ (notS_c (by omega) (notS_c (by omega) notS_n)))
    have hf478 : z464 t 3 = z0 t 3 := (hs468.2.2.1 _ _ (notS_c (by omega) (notS_c (by omega) notS_n)))
    exact r_ret rfl (po_V hs470 ⟨rfl, (by exact ⟨fun q => absurd q (by rw [hrf.2.2.2.1]; split <;> omega), fun _ => CF_b (a0_l2 hm hK hcl (by omega)) (by rw [← e7]; exact hrf.2.2.2.1) (by omega)⟩)⟩)

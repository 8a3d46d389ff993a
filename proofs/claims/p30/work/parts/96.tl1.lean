/-! methods, printed by wip/tools/vcg.py -/
/-- Reader refuse -/
abbrev S_33x  : mS := [(3, 3, 0, 0), (3, 3, 1, 1)]
abbrev E_33x (a1 : Int) (a2 : Int) (z0 w0 : mZ) (x y tx it mt tt ct : Option Nat) : mZ → mZ → mP → Prop := fun z w p => p = (pq x y tx it mt tt ct) ∧ (z 3 0 = a1 ∧ z 3 1 = a2)
theorem m_33x {d : Nat} {z0 w0 : mZ} {x y tx it mt tt ct : Option Nat} (a1 : Int) (a2 : Int) (hz : rz z0) (hw : rw_ w0) (ha1 : (-2147483648) ≤ a1 ∧ a1 ≤ 2147483647) (ha2 : (-2147483648) ≤ a2 ∧ a2 ≤ 2147483647) : wc (d + 1) 33 [.ref 3, .int (Int32.ofInt a1), .int (Int32.ofInt a2)] (mk z0 w0 (pq x y tx it mt tt ct)) (poV S_33x z0 w0 (E_33x a1 a2 z0 w0 x y tx it mt tt ct)) := by
  have hst : st_ S_33x z0 w0 z0 w0 := st_rf hz hw
  refine w_m rfl rfl ?_
  refine r_ld (pc' := 1) rfl rfl rfl rfl ?_
  refine r_ld (pc' := 2) rfl rfl rfl rfl ?_
  refine r_pi (pc' := 5) rfl rfl sh_3 rfl rfl hst (inS_0 (by omega) (by omega) (by omega) (by omega)) (wr_3_0 ⟨by omega, by omega⟩) (fun z9 hq10 hs11 => ?_)
  refine r_ld (pc' := 6) rfl rfl rfl rfl ?_
  refine r_ld (pc' := 7) rfl rfl rfl rfl ?_
  refine r_pi (pc' := 10) rfl rfl sh_3 rfl rfl hs11 (inS_s (inS_0 (by omega) (by omega) (by omega) (by omega))) (wr_3_1 ⟨by omega, by omega⟩) (fun z12 hq13 hs14 => ?_)
  have hf15 : z12 3 0 = a1 := (((congrFun (congrFun hq13 _) _).trans (mu_ne (by omega))).trans ((congrFun (congrFun hq10 _) _).trans mu_eq))
  have hf16 : z12 3 1 = a2 := ((congrFun (congrFun hq13 _) _).trans mu_eq)
  exact r_ret rfl (po_V hs14 ⟨rfl, (by first | omega | assumption | (simp only [hf15, hf16]; assumption))⟩)
/-- Reader byteAt -/
abbrev S_43x  : mS := []
abbrev E_43x (t : Nat) (h : Int → Int) (a1 : Int) (z0 w0 : mZ) (x y mt tt ct : Option Nat) : Int → mZ → mZ → mP → Prop := fun v z w p => p = (pq x y (some 2) (some t) mt tt ct) ∧ z0 = z ∧ w0 = w ∧ (-128) ≤ v ∧ v ≤ 127 ∧ ((h a1 = v ∧ 0 ≤ v ∧ a1 < z0 3 3) ∨ (128 ≤ h a1 ∧ v < 0 ∧ a1 < z0 3 3) ∨ (h a1 = -1 ∧ v = 0 ∧ z0 3 3 ≤ a1))
theorem m_43x {d : Nat} {z0 w0 : mZ} {x y mt tt ct : Option Nat} (t : Nat) (h : Int → Int) (a1 : Int) (hz : rz z0) (hw : rw_ w0) (ha1 : 0 ≤ a1 ∧ a1 ≤ 1600) (ht : isT t) (hh : tc z0 = h) : wc (d + 1) 43 [.ref 3, .int (Int32.ofInt a1)] (mk z0 w0 (pq x y (some 2) (some t) mt tt ct)) (poI S_43x z0 w0 (E_43x t h a1 z0 w0 x y mt tt ct)) := by
  have hst : st_ S_43x z0 w0 z0 w0 := st_rf hz hw
  have htb : 159 ≤ t ∧ t ≤ 192 := by have := ht; unfold isT at this; omega
  have hz5 := rd_3_3 hz
  refine w_m rfl rfl ?_
  refine r_ld (pc' := 1) rfl rfl rfl rfl ?_
  refine r_zlt (pc' := 4) rfl rfl ⟨by omega, by omega⟩ (fun hc6 => ?_) (fun hc6 => ?_)
  · exfalso; omega
  · skip
    refine r_ld (pc' := 5) rfl rfl rfl rfl ?_
    refine r_ld (pc' := 6) rfl rfl rfl rfl ?_
    have hb7 := rd_3_3 hz
    refine r_gi (pc' := 9) rfl rfl sh_3 rfl rfl ?_
    refine r_ige (pc' := 12) rfl rfl ⟨by omega, by omega⟩ ⟨by omega, by omega⟩ (fun hc8 => ?_) (fun hc8 => ?_)
    · skip
      refine r_c0 (pc' := 22) rfl rfl ?_
      exact r_ri rfl (po_I hst ⟨by decide, by decide⟩ ⟨rfl, rfl, rfl, by omega, by omega, (by first | exact by_c hh (by omega) (Or.inl ⟨by omega, rfl⟩) ⟨by omega, by omega⟩ | exact by_c hh (by omega) (Or.inr ⟨by omega, rfl⟩) ⟨by omega, by omega⟩)⟩)
    · skip
      refine r_ld (pc' := 13) rfl rfl rfl rfl ?_
      refine r_gr (b := 2) (pc' := 16) rfl rfl sh_3 rfl pp_3_2 ?_
      refine r_ld (pc' := 17) rfl rfl rfl rfl ?_
      have hb9 := rd_2 hz (i := a1.toNat) (by omega)
      refine r_ba (pc' := 18) rfl rfl sh_2 (Or.inl rfl) rfl (by omega) (by omega) rfl ?_
      refine r_go rfl ?_
      exact r_ri rfl (po_I hst ⟨by omega, by omega⟩ ⟨rfl, rfl, rfl, by omega, by omega, (by first | exact by_c hh (by omega) (Or.inl ⟨by omega, rfl⟩) ⟨by omega, by omega⟩ | exact by_c hh (by omega) (Or.inr ⟨by omega, rfl⟩) ⟨by omega, by omega⟩)⟩)
/-- Reader kindOfWord -/
abbrev S_48x  : mS := []
abbrev E_48x  (z0 w0 : mZ) (x y tx it mt tt ct : Option Nat) : Int → mZ → mZ → mP → Prop := fun v z w p => p = (pq x y tx it mt tt ct) ∧ z0 = z ∧ w0 = w ∧ 1 ≤ v ∧ v ≤ 10 ∧ (v = kw5 (w0 3 10))
theorem m_48x {d : Nat} {z0 w0 : mZ} {x y tx it mt tt ct : Option Nat}  (hz : rz z0) (hw : rw_ w0) : wc (d + 1) 48 [.ref 3] (mk z0 w0 (pq x y tx it mt tt ct)) (poI S_48x z0 w0 (E_48x  z0 w0 x y tx it mt tt ct)) := by
  have hst : st_ S_48x z0 w0 z0 w0 := st_rf hz hw
  have hz7 := rd_3_10 hw
  refine w_m rfl rfl ?_
  refine r_ld (pc' := 1) rfl rfl rfl rfl ?_
  have hb8 := rd_3_10 hw
  refine r_gl (pc' := 4) rfl rfl sh_3 rfl rfl ?_
  refine r_al (pc' := 7) rfl rfl rfl rfl ?_
  refine r_lne (pc' := 11) rfl rfl rfl ⟨by omega, by omega⟩ ⟨by decide, by decide⟩ (fun hc9 => ?_) (fun hc9 => ?_)
  · skip
    refine r_ld (pc' := 15) rfl rfl rfl rfl ?_
    refine r_gl (pc' := 18) rfl rfl sh_3 rfl rfl ?_
    refine r_al (pc' := 21) rfl rfl rfl rfl ?_
    refine r_lne (pc' := 25) rfl rfl rfl ⟨by omega, by omega⟩ ⟨by decide, by decide⟩ (fun hc10 => ?_) (fun hc10 => ?_)
    · skip
      refine r_ld (pc' := 29) rfl rfl rfl rfl ?_
      refine r_gl (pc' := 32) rfl rfl sh_3 rfl rfl ?_
      refine r_al (pc' := 35) rfl rfl rfl rfl ?_
      refine r_lne (pc' := 39) rfl rfl rfl ⟨by omega, by omega⟩ ⟨by decide, by decide⟩ (fun hc11 => ?_) (fun hc11 => ?_)
      · skip
        refine r_ld (pc' := 43) rfl rfl rfl rfl ?_
        refine r_gl (pc' := 46) rfl rfl sh_3 rfl rfl ?_
        refine r_al (pc' := 49) rfl rfl rfl rfl ?_
        refine r_lne (pc' := 53) rfl rfl rfl ⟨by omega, by omega⟩ ⟨by decide, by decide⟩ (fun hc12 => ?_) (fun hc12 => ?_)
        · skip
          refine r_ld (pc' := 57) rfl rfl rfl rfl ?_
          refine r_gl (pc' := 60) rfl rfl sh_3 rfl rfl ?_
          refine r_al (pc' := 63) rfl rfl rfl rfl ?_
          refine r_lne (pc' := 67) rfl rfl rfl ⟨by omega, by omega⟩ ⟨by decide, by decide⟩ (fun hc13 => ?_) (fun hc13 => ?_)
          · skip
            refine r_c0 (pc' := 73) rfl rfl ?_
            exact r_ri rfl (po_I hst ⟨by decide, by decide⟩ ⟨rfl, rfl, rfl, by omega, by omega, (by unfold kw5; (repeat rw [if_neg (by omega)]); all_goals (first | rfl | (rw [if_pos (by omega)]) | omega))⟩)
          · skip
            refine r_cb (pc' := 69) rfl (by decide) rfl ?_
            refine r_go rfl ?_
            exact r_ri rfl (po_I hst ⟨by decide, by decide⟩ ⟨rfl, rfl, rfl, by omega, by omega, (by unfold kw5; (repeat rw [if_neg (by omega)]); all_goals (first | rfl | (rw [if_pos (by omega)]) | omega))⟩)
        · skip
          refine r_cb (pc' := 55) rfl (by decide) rfl ?_
          exact r_ri rfl (po_I hst ⟨by decide, by decide⟩ ⟨rfl, rfl, rfl, by omega, by omega, (by unfold kw5; (repeat rw [if_neg (by omega)]); all_goals (first | rfl | (rw [if_pos (by omega)]) | omega))⟩)
      · skip
        refine r_cb (pc' := 41) rfl (by decide) rfl ?_
        exact r_ri rfl (po_I hst ⟨by decide, by decide⟩ ⟨rfl, rfl, rfl, by omega, by omega, (by unfold kw5; (repeat rw [if_neg (by omega)]); all_goals (first | rfl | (rw [if_pos (by omega)]) | omega))⟩)
    · skip
      refine r_cb (pc' := 27) rfl (by decide) rfl ?_
      exact r_ri rfl (po_I hst ⟨by decide, by decide⟩ ⟨rfl, rfl, rfl, by omega, by omega, (by unfold kw5; (repeat rw [if_neg (by omega)]); all_goals (first | rfl | (rw [if_pos (by omega)]) | omega))⟩)
  · skip
    refine r_cb (pc' := 13) rfl (by decide) rfl ?_
    exact r_ri rfl (po_I hst ⟨by decide, by decide⟩ ⟨rfl, rfl, rfl, by omega, by omega, (by unfold kw5; (repeat rw [if_neg (by omega)]); all_goals (first | rfl | (rw [if_pos (by omega)]) | omega))⟩)
/-- Reader refuseToken -/
abbrev S_34x  : mS := [(3, 3, 0, 0), (3, 3, 1, 1)]
abbrev E_34x  (z0 w0 : mZ) (x y tx it mt tt ct : Option Nat) : Int → mZ → mZ → mP → Prop := fun v z w p => p = (pq x y tx it mt tt ct) ∧ 0 ≤ v ∧ v ≤ 0 ∧ (v = 0 ∧ z 3 0 = (if z0 3 7 = 5 then 1 else 2) ∧ z 3 1 = z0 3 8)
theorem m_34x {d : Nat} {z0 w0 : mZ} {x y tx it mt tt ct : Option Nat}  (hz : rz z0) (hw : rw_ w0) : wc (d + 2) 34 [.ref 3] (mk z0 w0 (pq x y tx it mt tt ct)) (poI S_34x z0 w0 (E_34x  z0 w0 x y tx it mt tt ct)) := by
  have hst : st_ S_34x z0 w0 z0 w0 := st_rf hz hw
  have hz25 := rd_3_7 hz
  have hz26 := rd_3_8 hz
  refine w_m rfl rfl ?_
  refine r_ld (pc' := 1) rfl rfl rfl rfl ?_
  refine r_ld (pc' := 2) rfl rfl rfl rfl ?_
  have hb27 := rd_3_7 hz
  refine r_gi (pc' := 5) rfl rfl sh_3 rfl rfl ?_
  refine r_c0 (pc' := 6) rfl rfl ?_
  refine r_ine (pc' := 9) rfl rfl ⟨by omega, by omega⟩ ⟨by decide, by decide⟩ (fun hc28 => ?_) (fun hc28 => ?_)
  · skip
    refine r_c0 (pc' := 14) rfl rfl ?_
    refine r_ld (pc' := 15) rfl rfl rfl rfl ?_
    have hb29 := rd_3_8 hz
    refine r_gi (pc' := 18) rfl rfl sh_3 rfl rfl ?_
    refine r_cVV (pc' := 21) rfl rfl rfl rfl rfl sh_3 (m_33x (d := d) 2 (z0 3 8) hst.1 hst.2.1 ⟨by omega, by omega⟩ ⟨by omega, by omega⟩) (fun z31 w32 p33 hs35 hE36 => ?_)
    have hs37 := st_tr hst hs35 (sub_B rfl)
    obtain ⟨rfl, hE36⟩ := hE36
    refine r_c0 (pc' := 22) rfl rfl ?_
    have hb38 := rd_3_0 hs37.1
    have hb39 := rd_3_1 hs37.1
    exact r_rz rfl (by omega) (po_I hs37 ⟨by decide, by decide⟩ ⟨rfl, by omega, by omega, (by first | (rw [if_pos (by omega)]; exact ⟨by omega, by omega, by omega⟩) | (rw [if_neg (by omega)]; exact ⟨by omega, by omega, by omega⟩))⟩)
  · skip
    refine r_c0 (pc' := 10) rfl rfl ?_
    refine r_go rfl ?_
    refine r_ld (pc' := 15) rfl rfl rfl rfl ?_
    have hb40 := rd_3_8 hz
    refine r_gi (pc' := 18) rfl rfl sh_3 rfl rfl ?_
    refine r_cVV (pc' := 21) rfl rfl rfl rfl rfl sh_3 (m_33x (d := d) 1 (z0 3 8) hst.1 hst.2.1 ⟨by omega, by omega⟩ ⟨by omega, by omega⟩) (fun z42 w43 p44 hs46 hE47 => ?_)
    have hs48 := st_tr hst hs46 (sub_B rfl)
    obtain ⟨rfl, hE47⟩ := hE47
    refine r_c0 (pc' := 22) rfl rfl ?_
    have hb49 := rd_3_0 hs48.1
    have hb50 := rd_3_1 hs48.1
    exact r_rz rfl (by omega) (po_I hs48 ⟨by decide, by decide⟩ ⟨rfl, by omega, by omega, (by first | (rw [if_pos (by omega)]; exact ⟨by omega, by omega, by omega⟩) | (rw [if_neg (by omega)]; exact ⟨by omega, by omega, by omega⟩))⟩)
/-- Reader readLetters -/
abbrev S_47x  : mS := [(3, 3, 10, 10), (3, 3, 6, 6), (3, 3, 7, 7)]
abbrev E_47x (t : Nat) (h : Int → Int) (z0 w0 : mZ) (x y mt tt ct : Option Nat) : mZ → mZ → mP → Prop := fun z w p => p = (pq x y (some 2) (some t) mt tt ct) ∧ (z 3 6 = tkE h (z0 3 8) ∧ z 3 7 = tkK h (z0 3 8) ∧ (tkK h (z0 3 8) = 1 → w 3 10 = tkW5 h (z0 3 8) ∧ lets (tkF h (z0 3 8)) (tkM h (z0 3 8)) ∧ tkM h (z0 3 8) ≤ 8) ∧ z 3 6 ≤ z0 3 3 ∧ tkK h (z0 3 8) ≠ 2 ∧ z0 3 8 < z 3 6)
theorem m_47x {d : Nat} {z0 w0 : mZ} {x y mt tt ct : Option Nat} (t : Nat) (h : Int → Int) (hz : rz z0) (hw : rw_ w0) (ht : isT t) (hh : tc z0 = h) (has : z0 3 6 = z0 3 8) (hL : isL (h (z0 3 8))) (hlt : z0 3 8 < z0 3 3) : wc (d + 2) 47 [.ref 3] (mk z0 w0 (pq x y (some 2) (some t) mt tt ct)) (poV S_47x z0 w0 (E_47x t h z0 w0 x y mt tt ct)) := by
  have hst : st_ S_47x z0 w0 z0 w0 := st_rf hz hw
  have htb : 159 ≤ t ∧ t ≤ 192 := by have := ht; unfold isT at this; omega
  have hz76 := rd_3_3 hz
  have hz77 := rd_3_6 hz
  have hz78 := rd_3_8 hz
  have key : ∀ N : Nat, (∀ (x1 : Int) (z w : mZ), 0 ≤ x1 ∧ x1 ≤ 1600 → st_ S_47x z0 w0 z w → z 3 7 = z0 3 7 → (z 3 6 = z0 3 8 + x1 ∧ z 3 6 ≤ z0 3 3 ∧ (x1 = 0 → isL (h (z 3 6)))) → ((∀ k, z0 3 8 ≤ k → k < z 3 6 → isL (h k)) ∧ (z 3 6 - z0 3 8 ≤ 8 → w 3 10 = wl5 (tkF h (z0 3 8)) (z 3 6 - z0 3 8).toNat)) → 52 * (1600 - x1) + 46 < (N : Int) → wp_ (d + 1) 47 2 none (7, [(0, .ref 3), (1, .int (Int32.ofInt x1))], [], mk z w (pq x y (some 2) (some t) mt tt ct)) (poV S_47x z0 w0 (E_47x t h z0 w0 x y mt tt ct))) ∧ (∀ (z w : mZ), st_ S_47x z0 w0 z w → z 3 7 = z0 3 7 → (z0 3 8 < z 3 6 ∧ z 3 6 ≤ z0 3 3) → ((∀ k, z0 3 8 ≤ k → k < z 3 6 → isL (h k)) ∧ (z 3 6 - z0 3 8 ≤ 8 → w 3 10 = wl5 (tkF h (z0 3 8)) (z 3 6 - z0 3 8).toNat)) → (¬ isL (h (z 3 6))) → 13 < (N : Int) → wp_ (d + 1) 47 2 none (72, [(0, .ref 3)], [], mk z w (pq x y (some 2) (some t) mt tt ct)) (poV S_47x z0 w0 (E_47x t h z0 w0 x y mt tt ct))) := by
    intro N
    induction N with
    | zero =>
      refine ⟨?_, ?_⟩
      · intro x1 z w
        intros; exfalso; omega
      · intro  z w
        intros; exfalso; omega
    | succ N ih =>
      obtain ⟨ih0, ih1⟩ := ih
      refine ⟨?_, ?_⟩
      · intro x1 z w  hx1 hst un_z_3_7 as1 as2 hM
        refine r_ld (pc' := 8) rfl rfl rfl rfl ?_
        refine r_cs (pc' := 11) rfl (by decide) rfl ?_
        refine r_ige (pc' := 14) rfl rfl ⟨by omega, by omega⟩ ⟨by decide, by decide⟩ (fun hc79 => ?_) (fun hc79 => ?_)
        · skip
          have hb80 := rd_3_6 hst.1
          have hb81 := rd_3_10 hst.2.1
          have hb82 := rd_3_7 hz
          exact w_lv (sub_c rfl sub_n) rfl (ih1 z w hst (un_z_3_7) (by first | omega | assumption) (by exact as2) (by first | omega | (rw [tc_e hh (by omega)]; omega)) (by omega))
        · skip
          refine r_ld (pc' := 15) rfl rfl rfl rfl ?_
          refine r_ld (pc' := 16) rfl rfl rfl rfl ?_
          have hb83 := rd_3_6 hst.1
          refine r_gi (pc' := 19) rfl rfl sh_3 rfl rfl ?_
          have hb84 := rd_3_3 hz
          have hf85 : z 3 3 = z0 3 3 := (hst.2.2.1 _ _ (notS_c (by omega) (notS_c (by omega) (notS_c (by omega) notS_n))))
          refine r_cVI (pc' := 22) rfl rfl rfl rfl rfl sh_3 (m_43x (d := d) t h (z 3 6) hst.1 hst.2.1 ⟨by omega, by omega⟩ ht (by exact (tc_f (fun i => hst.2.2.1 2 i (notS_c (by omega) (notS_c (by omega) (notS_c (by omega) (notS_n))))) (hst.2.2.1 3 3 (notS_c (by omega) (notS_c (by omega) (notS_c (by omega) (notS_n)))))).trans hh)) (fun v86 z87 w88 p89 h90 hs91 hE92 => ?_)
          obtain ⟨rfl, rfl, rfl, hE92⟩ := hE92
          have hb1 := hE92
          refine r_cSI (pc' := 25) rfl rfl rfl rfl rfl (m_44 (d := d) v86 hst.1 hst.2.1 ⟨by omega, by omega⟩) (fun v94 z95 w96 p97 h98 hs99 hE100 => ?_)
          obtain ⟨rfl, rfl, rfl, hE100⟩ := hE100
          refine r_zeq (pc' := 28) rfl rfl ⟨by omega, by omega⟩ (fun hc102 => ?_) (fun hc102 => ?_)
          · skip
            have hb103 := rd_3_10 hst.2.1
            have hb104 := rd_3_7 hz
            exact w_lv (sub_c rfl sub_n) rfl (ih1 z w hst (un_z_3_7) (by first | omega | assumption) (by exact as2) (by first | omega | (rw [tc_e hh (by omega)]; omega)) (by omega))
          · skip
            refine r_ld (pc' := 29) rfl rfl rfl rfl ?_
            refine r_ld (pc' := 30) rfl rfl rfl rfl ?_
            have hb105 := rd_3_10 hst.2.1
            refine r_gl (pc' := 33) rfl rfl sh_3 rfl rfl ?_
            refine r_al (pc' := 36) rfl rfl rfl rfl ?_
            refine r_lmul (pc' := 37) rfl rfl ?_
            refine w_hxl (fun v106 h107 h108 => ?_)
            refine r_ld (pc' := 38) rfl rfl rfl rfl ?_
            refine r_ld (pc' := 39) rfl rfl rfl rfl ?_
            refine r_gi (pc' := 42) rfl rfl sh_3 rfl rfl ?_
            have hf109 : z 3 3 = z0 3 3 := (hst.2.2.1 _ _ (notS_c (by omega) (notS_c (by omega) (notS_c (by omega) notS_n))))
            refine r_cVI (pc' := 45) rfl rfl rfl rfl rfl sh_3 (m_43x (d := d) t h (z 3 6) hst.1 hst.2.1 ⟨by omega, by omega⟩ ht (by exact (tc_f (fun i => hst.2.2.1 2 i (notS_c (by omega) (notS_c (by omega) (notS_c (by omega) (notS_n))))) (hst.2.2.1 3 3 (notS_c (by omega) (notS_c (by omega) (notS_c (by omega) (notS_n)))))).trans hh)) (fun v110 z111 w112 p113 h114 hs115 hE116 => ?_)
            obtain ⟨rfl, rfl, rfl, hE116⟩ := hE116
            have hb2 := hE116
            refine r_i2l (pc' := 46) rfl rfl ⟨by omega, by omega⟩ ?_
            refine r_ladd (pc' := 47) rfl rfl ?_
            refine w_hxl (fun v118 h119 h120 => ?_)
            refine r_al (pc' := 50) rfl rfl rfl rfl ?_
            refine r_lsub (pc' := 51) rfl rfl ?_
            refine w_hxl (fun v121 h122 h123 => ?_)
            refine r_lc1 (pc' := 52) rfl rfl ?_
            refine r_ladd (pc' := 53) rfl rfl ?_
            refine w_hxl (fun v124 h125 h126 => ?_)
            refine r_pl (pc' := 56) rfl rfl sh_3 rfl rfl hst (inS_0 (by omega) (by omega) (by omega) (by omega)) (wr_3_10 ⟨by omega, by omega⟩) (fun w127 hq128 hs129 => ?_)
            refine r_ld (pc' := 57) rfl rfl rfl rfl ?_
            refine r_al (pc' := 58) rfl rfl rfl rfl ?_
            refine r_gi (pc' := 61) rfl rfl sh_3 rfl rfl ?_
            refine r_c0 (pc' := 62) rfl rfl ?_
            refine r_add (pc' := 63) rfl rfl ?_
            refine r_pi (pc' := 66) rfl rfl sh_3 rfl rfl hs129 (inS_s (inS_0 (by omega) (by omega) (by omega) (by omega))) (wr_3_6 ⟨by omega, by omega⟩) (fun z130 hq131 hs132 => ?_)
            refine r_inc (pc' := 69) (lv' := [(0, _)]) rfl rfl rfl rfl rfl ?_
            refine r_go rfl ?_
            have hf133 : z130 3 6 = (z 3 6) + 1 := ((congrFun (congrFun hq131 _) _).trans mu_eq)
            have hf134 : w127 3 10 = v124 := ((congrFun (congrFun hq128 _) _).trans mu_eq)
            have hb135 := rd_3_7 hz
            exact w_lv (sub_c rfl (sub_c rfl sub_n)) rfl (ih0 (x1 + 1) z130 w127 ⟨by omega, by omega⟩ hs132 ((((congrFun (congrFun hq131 _) _).trans (mu_ne (by omega))).trans un_z_3_7)) (by first | exact ⟨by omega, by omega, fun _ => by rw [show z130 3 6 = z0 3 8 by omega]; exact hL⟩ | exact ⟨by omega, by omega, fun c => absurd c (by omega)⟩) (by first | exact ⟨fun k h1 h2 => absurd h2 (by omega), fun _ => by rw [show (z130 3 6 - z0 3 8).toNat = 0 by omega]; show w127 3 10 = 0; omega⟩ | (simp only [hf133, hf134]; exact rl_s (v := v110) as2.1 (by omega) (by omega) (by omega) as2.2 (fun h1 h2 h3 => by omega))) (by omega))
      · intro  z w  hst un_z_3_7 as1 as2 as3 hM
        refine r_ld (pc' := 73) rfl rfl rfl rfl ?_
        refine r_ld (pc' := 74) rfl rfl rfl rfl ?_
        have hb136 := rd_3_6 hst.1
        refine r_gi (pc' := 77) rfl rfl sh_3 rfl rfl ?_
        refine r_ld (pc' := 78) rfl rfl rfl rfl ?_
        have hb137 := rd_3_8 hz
        refine r_gi (pc' := 81) rfl rfl sh_3 rfl (hst.2.2.1 _ _ (notS_c (by omega) (notS_c (by omega) (notS_c (by omega) notS_n)))) ?_
        refine r_sub (pc' := 82) rfl rfl ?_
        refine r_cb (pc' := 84) rfl (by decide) rfl ?_
        refine r_ile (pc' := 87) rfl rfl ⟨by omega, by omega⟩ ⟨by decide, by decide⟩ (fun hc138 => ?_) (fun hc138 => ?_)
        · skip
          refine r_ld (pc' := 92) rfl rfl rfl rfl ?_
          have hb139 := rd_3_10 hst.2.1
          refine r_cVI (pc' := 95) rfl rfl rfl rfl rfl sh_3 (m_48x (d := d)  hst.1 hst.2.1 ) (fun v140 z141 w142 p143 h144 hs145 hE146 => ?_)
          obtain ⟨rfl, rfl, rfl, hE146⟩ := hE146
          have hkw := hE146
          refine r_pi (pc' := 98) rfl rfl sh_3 rfl rfl hst (inS_s (inS_s (inS_0 (by omega) (by omega) (by omega) (by omega)))) (wr_3_7 ⟨by omega, by omega⟩) (fun z148 hq149 hs150 => ?_)
          have hf151 : z148 3 6 = z 3 6 := ((congrFun (congrFun hq149 _) _).trans (mu_ne (by omega)))
          have hf152 : z148 3 7 = v140 := ((congrFun (congrFun hq149 _) _).trans mu_eq)
          exact r_ret rfl (po_V hs150 ⟨rfl, (by have k := rl_e (h := h) (p := z0 3 8) (q := z 3 6) (l := w 3 10) (kd := z148 3 7) as2.1 (by omega) as3 as2.2 (by first | exact Or.inl ⟨by omega, by omega⟩ | exact Or.inr ⟨by omega, by omega⟩); have k8 := kw5_r (w 3 10); exact ⟨by omega, by omega, fun q => ⟨by have := (k.2.2 q).1; omega, (k.2.2 q).2⟩, by omega, by omega, by omega⟩)⟩)
        · skip
          refine r_c0 (pc' := 88) rfl rfl ?_
          refine r_go rfl ?_
          refine r_pi (pc' := 98) rfl rfl sh_3 rfl rfl hst (inS_s (inS_s (inS_0 (by omega) (by omega) (by omega) (by omega)))) (wr_3_7 ⟨by omega, by omega⟩) (fun z153 hq154 hs155 => ?_)
          have hf156 : z153 3 6 = z 3 6 := ((congrFun (congrFun hq154 _) _).trans (mu_ne (by omega)))
          have hf157 : z153 3 7 = 5 := ((congrFun (congrFun hq154 _) _).trans mu_eq)
          have hb158 := rd_3_10 hst.2.1
          exact r_ret rfl (po_V hs155 ⟨rfl, (by have k := rl_e (h := h) (p := z0 3 8) (q := z 3 6) (l := w 3 10) (kd := z153 3 7) as2.1 (by omega) as3 as2.2 (by first | exact Or.inl ⟨by omega, by omega⟩ | exact Or.inr ⟨by omega, by omega⟩); have k8 := kw5_r (w 3 10); exact ⟨by omega, by omega, fun q => ⟨by have := (k.2.2 q).1; omega, (k.2.2 q).2⟩, by omega, by omega, by omega⟩)⟩)
  refine w_m rfl rfl ?_
  refine r_ld (pc' := 1) rfl rfl rfl rfl ?_
  refine r_lc0 (pc' := 2) rfl rfl ?_
  refine r_pl (pc' := 5) rfl rfl sh_3 rfl rfl hst (inS_0 (by omega) (by omega) (by omega) (by omega)) (wr_3_10 ⟨by omega, by omega⟩) (fun w159 hq160 hs161 => ?_)
  refine r_c0 (pc' := 6) rfl rfl ?_
  refine r_st (pc' := 7) (lv' := [(1, _), (0, _)]) rfl rfl rfl rfl ?_
  have hb162 := rd_3_6 hz
  have hf163 : w159 3 10 = 0 := ((congrFun (congrFun hq160 _) _).trans mu_eq)
  have hb164 := rd_3_7 hz
  exact w_lv (sub_c rfl (sub_c rfl sub_n)) rfl ((key ((52 * (1600 - 0) + 46 : Int).toNat + 1)).1 0 z0 w159 ⟨by omega, by omega⟩ hs161 (rfl) (by first | exact ⟨by omega, by omega, fun _ => by rw [show z0 3 6 = z0 3 8 by omega]; exact hL⟩ | exact ⟨by omega, by omega, fun c => absurd c (by omega)⟩) (by first | exact ⟨fun k h1 h2 => absurd h2 (by omega), fun _ => by rw [show (z0 3 6 - z0 3 8).toNat = 0 by omega]; show w159 3 10 = 0; omega⟩ | (simp only [hf163]; exact rl_s (v := NOV) as2.1 (by omega) (by omega) (by omega) as2.2 (fun h1 h2 h3 => by omega))) (by omega))
/-- Reader readDigits -/
abbrev S_49x  : mS := [(3, 3, 9, 9), (3, 3, 6, 6), (3, 3, 7, 7)]
abbrev E_49x (t : Nat) (h : Int → Int) (z0 w0 : mZ) (x y mt tt ct : Option Nat) : mZ → mZ → mP → Prop := fun z w p => p = (pq x y (some 2) (some t) mt tt ct) ∧ (z 3 6 = tkE h (z0 3 8) ∧ z 3 7 = tkK h (z0 3 8) ∧ (tkK h (z0 3 8) = 2 → z 3 9 = tkN h (z0 3 8) ∧ 0 ≤ tkN h (z0 3 8) ∧ tkN h (z0 3 8) ≤ 9999) ∧ z 3 6 ≤ z0 3 3 ∧ tkK h (z0 3 8) ≠ 1 ∧ z0 3 8 < z 3 6)
theorem m_49x {d : Nat} {z0 w0 : mZ} {x y mt tt ct : Option Nat} (t : Nat) (h : Int → Int) (hz : rz z0) (hw : rw_ w0) (ht : isT t) (hh : tc z0 = h) (has : z0 3 6 = z0 3 8) (hL : isD (h (z0 3 8))) (hlt : z0 3 8 < z0 3 3) : wc (d + 2) 49 [.ref 3] (mk z0 w0 (pq x y (some 2) (some t) mt tt ct)) (poV S_49x z0 w0 (E_49x t h z0 w0 x y mt tt ct)) := by
  have hst : st_ S_49x z0 w0 z0 w0 := st_rf hz hw
  have htb : 159 ≤ t ∧ t ≤ 192 := by have := ht; unfold isT at this; omega
  have hz93 := rd_3_3 hz
  have hz94 := rd_3_6 hz
  have hz95 := rd_3_8 hz
  have key : ∀ N : Nat, (∀ (x1 : Int) (z w : mZ), 0 ≤ x1 ∧ x1 ≤ 1600 → st_ S_49x z0 w0 z w → z 3 7 = z0 3 7 → (z 3 6 = z0 3 8 + x1 ∧ z 3 6 ≤ z0 3 3 ∧ (x1 = 0 → isD (h (z 3 6)))) → ((∀ k, z0 3 8 ≤ k → k < z 3 6 → isD (h k)) ∧ (z 3 6 - z0 3 8 ≤ 4 → z 3 9 = dn (tkF h (z0 3 8)) (z 3 6 - z0 3 8).toNat)) → 54 * (1600 - x1) + 48 < (N : Int) → wp_ (d + 1) 49 2 none (7, [(0, .ref 3), (1, .int (Int32.ofInt x1))], [], mk z w (pq x y (some 2) (some t) mt tt ct)) (poV S_49x z0 w0 (E_49x t h z0 w0 x y mt tt ct))) ∧ (∀ (z w : mZ), st_ S_49x z0 w0 z w → z 3 7 = z0 3 7 → (z0 3 8 < z 3 6 ∧ z 3 6 ≤ z0 3 3) → ((∀ k, z0 3 8 ≤ k → k < z 3 6 → isD (h k)) ∧ (z 3 6 - z0 3 8 ≤ 4 → z 3 9 = dn (tkF h (z0 3 8)) (z 3 6 - z0 3 8).toNat)) → (¬ isD (h (z 3 6))) → 18 < (N : Int) → wp_ (d + 1) 49 2 none (67, [(0, .ref 3)], [], mk z w (pq x y (some 2) (some t) mt tt ct)) (poV S_49x z0 w0 (E_49x t h z0 w0 x y mt tt ct))) := by
    intro N
    induction N with
    | zero =>
      refine ⟨?_, ?_⟩
      · intro x1 z w
        intros; exfalso; omega
      · intro  z w
        intros; exfalso; omega
    | succ N ih =>
      obtain ⟨ih0, ih1⟩ := ih
      refine ⟨?_, ?_⟩
      · intro x1 z w  hx1 hst un_z_3_7 as1 as2 hM
        refine r_ld (pc' := 8) rfl rfl rfl rfl ?_
        refine r_cs (pc' := 11) rfl (by decide) rfl ?_
        refine r_ige (pc' := 14) rfl rfl ⟨by omega, by omega⟩ ⟨by decide, by decide⟩ (fun hc96 => ?_) (fun hc96 => ?_)
        · skip
          have hb97 := rd_3_6 hst.1
          have hb98 := rd_3_9 hst.1
          have hb99 := rd_3_7 hz
          exact w_lv (sub_c rfl sub_n) rfl (ih1 z w hst (un_z_3_7) (by first | omega | assumption) (by exact as2) (by first | omega | (rw [tc_e hh (by omega)]; omega)) (by omega))
        · skip
          refine r_ld (pc' := 15) rfl rfl rfl rfl ?_
          refine r_ld (pc' := 16) rfl rfl rfl rfl ?_
          have hb100 := rd_3_6 hst.1
          refine r_gi (pc' := 19) rfl rfl sh_3 rfl rfl ?_
          have hb101 := rd_3_3 hz
          have hf102 : z 3 3 = z0 3 3 := (hst.2.2.1 _ _ (notS_c (by omega) (notS_c (by omega) (notS_c (by omega) notS_n))))
          refine r_cVI (pc' := 22) rfl rfl rfl rfl rfl sh_3 (m_43x (d := d) t h (z 3 6) hst.1 hst.2.1 ⟨by omega, by omega⟩ ht (by exact (tc_f (fun i => hst.2.2.1 2 i (notS_c (by omega) (notS_c (by omega) (notS_c (by omega) (notS_n))))) (hst.2.2.1 3 3 (notS_c (by omega) (notS_c (by omega) (notS_c (by omega) (notS_n)))))).trans hh)) (fun v103 z104 w105 p106 h107 hs108 hE109 => ?_)
          obtain ⟨rfl, rfl, rfl, hE109⟩ := hE109
          have hb1 := hE109
          refine r_cSI (pc' := 25) rfl rfl rfl rfl rfl (m_45 (d := d) v103 hst.1 hst.2.1 ⟨by omega, by omega⟩) (fun v111 z112 w113 p114 h115 hs116 hE117 => ?_)
          obtain ⟨rfl, rfl, rfl, hE117⟩ := hE117
          refine r_zeq (pc' := 28) rfl rfl ⟨by omega, by omega⟩ (fun hc119 => ?_) (fun hc119 => ?_)
          · skip
            have hb120 := rd_3_9 hst.1
            have hb121 := rd_3_7 hz
            exact w_lv (sub_c rfl sub_n) rfl (ih1 z w hst (un_z_3_7) (by first | omega | assumption) (by exact as2) (by first | omega | (rw [tc_e hh (by omega)]; omega)) (by omega))
          · skip
            refine r_ld (pc' := 29) rfl rfl rfl rfl ?_
            refine r_ld (pc' := 30) rfl rfl rfl rfl ?_
            have hb122 := rd_3_9 hst.1
            refine r_gi (pc' := 33) rfl rfl sh_3 rfl rfl ?_
            refine r_cb (pc' := 35) rfl (by decide) rfl ?_
            refine r_mul (pc' := 36) rfl rfl ?_
            refine w_hxi (fun v123 h124 h125 => ?_)
            refine r_ld (pc' := 37) rfl rfl rfl rfl ?_
            refine r_ld (pc' := 38) rfl rfl rfl rfl ?_
            refine r_gi (pc' := 41) rfl rfl sh_3 rfl rfl ?_
            have hf126 : z 3 3 = z0 3 3 := (hst.2.2.1 _ _ (notS_c (by omega) (notS_c (by omega) (notS_c (by omega) notS_n))))
            refine r_cVI (pc' := 44) rfl rfl rfl rfl rfl sh_3 (m_43x (d := d) t h (z 3 6) hst.1 hst.2.1 ⟨by omega, by omega⟩ ht (by exact (tc_f (fun i => hst.2.2.1 2 i (notS_c (by omega) (notS_c (by omega) (notS_c (by omega) (notS_n))))) (hst.2.2.1 3 3 (notS_c (by omega) (notS_c (by omega) (notS_c (by omega) (notS_n)))))).trans hh)) (fun v127 z128 w129 p130 h131 hs132 hE133 => ?_)
            obtain ⟨rfl, rfl, rfl, hE133⟩ := hE133
            have hb2 := hE133
            refine r_add (pc' := 45) rfl rfl ?_
            refine w_hxi (fun v135 h136 h137 => ?_)
            refine r_cb (pc' := 47) rfl (by decide) rfl ?_
            refine r_sub (pc' := 48) rfl rfl ?_
            refine w_hxi (fun v138 h139 h140 => ?_)
            refine r_pi (pc' := 51) rfl rfl sh_3 rfl rfl hst (inS_0 (by omega) (by omega) (by omega) (by omega)) (wr_3_9 ⟨by omega, by omega⟩) (fun z141 hq142 hs143 => ?_)
            refine r_ld (pc' := 52) rfl rfl rfl rfl ?_
            refine r_al (pc' := 53) rfl rfl rfl rfl ?_
            refine r_gi (pc' := 56) rfl rfl sh_3 rfl ((congrFun (congrFun hq142 _) _).trans (mu_ne (by omega))) ?_
            refine r_c0 (pc' := 57) rfl rfl ?_
            refine r_add (pc' := 58) rfl rfl ?_
            refine r_pi (pc' := 61) rfl rfl sh_3 rfl rfl hs143 (inS_s (inS_0 (by omega) (by omega) (by omega) (by omega))) (wr_3_6 ⟨by omega, by omega⟩) (fun z144 hq145 hs146 => ?_)
            refine r_inc (pc' := 64) (lv' := [(0, _)]) rfl rfl rfl rfl rfl ?_
            refine r_go rfl ?_
            have hf147 : z144 3 6 = (z 3 6) + 1 := ((congrFun (congrFun hq145 _) _).trans mu_eq)
            have hf148 : z144 3 9 = v138 := (((congrFun (congrFun hq145 _) _).trans (mu_ne (by omega))).trans ((congrFun (congrFun hq142 _) _).trans mu_eq))
            have hb149 := rd_3_7 hz
            exact w_lv (sub_c rfl (sub_c rfl sub_n)) rfl (ih0 (x1 + 1) z144 w ⟨by omega, by omega⟩ hs146 ((((congrFun (congrFun hq145 _) _).trans (mu_ne (by omega))).trans (((congrFun (congrFun hq142 _) _).trans (mu_ne (by omega))).trans un_z_3_7))) (by first | exact ⟨by omega, by omega, fun _ => by rw [show z144 3 6 = z0 3 8 by omega]; exact hL⟩ | exact ⟨by omega, by omega, fun c => absurd c (by omega)⟩) (by first | exact ⟨fun k h1 h2 => absurd h2 (by omega), fun _ => by rw [show (z144 3 6 - z0 3 8).toNat = 0 by omega]; show z144 3 9 = 0; omega⟩ | (simp only [hf147, hf148]; exact rd_s (v := v127) as2.1 (by omega) (by omega) (by omega) as2.2 (fun h1 h2 h3 => by omega))) (by omega))
      · intro  z w  hst un_z_3_7 as1 as2 as3 hM
        refine r_ld (pc' := 68) rfl rfl rfl rfl ?_
        refine r_ld (pc' := 69) rfl rfl rfl rfl ?_
        have hb150 := rd_3_6 hst.1
        refine r_gi (pc' := 72) rfl rfl sh_3 rfl rfl ?_
        refine r_ld (pc' := 73) rfl rfl rfl rfl ?_
        have hb151 := rd_3_8 hz
        refine r_gi (pc' := 76) rfl rfl sh_3 rfl (hst.2.2.1 _ _ (notS_c (by omega) (notS_c (by omega) (notS_c (by omega) notS_n)))) ?_
        refine r_sub (pc' := 77) rfl rfl ?_
        refine r_c0 (pc' := 78) rfl rfl ?_
        refine r_igt (pc' := 81) rfl rfl ⟨by omega, by omega⟩ ⟨by decide, by decide⟩ (fun hc152 => ?_) (fun hc152 => ?_)
        · skip
          refine r_c0 (pc' := 96) rfl rfl ?_
          refine r_go rfl ?_
          refine r_pi (pc' := 103) rfl rfl sh_3 rfl rfl hst (inS_s (inS_s (inS_0 (by omega) (by omega) (by omega) (by omega)))) (wr_3_7 ⟨by omega, by omega⟩) (fun z153 hq154 hs155 => ?_)
          have hf156 : z153 3 6 = z 3 6 := ((congrFun (congrFun hq154 _) _).trans (mu_ne (by omega)))
          have hf157 : z153 3 7 = 5 := ((congrFun (congrFun hq154 _) _).trans mu_eq)
          have hb158 := rd_3_9 hst.1
          have hf159 : z153 3 9 = z 3 9 := ((congrFun (congrFun hq154 _) _).trans (mu_ne (by omega)))
          exact r_ret rfl (po_V hs155 ⟨rfl, (by have k := rd_e (h := h) (p := z0 3 8) (q := z 3 6) (l := z 3 9) (kd := z153 3 7) as2.1 (by omega) as3 as2.2 (by first | exact Or.inl ⟨by omega, by omega⟩ | exact Or.inr ⟨by omega, by omega, by omega⟩); exact ⟨by omega, by omega, fun q => ⟨by have := (k.2.2 q).1; omega, (k.2.2 q).2⟩, by omega, by omega, by omega⟩)⟩)
        · skip
          refine r_ld (pc' := 82) rfl rfl rfl rfl ?_
          refine r_ld (pc' := 83) rfl rfl rfl rfl ?_
          refine r_gi (pc' := 86) rfl rfl sh_3 rfl rfl ?_
          have hb160 := rd_3_3 hz
          have hf161 : z 3 3 = z0 3 3 := (hst.2.2.1 _ _ (notS_c (by omega) (notS_c (by omega) (notS_c (by omega) notS_n))))
          refine r_cVI (pc' := 89) rfl rfl rfl rfl rfl sh_3 (m_43x (d := d) t h (z 3 6) hst.1 hst.2.1 ⟨by omega, by omega⟩ ht (by exact (tc_f (fun i => hst.2.2.1 2 i (notS_c (by omega) (notS_c (by omega) (notS_c (by omega) (notS_n))))) (hst.2.2.1 3 3 (notS_c (by omega) (notS_c (by omega) (notS_c (by omega) (notS_n)))))).trans hh)) (fun v162 z163 w164 p165 h166 hs167 hE168 => ?_)
          obtain ⟨rfl, rfl, rfl, hE168⟩ := hE168
          have hb3 := hE168
          refine r_cSI (pc' := 92) rfl rfl rfl rfl rfl (m_44 (d := d) v162 hst.1 hst.2.1 ⟨by omega, by omega⟩) (fun v170 z171 w172 p173 h174 hs175 hE176 => ?_)
          obtain ⟨rfl, rfl, rfl, hE176⟩ := hE176
          refine r_zeq (pc' := 95) rfl rfl ⟨by omega, by omega⟩ (fun hc178 => ?_) (fun hc178 => ?_)
          · skip
            refine r_c0 (pc' := 100) rfl rfl ?_
            refine r_pi (pc' := 103) rfl rfl sh_3 rfl rfl hst (inS_s (inS_s (inS_0 (by omega) (by omega) (by omega) (by omega)))) (wr_3_7 ⟨by omega, by omega⟩) (fun z179 hq180 hs181 => ?_)
            have hf182 : z179 3 6 = z 3 6 := ((congrFun (congrFun hq180 _) _).trans (mu_ne (by omega)))
            have hf183 : z179 3 7 = 2 := ((congrFun (congrFun hq180 _) _).trans mu_eq)
            have hb184 := rd_3_9 hst.1
            have hf185 : z179 3 9 = z 3 9 := ((congrFun (congrFun hq180 _) _).trans (mu_ne (by omega)))
            exact r_ret rfl (po_V hs181 ⟨rfl, (by have k := rd_e (h := h) (p := z0 3 8) (q := z 3 6) (l := z 3 9) (kd := z179 3 7) as2.1 (by omega) as3 as2.2 (by first | exact Or.inl ⟨by omega, by omega⟩ | exact Or.inr ⟨by omega, by omega, by omega⟩); exact ⟨by omega, by omega, fun q => ⟨by have := (k.2.2 q).1; omega, (k.2.2 q).2⟩, by omega, by omega, by omega⟩)⟩)
          · skip
            refine r_c0 (pc' := 96) rfl rfl ?_
            refine r_go rfl ?_
            refine r_pi (pc' := 103) rfl rfl sh_3 rfl rfl hst (inS_s (inS_s (inS_0 (by omega) (by omega) (by omega) (by omega)))) (wr_3_7 ⟨by omega, by omega⟩) (fun z186 hq187 hs188 => ?_)
            have hf189 : z186 3 6 = z 3 6 := ((congrFun (congrFun hq187 _) _).trans (mu_ne (by omega)))
            have hf190 : z186 3 7 = 5 := ((congrFun (congrFun hq187 _) _).trans mu_eq)
            have hb191 := rd_3_9 hst.1
            have hf192 : z186 3 9 = z 3 9 := ((congrFun (congrFun hq187 _) _).trans (mu_ne (by omega)))
            exact r_ret rfl (po_V hs188 ⟨rfl, (by have k := rd_e (h := h) (p := z0 3 8) (q := z 3 6) (l := z 3 9) (kd := z186 3 7) as2.1 (by omega) as3 as2.2 (by first | exact Or.inl ⟨by omega, by omega⟩ | exact Or.inr ⟨by omega, by omega, by omega⟩); exact ⟨by omega, by omega, fun q => ⟨by have := (k.2.2 q).1; omega, (k.2.2 q).2⟩, by omega, by omega, by omega⟩)⟩)
  refine w_m rfl rfl ?_
  refine r_ld (pc' := 1) rfl rfl rfl rfl ?_
  refine r_c0 (pc' := 2) rfl rfl ?_
  refine r_pi (pc' := 5) rfl rfl sh_3 rfl rfl hst (inS_0 (by omega) (by omega) (by omega) (by omega)) (wr_3_9 ⟨by omega, by omega⟩) (fun z193 hq194 hs195 => ?_)
  refine r_c0 (pc' := 6) rfl rfl ?_
  refine r_st (pc' := 7) (lv' := [(1, _), (0, _)]) rfl rfl rfl rfl ?_
  have hb196 := rd_3_6 hz
  have hf197 : z193 3 6 = z0 3 6 := ((congrFun (congrFun hq194 _) _).trans (mu_ne (by omega)))
  have hf198 : z193 3 9 = 0 := ((congrFun (congrFun hq194 _) _).trans mu_eq)
  have hb199 := rd_3_7 hz
  exact w_lv (sub_c rfl (sub_c rfl sub_n)) rfl ((key ((54 * (1600 - 0) + 48 : Int).toNat + 1)).1 0 z193 w0 ⟨by omega, by omega⟩ hs195 (((congrFun (congrFun hq194 _) _).trans (mu_ne (by omega)))) (by first | exact ⟨by omega, by omega, fun _ => by rw [show z193 3 6 = z0 3 8 by omega]; exact hL⟩ | exact ⟨by omega, by omega, fun c => absurd c (by omega)⟩) (by first | exact ⟨fun k h1 h2 => absurd h2 (by omega), fun _ => by rw [show (z193 3 6 - z0 3 8).toNat = 0 by omega]; show z193 3 9 = 0; omega⟩ | (simp only [hf197, hf198]; exact rd_s (v := NOV) as2.1 (by omega) (by omega) (by omega) as2.2 (fun h1 h2 h3 => by omega))) (by omega))
/-- Reader readToken -/
abbrev S_46x  : mS := [(3, 3, 6, 6), (3, 3, 8, 8), (3, 3, 7, 7), (3, 3, 9, 9), (3, 3, 10, 10)]
abbrev E_46x (t : Nat) (h : Int → Int) (z0 w0 : mZ) (x y mt tt ct : Option Nat) : mZ → mZ → mP → Prop := fun z w p => p = (pq x y (some 2) (some t) mt tt ct) ∧ (TKc h z w (ups h isB (z0 3 6)) ∧ z0 3 6 ≤ z 3 8)
theorem m_46x {d : Nat} {z0 w0 : mZ} {x y mt tt ct : Option Nat} (t : Nat) (h : Int → Int) (hz : rz z0) (hw : rw_ w0) (ht : isT t) (hh : tc z0 = h) (hat : z0 3 6 ≤ z0 3 3) : wc (d + 3) 46 [.ref 3] (mk z0 w0 (pq x y (some 2) (some t) mt tt ct)) (poV S_46x z0 w0 (E_46x t h z0 w0 x y mt tt ct)) := by
  have hst : st_ S_46x z0 w0 z0 w0 := st_rf hz hw
  have htb : 159 ≤ t ∧ t ≤ 192 := by have := ht; unfold isT at this; omega
  have hz146 := rd_3_3 hz
  have hz147 := rd_3_6 hz
  have key : ∀ N : Nat, (∀ (x1 : Int) (z w : mZ), 0 ≤ x1 ∧ x1 ≤ 1600 → st_ S_46x z0 w0 z w → w 3 10 = w0 3 10 → z 3 7 = z0 3 7 → z 3 8 = z0 3 8 → z 3 9 = z0 3 9 → (z 3 6 = z0 3 6 + x1 ∧ z 3 6 ≤ z0 3 3) → (∀ k, z0 3 6 ≤ k → k < z 3 6 → isB (h k)) → 75 * (1600 - x1) + 72 < (N : Int) → wp_ (d + 2) 46 2 none (2, [(0, .ref 3), (1, .int (Int32.ofInt x1))], [], mk z w (pq x y (some 2) (some t) mt tt ct)) (poV S_46x z0 w0 (E_46x t h z0 w0 x y mt tt ct))) ∧ (∀ (x1 : Int) (z w : mZ), 0 ≤ x1 ∧ x1 ≤ 1599 → st_ S_46x z0 w0 z w → w 3 10 = w0 3 10 → z 3 7 = z0 3 7 → z 3 8 = z0 3 8 → z 3 9 = z0 3 9 → (z 3 6 = z0 3 6 + x1 ∧ z 3 6 < z0 3 3) → (∀ k, z0 3 6 ≤ k → k < z 3 6 → isB (h k)) → (isB (h (z 3 6))) → 75 * (1600 - x1) + 57 < (N : Int) → wp_ (d + 2) 46 2 none (35, [(0, .ref 3), (1, .int (Int32.ofInt x1))], [], mk z w (pq x y (some 2) (some t) mt tt ct)) (poV S_46x z0 w0 (E_46x t h z0 w0 x y mt tt ct))) ∧ (∀ (z w : mZ), st_ S_46x z0 w0 z w → w 3 10 = w0 3 10 → z 3 7 = z0 3 7 → z 3 8 = z0 3 8 → z 3 9 = z0 3 9 → (z0 3 6 ≤ z 3 6 ∧ z 3 6 ≤ z0 3 3) → (∀ k, z0 3 6 ≤ k → k < z 3 6 → isB (h k)) → (¬ isB (h (z 3 6))) → 49 < (N : Int) → wp_ (d + 2) 46 2 none (51, [(0, .ref 3)], [], mk z w (pq x y (some 2) (some t) mt tt ct)) (poV S_46x z0 w0 (E_46x t h z0 w0 x y mt tt ct))) := by
    intro N
    induction N with
    | zero =>
      refine ⟨?_, ?_, ?_⟩
      · intro x1 z w
        intros; exfalso; omega
      · intro x1 z w
        intros; exfalso; omega
      · intro  z w
        intros; exfalso; omega
    | succ N ih =>
      obtain ⟨ih0, ih1, ih2⟩ := ih
      refine ⟨?_, ?_, ?_⟩
      · intro x1 z w  hx1 hst un_w_3_10 un_z_3_7 un_z_3_8 un_z_3_9 as1 as2 hM
        refine r_ld (pc' := 3) rfl rfl rfl rfl ?_
        refine r_cs (pc' := 6) rfl (by decide) rfl ?_
        refine r_ige (pc' := 9) rfl rfl ⟨by omega, by omega⟩ ⟨by decide, by decide⟩ (fun hc148 => ?_) (fun hc148 => ?_)
        · skip
          have hb149 := rd_3_6 hst.1
          have hb150 := rd_3_10 hw
          have hb151 := rd_3_7 hz
          have hb152 := rd_3_8 hz
          have hb153 := rd_3_9 hz
          exact w_lv (sub_c rfl sub_n) rfl (ih2 z w hst (un_w_3_10) (un_z_3_7) (un_z_3_8) (un_z_3_9) (by first | omega | assumption) (by exact as2) (by first | omega | (rw [tc_e hh (by omega)]; omega)) (by omega))
        · skip
          refine r_ld (pc' := 10) rfl rfl rfl rfl ?_
          refine r_ld (pc' := 11) rfl rfl rfl rfl ?_
          have hb154 := rd_3_6 hst.1
          refine r_gi (pc' := 14) rfl rfl sh_3 rfl rfl ?_
          have hb155 := rd_3_3 hz
          have hf156 : z 3 3 = z0 3 3 := (hst.2.2.1 _ _ (notS_c (by omega) (notS_c (by omega) (notS_c (by omega) (notS_c (by omega) (notS_c (by omega) notS_n))))))
          refine r_cVI (pc' := 17) rfl rfl rfl rfl rfl sh_3 (m_43x (d := d + 1) t h (z 3 6) hst.1 hst.2.1 ⟨by omega, by omega⟩ ht (by exact (tc_f (fun i => hst.2.2.1 2 i (notS_c (by omega) (notS_c (by omega) (notS_c (by omega) (notS_c (by omega) (notS_c (by omega) (notS_n))))))) (hst.2.2.1 3 3 (notS_c (by omega) (notS_c (by omega) (notS_c (by omega) (notS_c (by omega) (notS_c (by omega) (notS_n)))))))).trans hh)) (fun v157 z158 w159 p160 h161 hs162 hE163 => ?_)
          obtain ⟨rfl, rfl, rfl, hE163⟩ := hE163
          have hb1 := hE163
          refine r_cb (pc' := 19) rfl (by decide) rfl ?_
          refine r_ieq (pc' := 22) rfl rfl ⟨by omega, by omega⟩ ⟨by decide, by decide⟩ (fun hc165 => ?_) (fun hc165 => ?_)
          · skip
            have hb166 := rd_3_10 hw
            have hb167 := rd_3_7 hz
            have hb168 := rd_3_8 hz
            have hb169 := rd_3_9 hz
            exact w_lv (sub_c rfl (sub_c rfl sub_n)) rfl (ih1 x1 z w ⟨by omega, by omega⟩ hst (un_w_3_10) (un_z_3_7) (un_z_3_8) (un_z_3_9) (by first | omega | assumption) (by exact as2) (by omega) (by omega))
          · skip
            refine r_ld (pc' := 23) rfl rfl rfl rfl ?_
            refine r_ld (pc' := 24) rfl rfl rfl rfl ?_
            refine r_gi (pc' := 27) rfl rfl sh_3 rfl rfl ?_
            have hf170 : z 3 3 = z0 3 3 := (hst.2.2.1 _ _ (notS_c (by omega) (notS_c (by omega) (notS_c (by omega) (notS_c (by omega) (notS_c (by omega) notS_n))))))
            refine r_cVI (pc' := 30) rfl rfl rfl rfl rfl sh_3 (m_43x (d := d + 1) t h (z 3 6) hst.1 hst.2.1 ⟨by omega, by omega⟩ ht (by exact (tc_f (fun i => hst.2.2.1 2 i (notS_c (by omega) (notS_c (by omega) (notS_c (by omega) (notS_c (by omega) (notS_c (by omega) (notS_n))))))) (hst.2.2.1 3 3 (notS_c (by omega) (notS_c (by omega) (notS_c (by omega) (notS_c (by omega) (notS_c (by omega) (notS_n)))))))).trans hh)) (fun v171 z172 w173 p174 h175 hs176 hE177 => ?_)
            obtain ⟨rfl, rfl, rfl, hE177⟩ := hE177
            have hb2 := hE177
            refine r_cb (pc' := 32) rfl (by decide) rfl ?_
            refine r_ine (pc' := 35) rfl rfl ⟨by omega, by omega⟩ ⟨by decide, by decide⟩ (fun hc179 => ?_) (fun hc179 => ?_)
            · skip
              have hb180 := rd_3_10 hw
              have hb181 := rd_3_7 hz
              have hb182 := rd_3_8 hz
              have hb183 := rd_3_9 hz
              exact w_lv (sub_c rfl sub_n) rfl (ih2 z w hst (un_w_3_10) (un_z_3_7) (un_z_3_8) (un_z_3_9) (by first | omega | assumption) (by exact as2) (by first | omega | (rw [tc_e hh (by omega)]; omega)) (by omega))
            · skip
              have hb184 := rd_3_10 hw
              have hb185 := rd_3_7 hz
              have hb186 := rd_3_8 hz
              have hb187 := rd_3_9 hz
              exact w_lv (sub_c rfl (sub_c rfl sub_n)) rfl (ih1 x1 z w ⟨by omega, by omega⟩ hst (un_w_3_10) (un_z_3_7) (un_z_3_8) (un_z_3_9) (by first | omega | assumption) (by exact as2) (by omega) (by omega))
      · intro x1 z w  hx1 hst un_w_3_10 un_z_3_7 un_z_3_8 un_z_3_9 as1 as2 as3 hM
        refine r_ld (pc' := 36) rfl rfl rfl rfl ?_
        refine r_al (pc' := 37) rfl rfl rfl rfl ?_
        have hb188 := rd_3_6 hst.1
        refine r_gi (pc' := 40) rfl rfl sh_3 rfl rfl ?_
        refine r_c0 (pc' := 41) rfl rfl ?_
        refine r_add (pc' := 42) rfl rfl ?_
        refine r_pi (pc' := 45) rfl rfl sh_3 rfl rfl hst (inS_0 (by omega) (by omega) (by omega) (by omega)) (wr_3_6 ⟨by omega, by omega⟩) (fun z189 hq190 hs191 => ?_)
        refine r_inc (pc' := 48) (lv' := [(0, _)]) rfl rfl rfl rfl rfl ?_
        refine r_go rfl ?_
        have hf192 : z189 3 6 = (z 3 6) + 1 := ((congrFun (congrFun hq190 _) _).trans mu_eq)
        have hb193 := rd_3_10 hw
        have hb194 := rd_3_7 hz
        have hb195 := rd_3_8 hz
        have hb196 := rd_3_9 hz
        exact w_lv (sub_c rfl (sub_c rfl sub_n)) rfl (ih0 (x1 + 1) z189 w ⟨by omega, by omega⟩ hs191 (un_w_3_10) ((((congrFun (congrFun hq190 _) _).trans (mu_ne (by omega))).trans un_z_3_7)) ((((congrFun (congrFun hq190 _) _).trans (mu_ne (by omega))).trans un_z_3_8)) ((((congrFun (congrFun hq190 _) _).trans (mu_ne (by omega))).trans un_z_3_9)) (by first | omega | assumption | (simp only [hf192]; assumption)) (by first | (intro k h1 h2; exfalso; omega) | (intro k h1 h2; by_cases c : k = z 3 6; (rw [c]; exact as3); exact as2 k h1 (by omega))) (by omega))
      · intro  z w  hst un_w_3_10 un_z_3_7 un_z_3_8 un_z_3_9 as1 as2 as3 hM
        refine r_ld (pc' := 52) rfl rfl rfl rfl ?_
        refine r_ld (pc' := 53) rfl rfl rfl rfl ?_
        have hb197 := rd_3_6 hst.1
        refine r_gi (pc' := 56) rfl rfl sh_3 rfl rfl ?_
        refine r_pi (pc' := 59) rfl rfl sh_3 rfl rfl hst (inS_s (inS_0 (by omega) (by omega) (by omega) (by omega))) (wr_3_8 ⟨by omega, by omega⟩) (fun z198 hq199 hs200 => ?_)
        have h38 : z198 3 8 = z 3 6 := (congrFun (congrFun hq199 _) _).trans mu_eq
        refine r_ld (pc' := 60) rfl rfl rfl rfl ?_
        refine r_ld (pc' := 61) rfl rfl rfl rfl ?_
        refine r_gi (pc' := 64) rfl rfl sh_3 rfl ((congrFun (congrFun hq199 _) _).trans (mu_ne (by omega))) ?_
        have hb201 := rd_3_3 hz
        have hf202 : z198 3 3 = z0 3 3 := (((congrFun (congrFun hq199 _) _).trans (mu_ne (by omega))).trans (hst.2.2.1 _ _ (notS_c (by omega) (notS_c (by omega) (notS_c (by omega) (notS_c (by omega) (notS_c (by omega) notS_n)))))))
        refine r_cVI (pc' := 67) rfl rfl rfl rfl rfl sh_3 (m_43x (d := d + 1) t h (z 3 6) hs200.1 hs200.2.1 ⟨by omega, by omega⟩ ht (by exact (tc_f (fun i => hs200.2.2.1 2 i (notS_c (by omega) (notS_c (by omega) (notS_c (by omega) (notS_c (by omega) (notS_c (by omega) (notS_n))))))) (hs200.2.2.1 3 3 (notS_c (by omega) (notS_c (by omega) (notS_c (by omega) (notS_c (by omega) (notS_c (by omega) (notS_n)))))))).trans hh)) (fun v203 z204 w205 p206 h207 hs208 hE209 => ?_)
        obtain ⟨rfl, rfl, rfl, hE209⟩ := hE209
        have hb3 := hE209
        refine r_st (pc' := 68) (lv' := [(1, _), (0, _)]) rfl rfl rfl rfl ?_
        refine r_ld (pc' := 69) rfl rfl rfl rfl ?_
        refine r_gi (pc' := 72) rfl rfl sh_3 rfl ((congrFun (congrFun hq199 _) _).trans (mu_ne (by omega))) ?_
        refine r_ld (pc' := 73) rfl rfl rfl rfl ?_
        refine r_gi (pc' := 76) rfl rfl sh_3 rfl (((congrFun (congrFun hq199 _) _).trans (mu_ne (by omega))).trans (hst.2.2.1 _ _ (notS_c (by omega) (notS_c (by omega) (notS_c (by omega) (notS_c (by omega) (notS_c (by omega) notS_n))))))) ?_
        refine r_ilt (pc' := 79) rfl rfl ⟨by omega, by omega⟩ ⟨by omega, by omega⟩ (fun hc211 => ?_) (fun hc211 => ?_)
        · skip
          refine r_ld (pc' := 88) rfl rfl rfl rfl ?_
          refine r_cSI (pc' := 91) rfl rfl rfl rfl rfl (m_44 (d := d + 1) v203 hs200.1 hs200.2.1 ⟨by omega, by omega⟩) (fun v212 z213 w214 p215 h216 hs217 hE218 => ?_)
          obtain ⟨rfl, rfl, rfl, hE218⟩ := hE218
          refine r_zeq (pc' := 94) rfl rfl ⟨by omega, by omega⟩ (fun hc220 => ?_) (fun hc220 => ?_)
          · skip
            refine r_ld (pc' := 102) rfl rfl rfl rfl ?_
            refine r_cSI (pc' := 105) rfl rfl rfl rfl rfl (m_45 (d := d + 1) v203 hs200.1 hs200.2.1 ⟨by omega, by omega⟩) (fun v221 z222 w223 p224 h225 hs226 hE227 => ?_)
            obtain ⟨rfl, rfl, rfl, hE227⟩ := hE227
            refine r_zeq (pc' := 108) rfl rfl ⟨by omega, by omega⟩ (fun hc229 => ?_) (fun hc229 => ?_)
            · skip
              have hL : ¬ isL (h (z 3 6)) := by omega
              have hD : ¬ isD (h (z 3 6)) := by omega
              have hKS := tkK_S (h := h) (p := z 3 6) (by omega) hL hD
              have hES := tkE_S (h := h) (p := z 3 6) hL hD
              refine r_ld (pc' := 116) rfl rfl rfl rfl ?_
              refine r_al (pc' := 117) rfl rfl rfl rfl ?_
              refine r_gi (pc' := 120) rfl rfl sh_3 rfl ((congrFun (congrFun hq199 _) _).trans (mu_ne (by omega))) ?_
              refine r_c0 (pc' := 121) rfl rfl ?_
              refine r_add (pc' := 122) rfl rfl ?_
              refine r_pi (pc' := 125) rfl rfl sh_3 rfl rfl hs200 (inS_0 (by omega) (by omega) (by omega) (by omega)) (wr_3_6 ⟨by omega, by omega⟩) (fun z230 hq231 hs232 => ?_)
              refine r_ld (pc' := 126) rfl rfl rfl rfl ?_
              refine r_ld (pc' := 127) rfl rfl rfl rfl ?_
              refine r_cb (pc' := 129) rfl (by decide) rfl ?_
              refine r_ine (pc' := 132) rfl rfl ⟨by omega, by omega⟩ ⟨by decide, by decide⟩ (fun hc233 => ?_) (fun hc233 => ?_)
              · skip
                refine r_ld (pc' := 137) rfl rfl rfl rfl ?_
                refine r_cb (pc' := 139) rfl (by decide) rfl ?_
                refine r_ine (pc' := 142) rfl rfl ⟨by omega, by omega⟩ ⟨by decide, by decide⟩ (fun hc234 => ?_) (fun hc234 => ?_)
                · skip
                  refine r_c0 (pc' := 147) rfl rfl ?_
                  refine r_pi (pc' := 150) rfl rfl sh_3 rfl rfl hs232 (inS_s (inS_s (inS_0 (by omega) (by omega) (by omega) (by omega)))) (wr_3_7 ⟨by omega, by omega⟩) (fun z235 hq236 hs237 => ?_)
                  have hf238 : z235 3 8 = z 3 6 := (((congrFun (congrFun hq236 _) _).trans (mu_ne (by omega))).trans (((congrFun (congrFun hq231 _) _).trans (mu_ne (by omega))).trans ((congrFun (congrFun hq199 _) _).trans mu_eq)))
                  have hf239 : z235 3 3 = z0 3 3 := (((congrFun (congrFun hq236 _) _).trans (mu_ne (by omega))).trans (((congrFun (congrFun hq231 _) _).trans (mu_ne (by omega))).trans (((congrFun (congrFun hq199 _) _).trans (mu_ne (by omega))).trans (hst.2.2.1 _ _ (notS_c (by omega) (notS_c (by omega) (notS_c (by omega) (notS_c (by omega) (notS_c (by omega) notS_n)))))))))
                  have hf240 : z235 3 6 = (z 3 6) + 1 := (((congrFun (congrFun hq236 _) _).trans (mu_ne (by omega))).trans ((congrFun (congrFun hq231 _) _).trans mu_eq))
                  have hf241 : z235 3 7 = 5 := ((congrFun (congrFun hq236 _) _).trans mu_eq)
                  have hb242 := rd_3_9 hz
                  have hf243 : z235 3 9 = z0 3 9 := (((congrFun (congrFun hq236 _) _).trans (mu_ne (by omega))).trans (((congrFun (congrFun hq231 _) _).trans (mu_ne (by omega))).trans (((congrFun (congrFun hq199 _) _).trans (mu_ne (by omega))).trans un_z_3_9)))
                  have hb244 := rd_3_10 hw
                  have hf245 : w 3 10 = w0 3 10 := un_w_3_10
                  exact r_ret rfl (po_V hs237 ⟨rfl, (by refine ⟨?_, by omega⟩; rw [ups_eq (h := h) (P := isB) (a := z0 3 6) (p := z 3 6) ⟨by omega, as2, as3⟩]; unfold TKc; first    | exact ⟨by omega, by omega, by omega, fun q => absurd q (by omega), fun q => absurd q (by omega), fun q => absurd hK0 q, by omega⟩    | (rw [h38] at hrl; exact ⟨by omega, by omega, by omega, fun q => absurd q (by omega), fun q => by have k := hrl.2.2.1 q; exact ⟨by omega, k.2⟩, fun _ => ⟨by omega, by omega⟩, by omega⟩)    | (rw [h38] at hrd; exact ⟨by omega, by omega, by omega, fun q => by have k := hrd.2.2.1 q; exact ⟨by omega, k.2⟩, fun q => absurd q hrd.2.2.2.2.1, fun _ => ⟨by omega, by omega⟩, by omega⟩)    | (rw [if_pos (by omega)] at hKS; exact ⟨by omega, by omega, by omega, fun q => absurd q (by omega), fun q => absurd q (by omega), fun _ => ⟨by omega, by omega⟩, by omega⟩)    | (rw [if_neg (by omega), if_pos (by omega)] at hKS; exact ⟨by omega, by omega, by omega, fun q => absurd q (by omega), fun q => absurd q (by omega), fun _ => ⟨by omega, by omega⟩, by omega⟩)    | (rw [if_neg (by omega), if_neg (by omega)] at hKS; exact ⟨by omega, by omega, by omega, fun q => absurd q (by omega), fun q => absurd q (by omega), fun _ => ⟨by omega, by omega⟩, by omega⟩))⟩)
                · skip
                  refine r_c0 (pc' := 143) rfl rfl ?_
                  refine r_go rfl ?_
                  refine r_pi (pc' := 150) rfl rfl sh_3 rfl rfl hs232 (inS_s (inS_s (inS_0 (by omega) (by omega) (by omega) (by omega)))) (wr_3_7 ⟨by omega, by omega⟩) (fun z246 hq247 hs248 => ?_)
                  have hf249 : z246 3 8 = z 3 6 := (((congrFun (congrFun hq247 _) _).trans (mu_ne (by omega))).trans (((congrFun (congrFun hq231 _) _).trans (mu_ne (by omega))).trans ((congrFun (congrFun hq199 _) _).trans mu_eq)))
                  have hf250 : z246 3 3 = z0 3 3 := (((congrFun (congrFun hq247 _) _).trans (mu_ne (by omega))).trans (((congrFun (congrFun hq231 _) _).trans (mu_ne (by omega))).trans (((congrFun (congrFun hq199 _) _).trans (mu_ne (by omega))).trans (hst.2.2.1 _ _ (notS_c (by omega) (notS_c (by omega) (notS_c (by omega) (notS_c (by omega) (notS_c (by omega) notS_n)))))))))
                  have hf251 : z246 3 6 = (z 3 6) + 1 := (((congrFun (congrFun hq247 _) _).trans (mu_ne (by omega))).trans ((congrFun (congrFun hq231 _) _).trans mu_eq))
                  have hf252 : z246 3 7 = 4 := ((congrFun (congrFun hq247 _) _).trans mu_eq)
                  have hb253 := rd_3_9 hz
                  have hf254 : z246 3 9 = z0 3 9 := (((congrFun (congrFun hq247 _) _).trans (mu_ne (by omega))).trans (((congrFun (congrFun hq231 _) _).trans (mu_ne (by omega))).trans (((congrFun (congrFun hq199 _) _).trans (mu_ne (by omega))).trans un_z_3_9)))
                  have hb255 := rd_3_10 hw
                  have hf256 : w 3 10 = w0 3 10 := un_w_3_10
                  exact r_ret rfl (po_V hs248 ⟨rfl, (by refine ⟨?_, by omega⟩; rw [ups_eq (h := h) (P := isB) (a := z0 3 6) (p := z 3 6) ⟨by omega, as2, as3⟩]; unfold TKc; first    | exact ⟨by omega, by omega, by omega, fun q => absurd q (by omega), fun q => absurd q (by omega), fun q => absurd hK0 q, by omega⟩    | (rw [h38] at hrl; exact ⟨by omega, by omega, by omega, fun q => absurd q (by omega), fun q => by have k := hrl.2.2.1 q; exact ⟨by omega, k.2⟩, fun _ => ⟨by omega, by omega⟩, by omega⟩)    | (rw [h38] at hrd; exact ⟨by omega, by omega, by omega, fun q => by have k := hrd.2.2.1 q; exact ⟨by omega, k.2⟩, fun q => absurd q hrd.2.2.2.2.1, fun _ => ⟨by omega, by omega⟩, by omega⟩)    | (rw [if_pos (by omega)] at hKS; exact ⟨by omega, by omega, by omega, fun q => absurd q (by omega), fun q => absurd q (by omega), fun _ => ⟨by omega, by omega⟩, by omega⟩)    | (rw [if_neg (by omega), if_pos (by omega)] at hKS; exact ⟨by omega, by omega, by omega, fun q => absurd q (by omega), fun q => absurd q (by omega), fun _ => ⟨by omega, by omega⟩, by omega⟩)    | (rw [if_neg (by omega), if_neg (by omega)] at hKS; exact ⟨by omega, by omega, by omega, fun q => absurd q (by omega), fun q => absurd q (by omega), fun _ => ⟨by omega, by omega⟩, by omega⟩))⟩)
              · skip
                refine r_c0 (pc' := 133) rfl rfl ?_
                refine r_go rfl ?_
                refine r_pi (pc' := 150) rfl rfl sh_3 rfl rfl hs232 (inS_s (inS_s (inS_0 (by omega) (by omega) (by omega) (by omega)))) (wr_3_7 ⟨by omega, by omega⟩) (fun z257 hq258 hs259 => ?_)
                have hf260 : z257 3 8 = z 3 6 := (((congrFun (congrFun hq258 _) _).trans (mu_ne (by omega))).trans (((congrFun (congrFun hq231 _) _).trans (mu_ne (by omega))).trans ((congrFun (congrFun hq199 _) _).trans mu_eq)))
                have hf261 : z257 3 3 = z0 3 3 := (((congrFun (congrFun hq258 _) _).trans (mu_ne (by omega))).trans (((congrFun (congrFun hq231 _) _).trans (mu_ne (by omega))).trans (((congrFun (congrFun hq199 _) _).trans (mu_ne (by omega))).trans (hst.2.2.1 _ _ (notS_c (by omega) (notS_c (by omega) (notS_c (by omega) (notS_c (by omega) (notS_c (by omega) notS_n)))))))))
                have hf262 : z257 3 6 = (z 3 6) + 1 := (((congrFun (congrFun hq258 _) _).trans (mu_ne (by omega))).trans ((congrFun (congrFun hq231 _) _).trans mu_eq))
                have hf263 : z257 3 7 = 3 := ((congrFun (congrFun hq258 _) _).trans mu_eq)
                have hb264 := rd_3_9 hz
                have hf265 : z257 3 9 = z0 3 9 := (((congrFun (congrFun hq258 _) _).trans (mu_ne (by omega))).trans (((congrFun (congrFun hq231 _) _).trans (mu_ne (by omega))).trans (((congrFun (congrFun hq199 _) _).trans (mu_ne (by omega))).trans un_z_3_9)))
                have hb266 := rd_3_10 hw
                have hf267 : w 3 10 = w0 3 10 := un_w_3_10
                exact r_ret rfl (po_V hs259 ⟨rfl, (by refine ⟨?_, by omega⟩; rw [ups_eq (h := h) (P := isB) (a := z0 3 6) (p := z 3 6) ⟨by omega, as2, as3⟩]; unfold TKc; first    | exact ⟨by omega, by omega, by omega, fun q => absurd q (by omega), fun q => absurd q (by omega), fun q => absurd hK0 q, by omega⟩    | (rw [h38] at hrl; exact ⟨by omega, by omega, by omega, fun q => absurd q (by omega), fun q => by have k := hrl.2.2.1 q; exact ⟨by omega, k.2⟩, fun _ => ⟨by omega, by omega⟩, by omega⟩)    | (rw [h38] at hrd; exact ⟨by omega, by omega, by omega, fun q => by have k := hrd.2.2.1 q; exact ⟨by omega, k.2⟩, fun q => absurd q hrd.2.2.2.2.1, fun _ => ⟨by omega, by omega⟩, by omega⟩)    | (rw [if_pos (by omega)] at hKS; exact ⟨by omega, by omega, by omega, fun q => absurd q (by omega), fun q => absurd q (by omega), fun _ => ⟨by omega, by omega⟩, by omega⟩)    | (rw [if_neg (by omega), if_pos (by omega)] at hKS; exact ⟨by omega, by omega, by omega, fun q => absurd q (by omega), fun q => absurd q (by omega), fun _ => ⟨by omega, by omega⟩, by omega⟩)    | (rw [if_neg (by omega), if_neg (by omega)] at hKS; exact ⟨by omega, by omega, by omega, fun q => absurd q (by omega), fun q => absurd q (by omega), fun _ => ⟨by omega, by omega⟩, by omega⟩))⟩)
            · skip
              have hL : isD (h (z 3 6)) := by omega
              refine r_ld (pc' := 109) rfl rfl rfl rfl ?_
              have hf268 : z198 3 6 = z 3 6 := ((congrFun (congrFun hq199 _) _).trans (mu_ne (by omega)))
              have hf269 : z198 3 8 = z 3 6 := ((congrFun (congrFun hq199 _) _).trans mu_eq)
              have hf270 : z198 3 3 = z0 3 3 := (((congrFun (congrFun hq199 _) _).trans (mu_ne (by omega))).trans (hst.2.2.1 _ _ (notS_c (by omega) (notS_c (by omega) (notS_c (by omega) (notS_c (by omega) (notS_c (by omega) notS_n)))))))
              refine r_cVV (pc' := 112) rfl rfl rfl rfl rfl sh_3 (m_49x (d := d) t h hs200.1 hs200.2.1 ht (by exact (tc_f (fun i => hs200.2.2.1 2 i (notS_c (by omega) (notS_c (by omega) (notS_c (by omega) (notS_c (by omega) (notS_c (by omega) (notS_n))))))) (hs200.2.2.1 3 3 (notS_c (by omega) (notS_c (by omega) (notS_c (by omega) (notS_c (by omega) (notS_c (by omega) (notS_n)))))))).trans hh) (by first | omega | assumption | (simp only [hf268, hf269, hf270]; assumption)) (by rw [show z198 3 8 = z 3 6 by omega]; exact hL) (by first | omega | assumption | (simp only [hf268, hf269, hf270]; assumption))) (fun z272 w273 p274 hs276 hE277 => ?_)
              have hs278 := st_tr hs200 hs276 (sub_B rfl)
              obtain ⟨rfl, hE277⟩ := hE277
              have hrd := hE277
              refine r_go rfl ?_
              have hf279 : z272 3 8 = z 3 6 := ((hs276.2.2.1 _ _ (notS_c (by omega) (notS_c (by omega) (notS_c (by omega) notS_n)))).trans ((congrFun (congrFun hq199 _) _).trans mu_eq))
              have hf280 : z272 3 3 = z0 3 3 := ((hs276.2.2.1 _ _ (notS_c (by omega) (notS_c (by omega) (notS_c (by omega) notS_n)))).trans (((congrFun (congrFun hq199 _) _).trans (mu_ne (by omega))).trans (hst.2.2.1 _ _ (notS_c (by omega) (notS_c (by omega) (notS_c (by omega) (notS_c (by omega) (notS_c (by omega) notS_n))))))))
              have hb281 := rd_3_6 hs278.1
              have hb282 := rd_3_7 hs278.1
              have hb283 := rd_3_9 hs278.1
              have hb284 := rd_3_10 hw
              have hf285 : w273 3 10 = w0 3 10 := ((hs276.2.2.2 _ _ (notS_c (by omega) (notS_c (by omega) (notS_c (by omega) notS_n)))).trans un_w_3_10)
              exact r_ret rfl (po_V hs278 ⟨rfl, (by refine ⟨?_, by omega⟩; rw [ups_eq (h := h) (P := isB) (a := z0 3 6) (p := z 3 6) ⟨by omega, as2, as3⟩]; unfold TKc; first    | exact ⟨by omega, by omega, by omega, fun q => absurd q (by omega), fun q => absurd q (by omega), fun q => absurd hK0 q, by omega⟩    | (rw [h38] at hrl; exact ⟨by omega, by omega, by omega, fun q => absurd q (by omega), fun q => by have k := hrl.2.2.1 q; exact ⟨by omega, k.2⟩, fun _ => ⟨by omega, by omega⟩, by omega⟩)    | (rw [h38] at hrd; exact ⟨by omega, by omega, by omega, fun q => by have k := hrd.2.2.1 q; exact ⟨by omega, k.2⟩, fun q => absurd q hrd.2.2.2.2.1, fun _ => ⟨by omega, by omega⟩, by omega⟩)    | (rw [if_pos (by omega)] at hKS; exact ⟨by omega, by omega, by omega, fun q => absurd q (by omega), fun q => absurd q (by omega), fun _ => ⟨by omega, by omega⟩, by omega⟩)    | (rw [if_neg (by omega), if_pos (by omega)] at hKS; exact ⟨by omega, by omega, by omega, fun q => absurd q (by omega), fun q => absurd q (by omega), fun _ => ⟨by omega, by omega⟩, by omega⟩)    | (rw [if_neg (by omega), if_neg (by omega)] at hKS; exact ⟨by omega, by omega, by omega, fun q => absurd q (by omega), fun q => absurd q (by omega), fun _ => ⟨by omega, by omega⟩, by omega⟩))⟩)
          · skip
            have hL : isL (h (z 3 6)) := by omega
            refine r_ld (pc' := 95) rfl rfl rfl rfl ?_
            have hf286 : z198 3 6 = z 3 6 := ((congrFun (congrFun hq199 _) _).trans (mu_ne (by omega)))
            have hf287 : z198 3 8 = z 3 6 := ((congrFun (congrFun hq199 _) _).trans mu_eq)
            have hf288 : z198 3 3 = z0 3 3 := (((congrFun (congrFun hq199 _) _).trans (mu_ne (by omega))).trans (hst.2.2.1 _ _ (notS_c (by omega) (notS_c (by omega) (notS_c (by omega) (notS_c (by omega) (notS_c (by omega) notS_n)))))))
            refine r_cVV (pc' := 98) rfl rfl rfl rfl rfl sh_3 (m_47x (d := d) t h hs200.1 hs200.2.1 ht (by exact (tc_f (fun i => hs200.2.2.1 2 i (notS_c (by omega) (notS_c (by omega) (notS_c (by omega) (notS_c (by omega) (notS_c (by omega) (notS_n))))))) (hs200.2.2.1 3 3 (notS_c (by omega) (notS_c (by omega) (notS_c (by omega) (notS_c (by omega) (notS_c (by omega) (notS_n)))))))).trans hh) (by first | omega | assumption | (simp only [hf286, hf287, hf288]; assumption)) (by rw [show z198 3 8 = z 3 6 by omega]; exact hL) (by first | omega | assumption | (simp only [hf286, hf287, hf288]; assumption))) (fun z290 w291 p292 hs294 hE295 => ?_)
            have hs296 := st_tr hs200 hs294 (sub_B rfl)
            obtain ⟨rfl, hE295⟩ := hE295
            have hrl := hE295
            refine r_go rfl ?_
            have hf297 : z290 3 8 = z 3 6 := ((hs294.2.2.1 _ _ (notS_c (by omega) (notS_c (by omega) (notS_c (by omega) notS_n)))).trans ((congrFun (congrFun hq199 _) _).trans mu_eq))
            have hf298 : z290 3 3 = z0 3 3 := ((hs294.2.2.1 _ _ (notS_c (by omega) (notS_c (by omega) (notS_c (by omega) notS_n)))).trans (((congrFun (congrFun hq199 _) _).trans (mu_ne (by omega))).trans (hst.2.2.1 _ _ (notS_c (by omega) (notS_c (by omega) (notS_c (by omega) (notS_c (by omega) (notS_c (by omega) notS_n))))))))
            have hb299 := rd_3_6 hs296.1
            have hb300 := rd_3_7 hs296.1
            have hb301 := rd_3_9 hz
            have hf302 : z290 3 9 = z0 3 9 := ((hs294.2.2.1 _ _ (notS_c (by omega) (notS_c (by omega) (notS_c (by omega) notS_n)))).trans (((congrFun (congrFun hq199 _) _).trans (mu_ne (by omega))).trans un_z_3_9))
            have hb303 := rd_3_10 hs296.2.1
            exact r_ret rfl (po_V hs296 ⟨rfl, (by refine ⟨?_, by omega⟩; rw [ups_eq (h := h) (P := isB) (a := z0 3 6) (p := z 3 6) ⟨by omega, as2, as3⟩]; unfold TKc; first    | exact ⟨by omega, by omega, by omega, fun q => absurd q (by omega), fun q => absurd q (by omega), fun q => absurd hK0 q, by omega⟩    | (rw [h38] at hrl; exact ⟨by omega, by omega, by omega, fun q => absurd q (by omega), fun q => by have k := hrl.2.2.1 q; exact ⟨by omega, k.2⟩, fun _ => ⟨by omega, by omega⟩, by omega⟩)    | (rw [h38] at hrd; exact ⟨by omega, by omega, by omega, fun q => by have k := hrd.2.2.1 q; exact ⟨by omega, k.2⟩, fun q => absurd q hrd.2.2.2.2.1, fun _ => ⟨by omega, by omega⟩, by omega⟩)    | (rw [if_pos (by omega)] at hKS; exact ⟨by omega, by omega, by omega, fun q => absurd q (by omega), fun q => absurd q (by omega), fun _ => ⟨by omega, by omega⟩, by omega⟩)    | (rw [if_neg (by omega), if_pos (by omega)] at hKS; exact ⟨by omega, by omega, by omega, fun q => absurd q (by omega), fun q => absurd q (by omega), fun _ => ⟨by omega, by omega⟩, by omega⟩)    | (rw [if_neg (by omega), if_neg (by omega)] at hKS; exact ⟨by omega, by omega, by omega, fun q => absurd q (by omega), fun q => absurd q (by omega), fun _ => ⟨by omega, by omega⟩, by omega⟩))⟩)
        · skip
          have hK0 := tkK_0 (h := h) (p := z 3 6) (by omega)
          refine r_ld (pc' := 80) rfl rfl rfl rfl ?_
          refine r_c0 (pc' := 81) rfl rfl ?_
          refine r_pi (pc' := 84) rfl rfl sh_3 rfl rfl hs200 (inS_s (inS_s (inS_0 (by omega) (by omega) (by omega) (by omega)))) (wr_3_7 ⟨by omega, by omega⟩) (fun z304 hq305 hs306 => ?_)
          refine r_go rfl ?_
          have hf307 : z304 3 8 = z 3 6 := (((congrFun (congrFun hq305 _) _).trans (mu_ne (by omega))).trans ((congrFun (congrFun hq199 _) _).trans mu_eq))
          have hf308 : z304 3 3 = z0 3 3 := (((congrFun (congrFun hq305 _) _).trans (mu_ne (by omega))).trans (((congrFun (congrFun hq199 _) _).trans (mu_ne (by omega))).trans (hst.2.2.1 _ _ (notS_c (by omega) (notS_c (by omega) (notS_c (by omega) (notS_c (by omega) (notS_c (by omega) notS_n))))))))
          have hf309 : z304 3 6 = z 3 6 := (((congrFun (congrFun hq305 _) _).trans (mu_ne (by omega))).trans ((congrFun (congrFun hq199 _) _).trans (mu_ne (by omega))))
          have hf310 : z304 3 7 = 0 := ((congrFun (congrFun hq305 _) _).trans mu_eq)
          have hb311 := rd_3_9 hz
          have hf312 : z304 3 9 = z0 3 9 := (((congrFun (congrFun hq305 _) _).trans (mu_ne (by omega))).trans (((congrFun (congrFun hq199 _) _).trans (mu_ne (by omega))).trans un_z_3_9))
          have hb313 := rd_3_10 hw
          have hf314 : w 3 10 = w0 3 10 := un_w_3_10
          exact r_ret rfl (po_V hs306 ⟨rfl, (by refine ⟨?_, by omega⟩; rw [ups_eq (h := h) (P := isB) (a := z0 3 6) (p := z 3 6) ⟨by omega, as2, as3⟩]; unfold TKc; first    | exact ⟨by omega, by omega, by omega, fun q => absurd q (by omega), fun q => absurd q (by omega), fun q => absurd hK0 q, by omega⟩    | (rw [h38] at hrl; exact ⟨by omega, by omega, by omega, fun q => absurd q (by omega), fun q => by have k := hrl.2.2.1 q; exact ⟨by omega, k.2⟩, fun _ => ⟨by omega, by omega⟩, by omega⟩)    | (rw [h38] at hrd; exact ⟨by omega, by omega, by omega, fun q => by have k := hrd.2.2.1 q; exact ⟨by omega, k.2⟩, fun q => absurd q hrd.2.2.2.2.1, fun _ => ⟨by omega, by omega⟩, by omega⟩)    | (rw [if_pos (by omega)] at hKS; exact ⟨by omega, by omega, by omega, fun q => absurd q (by omega), fun q => absurd q (by omega), fun _ => ⟨by omega, by omega⟩, by omega⟩)    | (rw [if_neg (by omega), if_pos (by omega)] at hKS; exact ⟨by omega, by omega, by omega, fun q => absurd q (by omega), fun q => absurd q (by omega), fun _ => ⟨by omega, by omega⟩, by omega⟩)    | (rw [if_neg (by omega), if_neg (by omega)] at hKS; exact ⟨by omega, by omega, by omega, fun q => absurd q (by omega), fun q => absurd q (by omega), fun _ => ⟨by omega, by omega⟩, by omega⟩))⟩)
  refine w_m rfl rfl ?_
  refine r_c0 (pc' := 1) rfl rfl ?_
  refine r_st (pc' := 2) (lv' := [(1, _), (0, _)]) rfl rfl rfl rfl ?_
  have hb315 := rd_3_6 hz
  have hb316 := rd_3_10 hw
  have hb317 := rd_3_7 hz
  have hb318 := rd_3_8 hz
  have hb319 := rd_3_9 hz
  exact w_lv (sub_c rfl (sub_c rfl sub_n)) rfl ((key ((75 * (1600 - 0) + 72 : Int).toNat + 1)).1 0 z0 w0 ⟨by omega, by omega⟩ hst (rfl) (rfl) (rfl) (rfl) (by first | omega | assumption) (by first | (intro k h1 h2; exfalso; omega) | (intro k h1 h2; by_cases c : k = z 3 6; (rw [c]; exact as3); exact as2 k h1 (by omega))) (by omega))

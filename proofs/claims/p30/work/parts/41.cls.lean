/-! methods, printed by wip/tools/vcg.py -/
/-- Counter begin -/
abbrev S_8  : mS := [(33, 33, 2, 2), (34, 34, 0, 17)]
abbrev E_8 (t : Nat) (a2 : Int) (z0 w0 : mZ) (x y tx it mt tt ct : Option Nat) : Int → mZ → mZ → mP → Prop := fun v z w p => p = (pq x y tx it mt tt (some t)) ∧ 0 ≤ v ∧ v ≤ 1
theorem m_8 {d : Nat} {z0 w0 : mZ} {x y tx it mt tt ct : Option Nat} (t : Nat) (a2 : Int) (hz : rz z0) (hw : rw_ w0) (ha2 : 1 ≤ a2 ∧ a2 ≤ 3) (ht : isT t) : wc (d + 1) 8 [.ref 33, .ref t, .int (Int32.ofInt a2)] (mk z0 w0 (pq x y tx it mt tt ct)) (poI S_8 z0 w0 (E_8 t a2 z0 w0 x y tx it mt tt ct)) := by
  have hst : st_ S_8 z0 w0 z0 w0 := st_rf hz hw
  have key : ∀ N : Nat, (∀ (x3 x5 : Int) (z w : mZ), (-9223372036854775808) ≤ x3 ∧ x3 ≤ 9223372036854775807 → 0 ≤ x5 ∧ x5 ≤ 18 → st_ S_8 z0 w0 z w → 41 * (18 - x5) + 30 < (N : Int) → wp_ (d) 8 6 (some .boolean) (15, [(0, .ref 33), (1, .ref t), (2, .int (Int32.ofInt a2)), (3, .long (Int64.ofInt x3)), (5, .int (Int32.ofInt x5))], [], mk z w (pq x y tx it mt tt (some t))) (poI S_8 z0 w0 (E_8 t a2 z0 w0 x y tx it mt tt ct))) := by
    intro N
    induction N with
    | zero =>
      intro x3 x5 z w
      intros; exfalso; omega
    | succ N ih =>
      have ih0 := ih; clear ih
      intro x3 x5 z w hx3 hx5 hst hM
      refine r_ld (pc' := 17) rfl rfl rfl rfl ?_
      refine r_cb (pc' := 19) rfl (by decide) rfl ?_
      refine r_ige (pc' := 22) rfl rfl ⟨by omega, by omega⟩ ⟨by decide, by decide⟩ (fun hc13 => ?_) (fun hc13 => ?_)
      · skip
        refine r_ld (pc' := 57) rfl rfl rfl rfl ?_
        refine r_al (pc' := 60) rfl rfl rfl rfl ?_
        refine r_lgt (pc' := 64) rfl rfl rfl ⟨by omega, by omega⟩ ⟨by decide, by decide⟩ (fun hc14 => ?_) (fun hc14 => ?_)
        · skip
          refine r_c0 (pc' := 69) rfl rfl ?_
          exact r_rz rfl (by omega) (po_I hst ⟨by decide, by decide⟩ ⟨rfl, by omega, by omega⟩)
        · skip
          refine r_c0 (pc' := 65) rfl rfl ?_
          refine r_go rfl ?_
          exact r_rz rfl (by omega) (po_I hst ⟨by decide, by decide⟩ ⟨rfl, by omega, by omega⟩)
      · skip
        refine r_ld (pc' := 23) rfl rfl rfl rfl ?_
        refine r_gr (b := 34) (pc' := 26) rfl rfl sh_33 rfl pp_33_0 ?_
        refine r_ld (pc' := 28) rfl rfl rfl rfl ?_
        refine r_lc0 (pc' := 29) rfl rfl ?_
        refine r_ls (pc' := 30) rfl rfl sh_34 rfl (by omega) (by omega) hst (inS_s (inS_0 (by omega) (by omega) (by omega) (by omega))) (wr_34 ⟨by omega, by omega⟩) (fun w15 hq16 hs17 => ?_)
        refine r_ld (pc' := 31) rfl rfl rfl rfl ?_
        refine r_ld (pc' := 33) rfl rfl rfl rfl ?_
        refine r_ld (pc' := 34) rfl rfl rfl rfl ?_
        have hb18 := rd_T_1 ht hz
        refine r_gi (pc' := 37) rfl rfl (sh_T ht) rfl (hst.2.2.1 _ _ (notS_c (by omega) (notS_c (by omega) notS_n))) ?_
        refine r_ige (pc' := 40) rfl rfl ⟨by omega, by omega⟩ ⟨by omega, by omega⟩ (fun hc19 => ?_) (fun hc19 => ?_)
        · skip
          refine r_lc1 (pc' := 48) rfl rfl ?_
          refine r_lmul (pc' := 49) rfl rfl ?_
          refine r_st (pc' := 50) (lv' := [(3, _), (0, _), (1, _), (2, _), (5, _)]) rfl rfl rfl rfl ?_
          refine r_inc (pc' := 53) (lv' := [(3, _), (0, _), (1, _), (2, _)]) rfl rfl rfl rfl rfl ?_
          refine r_go rfl ?_
          exact w_lv (sub_c rfl (sub_c rfl (sub_c rfl (sub_c rfl (sub_c rfl sub_n))))) rfl (ih0 (x3 * 1) (x5 + 1) z w15 ⟨by omega, by omega⟩ ⟨by omega, by omega⟩ hs17 (by omega))
        · skip
          refine r_ld (pc' := 41) rfl rfl rfl rfl ?_
          refine r_c0 (pc' := 42) rfl rfl ?_
          refine r_add (pc' := 43) rfl rfl ?_
          refine r_i2l (pc' := 44) rfl rfl ⟨by omega, by omega⟩ ?_
          refine r_go rfl ?_
          refine r_lmul (pc' := 49) rfl rfl ?_
          refine w_hl (fun v20 h21 => ?_)
          unfold inL at h21
          refine r_st (pc' := 50) (lv' := [(3, _), (0, _), (1, _), (2, _), (5, _)]) rfl rfl rfl rfl ?_
          refine r_inc (pc' := 53) (lv' := [(3, _), (0, _), (1, _), (2, _)]) rfl rfl rfl rfl rfl ?_
          refine r_go rfl ?_
          exact w_lv (sub_c rfl (sub_c rfl (sub_c rfl (sub_c rfl (sub_c rfl sub_n))))) rfl (ih0 v20 (x5 + 1) z w15 ⟨by omega, by omega⟩ ⟨by omega, by omega⟩ hs17 (by omega))
  refine w_m rfl rfl ?_
  refine r_ld (pc' := 1) rfl rfl rfl rfl ?_
  refine r_ld (pc' := 2) rfl rfl rfl rfl ?_
  refine r_pr (b := some t) (pc' := 5) rfl rfl sh_33 rfl rfl pq_u6 ?_
  refine r_ld (pc' := 6) rfl rfl rfl rfl ?_
  refine r_ld (pc' := 7) rfl rfl rfl rfl ?_
  refine r_pi (pc' := 10) rfl rfl sh_33 rfl rfl hst (inS_0 (by omega) (by omega) (by omega) (by omega)) (wr_33_2 ⟨by omega, by omega⟩) (fun z22 hq23 hs24 => ?_)
  refine r_lc1 (pc' := 11) rfl rfl ?_
  refine r_st (pc' := 12) (lv' := [(3, _), (0, _), (1, _), (2, _)]) rfl rfl rfl rfl ?_
  refine r_c0 (pc' := 13) rfl rfl ?_
  refine r_st (pc' := 15) (lv' := [(5, _), (3, _), (0, _), (1, _), (2, _)]) rfl rfl rfl rfl ?_
  exact w_lv (sub_c rfl (sub_c rfl (sub_c rfl (sub_c rfl (sub_c rfl sub_n))))) rfl ((key ((41 * (18 - 0) + 30 : Int).toNat + 1)) 1 0 z22 w0 ⟨by omega, by omega⟩ ⟨by omega, by omega⟩ hs24 (by omega))
/-- Counter countUp -/
abbrev S_11  : mS := [(34, 34, 0, 17)]
abbrev E_11 (t : Nat) (a1 : Int) (z0 w0 : mZ) (x y tx it mt tt : Option Nat) : Int → mZ → mZ → mP → Prop := fun v z w p => p = (pq x y tx it mt tt (some t)) ∧ 0 ≤ v ∧ v ≤ 1
theorem m_11 {d : Nat} {z0 w0 : mZ} {x y tx it mt tt : Option Nat} (t : Nat) (a1 : Int) (hz : rz z0) (hw : rw_ w0) (ha1 : (-1) ≤ a1 ∧ a1 ≤ 17) (ht : isT t) : wc (d + 1) 11 [.ref 33, .int (Int32.ofInt a1)] (mk z0 w0 (pq x y tx it mt tt (some t))) (poI S_11 z0 w0 (E_11 t a1 z0 w0 x y tx it mt tt)) := by
  have hst : st_ S_11 z0 w0 z0 w0 := st_rf hz hw
  have key : ∀ N : Nat, (∀ (x2 : Int) (z w : mZ), 0 ≤ x2 ∧ x2 ≤ 18 → st_ S_11 z0 w0 z w → 48 * (18 - x2) + 1003 < (N : Int) → wp_ (d) 11 3 (some .boolean) (4, [(0, .ref 33), (1, .int (Int32.ofInt a1)), (2, .int (Int32.ofInt x2))], [], mk z w (pq x y tx it mt tt (some t))) (poI S_11 z0 w0 (E_11 t a1 z0 w0 x y tx it mt tt))) ∧ (∀ (x2 : Int) (z w : mZ), (-1) ≤ x2 ∧ x2 ≤ 17 → st_ S_11 z0 w0 z w → 48 * (x2 - (-1)) + 29 < (N : Int) → wp_ (d) 11 3 (some .boolean) (30, [(0, .ref 33), (2, .int (Int32.ofInt x2))], [], mk z w (pq x y tx it mt tt (some t))) (poI S_11 z0 w0 (E_11 t a1 z0 w0 x y tx it mt tt))) := by
    intro N
    induction N with
    | zero =>
      refine ⟨?_, ?_⟩
      · intro x2 z w
        intros; exfalso; omega
      · intro x2 z w
        intros; exfalso; omega
    | succ N ih =>
      obtain ⟨ih0, ih1⟩ := ih
      refine ⟨?_, ?_⟩
      · intro x2 z w hx2 hst hM
        refine r_ld (pc' := 5) rfl rfl rfl rfl ?_
        refine r_ld (pc' := 6) rfl rfl rfl rfl ?_
        refine r_gr (b := t) (pc' := 9) rfl rfl sh_33 rfl pp_33_1 ?_
        have hb16 := rd_T_1 ht hz
        refine r_gi (pc' := 12) rfl rfl (sh_T ht) rfl (hst.2.2.1 _ _ (notS_c (by omega) notS_n)) ?_
        refine r_ige (pc' := 15) rfl rfl ⟨by omega, by omega⟩ ⟨by omega, by omega⟩ (fun hc17 => ?_) (fun hc17 => ?_)
        · skip
          refine r_ld (pc' := 29) rfl rfl rfl rfl ?_
          refine r_st (pc' := 30) (lv' := [(2, _), (0, _), (1, _)]) rfl rfl rfl rfl ?_
          exact w_lv (sub_c rfl (sub_c rfl sub_n)) rfl (ih1 a1 z w ⟨by omega, by omega⟩ hst (by omega))
        · skip
          refine r_ld (pc' := 16) rfl rfl rfl rfl ?_
          refine r_gr (b := 34) (pc' := 19) rfl rfl sh_33 rfl pp_33_0 ?_
          refine r_ld (pc' := 20) rfl rfl rfl rfl ?_
          refine r_lc0 (pc' := 21) rfl rfl ?_
          refine r_ls (pc' := 22) rfl rfl sh_34 rfl (by omega) (by omega) hst (inS_0 (by omega) (by omega) (by omega) (by omega)) (wr_34 ⟨by omega, by omega⟩) (fun w18 hq19 hs20 => ?_)
          refine r_inc (pc' := 25) (lv' := [(0, _), (1, _)]) rfl rfl rfl rfl rfl ?_
          refine r_go rfl ?_
          exact w_lv (sub_c rfl (sub_c rfl (sub_c rfl sub_n))) rfl (ih0 (x2 + 1) z w18 ⟨by omega, by omega⟩ hs20 (by omega))
      · intro x2 z w hx2 hst hM
        refine r_ld (pc' := 31) rfl rfl rfl rfl ?_
        refine r_zlt (pc' := 34) rfl rfl ⟨by omega, by omega⟩ (fun hc21 => ?_) (fun hc21 => ?_)
        · skip
          refine r_c0 (pc' := 75) rfl rfl ?_
          exact r_rz rfl (by omega) (po_I hst ⟨by decide, by decide⟩ ⟨rfl, by omega, by omega⟩)
        · skip
          refine r_ld (pc' := 35) rfl rfl rfl rfl ?_
          refine r_gr (b := 34) (pc' := 38) rfl rfl sh_33 rfl pp_33_0 ?_
          refine r_ld (pc' := 39) rfl rfl rfl rfl ?_
          have hb22 := rd_34 hst.2.1 (i := x2.toNat) (by omega)
          refine r_la (pc' := 40) rfl rfl sh_34 rfl (by omega) (by omega) rfl ?_
          refine r_ld (pc' := 41) rfl rfl rfl rfl ?_
          have hb23 := rd_33_2 hz
          refine r_gi (pc' := 44) rfl rfl sh_33 rfl (hst.2.2.1 _ _ (notS_c (by omega) notS_n)) ?_
          refine r_i2l (pc' := 45) rfl rfl ⟨by omega, by omega⟩ ?_
          refine r_lge (pc' := 49) rfl rfl rfl ⟨by omega, by omega⟩ ⟨by omega, by omega⟩ (fun hc24 => ?_) (fun hc24 => ?_)
          · skip
            refine r_ld (pc' := 62) rfl rfl rfl rfl ?_
            refine r_gr (b := 34) (pc' := 65) rfl rfl sh_33 rfl pp_33_0 ?_
            refine r_ld (pc' := 66) rfl rfl rfl rfl ?_
            refine r_lc0 (pc' := 67) rfl rfl ?_
            refine r_ls (pc' := 68) rfl rfl sh_34 rfl (by omega) (by omega) hst (inS_0 (by omega) (by omega) (by omega) (by omega)) (wr_34 ⟨by omega, by omega⟩) (fun w25 hq26 hs27 => ?_)
            refine r_inc (pc' := 71) (lv' := [(0, _)]) rfl rfl rfl rfl rfl ?_
            refine r_go rfl ?_
            exact w_lv (sub_c rfl (sub_c rfl sub_n)) rfl (ih1 (x2 + ((-1))) z w25 ⟨by omega, by omega⟩ hs27 (by omega))
          · skip
            refine r_ld (pc' := 50) rfl rfl rfl rfl ?_
            refine r_gr (b := 34) (pc' := 53) rfl rfl sh_33 rfl pp_33_0 ?_
            refine r_ld (pc' := 54) rfl rfl rfl rfl ?_
            refine r_al (pc' := 55) rfl rfl rfl rfl ?_
            refine r_la (pc' := 56) rfl rfl sh_34 rfl (by omega) (by omega) rfl ?_
            refine r_lc1 (pc' := 57) rfl rfl ?_
            refine r_ladd (pc' := 58) rfl rfl ?_
            refine r_ls (pc' := 59) rfl rfl sh_34 rfl (by omega) (by omega) hst (inS_0 (by omega) (by omega) (by omega) (by omega)) (wr_34 ⟨by omega, by omega⟩) (fun w28 hq29 hs30 => ?_)
            refine r_c0 (pc' := 60) rfl rfl ?_
            exact r_rz rfl (by omega) (po_I hs30 ⟨by decide, by decide⟩ ⟨rfl, by omega, by omega⟩)
  refine w_m rfl rfl ?_
  refine r_ld (pc' := 1) rfl rfl rfl rfl ?_
  refine r_c0 (pc' := 2) rfl rfl ?_
  refine r_add (pc' := 3) rfl rfl ?_
  refine r_st (pc' := 4) (lv' := [(2, _), (0, _), (1, _)]) rfl rfl rfl rfl ?_
  exact w_lv (sub_c rfl (sub_c rfl (sub_c rfl sub_n))) rfl ((key ((48 * (18 - (a1 + 1)) + 1003 : Int).toNat + 1)).1 (a1 + 1) z0 w0 ⟨by omega, by omega⟩ hst (by omega))
/-- Drawing slotOf -/
abbrev S_14  : mS := []
abbrev E_14 (t : Nat) (a1 : Int) (a2 : Int) (z0 w0 : mZ) (x y tx it mt tt ct : Option Nat) : Int → mZ → mZ → mP → Prop := fun v z w p => p = (pq x y tx it mt tt ct) ∧ z0 = z ∧ w0 = w ∧ (-1) ≤ v ∧ v ≤ 35
theorem m_14 {d : Nat} {z0 w0 : mZ} {x y tx it mt tt ct : Option Nat} (t : Nat) (a1 : Int) (a2 : Int) (hz : rz z0) (hw : rw_ w0) (ha1 : 0 ≤ a1 ∧ a1 ≤ 11) (ha2 : (-2147483648) ≤ a2 ∧ a2 ≤ 2147483647) (ht : isT t) : wc (d + 1) 14 [.ref t, .int (Int32.ofInt a1), .int (Int32.ofInt a2)] (mk z0 w0 (pq x y tx it mt tt ct)) (poI S_14 z0 w0 (E_14 t a1 a2 z0 w0 x y tx it mt tt ct)) := by
  have hst : st_ S_14 z0 w0 z0 w0 := st_rf hz hw
  have key : ∀ N : Nat, (∀ (x3 : Int) , 0 ≤ x3 ∧ x3 ≤ 36 → 23 * (36 - x3) + 18 < (N : Int) → wp_ (d) 14 4 (some .int) (4, [(0, .ref t), (1, .int (Int32.ofInt a1)), (2, .int (Int32.ofInt a2)), (3, .int (Int32.ofInt x3))], [], mk z0 w0 (pq x y tx it mt tt ct)) (poI S_14 z0 w0 (E_14 t a1 a2 z0 w0 x y tx it mt tt ct))) := by
    intro N
    induction N with
    | zero =>
      intro x3 
      intros; exfalso; omega
    | succ N ih =>
      have ih0 := ih; clear ih
      intro x3 hx3 hM
      refine r_ld (pc' := 5) rfl rfl rfl rfl ?_
      refine r_c0 (pc' := 6) rfl rfl ?_
      refine r_ld (pc' := 7) rfl rfl rfl rfl ?_
      refine r_mul (pc' := 8) rfl rfl ?_
      refine r_c0 (pc' := 9) rfl rfl ?_
      refine r_add (pc' := 10) rfl rfl ?_
      refine r_ige (pc' := 13) rfl rfl ⟨by omega, by omega⟩ ⟨by omega, by omega⟩ (fun hc4 => ?_) (fun hc4 => ?_)
      · skip
        refine r_c0 (pc' := 32) rfl rfl ?_
        exact r_ri rfl (po_I hst ⟨by decide, by decide⟩ ⟨rfl, rfl, rfl, by omega, by omega⟩)
      · skip
        refine r_ld (pc' := 14) rfl rfl rfl rfl ?_
        refine r_gr (b := t + 1) (pc' := 17) rfl rfl (sh_T ht) rfl (pp_T_5 ht) ?_
        refine r_ld (pc' := 18) rfl rfl rfl rfl ?_
        have hb5 := rd_T1 ht hz (i := x3.toNat) (by omega)
        refine r_ia (pc' := 19) rfl rfl (sh_T1 ht) rfl (by omega) (by omega) rfl ?_
        refine r_ld (pc' := 20) rfl rfl rfl rfl ?_
        refine r_ine (pc' := 23) rfl rfl ⟨by omega, by omega⟩ ⟨by omega, by omega⟩ (fun hc6 => ?_) (fun hc6 => ?_)
        · skip
          refine r_inc (pc' := 28) (lv' := [(0, _), (1, _), (2, _)]) rfl rfl rfl rfl rfl ?_
          refine r_go rfl ?_
          exact w_lv (sub_c rfl (sub_c rfl (sub_c rfl (sub_c rfl sub_n)))) rfl (ih0 (x3 + 1) ⟨by omega, by omega⟩ (by omega))
        · skip
          refine r_ld (pc' := 24) rfl rfl rfl rfl ?_
          exact r_ri rfl (po_I hst ⟨by omega, by omega⟩ ⟨rfl, rfl, rfl, by omega, by omega⟩)
  refine w_m rfl rfl ?_
  refine r_c0 (pc' := 1) rfl rfl ?_
  refine r_ld (pc' := 2) rfl rfl rfl rfl ?_
  refine r_mul (pc' := 3) rfl rfl ?_
  refine r_st (pc' := 4) (lv' := [(3, _), (0, _), (1, _), (2, _)]) rfl rfl rfl rfl ?_
  exact w_lv (sub_c rfl (sub_c rfl (sub_c rfl (sub_c rfl sub_n)))) rfl ((key ((23 * (36 - (3 * a1)) + 18 : Int).toNat + 1)) (3 * a1) ⟨by omega, by omega⟩ (by omega))
/-- Drawing leaveOut -/
abbrev S_15  : mS := [(35, 35, 4, 4), (37, 37, 0, 1599), (35, 35, 3, 3)]
abbrev E_15 (t : Nat) (z0 w0 : mZ) (x y tx it mt tt ct : Option Nat) : mZ → mZ → mP → Prop := fun z w p => p = (pq x y tx it mt tt ct) ∧ (z 35 3 ≤ z 35 4)
theorem m_15 {d : Nat} {z0 w0 : mZ} {x y tx it mt tt ct : Option Nat} (t : Nat) (hz : rz z0) (hw : rw_ w0) (ht : isT t) (hft : z0 35 3 = 0) : wc (d + 1) 15 [.ref 35, .ref t] (mk z0 w0 (pq x y tx it mt tt ct)) (poV S_15 z0 w0 (E_15 t z0 w0 x y tx it mt tt ct)) := by
  have hst : st_ S_15 z0 w0 z0 w0 := st_rf hz hw
  have hz32 := rd_35_3 hz
  have key : ∀ N : Nat, (∀ (x2 x3 : Int) (z w : mZ), 0 ≤ x2 ∧ x2 ≤ 1600 → 0 ≤ x3 ∧ x3 ≤ 1600 → st_ S_15 z0 w0 z w → z 35 3 = z0 35 3 → z 35 4 = z0 35 4 → (x2 ≤ x3 ∧ z 35 3 = 0) → 85 * (1600 - x3) + 136249 < (N : Int) → wp_ (d) 15 4 none (7, [(0, .ref 35), (1, .ref t), (2, .int (Int32.ofInt x2)), (3, .int (Int32.ofInt x3))], [], mk z w (pq x y tx it mt tt ct)) (poV S_15 z0 w0 (E_15 t z0 w0 x y tx it mt tt ct))) ∧ (∀ (x2 x3 : Int) (z w : mZ), 0 ≤ x2 ∧ x2 ≤ 1600 → 0 ≤ x3 ∧ x3 ≤ 1600 → 1 ≤ z0 35 4 ∧ z0 35 4 ≤ 1600 → st_ S_15 z0 w0 z w → z 35 3 = z0 35 3 → z 35 4 = z0 35 4 → (x2 ≤ x3 ∧ x3 < z 35 4 ∧ z 35 3 = 0) → 85 * (1600 - x3) + 136227 < (N : Int) → wp_ (d) 15 4 none (47, [(0, .ref 35), (1, .ref t), (2, .int (Int32.ofInt x2)), (3, .int (Int32.ofInt x3))], [], mk z w (pq x y tx it mt tt ct)) (poV S_15 z0 w0 (E_15 t z0 w0 x y tx it mt tt ct))) ∧ (∀ (x3 : Int) (z w : mZ), 0 ≤ x3 ∧ x3 ≤ 1600 → st_ S_15 z0 w0 z w → (z 35 3 ≤ z 35 4) → 85 * (1600 - x3) + 41 < (N : Int) → wp_ (d) 15 4 none (75, [(0, .ref 35), (1, .ref t), (3, .int (Int32.ofInt x3))], [], mk z w (pq x y tx it mt tt ct)) (poV S_15 z0 w0 (E_15 t z0 w0 x y tx it mt tt ct))) := by
    intro N
    induction N with
    | zero =>
      refine ⟨?_, ?_, ?_⟩
      · intro x2 x3 z w
        intros; exfalso; omega
      · intro x2 x3 z w
        intros; exfalso; omega
      · intro x3 z w
        intros; exfalso; omega
    | succ N ih =>
      obtain ⟨ih0, ih1, ih2⟩ := ih
      refine ⟨?_, ?_, ?_⟩
      · intro x2 x3 z w hx2 hx3 hst un_z_35_3 un_z_35_4 as1 hM
        refine r_ld (pc' := 8) rfl rfl rfl rfl ?_
        refine r_ld (pc' := 9) rfl rfl rfl rfl ?_
        have hb33 := rd_35_4 hz
        refine r_gi (pc' := 12) rfl rfl sh_35 rfl un_z_35_4 ?_
        refine r_ige (pc' := 15) rfl rfl ⟨by omega, by omega⟩ ⟨by omega, by omega⟩ (fun hc34 => ?_) (fun hc34 => ?_)
        · skip
          refine r_ld (pc' := 69) rfl rfl rfl rfl ?_
          refine r_ld (pc' := 70) rfl rfl rfl rfl ?_
          refine r_pi (pc' := 73) rfl rfl sh_35 rfl rfl hst (inS_0 (by omega) (by omega) (by omega) (by omega)) (wr_35_4 ⟨by omega, by omega⟩) (fun z35 hq36 hs37 => ?_)
          refine r_c0 (pc' := 74) rfl rfl ?_
          refine r_st (pc' := 75) (lv' := [(3, _), (0, _), (1, _), (2, _)]) rfl rfl rfl rfl ?_
          have hb38 := rd_35_3 hz
          have hf39 : z35 35 3 = z0 35 3 := (((congrFun (congrFun hq36 _) _).trans (mu_ne (by omega))).trans un_z_35_3)
          have hf40 : z35 35 4 = x2 := ((congrFun (congrFun hq36 _) _).trans mu_eq)
          exact w_lv (sub_c rfl (sub_c rfl (sub_c rfl sub_n))) rfl (ih2 0 z35 w ⟨by omega, by omega⟩ hs37 (by first | omega | assumption | (simp only [hf39, hf40]; assumption)) (by omega))
        · skip
          refine r_ld (pc' := 16) rfl rfl rfl rfl ?_
          refine r_zle (pc' := 19) rfl rfl ⟨by omega, by omega⟩ (fun hc41 => ?_) (fun hc41 => ?_)
          · skip
            have hf42 : z 35 4 = z0 35 4 := un_z_35_4
            have hb43 := rd_35_3 hz
            have hf44 : z 35 3 = z0 35 3 := un_z_35_3
            exact w_lv (sub_c rfl (sub_c rfl (sub_c rfl (sub_c rfl sub_n)))) rfl (ih1 x2 x3 z w ⟨by omega, by omega⟩ ⟨by omega, by omega⟩ ⟨by omega, by omega⟩ hst (un_z_35_3) (un_z_35_4) (by first | omega | assumption | (simp only [hf42, hf44]; assumption)) (by omega))
          · skip
            refine r_ld (pc' := 20) rfl rfl rfl rfl ?_
            refine r_gr (b := t + 2) (pc' := 23) rfl rfl (sh_T ht) rfl (pp_T_6 ht) ?_
            refine r_ld (pc' := 24) rfl rfl rfl rfl ?_
            refine r_gr (b := 37) (pc' := 27) rfl rfl sh_35 rfl pp_35_1 ?_
            refine r_ld (pc' := 28) rfl rfl rfl rfl ?_
            refine r_c0 (pc' := 29) rfl rfl ?_
            refine r_sub (pc' := 30) rfl rfl ?_
            have hb45 := rd_37 hst.1 (i := (x2 - 1).toNat) (by omega)
            refine r_ia (pc' := 31) rfl rfl sh_37 rfl (by omega) (by omega) rfl ?_
            have hb46 := rd_T2 ht hz (i := (z 37 (x2 - 1).toNat).toNat) (by omega)
            refine r_ia (pc' := 32) rfl rfl (sh_T2 ht) rfl (by omega) (by omega) (hst.2.2.1 _ _ (notS_c (by omega) (notS_c (by omega) (notS_c (by omega) notS_n)))) ?_
            refine r_ld (pc' := 33) rfl rfl rfl rfl ?_
            refine r_gr (b := 37) (pc' := 36) rfl rfl sh_35 rfl pp_35_1 ?_
            refine r_ld (pc' := 37) rfl rfl rfl rfl ?_
            have hb47 := rd_37 hst.1 (i := x3.toNat) (by omega)
            refine r_ia (pc' := 38) rfl rfl sh_37 rfl (by omega) (by omega) rfl ?_
            refine r_ine (pc' := 41) rfl rfl ⟨by omega, by omega⟩ ⟨by omega, by omega⟩ (fun hc48 => ?_) (fun hc48 => ?_)
            · skip
              have hf49 : z 35 4 = z0 35 4 := un_z_35_4
              have hb50 := rd_35_3 hz
              have hf51 : z 35 3 = z0 35 3 := un_z_35_3
              exact w_lv (sub_c rfl (sub_c rfl (sub_c rfl (sub_c rfl sub_n)))) rfl (ih1 x2 x3 z w ⟨by omega, by omega⟩ ⟨by omega, by omega⟩ ⟨by omega, by omega⟩ hst (un_z_35_3) (un_z_35_4) (by first | omega | assumption | (simp only [hf49, hf51]; assumption)) (by omega))
            · skip
              refine r_inc (pc' := 44) (lv' := [(0, _), (1, _), (3, _)]) rfl rfl rfl rfl rfl ?_
              refine r_go rfl ?_
              refine r_inc (pc' := 65) (lv' := [(2, _), (0, _), (1, _)]) rfl rfl rfl rfl rfl ?_
              refine r_go rfl ?_
              have hb52 := rd_35_3 hz
              have hf53 : z 35 3 = z0 35 3 := un_z_35_3
              exact w_lv (sub_c rfl (sub_c rfl (sub_c rfl (sub_c rfl sub_n)))) rfl (ih0 (x2 + ((-1))) (x3 + 1) z w ⟨by omega, by omega⟩ ⟨by omega, by omega⟩ hst (un_z_35_3) (un_z_35_4) (by first | omega | assumption | (simp only [hf53]; assumption)) (by omega))
      · intro x2 x3 z w hx2 hx3 hz0_0 hst un_z_35_3 un_z_35_4 as1 hM
        refine r_ld (pc' := 48) rfl rfl rfl rfl ?_
        refine r_gr (b := 37) (pc' := 51) rfl rfl sh_35 rfl pp_35_1 ?_
        refine r_ld (pc' := 52) rfl rfl rfl rfl ?_
        refine r_ld (pc' := 53) rfl rfl rfl rfl ?_
        refine r_gr (b := 37) (pc' := 56) rfl rfl sh_35 rfl pp_35_1 ?_
        refine r_ld (pc' := 57) rfl rfl rfl rfl ?_
        have hb54 := rd_37 hst.1 (i := x3.toNat) (by omega)
        refine r_ia (pc' := 58) rfl rfl sh_37 rfl (by omega) (by omega) rfl ?_
        refine r_is (pc' := 59) rfl rfl sh_37 rfl (by omega) (by omega) hst (inS_s (inS_0 (by omega) (by omega) (by omega) (by omega))) (wr_37 ⟨by omega, by omega⟩) (fun z55 hq56 hs57 => ?_)
        refine r_inc (pc' := 62) (lv' := [(0, _), (1, _), (3, _)]) rfl rfl rfl rfl rfl ?_
        refine r_inc (pc' := 65) (lv' := [(2, _), (0, _), (1, _)]) rfl rfl rfl rfl rfl ?_
        refine r_go rfl ?_
        have hb58 := rd_35_3 hz
        have hf59 : z55 35 3 = z0 35 3 := (((congrFun (congrFun hq56 _) _).trans (mu_ne (by omega))).trans un_z_35_3)
        exact w_lv (sub_c rfl (sub_c rfl (sub_c rfl (sub_c rfl sub_n)))) rfl (ih0 (x2 + 1) (x3 + 1) z55 w ⟨by omega, by omega⟩ ⟨by omega, by omega⟩ hs57 ((((congrFun (congrFun hq56 _) _).trans (mu_ne (by omega))).trans un_z_35_3)) ((((congrFun (congrFun hq56 _) _).trans (mu_ne (by omega))).trans un_z_35_4)) (by first | omega | assumption | (simp only [hf59]; assumption)) (by omega))
      · intro x3 z w hx3 hst as1 hM
        refine r_ld (pc' := 76) rfl rfl rfl rfl ?_
        refine r_cs (pc' := 79) rfl (by decide) rfl ?_
        refine r_ige (pc' := 82) rfl rfl ⟨by omega, by omega⟩ ⟨by decide, by decide⟩ (fun hc60 => ?_) (fun hc60 => ?_)
        · skip
          have hb61 := rd_35_3 hst.1
          have hb62 := rd_35_4 hst.1
          exact r_ret rfl (po_V hst ⟨rfl, (by first | omega | assumption)⟩)
        · skip
          refine r_ld (pc' := 83) rfl rfl rfl rfl ?_
          have hb63 := rd_35_4 hst.1
          refine r_gi (pc' := 86) rfl rfl sh_35 rfl rfl ?_
          refine r_ld (pc' := 87) rfl rfl rfl rfl ?_
          have hb64 := rd_35_3 hst.1
          refine r_gi (pc' := 90) rfl rfl sh_35 rfl rfl ?_
          refine r_sub (pc' := 91) rfl rfl ?_
          refine r_c0 (pc' := 92) rfl rfl ?_
          refine r_ilt (pc' := 95) rfl rfl ⟨by omega, by omega⟩ ⟨by decide, by decide⟩ (fun hc65 => ?_) (fun hc65 => ?_)
          · skip
            exact r_ret rfl (po_V hst ⟨rfl, (by first | omega | assumption)⟩)
          · skip
            refine r_ld (pc' := 96) rfl rfl rfl rfl ?_
            refine r_gr (b := t + 2) (pc' := 99) rfl rfl (sh_T ht) rfl (pp_T_6 ht) ?_
            refine r_ld (pc' := 100) rfl rfl rfl rfl ?_
            refine r_gr (b := 37) (pc' := 103) rfl rfl sh_35 rfl pp_35_1 ?_
            refine r_ld (pc' := 104) rfl rfl rfl rfl ?_
            refine r_gi (pc' := 107) rfl rfl sh_35 rfl rfl ?_
            refine r_c0 (pc' := 108) rfl rfl ?_
            refine r_sub (pc' := 109) rfl rfl ?_
            have hb66 := rd_37 hst.1 (i := ((z 35 4) - 1).toNat) (by omega)
            refine r_ia (pc' := 110) rfl rfl sh_37 rfl (by omega) (by omega) rfl ?_
            have hb67 := rd_T2 ht hz (i := (z 37 ((z 35 4) - 1).toNat).toNat) (by omega)
            refine r_ia (pc' := 111) rfl rfl (sh_T2 ht) rfl (by omega) (by omega) (hst.2.2.1 _ _ (notS_c (by omega) (notS_c (by omega) (notS_c (by omega) notS_n)))) ?_
            refine r_ld (pc' := 112) rfl rfl rfl rfl ?_
            refine r_gr (b := 37) (pc' := 115) rfl rfl sh_35 rfl pp_35_1 ?_
            refine r_ld (pc' := 116) rfl rfl rfl rfl ?_
            refine r_gi (pc' := 119) rfl rfl sh_35 rfl rfl ?_
            have hb68 := rd_37 hst.1 (i := (z 35 3).toNat) (by omega)
            refine r_ia (pc' := 120) rfl rfl sh_37 rfl (by omega) (by omega) rfl ?_
            refine r_ieq (pc' := 123) rfl rfl ⟨by omega, by omega⟩ ⟨by omega, by omega⟩ (fun hc69 => ?_) (fun hc69 => ?_)
            · skip
              refine r_ld (pc' := 125) rfl rfl rfl rfl ?_
              refine r_al (pc' := 126) rfl rfl rfl rfl ?_
              refine r_gi (pc' := 129) rfl rfl sh_35 rfl rfl ?_
              refine r_c0 (pc' := 130) rfl rfl ?_
              refine r_add (pc' := 131) rfl rfl ?_
              refine r_pi (pc' := 134) rfl rfl sh_35 rfl rfl hst (inS_s (inS_s (inS_0 (by omega) (by omega) (by omega) (by omega)))) (wr_35_3 ⟨by omega, by omega⟩) (fun z70 hq71 hs72 => ?_)
              refine r_ld (pc' := 135) rfl rfl rfl rfl ?_
              refine r_al (pc' := 136) rfl rfl rfl rfl ?_
              refine r_gi (pc' := 139) rfl rfl sh_35 rfl ((congrFun (congrFun hq71 _) _).trans (mu_ne (by omega))) ?_
              refine r_c0 (pc' := 140) rfl rfl ?_
              refine r_sub (pc' := 141) rfl rfl ?_
              refine r_pi (pc' := 144) rfl rfl sh_35 rfl rfl hs72 (inS_0 (by omega) (by omega) (by omega) (by omega)) (wr_35_4 ⟨by omega, by omega⟩) (fun z73 hq74 hs75 => ?_)
              refine r_inc (pc' := 147) (lv' := [(0, _), (1, _)]) rfl rfl rfl rfl rfl ?_
              refine r_go rfl ?_
              have hf76 : z73 35 3 = (z 35 3) + 1 := (((congrFun (congrFun hq74 _) _).trans (mu_ne (by omega))).trans ((congrFun (congrFun hq71 _) _).trans mu_eq))
              have hf77 : z73 35 4 = (z 35 4) - 1 := ((congrFun (congrFun hq74 _) _).trans mu_eq)
              exact w_lv (sub_c rfl (sub_c rfl (sub_c rfl sub_n))) rfl (ih2 (x3 + 1) z73 w ⟨by omega, by omega⟩ hs75 (by first | omega | assumption | (simp only [hf76, hf77]; assumption)) (by omega))
            · skip
              exact r_ret rfl (po_V hst ⟨rfl, (by first | omega | assumption)⟩)
  refine w_m rfl rfl ?_
  refine r_c0 (pc' := 1) rfl rfl ?_
  refine r_st (pc' := 2) (lv' := [(2, _), (0, _), (1, _)]) rfl rfl rfl rfl ?_
  refine r_ld (pc' := 3) rfl rfl rfl rfl ?_
  have hb78 := rd_35_3 hz
  refine r_gi (pc' := 6) rfl rfl sh_35 rfl rfl ?_
  refine r_st (pc' := 7) (lv' := [(3, _), (2, _), (0, _), (1, _)]) rfl rfl rfl rfl ?_
  have hb79 := rd_35_4 hz
  exact w_lv (sub_c rfl (sub_c rfl (sub_c rfl (sub_c rfl sub_n)))) rfl ((key ((85 * (1600 - (z0 35 3)) + 136249 : Int).toNat + 1)).1 0 (z0 35 3) z0 w0 ⟨by omega, by omega⟩ ⟨by omega, by omega⟩ hst (rfl) (rfl) (by first | omega | assumption) (by omega))
/-- Drawing left -/
abbrev S_16  : mS := []
abbrev E_16  (z0 w0 : mZ) (x y tx it mt tt ct : Option Nat) : Int → mZ → mZ → mP → Prop := fun v z w p => p = (pq x y tx it mt tt ct) ∧ z0 = z ∧ w0 = w ∧ (-1600) ≤ v ∧ v ≤ 1600 ∧ (v = z0 35 4 - z0 35 3)
theorem m_16 {d : Nat} {z0 w0 : mZ} {x y tx it mt tt ct : Option Nat}  (hz : rz z0) (hw : rw_ w0) : wc (d + 1) 16 [.ref 35] (mk z0 w0 (pq x y tx it mt tt ct)) (poI S_16 z0 w0 (E_16  z0 w0 x y tx it mt tt ct)) := by
  have hst : st_ S_16 z0 w0 z0 w0 := st_rf hz hw
  have hz3 := rd_35_3 hz
  have hz4 := rd_35_4 hz
  refine w_m rfl rfl ?_
  refine r_ld (pc' := 1) rfl rfl rfl rfl ?_
  have hb5 := rd_35_4 hz
  refine r_gi (pc' := 4) rfl rfl sh_35 rfl rfl ?_
  refine r_ld (pc' := 5) rfl rfl rfl rfl ?_
  have hb6 := rd_35_3 hz
  refine r_gi (pc' := 8) rfl rfl sh_35 rfl rfl ?_
  refine r_sub (pc' := 9) rfl rfl ?_
  exact r_ri rfl (po_I hst ⟨by omega, by omega⟩ ⟨rfl, rfl, rfl, by omega, by omega, (by first | omega | assumption)⟩)
/-- Reader refuse -/
abbrev S_33  : mS := [(3, 3, 0, 0), (3, 3, 1, 1)]
abbrev E_33 (a1 : Int) (a2 : Int) (z0 w0 : mZ) (x y tx it mt tt ct : Option Nat) : mZ → mZ → mP → Prop := fun z w p => p = (pq x y tx it mt tt ct) ∧ (z 3 0 = a1)
theorem m_33 {d : Nat} {z0 w0 : mZ} {x y tx it mt tt ct : Option Nat} (a1 : Int) (a2 : Int) (hz : rz z0) (hw : rw_ w0) (ha1 : (-2147483648) ≤ a1 ∧ a1 ≤ 2147483647) (ha2 : (-2147483648) ≤ a2 ∧ a2 ≤ 2147483647) : wc (d + 1) 33 [.ref 3, .int (Int32.ofInt a1), .int (Int32.ofInt a2)] (mk z0 w0 (pq x y tx it mt tt ct)) (poV S_33 z0 w0 (E_33 a1 a2 z0 w0 x y tx it mt tt ct)) := by
  have hst : st_ S_33 z0 w0 z0 w0 := st_rf hz hw
  refine w_m rfl rfl ?_
  refine r_ld (pc' := 1) rfl rfl rfl rfl ?_
  refine r_ld (pc' := 2) rfl rfl rfl rfl ?_
  refine r_pi (pc' := 5) rfl rfl sh_3 rfl rfl hst (inS_0 (by omega) (by omega) (by omega) (by omega)) (wr_3_0 ⟨by omega, by omega⟩) (fun z8 hq9 hs10 => ?_)
  refine r_ld (pc' := 6) rfl rfl rfl rfl ?_
  refine r_ld (pc' := 7) rfl rfl rfl rfl ?_
  refine r_pi (pc' := 10) rfl rfl sh_3 rfl rfl hs10 (inS_s (inS_0 (by omega) (by omega) (by omega) (by omega))) (wr_3_1 ⟨by omega, by omega⟩) (fun z11 hq12 hs13 => ?_)
  have hf14 : z11 3 0 = a1 := (((congrFun (congrFun hq12 _) _).trans (mu_ne (by omega))).trans ((congrFun (congrFun hq9 _) _).trans mu_eq))
  exact r_ret rfl (po_V hs13 ⟨rfl, (by first | omega | assumption | (simp only [hf14]; assumption))⟩)
/-- Reader byteAt -/
abbrev S_43  : mS := []
abbrev E_43 (t : Nat) (a1 : Int) (z0 w0 : mZ) (x y mt tt ct : Option Nat) : Int → mZ → mZ → mP → Prop := fun v z w p => p = (pq x y (some 2) (some t) mt tt ct) ∧ z0 = z ∧ w0 = w ∧ (-128) ≤ v ∧ v ≤ 127 ∧ ((v ≠ 0 → 0 ≤ a1 ∧ a1 < z0 3 3) ∧ (0 ≤ a1 → a1 < z0 3 3 → v = z0 2 a1.toNat))
theorem m_43 {d : Nat} {z0 w0 : mZ} {x y mt tt ct : Option Nat} (t : Nat) (a1 : Int) (hz : rz z0) (hw : rw_ w0) (ha1 : (-2147483648) ≤ a1 ∧ a1 ≤ 2147483647) (ht : isT t) : wc (d + 1) 43 [.ref 3, .int (Int32.ofInt a1)] (mk z0 w0 (pq x y (some 2) (some t) mt tt ct)) (poI S_43 z0 w0 (E_43 t a1 z0 w0 x y mt tt ct)) := by
  have hst : st_ S_43 z0 w0 z0 w0 := st_rf hz hw
  have hz5 := rd_3_3 hz
  refine w_m rfl rfl ?_
  refine r_ld (pc' := 1) rfl rfl rfl rfl ?_
  refine r_zlt (pc' := 4) rfl rfl ⟨by omega, by omega⟩ (fun hc6 => ?_) (fun hc6 => ?_)
  · skip
    refine r_c0 (pc' := 22) rfl rfl ?_
    exact r_ri rfl (po_I hst ⟨by decide, by decide⟩ ⟨rfl, rfl, rfl, by omega, by omega, (by first | omega | assumption)⟩)
  · skip
    refine r_ld (pc' := 5) rfl rfl rfl rfl ?_
    refine r_ld (pc' := 6) rfl rfl rfl rfl ?_
    have hb7 := rd_3_3 hz
    refine r_gi (pc' := 9) rfl rfl sh_3 rfl rfl ?_
    refine r_ige (pc' := 12) rfl rfl ⟨by omega, by omega⟩ ⟨by omega, by omega⟩ (fun hc8 => ?_) (fun hc8 => ?_)
    · skip
      refine r_c0 (pc' := 22) rfl rfl ?_
      exact r_ri rfl (po_I hst ⟨by decide, by decide⟩ ⟨rfl, rfl, rfl, by omega, by omega, (by first | omega | assumption)⟩)
    · skip
      refine r_ld (pc' := 13) rfl rfl rfl rfl ?_
      refine r_gr (b := 2) (pc' := 16) rfl rfl sh_3 rfl pp_3_2 ?_
      refine r_ld (pc' := 17) rfl rfl rfl rfl ?_
      have hb9 := rd_2 hz (i := a1.toNat) (by omega)
      refine r_ba (pc' := 18) rfl rfl sh_2 (Or.inl rfl) rfl (by omega) (by omega) rfl ?_
      refine r_go rfl ?_
      exact r_ri rfl (po_I hst ⟨by omega, by omega⟩ ⟨rfl, rfl, rfl, by omega, by omega, (by first | omega | assumption)⟩)
/-- Reader isLetter -/
abbrev S_44  : mS := []
abbrev E_44 (a0 : Int) (z0 w0 : mZ) (x y tx it mt tt ct : Option Nat) : Int → mZ → mZ → mP → Prop := fun v z w p => p = (pq x y tx it mt tt ct) ∧ z0 = z ∧ w0 = w ∧ 0 ≤ v ∧ v ≤ 1 ∧ ((v = 1 ∧ 97 ≤ a0 ∧ a0 ≤ 122) ∨ (v = 0 ∧ (a0 < 97 ∨ 122 < a0)))
theorem m_44 {d : Nat} {z0 w0 : mZ} {x y tx it mt tt ct : Option Nat} (a0 : Int) (hz : rz z0) (hw : rw_ w0) (ha0 : (-2147483648) ≤ a0 ∧ a0 ≤ 2147483647) : wc (d + 1) 44 [.int (Int32.ofInt a0)] (mk z0 w0 (pq x y tx it mt tt ct)) (poI S_44 z0 w0 (E_44 a0 z0 w0 x y tx it mt tt ct)) := by
  have hst : st_ S_44 z0 w0 z0 w0 := st_rf hz hw
  refine w_m rfl rfl ?_
  refine r_ld (pc' := 1) rfl rfl rfl rfl ?_
  refine r_cb (pc' := 3) rfl (by decide) rfl ?_
  refine r_ilt (pc' := 6) rfl rfl ⟨by omega, by omega⟩ ⟨by decide, by decide⟩ (fun hc3 => ?_) (fun hc3 => ?_)
  · skip
    refine r_c0 (pc' := 17) rfl rfl ?_
    exact r_rz rfl (by omega) (po_I hst ⟨by decide, by decide⟩ ⟨rfl, rfl, rfl, by omega, by omega, (by first | omega | assumption)⟩)
  · skip
    refine r_ld (pc' := 7) rfl rfl rfl rfl ?_
    refine r_cb (pc' := 9) rfl (by decide) rfl ?_
    refine r_igt (pc' := 12) rfl rfl ⟨by omega, by omega⟩ ⟨by decide, by decide⟩ (fun hc4 => ?_) (fun hc4 => ?_)
    · skip
      refine r_c0 (pc' := 17) rfl rfl ?_
      exact r_rz rfl (by omega) (po_I hst ⟨by decide, by decide⟩ ⟨rfl, rfl, rfl, by omega, by omega, (by first | omega | assumption)⟩)
    · skip
      refine r_c0 (pc' := 13) rfl rfl ?_
      refine r_go rfl ?_
      exact r_rz rfl (by omega) (po_I hst ⟨by decide, by decide⟩ ⟨rfl, rfl, rfl, by omega, by omega, (by first | omega | assumption)⟩)
/-- Reader isDigit -/
abbrev S_45  : mS := []
abbrev E_45 (a0 : Int) (z0 w0 : mZ) (x y tx it mt tt ct : Option Nat) : Int → mZ → mZ → mP → Prop := fun v z w p => p = (pq x y tx it mt tt ct) ∧ z0 = z ∧ w0 = w ∧ 0 ≤ v ∧ v ≤ 1 ∧ ((v = 1 ∧ 48 ≤ a0 ∧ a0 ≤ 57) ∨ (v = 0 ∧ (a0 < 48 ∨ 57 < a0)))
theorem m_45 {d : Nat} {z0 w0 : mZ} {x y tx it mt tt ct : Option Nat} (a0 : Int) (hz : rz z0) (hw : rw_ w0) (ha0 : (-2147483648) ≤ a0 ∧ a0 ≤ 2147483647) : wc (d + 1) 45 [.int (Int32.ofInt a0)] (mk z0 w0 (pq x y tx it mt tt ct)) (poI S_45 z0 w0 (E_45 a0 z0 w0 x y tx it mt tt ct)) := by
  have hst : st_ S_45 z0 w0 z0 w0 := st_rf hz hw
  refine w_m rfl rfl ?_
  refine r_ld (pc' := 1) rfl rfl rfl rfl ?_
  refine r_cb (pc' := 3) rfl (by decide) rfl ?_
  refine r_ilt (pc' := 6) rfl rfl ⟨by omega, by omega⟩ ⟨by decide, by decide⟩ (fun hc3 => ?_) (fun hc3 => ?_)
  · skip
    refine r_c0 (pc' := 17) rfl rfl ?_
    exact r_rz rfl (by omega) (po_I hst ⟨by decide, by decide⟩ ⟨rfl, rfl, rfl, by omega, by omega, (by first | omega | assumption)⟩)
  · skip
    refine r_ld (pc' := 7) rfl rfl rfl rfl ?_
    refine r_cb (pc' := 9) rfl (by decide) rfl ?_
    refine r_igt (pc' := 12) rfl rfl ⟨by omega, by omega⟩ ⟨by decide, by decide⟩ (fun hc4 => ?_) (fun hc4 => ?_)
    · skip
      refine r_c0 (pc' := 17) rfl rfl ?_
      exact r_rz rfl (by omega) (po_I hst ⟨by decide, by decide⟩ ⟨rfl, rfl, rfl, by omega, by omega, (by first | omega | assumption)⟩)
    · skip
      refine r_c0 (pc' := 13) rfl rfl ?_
      refine r_go rfl ?_
      exact r_rz rfl (by omega) (po_I hst ⟨by decide, by decide⟩ ⟨rfl, rfl, rfl, by omega, by omega, (by first | omega | assumption)⟩)
/-- Reader kindOfWord -/
abbrev S_48  : mS := []
abbrev E_48  (z0 w0 : mZ) (x y tx it mt tt ct : Option Nat) : Int → mZ → mZ → mP → Prop := fun v z w p => p = (pq x y tx it mt tt ct) ∧ z0 = z ∧ w0 = w ∧ 1 ≤ v ∧ v ≤ 10 ∧ (v = 1 ∨ 6 ≤ v)
theorem m_48 {d : Nat} {z0 w0 : mZ} {x y tx it mt tt ct : Option Nat}  (hz : rz z0) (hw : rw_ w0) : wc (d + 1) 48 [.ref 3] (mk z0 w0 (pq x y tx it mt tt ct)) (poI S_48 z0 w0 (E_48  z0 w0 x y tx it mt tt ct)) := by
  have hst : st_ S_48 z0 w0 z0 w0 := st_rf hz hw
  refine w_m rfl rfl ?_
  refine r_ld (pc' := 1) rfl rfl rfl rfl ?_
  have hb7 := rd_3_10 hw
  refine r_gl (pc' := 4) rfl rfl sh_3 rfl rfl ?_
  refine r_al (pc' := 7) rfl rfl rfl rfl ?_
  refine r_lne (pc' := 11) rfl rfl rfl ⟨by omega, by omega⟩ ⟨by decide, by decide⟩ (fun hc8 => ?_) (fun hc8 => ?_)
  · skip
    refine r_ld (pc' := 15) rfl rfl rfl rfl ?_
    refine r_gl (pc' := 18) rfl rfl sh_3 rfl rfl ?_
    refine r_al (pc' := 21) rfl rfl rfl rfl ?_
    refine r_lne (pc' := 25) rfl rfl rfl ⟨by omega, by omega⟩ ⟨by decide, by decide⟩ (fun hc9 => ?_) (fun hc9 => ?_)
    · skip
      refine r_ld (pc' := 29) rfl rfl rfl rfl ?_
      refine r_gl (pc' := 32) rfl rfl sh_3 rfl rfl ?_
      refine r_al (pc' := 35) rfl rfl rfl rfl ?_
      refine r_lne (pc' := 39) rfl rfl rfl ⟨by omega, by omega⟩ ⟨by decide, by decide⟩ (fun hc10 => ?_) (fun hc10 => ?_)
      · skip
        refine r_ld (pc' := 43) rfl rfl rfl rfl ?_
        refine r_gl (pc' := 46) rfl rfl sh_3 rfl rfl ?_
        refine r_al (pc' := 49) rfl rfl rfl rfl ?_
        refine r_lne (pc' := 53) rfl rfl rfl ⟨by omega, by omega⟩ ⟨by decide, by decide⟩ (fun hc11 => ?_) (fun hc11 => ?_)
        · skip
          refine r_ld (pc' := 57) rfl rfl rfl rfl ?_
          refine r_gl (pc' := 60) rfl rfl sh_3 rfl rfl ?_
          refine r_al (pc' := 63) rfl rfl rfl rfl ?_
          refine r_lne (pc' := 67) rfl rfl rfl ⟨by omega, by omega⟩ ⟨by decide, by decide⟩ (fun hc12 => ?_) (fun hc12 => ?_)
          · skip
            refine r_c0 (pc' := 73) rfl rfl ?_
            exact r_ri rfl (po_I hst ⟨by decide, by decide⟩ ⟨rfl, rfl, rfl, by omega, by omega, (by first | omega | assumption)⟩)
          · skip
            refine r_cb (pc' := 69) rfl (by decide) rfl ?_
            refine r_go rfl ?_
            exact r_ri rfl (po_I hst ⟨by decide, by decide⟩ ⟨rfl, rfl, rfl, by omega, by omega, (by first | omega | assumption)⟩)
        · skip
          refine r_cb (pc' := 55) rfl (by decide) rfl ?_
          exact r_ri rfl (po_I hst ⟨by decide, by decide⟩ ⟨rfl, rfl, rfl, by omega, by omega, (by first | omega | assumption)⟩)
      · skip
        refine r_cb (pc' := 41) rfl (by decide) rfl ?_
        exact r_ri rfl (po_I hst ⟨by decide, by decide⟩ ⟨rfl, rfl, rfl, by omega, by omega, (by first | omega | assumption)⟩)
    · skip
      refine r_cb (pc' := 27) rfl (by decide) rfl ?_
      exact r_ri rfl (po_I hst ⟨by decide, by decide⟩ ⟨rfl, rfl, rfl, by omega, by omega, (by first | omega | assumption)⟩)
  · skip
    refine r_cb (pc' := 13) rfl (by decide) rfl ?_
    exact r_ri rfl (po_I hst ⟨by decide, by decide⟩ ⟨rfl, rfl, rfl, by omega, by omega, (by first | omega | assumption)⟩)
/-- Road edgeFlipped -/
abbrev S_51  : mS := []
abbrev E_51 (rk : Nat) (a1 : Int) (z0 w0 : mZ) (x y tx it mt tt ct : Option Nat) : Int → mZ → mZ → mP → Prop := fun v z w p => p = (pq x y tx it mt tt ct) ∧ z0 = z ∧ w0 = w ∧ 0 ≤ v ∧ v ≤ 31
theorem m_51 {d : Nat} {z0 w0 : mZ} {x y tx it mt tt ct : Option Nat} (rk : Nat) (a1 : Int) (hz : rz z0) (hw : rw_ w0) (ha1 : 0 ≤ a1 ∧ a1 ≤ 1781) (hrk : rk < 8) : wc (d + 1) 51 [.ref (17 + 2 * rk), .int (Int32.ofInt a1)] (mk z0 w0 (pq x y tx it mt tt ct)) (poI S_51 z0 w0 (E_51 rk a1 z0 w0 x y tx it mt tt ct)) := by
  have hst : st_ S_51 z0 w0 z0 w0 := st_rf hz hw
  refine w_m rfl rfl ?_
  refine r_ld (pc' := 1) rfl rfl rfl rfl ?_
  refine r_gr (b := 18 + 2 * rk) (pc' := 4) rfl rfl (sh_R (k := rk) (by omega)) rfl (pp_R (k := rk) (by omega)) ?_
  refine r_ld (pc' := 5) rfl rfl rfl rfl ?_
  have hb2 := rd_RF (k := rk) (by omega) hz (i := a1.toNat) (by omega)
  unfold ok_f at hb2
  refine r_ia (pc' := 6) rfl rfl (sh_RF (k := rk) (by omega)) rfl (by omega) (by omega) rfl ?_
  refine r_cb (pc' := 8) rfl (by decide) rfl ?_
  refine r_msk (m := 31) (n := 5) (pc' := 9) rfl rfl ⟨by omega, by omega⟩ (by decide) (by decide) ?_
  exact r_ri rfl (po_I hst ⟨by omega, by omega⟩ ⟨rfl, rfl, rfl, by omega, by omega⟩)
/-- Table forget -/
abbrev S_62  : mS := [(102, 102, 2, 2), (102, 102, 3, 3)]
abbrev E_62  (z0 w0 : mZ) (x y tx it mt tt ct : Option Nat) : mZ → mZ → mP → Prop := fun z w p => p = (pq x y tx it mt tt ct)
theorem m_62 {d : Nat} {z0 w0 : mZ} {x y tx it mt tt ct : Option Nat}  (hz : rz z0) (hw : rw_ w0) : wc (d + 1) 62 [.ref 102] (mk z0 w0 (pq x y tx it mt tt ct)) (poV S_62 z0 w0 (E_62  z0 w0 x y tx it mt tt ct)) := by
  have hst : st_ S_62 z0 w0 z0 w0 := st_rf hz hw
  refine w_m rfl rfl ?_
  refine r_ld (pc' := 1) rfl rfl rfl rfl ?_
  refine r_c0 (pc' := 2) rfl rfl ?_
  refine r_pi (pc' := 5) rfl rfl sh_102 rfl rfl hst (inS_0 (by omega) (by omega) (by omega) (by omega)) (wr_102_2 ⟨by omega, by omega⟩) (fun z7 hq8 hs9 => ?_)
  refine r_ld (pc' := 6) rfl rfl rfl rfl ?_
  refine r_c0 (pc' := 7) rfl rfl ?_
  refine r_pi (pc' := 10) rfl rfl sh_102 rfl rfl hs9 (inS_s (inS_0 (by omega) (by omega) (by omega) (by omega))) (wr_102_3 ⟨by omega, by omega⟩) (fun z10 hq11 hs12 => ?_)
  exact r_ret rfl (po_V hs12 rfl)
/-- Table isOf -/
abbrev S_63  : mS := []
abbrev E_63 (a1 : Int) (a2 : Int) (z0 w0 : mZ) (x y tx it mt tt ct : Option Nat) : Int → mZ → mZ → mP → Prop := fun v z w p => p = (pq x y tx it mt tt ct) ∧ z0 = z ∧ w0 = w ∧ 0 ≤ v ∧ v ≤ 1
theorem m_63 {d : Nat} {z0 w0 : mZ} {x y tx it mt tt ct : Option Nat} (a1 : Int) (a2 : Int) (hz : rz z0) (hw : rw_ w0) (ha1 : (-2147483648) ≤ a1 ∧ a1 ≤ 2147483647) (ha2 : (-2147483648) ≤ a2 ∧ a2 ≤ 2147483647) : wc (d + 1) 63 [.ref 102, .int (Int32.ofInt a1), .int (Int32.ofInt a2)] (mk z0 w0 (pq x y tx it mt tt ct)) (poI S_63 z0 w0 (E_63 a1 a2 z0 w0 x y tx it mt tt ct)) := by
  have hst : st_ S_63 z0 w0 z0 w0 := st_rf hz hw
  refine w_m rfl rfl ?_
  refine r_ld (pc' := 1) rfl rfl rfl rfl ?_
  have hb5 := rd_102_2 hz
  refine r_gi (pc' := 4) rfl rfl sh_102 rfl rfl ?_
  refine r_ld (pc' := 5) rfl rfl rfl rfl ?_
  refine r_ine (pc' := 8) rfl rfl ⟨by omega, by omega⟩ ⟨by omega, by omega⟩ (fun hc6 => ?_) (fun hc6 => ?_)
  · skip
    refine r_c0 (pc' := 21) rfl rfl ?_
    exact r_rz rfl (by omega) (po_I hst ⟨by decide, by decide⟩ ⟨rfl, rfl, rfl, by omega, by omega⟩)
  · skip
    refine r_ld (pc' := 9) rfl rfl rfl rfl ?_
    have hb7 := rd_102_3 hz
    refine r_gi (pc' := 12) rfl rfl sh_102 rfl rfl ?_
    refine r_ld (pc' := 13) rfl rfl rfl rfl ?_
    refine r_ine (pc' := 16) rfl rfl ⟨by omega, by omega⟩ ⟨by omega, by omega⟩ (fun hc8 => ?_) (fun hc8 => ?_)
    · skip
      refine r_c0 (pc' := 21) rfl rfl ?_
      exact r_rz rfl (by omega) (po_I hst ⟨by decide, by decide⟩ ⟨rfl, rfl, rfl, by omega, by omega⟩)
    · skip
      refine r_c0 (pc' := 17) rfl rfl ?_
      refine r_go rfl ?_
      exact r_rz rfl (by omega) (po_I hst ⟨by decide, by decide⟩ ⟨rfl, rfl, rfl, by omega, by omega⟩)
/-- Table setOne -/
abbrev S_65  : mS := [(104, 121, 0, 17)]
abbrev E_65  (z0 w0 : mZ) (x y tx it mt tt ct : Option Nat) : mZ → mZ → mP → Prop := fun z w p => p = (pq x y tx it mt tt ct)
theorem m_65 {d : Nat} {z0 w0 : mZ} {x y tx it mt tt ct : Option Nat}  (hz : rz z0) (hw : rw_ w0) : wc (d + 1) 65 [.ref 102, .ref 103] (mk z0 w0 (pq x y tx it mt tt ct)) (poV S_65 z0 w0 (E_65  z0 w0 x y tx it mt tt ct)) := by
  have hst : st_ S_65 z0 w0 z0 w0 := st_rf hz hw
  have key : ∀ N : Nat, (∀ (x2 : Int) (z w : mZ), 0 ≤ x2 ∧ x2 ≤ 18 → st_ S_65 z0 w0 z w → 588 * (18 - x2) + 585 < (N : Int) → wp_ (d) 65 4 none (2, [(0, .ref 102), (1, .ref 103), (2, .int (Int32.ofInt x2))], [], mk z w (pq x y tx it mt tt ct)) (poV S_65 z0 w0 (E_65  z0 w0 x y tx it mt tt ct))) ∧ (∀ (x2 x3 : Int) (z w : mZ), 0 ≤ x2 ∧ x2 ≤ 17 → 0 ≤ x3 ∧ x3 ≤ 18 → 1 ≤ z0 102 1 ∧ z0 102 1 ≤ 18 → st_ S_65 z0 w0 z w → 588 * (18 - x2) + 28 * (18 - x3) + 19 < (N : Int) → wp_ (d) 65 4 none (12, [(0, .ref 102), (1, .ref 103), (2, .int (Int32.ofInt x2)), (3, .int (Int32.ofInt x3))], [], mk z w (pq x y tx it mt tt ct)) (poV S_65 z0 w0 (E_65  z0 w0 x y tx it mt tt ct))) := by
    intro N
    induction N with
    | zero =>
      refine ⟨?_, ?_⟩
      · intro x2 z w
        intros; exfalso; omega
      · intro x2 x3 z w
        intros; exfalso; omega
    | succ N ih =>
      obtain ⟨ih0, ih1⟩ := ih
      refine ⟨?_, ?_⟩
      · intro x2 z w hx2 hst hM
        refine r_ld (pc' := 3) rfl rfl rfl rfl ?_
        refine r_ld (pc' := 4) rfl rfl rfl rfl ?_
        have hb11 := rd_102_1 hz
        refine r_gi (pc' := 7) rfl rfl sh_102 rfl (hst.2.2.1 _ _ (notS_c (by omega) notS_n)) ?_
        refine r_ige (pc' := 10) rfl rfl ⟨by omega, by omega⟩ ⟨by omega, by omega⟩ (fun hc12 => ?_) (fun hc12 => ?_)
        · skip
          exact r_ret rfl (po_V hst rfl)
        · skip
          refine r_c0 (pc' := 11) rfl rfl ?_
          refine r_st (pc' := 12) (lv' := [(3, _), (0, _), (1, _), (2, _)]) rfl rfl rfl rfl ?_
          exact w_lv (sub_c rfl (sub_c rfl (sub_c rfl (sub_c rfl sub_n)))) rfl (ih1 x2 0 z w ⟨by omega, by omega⟩ ⟨by omega, by omega⟩ ⟨by omega, by omega⟩ hst (by omega))
      · intro x2 x3 z w hx2 hx3 hz0_0 hst hM
        refine r_ld (pc' := 13) rfl rfl rfl rfl ?_
        refine r_ld (pc' := 14) rfl rfl rfl rfl ?_
        refine r_gi (pc' := 17) rfl rfl sh_102 rfl (hst.2.2.1 _ _ (notS_c (by omega) notS_n)) ?_
        refine r_ige (pc' := 20) rfl rfl ⟨by omega, by omega⟩ ⟨by omega, by omega⟩ (fun hc13 => ?_) (fun hc13 => ?_)
        · skip
          refine r_inc (pc' := 44) (lv' := [(0, _), (1, _), (3, _)]) rfl rfl rfl rfl rfl ?_
          refine r_go rfl ?_
          exact w_lv (sub_c rfl (sub_c rfl (sub_c rfl sub_n))) rfl (ih0 (x2 + 1) z w ⟨by omega, by omega⟩ hst (by omega))
        · skip
          refine r_ld (pc' := 21) rfl rfl rfl rfl ?_
          refine r_ld (pc' := 22) rfl rfl rfl rfl ?_
          refine r_aa (b := 104 + x2.toNat) (pc' := 23) rfl rfl sh_103 (Or.inl rfl) rfl (by omega) (by omega) (pa_103 (by omega)) ?_
          refine r_ld (pc' := 24) rfl rfl rfl rfl ?_
          refine r_ld (pc' := 25) rfl rfl rfl rfl ?_
          refine r_ld (pc' := 26) rfl rfl rfl rfl ?_
          refine r_ine (pc' := 29) rfl rfl ⟨by omega, by omega⟩ ⟨by omega, by omega⟩ (fun hc14 => ?_) (fun hc14 => ?_)
          · skip
            refine r_lc0 (pc' := 34) rfl rfl ?_
            refine r_ls (pc' := 35) rfl rfl (sh_104 (k := x2.toNat) (by omega)) rfl (by omega) (by omega) hst (inS_0 (by omega) (by omega) (by omega) (by omega)) (wr_104 (k := x2.toNat) (by omega) ⟨by omega, by omega⟩) (fun w15 hq16 hs17 => ?_)
            refine r_inc (pc' := 38) (lv' := [(0, _), (1, _), (2, _)]) rfl rfl rfl rfl rfl ?_
            refine r_go rfl ?_
            exact w_lv (sub_c rfl (sub_c rfl (sub_c rfl (sub_c rfl sub_n)))) rfl (ih1 x2 (x3 + 1) z w15 ⟨by omega, by omega⟩ ⟨by omega, by omega⟩ ⟨by omega, by omega⟩ hs17 (by omega))
          · skip
            refine r_lc1 (pc' := 30) rfl rfl ?_
            refine r_go rfl ?_
            refine r_ls (pc' := 35) rfl rfl (sh_104 (k := x2.toNat) (by omega)) rfl (by omega) (by omega) hst (inS_0 (by omega) (by omega) (by omega) (by omega)) (wr_104 (k := x2.toNat) (by omega) ⟨by omega, by omega⟩) (fun w18 hq19 hs20 => ?_)
            refine r_inc (pc' := 38) (lv' := [(0, _), (1, _), (2, _)]) rfl rfl rfl rfl rfl ?_
            refine r_go rfl ?_
            exact w_lv (sub_c rfl (sub_c rfl (sub_c rfl (sub_c rfl sub_n)))) rfl (ih1 x2 (x3 + 1) z w18 ⟨by omega, by omega⟩ ⟨by omega, by omega⟩ ⟨by omega, by omega⟩ hs20 (by omega))
  refine w_m rfl rfl ?_
  refine r_c0 (pc' := 1) rfl rfl ?_
  refine r_st (pc' := 2) (lv' := [(2, _), (0, _), (1, _)]) rfl rfl rfl rfl ?_
  exact w_lv (sub_c rfl (sub_c rfl (sub_c rfl sub_n))) rfl ((key ((588 * (18 - 0) + 585 : Int).toNat + 1)).1 0 z0 w0 ⟨by omega, by omega⟩ hst (by omega))
/-- Table setOne -/
abbrev S_65p  : mS := [(123, 140, 0, 17)]
abbrev E_65p  (z0 w0 : mZ) (x y tx it mt tt ct : Option Nat) : mZ → mZ → mP → Prop := fun z w p => p = (pq x y tx it mt tt ct)
theorem m_65p {d : Nat} {z0 w0 : mZ} {x y tx it mt tt ct : Option Nat}  (hz : rz z0) (hw : rw_ w0) : wc (d + 1) 65 [.ref 102, .ref 122] (mk z0 w0 (pq x y tx it mt tt ct)) (poV S_65p z0 w0 (E_65p  z0 w0 x y tx it mt tt ct)) := by
  have hst : st_ S_65p z0 w0 z0 w0 := st_rf hz hw
  have key : ∀ N : Nat, (∀ (x2 : Int) (z w : mZ), 0 ≤ x2 ∧ x2 ≤ 18 → st_ S_65p z0 w0 z w → 588 * (18 - x2) + 585 < (N : Int) → wp_ (d) 65 4 none (2, [(0, .ref 102), (1, .ref 122), (2, .int (Int32.ofInt x2))], [], mk z w (pq x y tx it mt tt ct)) (poV S_65p z0 w0 (E_65p  z0 w0 x y tx it mt tt ct))) ∧ (∀ (x2 x3 : Int) (z w : mZ), 0 ≤ x2 ∧ x2 ≤ 17 → 0 ≤ x3 ∧ x3 ≤ 18 → 1 ≤ z0 102 1 ∧ z0 102 1 ≤ 18 → st_ S_65p z0 w0 z w → 588 * (18 - x2) + 28 * (18 - x3) + 19 < (N : Int) → wp_ (d) 65 4 none (12, [(0, .ref 102), (1, .ref 122), (2, .int (Int32.ofInt x2)), (3, .int (Int32.ofInt x3))], [], mk z w (pq x y tx it mt tt ct)) (poV S_65p z0 w0 (E_65p  z0 w0 x y tx it mt tt ct))) := by
    intro N
    induction N with
    | zero =>
      refine ⟨?_, ?_⟩
      · intro x2 z w
        intros; exfalso; omega
      · intro x2 x3 z w
        intros; exfalso; omega
    | succ N ih =>
      obtain ⟨ih0, ih1⟩ := ih
      refine ⟨?_, ?_⟩
      · intro x2 z w hx2 hst hM
        refine r_ld (pc' := 3) rfl rfl rfl rfl ?_
        refine r_ld (pc' := 4) rfl rfl rfl rfl ?_
        have hb11 := rd_102_1 hz
        refine r_gi (pc' := 7) rfl rfl sh_102 rfl (hst.2.2.1 _ _ (notS_c (by omega) notS_n)) ?_
        refine r_ige (pc' := 10) rfl rfl ⟨by omega, by omega⟩ ⟨by omega, by omega⟩ (fun hc12 => ?_) (fun hc12 => ?_)
        · skip
          exact r_ret rfl (po_V hst rfl)
        · skip
          refine r_c0 (pc' := 11) rfl rfl ?_
          refine r_st (pc' := 12) (lv' := [(3, _), (0, _), (1, _), (2, _)]) rfl rfl rfl rfl ?_
          exact w_lv (sub_c rfl (sub_c rfl (sub_c rfl (sub_c rfl sub_n)))) rfl (ih1 x2 0 z w ⟨by omega, by omega⟩ ⟨by omega, by omega⟩ ⟨by omega, by omega⟩ hst (by omega))
      · intro x2 x3 z w hx2 hx3 hz0_0 hst hM
        refine r_ld (pc' := 13) rfl rfl rfl rfl ?_
        refine r_ld (pc' := 14) rfl rfl rfl rfl ?_
        refine r_gi (pc' := 17) rfl rfl sh_102 rfl (hst.2.2.1 _ _ (notS_c (by omega) notS_n)) ?_
        refine r_ige (pc' := 20) rfl rfl ⟨by omega, by omega⟩ ⟨by omega, by omega⟩ (fun hc13 => ?_) (fun hc13 => ?_)
        · skip
          refine r_inc (pc' := 44) (lv' := [(0, _), (1, _), (3, _)]) rfl rfl rfl rfl rfl ?_
          refine r_go rfl ?_
          exact w_lv (sub_c rfl (sub_c rfl (sub_c rfl sub_n))) rfl (ih0 (x2 + 1) z w ⟨by omega, by omega⟩ hst (by omega))
        · skip
          refine r_ld (pc' := 21) rfl rfl rfl rfl ?_
          refine r_ld (pc' := 22) rfl rfl rfl rfl ?_
          refine r_aa (b := 123 + x2.toNat) (pc' := 23) rfl rfl sh_122 (Or.inl rfl) rfl (by omega) (by omega) (pa_122 (by omega)) ?_
          refine r_ld (pc' := 24) rfl rfl rfl rfl ?_
          refine r_ld (pc' := 25) rfl rfl rfl rfl ?_
          refine r_ld (pc' := 26) rfl rfl rfl rfl ?_
          refine r_ine (pc' := 29) rfl rfl ⟨by omega, by omega⟩ ⟨by omega, by omega⟩ (fun hc14 => ?_) (fun hc14 => ?_)
          · skip
            refine r_lc0 (pc' := 34) rfl rfl ?_
            refine r_ls (pc' := 35) rfl rfl (sh_123 (k := x2.toNat) (by omega)) rfl (by omega) (by omega) hst (inS_0 (by omega) (by omega) (by omega) (by omega)) (wr_123 (k := x2.toNat) (by omega) ⟨by omega, by omega⟩) (fun w15 hq16 hs17 => ?_)
            refine r_inc (pc' := 38) (lv' := [(0, _), (1, _), (2, _)]) rfl rfl rfl rfl rfl ?_
            refine r_go rfl ?_
            exact w_lv (sub_c rfl (sub_c rfl (sub_c rfl (sub_c rfl sub_n)))) rfl (ih1 x2 (x3 + 1) z w15 ⟨by omega, by omega⟩ ⟨by omega, by omega⟩ ⟨by omega, by omega⟩ hs17 (by omega))
          · skip
            refine r_lc1 (pc' := 30) rfl rfl ?_
            refine r_go rfl ?_
            refine r_ls (pc' := 35) rfl rfl (sh_123 (k := x2.toNat) (by omega)) rfl (by omega) (by omega) hst (inS_0 (by omega) (by omega) (by omega) (by omega)) (wr_123 (k := x2.toNat) (by omega) ⟨by omega, by omega⟩) (fun w18 hq19 hs20 => ?_)
            refine r_inc (pc' := 38) (lv' := [(0, _), (1, _), (2, _)]) rfl rfl rfl rfl rfl ?_
            refine r_go rfl ?_
            exact w_lv (sub_c rfl (sub_c rfl (sub_c rfl (sub_c rfl sub_n)))) rfl (ih1 x2 (x3 + 1) z w18 ⟨by omega, by omega⟩ ⟨by omega, by omega⟩ ⟨by omega, by omega⟩ hs20 (by omega))
  refine w_m rfl rfl ?_
  refine r_c0 (pc' := 1) rfl rfl ?_
  refine r_st (pc' := 2) (lv' := [(2, _), (0, _), (1, _)]) rfl rfl rfl rfl ?_
  exact w_lv (sub_c rfl (sub_c rfl (sub_c rfl sub_n))) rfl ((key ((588 * (18 - 0) + 585 : Int).toNat + 1)).1 0 z0 w0 ⟨by omega, by omega⟩ hst (by omega))
/-- Table changeRow -/
abbrev S_66  : mS := [(104, 121, 0, 17)]
abbrev E_66 (a1 : Int) (a2 : Int) (a3 : Int) (z0 w0 : mZ) (x y tx it mt tt ct : Option Nat) : mZ → mZ → mP → Prop := fun z w p => p = (pq x y tx it mt tt ct)
theorem m_66 {d : Nat} {z0 w0 : mZ} {x y tx it mt tt ct : Option Nat} (a1 : Int) (a2 : Int) (a3 : Int) (hz : rz z0) (hw : rw_ w0) (ha1 : 0 ≤ a1 ∧ a1 ≤ 17) (ha2 : 0 ≤ a2 ∧ a2 ≤ 17) (ha3 : 0 ≤ a3 ∧ a3 ≤ 17) : wc (d + 1) 66 [.ref 102, .int (Int32.ofInt a1), .int (Int32.ofInt a2), .int (Int32.ofInt a3)] (mk z0 w0 (pq x y tx it mt tt ct)) (poV S_66 z0 w0 (E_66 a1 a2 a3 z0 w0 x y tx it mt tt ct)) := by
  have hst : st_ S_66 z0 w0 z0 w0 := st_rf hz hw
  have key : ∀ N : Nat, (∀ (x4 : Int) (z w : mZ), 0 ≤ x4 ∧ x4 ≤ 18 → st_ S_66 z0 w0 z w → 39 * (18 - x4) + 36 < (N : Int) → wp_ (d) 66 5 none (3, [(0, .ref 102), (1, .int (Int32.ofInt a1)), (2, .int (Int32.ofInt a2)), (3, .int (Int32.ofInt a3)), (4, .int (Int32.ofInt x4))], [], mk z w (pq x y tx it mt tt ct)) (poV S_66 z0 w0 (E_66 a1 a2 a3 z0 w0 x y tx it mt tt ct))) := by
    intro N
    induction N with
    | zero =>
      intro x4 z w
      intros; exfalso; omega
    | succ N ih =>
      have ih0 := ih; clear ih
      intro x4 z w hx4 hst hM
      refine r_ld (pc' := 5) rfl rfl rfl rfl ?_
      refine r_ld (pc' := 6) rfl rfl rfl rfl ?_
      have hb22 := rd_102_1 hz
      refine r_gi (pc' := 9) rfl rfl sh_102 rfl (hst.2.2.1 _ _ (notS_c (by omega) notS_n)) ?_
      refine r_ige (pc' := 12) rfl rfl ⟨by omega, by omega⟩ ⟨by omega, by omega⟩ (fun hc23 => ?_) (fun hc23 => ?_)
      · skip
        exact r_ret rfl (po_V hst rfl)
      · skip
        refine r_ld (pc' := 13) rfl rfl rfl rfl ?_
        refine r_gr (b := 103) (pc' := 16) rfl rfl sh_102 rfl pp_102_5 ?_
        refine r_ld (pc' := 17) rfl rfl rfl rfl ?_
        refine r_aa (b := 104 + a1.toNat) (pc' := 18) rfl rfl sh_103 (Or.inl rfl) rfl (by omega) (by omega) (pa_103 (by omega)) ?_
        refine r_ld (pc' := 20) rfl rfl rfl rfl ?_
        refine r_ld (pc' := 21) rfl rfl rfl rfl ?_
        refine r_gr (b := 103) (pc' := 24) rfl rfl sh_102 rfl pp_102_5 ?_
        refine r_ld (pc' := 25) rfl rfl rfl rfl ?_
        refine r_aa (b := 104 + a2.toNat) (pc' := 26) rfl rfl sh_103 (Or.inl rfl) rfl (by omega) (by omega) (pa_103 (by omega)) ?_
        refine r_ld (pc' := 28) rfl rfl rfl rfl ?_
        have hb24 := rd_104 (k := a2.toNat) (by omega) hst.2.1 (i := x4.toNat) (by omega)
        refine r_la (pc' := 29) rfl rfl (sh_104 (k := a2.toNat) (by omega)) rfl (by omega) (by omega) rfl ?_
        refine r_ld (pc' := 30) rfl rfl rfl rfl ?_
        refine r_gr (b := 103) (pc' := 33) rfl rfl sh_102 rfl pp_102_5 ?_
        refine r_ld (pc' := 34) rfl rfl rfl rfl ?_
        refine r_aa (b := 104 + a3.toNat) (pc' := 35) rfl rfl sh_103 (Or.inl rfl) rfl (by omega) (by omega) (pa_103 (by omega)) ?_
        refine r_ld (pc' := 37) rfl rfl rfl rfl ?_
        have hb25 := rd_104 (k := a3.toNat) (by omega) hst.2.1 (i := x4.toNat) (by omega)
        refine r_la (pc' := 38) rfl rfl (sh_104 (k := a3.toNat) (by omega)) rfl (by omega) (by omega) rfl ?_
        refine r_ladd (pc' := 39) rfl rfl ?_
        refine w_hxl (fun v26 h27 h28 => ?_)
        refine r_ld (pc' := 40) rfl rfl rfl rfl ?_
        refine r_gr (b := 103) (pc' := 43) rfl rfl sh_102 rfl pp_102_5 ?_
        refine r_ld (pc' := 44) rfl rfl rfl rfl ?_
        refine r_aa (b := 104 + a1.toNat) (pc' := 45) rfl rfl sh_103 (Or.inl rfl) rfl (by omega) (by omega) (pa_103 (by omega)) ?_
        refine r_ld (pc' := 47) rfl rfl rfl rfl ?_
        have hb29 := rd_104 (k := a1.toNat) (by omega) hst.2.1 (i := x4.toNat) (by omega)
        refine r_la (pc' := 48) rfl rfl (sh_104 (k := a1.toNat) (by omega)) rfl (by omega) (by omega) rfl ?_
        refine r_lsub (pc' := 49) rfl rfl ?_
        refine w_hxl (fun v30 h31 h32 => ?_)
        refine r_al (pc' := 52) rfl rfl rfl rfl ?_
        refine r_ladd (pc' := 53) rfl rfl ?_
        refine w_hxl (fun v33 h34 h35 => ?_)
        refine r_al (pc' := 56) rfl rfl rfl rfl ?_
        refine r_lrmh (pc' := 57) rfl rfl ⟨by decide, by decide⟩ (by decide) (fun v36 h37 h38 h39 => ?_)
        refine r_ls (pc' := 58) rfl rfl (sh_104 (k := a1.toNat) (by omega)) rfl (by omega) (by omega) hst (inS_0 (by omega) (by omega) (by omega) (by omega)) (wr_104 (k := a1.toNat) (by omega) ⟨by omega, by omega⟩) (fun w40 hq41 hs42 => ?_)
        refine r_inc (pc' := 61) (lv' := [(0, _), (1, _), (2, _), (3, _)]) rfl rfl rfl rfl rfl ?_
        refine r_go rfl ?_
        exact w_lv (sub_c rfl (sub_c rfl (sub_c rfl (sub_c rfl (sub_c rfl sub_n))))) rfl (ih0 (x4 + 1) z w40 ⟨by omega, by omega⟩ hs42 (by omega))
  refine w_m rfl rfl ?_
  refine r_c0 (pc' := 1) rfl rfl ?_
  refine r_st (pc' := 3) (lv' := [(4, _), (0, _), (1, _), (2, _), (3, _)]) rfl rfl rfl rfl ?_
  exact w_lv (sub_c rfl (sub_c rfl (sub_c rfl (sub_c rfl (sub_c rfl sub_n))))) rfl ((key ((39 * (18 - 0) + 36 : Int).toNat + 1)) 0 z0 w0 ⟨by omega, by omega⟩ hst (by omega))
/-- Table exchangeRows -/
abbrev S_67  : mS := [(104, 121, 0, 17)]
abbrev E_67 (a1 : Int) (a2 : Int) (z0 w0 : mZ) (x y tx it mt tt ct : Option Nat) : mZ → mZ → mP → Prop := fun z w p => p = (pq x y tx it mt tt ct)
theorem m_67 {d : Nat} {z0 w0 : mZ} {x y tx it mt tt ct : Option Nat} (a1 : Int) (a2 : Int) (hz : rz z0) (hw : rw_ w0) (ha1 : 0 ≤ a1 ∧ a1 ≤ 17) (ha2 : 0 ≤ a2 ∧ a2 ≤ 17) : wc (d + 1) 67 [.ref 102, .int (Int32.ofInt a1), .int (Int32.ofInt a2)] (mk z0 w0 (pq x y tx it mt tt ct)) (poV S_67 z0 w0 (E_67 a1 a2 z0 w0 x y tx it mt tt ct)) := by
  have hst : st_ S_67 z0 w0 z0 w0 := st_rf hz hw
  have key : ∀ N : Nat, (∀ (x3 : Int) (z w : mZ), 0 ≤ x3 ∧ x3 ≤ 18 → st_ S_67 z0 w0 z w → 35 * (18 - x3) + 32 < (N : Int) → wp_ (d) 67 6 none (2, [(0, .ref 102), (1, .int (Int32.ofInt a1)), (2, .int (Int32.ofInt a2)), (3, .int (Int32.ofInt x3))], [], mk z w (pq x y tx it mt tt ct)) (poV S_67 z0 w0 (E_67 a1 a2 z0 w0 x y tx it mt tt ct))) := by
    intro N
    induction N with
    | zero =>
      intro x3 z w
      intros; exfalso; omega
    | succ N ih =>
      have ih0 := ih; clear ih
      intro x3 z w hx3 hst hM
      refine r_ld (pc' := 3) rfl rfl rfl rfl ?_
      refine r_ld (pc' := 4) rfl rfl rfl rfl ?_
      have hb11 := rd_102_1 hz
      refine r_gi (pc' := 7) rfl rfl sh_102 rfl (hst.2.2.1 _ _ (notS_c (by omega) notS_n)) ?_
      refine r_ige (pc' := 10) rfl rfl ⟨by omega, by omega⟩ ⟨by omega, by omega⟩ (fun hc12 => ?_) (fun hc12 => ?_)
      · skip
        exact r_ret rfl (po_V hst rfl)
      · skip
        refine r_ld (pc' := 11) rfl rfl rfl rfl ?_
        refine r_gr (b := 103) (pc' := 14) rfl rfl sh_102 rfl pp_102_5 ?_
        refine r_ld (pc' := 15) rfl rfl rfl rfl ?_
        refine r_aa (b := 104 + a1.toNat) (pc' := 16) rfl rfl sh_103 (Or.inl rfl) rfl (by omega) (by omega) (pa_103 (by omega)) ?_
        refine r_ld (pc' := 17) rfl rfl rfl rfl ?_
        have hb13 := rd_104 (k := a1.toNat) (by omega) hst.2.1 (i := x3.toNat) (by omega)
        refine r_la (pc' := 18) rfl rfl (sh_104 (k := a1.toNat) (by omega)) rfl (by omega) (by omega) rfl ?_
        refine r_st (pc' := 20) (lv' := [(4, _), (0, _), (1, _), (2, _), (3, _)]) rfl rfl rfl rfl ?_
        refine r_ld (pc' := 21) rfl rfl rfl rfl ?_
        refine r_gr (b := 103) (pc' := 24) rfl rfl sh_102 rfl pp_102_5 ?_
        refine r_ld (pc' := 25) rfl rfl rfl rfl ?_
        refine r_aa (b := 104 + a1.toNat) (pc' := 26) rfl rfl sh_103 (Or.inl rfl) rfl (by omega) (by omega) (pa_103 (by omega)) ?_
        refine r_ld (pc' := 27) rfl rfl rfl rfl ?_
        refine r_ld (pc' := 28) rfl rfl rfl rfl ?_
        refine r_gr (b := 103) (pc' := 31) rfl rfl sh_102 rfl pp_102_5 ?_
        refine r_ld (pc' := 32) rfl rfl rfl rfl ?_
        refine r_aa (b := 104 + a2.toNat) (pc' := 33) rfl rfl sh_103 (Or.inl rfl) rfl (by omega) (by omega) (pa_103 (by omega)) ?_
        refine r_ld (pc' := 34) rfl rfl rfl rfl ?_
        have hb14 := rd_104 (k := a2.toNat) (by omega) hst.2.1 (i := x3.toNat) (by omega)
        refine r_la (pc' := 35) rfl rfl (sh_104 (k := a2.toNat) (by omega)) rfl (by omega) (by omega) rfl ?_
        refine r_ls (pc' := 36) rfl rfl (sh_104 (k := a1.toNat) (by omega)) rfl (by omega) (by omega) hst (inS_0 (by omega) (by omega) (by omega) (by omega)) (wr_104 (k := a1.toNat) (by omega) ⟨by omega, by omega⟩) (fun w15 hq16 hs17 => ?_)
        refine r_ld (pc' := 37) rfl rfl rfl rfl ?_
        refine r_gr (b := 103) (pc' := 40) rfl rfl sh_102 rfl pp_102_5 ?_
        refine r_ld (pc' := 41) rfl rfl rfl rfl ?_
        refine r_aa (b := 104 + a2.toNat) (pc' := 42) rfl rfl sh_103 (Or.inl rfl) rfl (by omega) (by omega) (pa_103 (by omega)) ?_
        refine r_ld (pc' := 43) rfl rfl rfl rfl ?_
        refine r_ld (pc' := 45) rfl rfl rfl rfl ?_
        refine r_ls (pc' := 46) rfl rfl (sh_104 (k := a2.toNat) (by omega)) rfl (by omega) (by omega) hs17 (inS_0 (by omega) (by omega) (by omega) (by omega)) (wr_104 (k := a2.toNat) (by omega) ⟨by omega, by omega⟩) (fun w18 hq19 hs20 => ?_)
        refine r_inc (pc' := 49) (lv' := [(4, _), (0, _), (1, _), (2, _)]) rfl rfl rfl rfl rfl ?_
        refine r_go rfl ?_
        exact w_lv (sub_c rfl (sub_c rfl (sub_c rfl (sub_c rfl sub_n)))) rfl (ih0 (x3 + 1) z w18 ⟨by omega, by omega⟩ hs20 (by omega))
  refine w_m rfl rfl ?_
  refine r_c0 (pc' := 1) rfl rfl ?_
  refine r_st (pc' := 2) (lv' := [(3, _), (0, _), (1, _), (2, _)]) rfl rfl rfl rfl ?_
  exact w_lv (sub_c rfl (sub_c rfl (sub_c rfl (sub_c rfl sub_n)))) rfl ((key ((35 * (18 - 0) + 32 : Int).toNat + 1)) 0 z0 w0 ⟨by omega, by omega⟩ hst (by omega))
/-- Table at -/
abbrev S_68  : mS := []
abbrev E_68 (a1 : Int) (a2 : Int) (z0 w0 : mZ) (x y tx it mt tt ct : Option Nat) : Int → mZ → mZ → mP → Prop := fun v z w p => p = (pq x y tx it mt tt ct) ∧ z0 = z ∧ w0 = w ∧ (-2147483648) ≤ v ∧ v ≤ 2147483647
theorem m_68 {d : Nat} {z0 w0 : mZ} {x y tx it mt tt ct : Option Nat} (a1 : Int) (a2 : Int) (hz : rz z0) (hw : rw_ w0) (ha1 : 0 ≤ a1 ∧ a1 ≤ 17) (ha2 : 0 ≤ a2 ∧ a2 ≤ 17) : wc (d + 1) 68 [.ref 102, .int (Int32.ofInt a1), .int (Int32.ofInt a2)] (mk z0 w0 (pq x y tx it mt tt ct)) (poI S_68 z0 w0 (E_68 a1 a2 z0 w0 x y tx it mt tt ct)) := by
  have hst : st_ S_68 z0 w0 z0 w0 := st_rf hz hw
  refine w_m rfl rfl ?_
  refine r_ld (pc' := 1) rfl rfl rfl rfl ?_
  refine r_gr (b := 103) (pc' := 4) rfl rfl sh_102 rfl pp_102_5 ?_
  refine r_ld (pc' := 5) rfl rfl rfl rfl ?_
  refine r_aa (b := 104 + a1.toNat) (pc' := 6) rfl rfl sh_103 (Or.inl rfl) rfl (by omega) (by omega) (pa_103 (by omega)) ?_
  refine r_ld (pc' := 7) rfl rfl rfl rfl ?_
  have hb5 := rd_104 (k := a1.toNat) (by omega) hw (i := a2.toNat) (by omega)
  refine r_la (pc' := 8) rfl rfl (sh_104 (k := a1.toNat) (by omega)) rfl (by omega) (by omega) rfl ?_
  refine r_l2i (pc' := 9) rfl rfl ?_
  refine w_hxi (fun v6 h7 h8 => ?_)
  exact r_ri rfl (po_I hst ⟨by omega, by omega⟩ ⟨rfl, rfl, rfl, by omega, by omega⟩)
/-- Table multiplyPower -/
abbrev S_71  : mS := [(141, 141, 0, 17), (123, 140, 0, 17)]
abbrev E_71  (z0 w0 : mZ) (x y tx it mt tt ct : Option Nat) : mZ → mZ → mP → Prop := fun z w p => p = (pq x y tx it mt tt ct)
theorem m_71 {d : Nat} {z0 w0 : mZ} {x y tx it mt tt ct : Option Nat}  (hz : rz z0) (hw : rw_ w0) : wc (d + 1) 71 [.ref 102] (mk z0 w0 (pq x y tx it mt tt ct)) (poV S_71 z0 w0 (E_71  z0 w0 x y tx it mt tt ct)) := by
  have hst : st_ S_71 z0 w0 z0 w0 := st_rf hz hw
  have key : ∀ N : Nat, (∀ (x1 : Int) (z w : mZ), 0 ≤ x1 ∧ x1 ≤ 18 → st_ S_71 z0 w0 z w → 31348 * (18 - x1) + 29985 < (N : Int) → wp_ (d) 71 6 none (2, [(0, .ref 102), (1, .int (Int32.ofInt x1))], [], mk z w (pq x y tx it mt tt ct)) (poV S_71 z0 w0 (E_71  z0 w0 x y tx it mt tt ct))) ∧ (∀ (x1 x2 : Int) (z w : mZ), 0 ≤ x1 ∧ x1 ≤ 17 → 0 ≤ x2 ∧ x2 ≤ 18 → 1 ≤ z0 102 1 ∧ z0 102 1 ≤ 18 → st_ S_71 z0 w0 z w → 31348 * (18 - x1) + 1428 * (18 - x2) + 2779 < (N : Int) → wp_ (d) 71 6 none (12, [(0, .ref 102), (1, .int (Int32.ofInt x1)), (2, .int (Int32.ofInt x2))], [], mk z w (pq x y tx it mt tt ct)) (poV S_71 z0 w0 (E_71  z0 w0 x y tx it mt tt ct))) ∧ (∀ (x1 x2 x3 x5 : Int) (z w : mZ), 0 ≤ x1 ∧ x1 ≤ 17 → 0 ≤ x2 ∧ x2 ≤ 17 → (-9223372036854775808) ≤ x3 ∧ x3 ≤ 9223372036854775807 → 0 ≤ x5 ∧ x5 ≤ 18 → 1 ≤ z0 102 1 ∧ z0 102 1 ≤ 18 → st_ S_71 z0 w0 z w → 31348 * (18 - x1) + 1428 * (18 - x2) + 68 * (18 - x5) + 1411 < (N : Int) → wp_ (d) 71 6 none (25, [(0, .ref 102), (1, .int (Int32.ofInt x1)), (2, .int (Int32.ofInt x2)), (3, .long (Int64.ofInt x3)), (5, .int (Int32.ofInt x5))], [], mk z w (pq x y tx it mt tt ct)) (poV S_71 z0 w0 (E_71  z0 w0 x y tx it mt tt ct))) ∧ (∀ (x1 x2 : Int) (z w : mZ), 0 ≤ x1 ∧ x1 ≤ 17 → 0 ≤ x2 ∧ x2 ≤ 18 → 1 ≤ z0 102 1 ∧ z0 102 1 ≤ 18 → st_ S_71 z0 w0 z w → 31348 * (18 - x1) + 68 * (18 - x2) + 18 < (N : Int) → wp_ (d) 71 6 none (81, [(0, .ref 102), (1, .int (Int32.ofInt x1)), (2, .int (Int32.ofInt x2))], [], mk z w (pq x y tx it mt tt ct)) (poV S_71 z0 w0 (E_71  z0 w0 x y tx it mt tt ct))) := by
    intro N
    induction N with
    | zero =>
      refine ⟨?_, ?_, ?_, ?_⟩
      · intro x1 z w
        intros; exfalso; omega
      · intro x1 x2 z w
        intros; exfalso; omega
      · intro x1 x2 x3 x5 z w
        intros; exfalso; omega
      · intro x1 x2 z w
        intros; exfalso; omega
    | succ N ih =>
      obtain ⟨ih0, ih1, ih2, ih3⟩ := ih
      refine ⟨?_, ?_, ?_, ?_⟩
      · intro x1 z w hx1 hst hM
        refine r_ld (pc' := 3) rfl rfl rfl rfl ?_
        refine r_ld (pc' := 4) rfl rfl rfl rfl ?_
        have hb24 := rd_102_1 hz
        refine r_gi (pc' := 7) rfl rfl sh_102 rfl (hst.2.2.1 _ _ (notS_c (by omega) (notS_c (by omega) notS_n))) ?_
        refine r_ige (pc' := 10) rfl rfl ⟨by omega, by omega⟩ ⟨by omega, by omega⟩ (fun hc25 => ?_) (fun hc25 => ?_)
        · skip
          exact r_ret rfl (po_V hst rfl)
        · skip
          refine r_c0 (pc' := 11) rfl rfl ?_
          refine r_st (pc' := 12) (lv' := [(2, _), (0, _), (1, _)]) rfl rfl rfl rfl ?_
          exact w_lv (sub_c rfl (sub_c rfl (sub_c rfl sub_n))) rfl (ih1 x1 0 z w ⟨by omega, by omega⟩ ⟨by omega, by omega⟩ ⟨by omega, by omega⟩ hst (by omega))
      · intro x1 x2 z w hx1 hx2 hz0_0 hst hM
        refine r_ld (pc' := 13) rfl rfl rfl rfl ?_
        refine r_ld (pc' := 14) rfl rfl rfl rfl ?_
        refine r_gi (pc' := 17) rfl rfl sh_102 rfl (hst.2.2.1 _ _ (notS_c (by omega) (notS_c (by omega) notS_n))) ?_
        refine r_ige (pc' := 20) rfl rfl ⟨by omega, by omega⟩ ⟨by omega, by omega⟩ (fun hc26 => ?_) (fun hc26 => ?_)
        · skip
          refine r_c0 (pc' := 80) rfl rfl ?_
          refine r_st (pc' := 81) (lv' := [(2, _), (0, _), (1, _)]) rfl rfl rfl rfl ?_
          exact w_lv (sub_c rfl (sub_c rfl (sub_c rfl sub_n))) rfl (ih3 x1 0 z w ⟨by omega, by omega⟩ ⟨by omega, by omega⟩ ⟨by omega, by omega⟩ hst (by omega))
        · skip
          refine r_lc0 (pc' := 21) rfl rfl ?_
          refine r_st (pc' := 22) (lv' := [(3, _), (0, _), (1, _), (2, _)]) rfl rfl rfl rfl ?_
          refine r_c0 (pc' := 23) rfl rfl ?_
          refine r_st (pc' := 25) (lv' := [(5, _), (3, _), (0, _), (1, _), (2, _)]) rfl rfl rfl rfl ?_
          exact w_lv (sub_c rfl (sub_c rfl (sub_c rfl (sub_c rfl (sub_c rfl sub_n))))) rfl (ih2 x1 x2 0 0 z w ⟨by omega, by omega⟩ ⟨by omega, by omega⟩ ⟨by omega, by omega⟩ ⟨by omega, by omega⟩ ⟨by omega, by omega⟩ hst (by omega))
      · intro x1 x2 x3 x5 z w hx1 hx2 hx3 hx5 hz0_0 hst hM
        refine r_ld (pc' := 27) rfl rfl rfl rfl ?_
        refine r_ld (pc' := 28) rfl rfl rfl rfl ?_
        refine r_gi (pc' := 31) rfl rfl sh_102 rfl (hst.2.2.1 _ _ (notS_c (by omega) (notS_c (by omega) notS_n))) ?_
        refine r_ige (pc' := 34) rfl rfl ⟨by omega, by omega⟩ ⟨by omega, by omega⟩ (fun hc27 => ?_) (fun hc27 => ?_)
        · skip
          refine r_ld (pc' := 63) rfl rfl rfl rfl ?_
          refine r_gr (b := 141) (pc' := 66) rfl rfl sh_102 rfl pp_102_7 ?_
          refine r_ld (pc' := 67) rfl rfl rfl rfl ?_
          refine r_ld (pc' := 68) rfl rfl rfl rfl ?_
          refine r_al (pc' := 71) rfl rfl rfl rfl ?_
          refine r_lrmh (pc' := 72) rfl rfl ⟨by decide, by decide⟩ (by decide) (fun v28 h29 h30 h31 => ?_)
          refine r_ls (pc' := 73) rfl rfl sh_141 rfl (by omega) (by omega) hst (inS_0 (by omega) (by omega) (by omega) (by omega)) (wr_141 ⟨by omega, by omega⟩) (fun w32 hq33 hs34 => ?_)
          refine r_inc (pc' := 76) (lv' := [(0, _), (1, _), (3, _), (5, _)]) rfl rfl rfl rfl rfl ?_
          refine r_go rfl ?_
          exact w_lv (sub_c rfl (sub_c rfl (sub_c rfl sub_n))) rfl (ih1 x1 (x2 + 1) z w32 ⟨by omega, by omega⟩ ⟨by omega, by omega⟩ ⟨by omega, by omega⟩ hs34 (by omega))
        · skip
          refine r_ld (pc' := 35) rfl rfl rfl rfl ?_
          refine r_ld (pc' := 36) rfl rfl rfl rfl ?_
          refine r_gr (b := 103) (pc' := 39) rfl rfl sh_102 rfl pp_102_5 ?_
          refine r_ld (pc' := 40) rfl rfl rfl rfl ?_
          refine r_aa (b := 104 + x2.toNat) (pc' := 41) rfl rfl sh_103 (Or.inl rfl) rfl (by omega) (by omega) (pa_103 (by omega)) ?_
          refine r_ld (pc' := 43) rfl rfl rfl rfl ?_
          have hb35 := rd_104 (k := x2.toNat) (by omega) hw (i := x5.toNat) (by omega)
          refine r_la (pc' := 44) rfl rfl (sh_104 (k := x2.toNat) (by omega)) rfl (by omega) (by omega) (hst.2.2.2 _ _ (notS_c (by omega) (notS_c (by omega) notS_n))) ?_
          refine r_ld (pc' := 45) rfl rfl rfl rfl ?_
          refine r_gr (b := 122) (pc' := 48) rfl rfl sh_102 rfl pp_102_6 ?_
          refine r_ld (pc' := 50) rfl rfl rfl rfl ?_
          refine r_aa (b := 123 + x5.toNat) (pc' := 51) rfl rfl sh_122 (Or.inl rfl) rfl (by omega) (by omega) (pa_122 (by omega)) ?_
          refine r_ld (pc' := 52) rfl rfl rfl rfl ?_
          have hb36 := rd_123 (k := x5.toNat) (by omega) hst.2.1 (i := x1.toNat) (by omega)
          refine r_la (pc' := 53) rfl rfl (sh_123 (k := x5.toNat) (by omega)) rfl (by omega) (by omega) rfl ?_
          refine r_lmul (pc' := 54) rfl rfl ?_
          refine w_hl (fun v37 h38 => ?_)
          unfold inL at h38
          refine r_ladd (pc' := 55) rfl rfl ?_
          refine w_hxl (fun v39 h40 h41 => ?_)
          refine r_st (pc' := 56) (lv' := [(3, _), (0, _), (1, _), (2, _), (5, _)]) rfl rfl rfl rfl ?_
          refine r_inc (pc' := 59) (lv' := [(3, _), (0, _), (1, _), (2, _)]) rfl rfl rfl rfl rfl ?_
          refine r_go rfl ?_
          exact w_lv (sub_c rfl (sub_c rfl (sub_c rfl (sub_c rfl (sub_c rfl sub_n))))) rfl (ih2 x1 x2 v39 (x5 + 1) z w ⟨by omega, by omega⟩ ⟨by omega, by omega⟩ ⟨by omega, by omega⟩ ⟨by omega, by omega⟩ ⟨by omega, by omega⟩ hst (by omega))
      · intro x1 x2 z w hx1 hx2 hz0_0 hst hM
        refine r_ld (pc' := 82) rfl rfl rfl rfl ?_
        refine r_ld (pc' := 83) rfl rfl rfl rfl ?_
        refine r_gi (pc' := 86) rfl rfl sh_102 rfl (hst.2.2.1 _ _ (notS_c (by omega) (notS_c (by omega) notS_n))) ?_
        refine r_ige (pc' := 89) rfl rfl ⟨by omega, by omega⟩ ⟨by omega, by omega⟩ (fun hc42 => ?_) (fun hc42 => ?_)
        · skip
          refine r_inc (pc' := 112) (lv' := [(0, _), (2, _)]) rfl rfl rfl rfl rfl ?_
          refine r_go rfl ?_
          exact w_lv (sub_c rfl (sub_c rfl sub_n)) rfl (ih0 (x1 + 1) z w ⟨by omega, by omega⟩ hst (by omega))
        · skip
          refine r_ld (pc' := 90) rfl rfl rfl rfl ?_
          refine r_gr (b := 122) (pc' := 93) rfl rfl sh_102 rfl pp_102_6 ?_
          refine r_ld (pc' := 94) rfl rfl rfl rfl ?_
          refine r_aa (b := 123 + x2.toNat) (pc' := 95) rfl rfl sh_122 (Or.inl rfl) rfl (by omega) (by omega) (pa_122 (by omega)) ?_
          refine r_ld (pc' := 96) rfl rfl rfl rfl ?_
          refine r_ld (pc' := 97) rfl rfl rfl rfl ?_
          refine r_gr (b := 141) (pc' := 100) rfl rfl sh_102 rfl pp_102_7 ?_
          refine r_ld (pc' := 101) rfl rfl rfl rfl ?_
          have hb43 := rd_141 hst.2.1 (i := x2.toNat) (by omega)
          refine r_la (pc' := 102) rfl rfl sh_141 rfl (by omega) (by omega) rfl ?_
          refine r_ls (pc' := 103) rfl rfl (sh_123 (k := x2.toNat) (by omega)) rfl (by omega) (by omega) hst (inS_s (inS_0 (by omega) (by omega) (by omega) (by omega))) (wr_123 (k := x2.toNat) (by omega) ⟨by omega, by omega⟩) (fun w44 hq45 hs46 => ?_)
          refine r_inc (pc' := 106) (lv' := [(0, _), (1, _)]) rfl rfl rfl rfl rfl ?_
          refine r_go rfl ?_
          exact w_lv (sub_c rfl (sub_c rfl (sub_c rfl sub_n))) rfl (ih3 x1 (x2 + 1) z w44 ⟨by omega, by omega⟩ ⟨by omega, by omega⟩ ⟨by omega, by omega⟩ hs46 (by omega))
  refine w_m rfl rfl ?_
  refine r_c0 (pc' := 1) rfl rfl ?_
  refine r_st (pc' := 2) (lv' := [(1, _), (0, _)]) rfl rfl rfl rfl ?_
  exact w_lv (sub_c rfl (sub_c rfl sub_n)) rfl ((key ((31348 * (18 - 0) + 29985 : Int).toNat + 1)).1 0 z0 w0 ⟨by omega, by omega⟩ hst (by omega))
/-- Table inverse -/
abbrev S_72  : mS := []
abbrev E_72 (a0 : Int) (z0 w0 : mZ) (x y tx it mt tt ct : Option Nat) : Int → mZ → mZ → mP → Prop := fun v z w p => p = (pq x y tx it mt tt ct) ∧ z0 = z ∧ w0 = w ∧ (-1000002) ≤ v ∧ v ≤ 1000002
theorem m_72 {d : Nat} {z0 w0 : mZ} {x y tx it mt tt ct : Option Nat} (a0 : Int) (hz : rz z0) (hw : rw_ w0) (ha0 : 1 ≤ a0 ∧ a0 ≤ 18) : wc (d + 1) 72 [.int (Int32.ofInt a0)] (mk z0 w0 (pq x y tx it mt tt ct)) (poL S_72 z0 w0 (E_72 a0 z0 w0 x y tx it mt tt ct)) := by
  have hst : st_ S_72 z0 w0 z0 w0 := st_rf hz hw
  have key : ∀ N : Nat, (∀ (x1 x3 x5 : Int) , (-1000002) ≤ x1 ∧ x1 ≤ 1000002 → (-1000002) ≤ x3 ∧ x3 ≤ 1000002 → 0 ≤ x5 ∧ x5 ≤ 1000001 → 2 * x5 + 1 < (N : Int) → wp_ (d) 72 6 (some .long) (9, [(1, .long (Int64.ofInt x1)), (3, .long (Int64.ofInt x3)), (5, .int (Int32.ofInt x5))], [], mk z0 w0 (pq x y tx it mt tt ct)) (poL S_72 z0 w0 (E_72 a0 z0 w0 x y tx it mt tt ct))) ∧ (∀ (x1 x3 x5 : Int) , (-1000002) ≤ x1 ∧ x1 ≤ 1000002 → (-1000002) ≤ x3 ∧ x3 ≤ 1000002 → 1 ≤ x5 ∧ x5 ≤ 1000001 → 2 * x5 < (N : Int) → wp_ (d) 72 6 (some .long) (29, [(1, .long (Int64.ofInt x1)), (3, .long (Int64.ofInt x3)), (5, .int (Int32.ofInt x5))], [], mk z0 w0 (pq x y tx it mt tt ct)) (poL S_72 z0 w0 (E_72 a0 z0 w0 x y tx it mt tt ct))) := by
    intro N
    induction N with
    | zero =>
      refine ⟨?_, ?_⟩
      · intro x1 x3 x5 
        intros; exfalso; omega
      · intro x1 x3 x5 
        intros; exfalso; omega
    | succ N ih =>
      obtain ⟨ih0, ih1⟩ := ih
      refine ⟨?_, ?_⟩
      · intro x1 x3 x5 hx1 hx3 hx5 hM
        refine r_ld (pc' := 11) rfl rfl rfl rfl ?_
        refine r_zle (pc' := 14) rfl rfl ⟨by omega, by omega⟩ (fun hc15 => ?_) (fun hc15 => ?_)
        · skip
          refine r_ld (pc' := 47) rfl rfl rfl rfl ?_
          exact r_rl rfl (po_L hst ⟨by omega, by omega⟩ ⟨rfl, rfl, rfl, by omega, by omega⟩)
        · skip
          refine r_ld (pc' := 16) rfl rfl rfl rfl ?_
          refine r_c0 (pc' := 17) rfl rfl ?_
          refine r_msk (m := 1) (n := 1) (pc' := 18) rfl rfl ⟨by omega, by omega⟩ (by decide) (by decide) ?_
          refine r_zeq (pc' := 21) rfl rfl ⟨by omega, by omega⟩ (fun hc16 => ?_) (fun hc16 => ?_)
          · skip
            exact w_lv (sub_c rfl (sub_c rfl (sub_c rfl sub_n))) rfl (ih1 x1 x3 x5 ⟨by omega, by omega⟩ ⟨by omega, by omega⟩ ⟨by omega, by omega⟩ (by omega))
          · skip
            refine r_ld (pc' := 22) rfl rfl rfl rfl ?_
            refine r_ld (pc' := 23) rfl rfl rfl rfl ?_
            refine r_lmul (pc' := 24) rfl rfl ?_
            refine w_hl (fun v17 h18 => ?_)
            unfold inL at h18
            refine r_al (pc' := 27) rfl rfl rfl rfl ?_
            refine r_lrmh (pc' := 28) rfl rfl ⟨by decide, by decide⟩ (by decide) (fun v19 h20 h21 h22 => ?_)
            refine r_st (pc' := 29) (lv' := [(1, _), (3, _), (5, _)]) rfl rfl rfl rfl ?_
            exact w_lv (sub_c rfl (sub_c rfl (sub_c rfl sub_n))) rfl (ih1 v19 x3 x5 ⟨by omega, by omega⟩ ⟨by omega, by omega⟩ ⟨by omega, by omega⟩ (by omega))
      · intro x1 x3 x5 hx1 hx3 hx5 hM
        refine r_ld (pc' := 30) rfl rfl rfl rfl ?_
        refine r_ld (pc' := 31) rfl rfl rfl rfl ?_
        refine r_lmul (pc' := 32) rfl rfl ?_
        refine w_hl (fun v23 h24 => ?_)
        unfold inL at h24
        refine r_al (pc' := 35) rfl rfl rfl rfl ?_
        refine r_lrmh (pc' := 36) rfl rfl ⟨by decide, by decide⟩ (by decide) (fun v25 h26 h27 h28 => ?_)
        refine r_st (pc' := 37) (lv' := [(3, _), (1, _), (5, _)]) rfl rfl rfl rfl ?_
        refine r_ld (pc' := 39) rfl rfl rfl rfl ?_
        refine r_c0 (pc' := 40) rfl rfl ?_
        refine r_shr (s := 1) (pc' := 41) rfl rfl ⟨by omega, by omega⟩ (by decide) ?_
        refine r_st (pc' := 43) (lv' := [(5, _), (3, _), (1, _)]) rfl rfl rfl rfl ?_
        refine r_go rfl ?_
        exact w_lv (sub_c rfl (sub_c rfl (sub_c rfl sub_n))) rfl (ih0 x1 v25 (x5 / 2 ^ 1) ⟨by omega, by omega⟩ ⟨by omega, by omega⟩ ⟨by omega, by omega⟩ (by omega))
  refine w_m rfl rfl ?_
  refine r_lc1 (pc' := 1) rfl rfl ?_
  refine r_st (pc' := 2) (lv' := [(1, _), (0, _)]) rfl rfl rfl rfl ?_
  refine r_ld (pc' := 3) rfl rfl rfl rfl ?_
  refine r_i2l (pc' := 4) rfl rfl ⟨by omega, by omega⟩ ?_
  refine r_st (pc' := 5) (lv' := [(3, _), (1, _), (0, _)]) rfl rfl rfl rfl ?_
  refine r_al (pc' := 7) rfl rfl rfl rfl ?_
  refine r_st (pc' := 9) (lv' := [(5, _), (3, _), (1, _), (0, _)]) rfl rfl rfl rfl ?_
  exact w_lv (sub_c rfl (sub_c rfl (sub_c rfl sub_n))) rfl ((key ((2 * 1000001 + 1 : Int).toNat + 1)).1 1 a0 1000001 ⟨by omega, by omega⟩ ⟨by omega, by omega⟩ ⟨by omega, by omega⟩ (by omega))
/-- Told clear -/
abbrev S_74 (t : Nat) : mS := [(t, t, 0, 0), (t, t, 1, 1), (t, t, 2, 2), (t, t, 3, 3), (t, t, 4, 4), (t + 4, t + 4, 0, 17), (t + 8, t + 15, 0, 17)]
abbrev E_74 (t : Nat) (z0 w0 : mZ) (x y tx it mt tt ct : Option Nat) : mZ → mZ → mP → Prop := fun z w p => p = (pq x y tx it mt tt ct) ∧ (z t 0 = 0 ∧ z t 3 = 0 ∧ ∀ e : Nat, e < 18 → z (t + 4) e = 0)
theorem m_74 {d : Nat} {z0 w0 : mZ} {x y tx it mt tt ct : Option Nat} (t : Nat) (hz : rz z0) (hw : rw_ w0) (ht : isT t) : wc (d + 1) 74 [.ref t] (mk z0 w0 (pq x y tx it mt tt ct)) (poV (S_74 t) z0 w0 (E_74 t z0 w0 x y tx it mt tt ct)) := by
  have hst : st_ (S_74 t) z0 w0 z0 w0 := st_rf hz hw
  have key : ∀ N : Nat, (∀ (x1 : Int) (z w : mZ), 0 ≤ x1 ∧ x1 ≤ 18 → st_ (S_74 t) z0 w0 z w → (z t 0 = 0 ∧ z t 3 = 0) → (∀ e : Nat, (e : Int) < x1 → z (t + 4) e = 0) → 49 * (18 - x1) + 10321 < (N : Int) → wp_ (d) 74 3 none (27, [(0, .ref t), (1, .int (Int32.ofInt x1))], [], mk z w (pq x y tx it mt tt ct)) (poV (S_74 t) z0 w0 (E_74 t z0 w0 x y tx it mt tt ct))) ∧ (∀ (x1 : Int) (z w : mZ), 0 ≤ x1 ∧ x1 ≤ 8 → st_ (S_74 t) z0 w0 z w → (z t 0 = 0 ∧ z t 3 = 0) → (∀ e : Nat, e < 18 → z (t + 4) e = 0) → 1029 * (8 - x1) + 999 < (N : Int) → wp_ (d) 74 3 none (48, [(0, .ref t), (1, .int (Int32.ofInt x1))], [], mk z w (pq x y tx it mt tt ct)) (poV (S_74 t) z0 w0 (E_74 t z0 w0 x y tx it mt tt ct))) ∧ (∀ (x1 x2 : Int) (z w : mZ), 0 ≤ x1 ∧ x1 ≤ 7 → 0 ≤ x2 ∧ x2 ≤ 18 → st_ (S_74 t) z0 w0 z w → (z t 0 = 0 ∧ z t 3 = 0) → (∀ e : Nat, e < 18 → z (t + 4) e = 0) → 1029 * (8 - x1) + 49 * (18 - x2) + 14 < (N : Int) → wp_ (d) 74 3 none (56, [(0, .ref t), (1, .int (Int32.ofInt x1)), (2, .int (Int32.ofInt x2))], [], mk z w (pq x y tx it mt tt ct)) (poV (S_74 t) z0 w0 (E_74 t z0 w0 x y tx it mt tt ct))) := by
    intro N
    induction N with
    | zero =>
      refine ⟨?_, ?_, ?_⟩
      · intro x1 z w
        intros; exfalso; omega
      · intro x1 z w
        intros; exfalso; omega
      · intro x1 x2 z w
        intros; exfalso; omega
    | succ N ih =>
      obtain ⟨ih0, ih1, ih2⟩ := ih
      refine ⟨?_, ?_, ?_⟩
      · intro x1 z w hx1 hst as1 as2 hM
        refine r_ld (pc' := 28) rfl rfl rfl rfl ?_
        refine r_cb (pc' := 30) rfl (by decide) rfl ?_
        refine r_ige (pc' := 33) rfl rfl ⟨by omega, by omega⟩ ⟨by decide, by decide⟩ (fun hc27 => ?_) (fun hc27 => ?_)
        · skip
          refine r_c0 (pc' := 47) rfl rfl ?_
          refine r_st (pc' := 48) (lv' := [(1, _), (0, _)]) rfl rfl rfl rfl ?_
          have hb28 := rd_T_0 ht hst.1
          have hb29 := rd_T_3 ht hst.1
          exact w_lv (sub_c rfl (sub_c rfl sub_n)) rfl (ih1 0 z w ⟨by omega, by omega⟩ hst (by first | omega | assumption) (by first | (intro e he; exact as2 e (by omega)) | (simp only []; exact as2)) (by omega))
        · skip
          refine r_ld (pc' := 34) rfl rfl rfl rfl ?_
          refine r_gr (b := t + 4) (pc' := 37) rfl rfl (sh_T ht) rfl (pp_T_8 ht) ?_
          refine r_ld (pc' := 38) rfl rfl rfl rfl ?_
          refine r_c0 (pc' := 39) rfl rfl ?_
          refine r_is (pc' := 40) rfl rfl (sh_T4 ht) rfl (by omega) (by omega) hst (inS_s (inS_s (inS_s (inS_s (inS_s (inS_0 (by omega) (by omega) (by omega) (by omega))))))) (wr_T4 ht ⟨by omega, by omega⟩) (fun z30 hq31 hs32 => ?_)
          refine r_inc (pc' := 43) (lv' := [(0, _)]) rfl rfl rfl rfl rfl ?_
          refine r_go rfl ?_
          have hb33 := rd_T_0 ht hst.1
          have hf34 : z30 t 0 = z t 0 := ((congrFun (congrFun hq31 _) _).trans (mu_ne (by omega)))
          have hb35 := rd_T_3 ht hst.1
          have hf36 : z30 t 3 = z t 3 := ((congrFun (congrFun hq31 _) _).trans (mu_ne (by omega)))
          exact w_lv (sub_c rfl (sub_c rfl sub_n)) rfl (ih0 (x1 + 1) z30 w ⟨by omega, by omega⟩ hs32 (by first | omega | assumption | (simp only [hf34, hf36]; assumption)) (by first | (intro e he; exfalso; omega) | (subst hq31; intro e he; by_cases k : (e : Int) = x1; (rw [show e = x1.toNat by omega]; exact mu_eq); (rw [mu_ne (by omega)]; exact as2 e (by omega)))) (by omega))
      · intro x1 z w hx1 hst as1 as2 hM
        refine r_ld (pc' := 49) rfl rfl rfl rfl ?_
        refine r_cb (pc' := 51) rfl (by decide) rfl ?_
        refine r_ige (pc' := 54) rfl rfl ⟨by omega, by omega⟩ ⟨by decide, by decide⟩ (fun hc37 => ?_) (fun hc37 => ?_)
        · skip
          have hb38 := rd_T_0 ht hst.1
          have hb39 := rd_T_3 ht hst.1
          exact r_ret rfl (po_V hst ⟨rfl, (by exact ⟨by omega, by omega, as2⟩)⟩)
        · skip
          refine r_c0 (pc' := 55) rfl rfl ?_
          refine r_st (pc' := 56) (lv' := [(2, _), (0, _), (1, _)]) rfl rfl rfl rfl ?_
          have hb40 := rd_T_0 ht hst.1
          have hb41 := rd_T_3 ht hst.1
          exact w_lv (sub_c rfl (sub_c rfl (sub_c rfl sub_n))) rfl (ih2 x1 0 z w ⟨by omega, by omega⟩ ⟨by omega, by omega⟩ hst (by first | omega | assumption) (by first | exact as2 | (simp only []; exact as2)) (by omega))
      · intro x1 x2 z w hx1 hx2 hst as1 as2 hM
        refine r_ld (pc' := 57) rfl rfl rfl rfl ?_
        refine r_cb (pc' := 59) rfl (by decide) rfl ?_
        refine r_ige (pc' := 62) rfl rfl ⟨by omega, by omega⟩ ⟨by decide, by decide⟩ (fun hc42 => ?_) (fun hc42 => ?_)
        · skip
          refine r_inc (pc' := 80) (lv' := [(0, _), (2, _)]) rfl rfl rfl rfl rfl ?_
          refine r_go rfl ?_
          have hb43 := rd_T_0 ht hst.1
          have hb44 := rd_T_3 ht hst.1
          exact w_lv (sub_c rfl (sub_c rfl sub_n)) rfl (ih1 (x1 + 1) z w ⟨by omega, by omega⟩ hst (by first | omega | assumption) (by first | (intro e he; exact as2 e (by omega)) | (simp only []; exact as2)) (by omega))
        · skip
          refine r_ld (pc' := 63) rfl rfl rfl rfl ?_
          refine r_gr (b := t + 7) (pc' := 66) rfl rfl (sh_T ht) rfl (pp_T_11 ht) ?_
          refine r_ld (pc' := 67) rfl rfl rfl rfl ?_
          refine r_aa (b := t + 8 + x1.toNat) (pc' := 68) rfl rfl (sh_T7 ht) (Or.inl rfl) rfl (by omega) (by omega) (pa_T7 ht (by omega)) ?_
          refine r_ld (pc' := 69) rfl rfl rfl rfl ?_
          refine r_lc0 (pc' := 70) rfl rfl ?_
          refine r_ls (pc' := 71) rfl rfl (sh_T8 ht (by omega)) rfl (by omega) (by omega) hst (inS_s (inS_s (inS_s (inS_s (inS_s (inS_s (inS_0 (by omega) (by omega) (by omega) (by omega)))))))) (wr_T8 ht (k := x1.toNat) (by omega) ⟨by omega, by omega⟩) (fun w45 hq46 hs47 => ?_)
          refine r_inc (pc' := 74) (lv' := [(0, _), (1, _)]) rfl rfl rfl rfl rfl ?_
          refine r_go rfl ?_
          have hb48 := rd_T_0 ht hst.1
          have hb49 := rd_T_3 ht hst.1
          exact w_lv (sub_c rfl (sub_c rfl (sub_c rfl sub_n))) rfl (ih2 x1 (x2 + 1) z w45 ⟨by omega, by omega⟩ ⟨by omega, by omega⟩ hs47 (by first | omega | assumption) (by first | exact as2 | (simp only []; exact as2)) (by omega))
  refine w_m rfl rfl ?_
  refine r_ld (pc' := 1) rfl rfl rfl rfl ?_
  refine r_c0 (pc' := 2) rfl rfl ?_
  refine r_pi (pc' := 5) rfl rfl (sh_T ht) rfl rfl hst (inS_0 (by omega) (by omega) (by omega) (by omega)) (wr_T_0 ht ⟨by omega, by omega⟩) (fun z50 hq51 hs52 => ?_)
  refine r_ld (pc' := 6) rfl rfl rfl rfl ?_
  refine r_c0 (pc' := 7) rfl rfl ?_
  refine r_pi (pc' := 10) rfl rfl (sh_T ht) rfl rfl hs52 (inS_s (inS_0 (by omega) (by omega) (by omega) (by omega))) (wr_T_1 ht ⟨by omega, by omega⟩) (fun z53 hq54 hs55 => ?_)
  refine r_ld (pc' := 11) rfl rfl rfl rfl ?_
  refine r_c0 (pc' := 12) rfl rfl ?_
  refine r_pi (pc' := 15) rfl rfl (sh_T ht) rfl rfl hs55 (inS_s (inS_s (inS_0 (by omega) (by omega) (by omega) (by omega)))) (wr_T_2 ht ⟨by omega, by omega⟩) (fun z56 hq57 hs58 => ?_)
  refine r_ld (pc' := 16) rfl rfl rfl rfl ?_
  refine r_c0 (pc' := 17) rfl rfl ?_
  refine r_pi (pc' := 20) rfl rfl (sh_T ht) rfl rfl hs58 (inS_s (inS_s (inS_s (inS_0 (by omega) (by omega) (by omega) (by omega))))) (wr_T_3 ht ⟨by omega, by omega⟩) (fun z59 hq60 hs61 => ?_)
  refine r_ld (pc' := 21) rfl rfl rfl rfl ?_
  refine r_c0 (pc' := 22) rfl rfl ?_
  refine r_pi (pc' := 25) rfl rfl (sh_T ht) rfl rfl hs61 (inS_s (inS_s (inS_s (inS_s (inS_0 (by omega) (by omega) (by omega) (by omega)))))) (wr_T_4 ht ⟨by omega, by omega⟩) (fun z62 hq63 hs64 => ?_)
  refine r_c0 (pc' := 26) rfl rfl ?_
  refine r_st (pc' := 27) (lv' := [(1, _), (0, _)]) rfl rfl rfl rfl ?_
  have hf65 : z62 t 0 = 0 := (((congrFun (congrFun hq63 _) _).trans (mu_ne (by omega))).trans (((congrFun (congrFun hq60 _) _).trans (mu_ne (by omega))).trans (((congrFun (congrFun hq57 _) _).trans (mu_ne (by omega))).trans (((congrFun (congrFun hq54 _) _).trans (mu_ne (by omega))).trans ((congrFun (congrFun hq51 _) _).trans mu_eq)))))
  have hf66 : z62 t 3 = 0 := (((congrFun (congrFun hq63 _) _).trans (mu_ne (by omega))).trans ((congrFun (congrFun hq60 _) _).trans mu_eq))
  exact w_lv (sub_c rfl (sub_c rfl sub_n)) rfl ((key ((49 * (18 - 0) + 10321 : Int).toNat + 1)).1 0 z62 w0 ⟨by omega, by omega⟩ hs64 (by first | omega | assumption | (simp only [hf65, hf66]; assumption)) (by first | (intro e he; exfalso; omega) | (subst hq51 hq54 hq57 hq60 hq63; intro e he; by_cases k : (e : Int) = x1; (rw [show e = x1.toNat by omega]; exact mu_eq); (rw [mu_ne (by omega)]; exact as2 e (by omega)))) (by omega))
/-- Told tellEdge -/
abbrev S_75 (t : Nat) : mS := [(t + 1, t + 1, 0, 35), (t + 6, t + 6, 0, 17), (t + 4, t + 4, 0, 17), (t + 5, t + 5, 0, 17)]
abbrev E_75 (t : Nat) (a1 : Int) (a2 : Int) (z0 w0 : mZ) (x y tx it mt tt ct : Option Nat) : mZ → mZ → mP → Prop := fun z w p => p = (pq x y tx it mt tt ct) ∧ (PI (z (t + 1)) (z (t + 4)) (z (t + 5)) (z (t + 6)) (a1 + 1))
theorem m_75 {d : Nat} {z0 w0 : mZ} {x y tx it mt tt ct : Option Nat} (t : Nat) (a1 : Int) (a2 : Int) (hz : rz z0) (hw : rw_ w0) (ha1 : 0 ≤ a1 ∧ a1 ≤ 35) (ha2 : 0 ≤ a2 ∧ a2 ≤ 17) (ht : isT t) (htt : z0 (t + 4) a2.toNat ≤ 1) (hpi : PI (z0 (t + 1)) (z0 (t + 4)) (z0 (t + 5)) (z0 (t + 6)) a1) : wc (d + 1) 75 [.ref t, .int (Int32.ofInt a1), .int (Int32.ofInt a2)] (mk z0 w0 (pq x y tx it mt tt ct)) (poV (S_75 t) z0 w0 (E_75 t a1 a2 z0 w0 x y tx it mt tt ct)) := by
  have hst : st_ (S_75 t) z0 w0 z0 w0 := st_rf hz hw
  refine w_m rfl rfl ?_
  refine r_ld (pc' := 1) rfl rfl rfl rfl ?_
  refine r_gr (b := t + 1) (pc' := 4) rfl rfl (sh_T ht) rfl (pp_T_5 ht) ?_
  refine r_ld (pc' := 5) rfl rfl rfl rfl ?_
  refine r_ld (pc' := 6) rfl rfl rfl rfl ?_
  refine r_is (pc' := 7) rfl rfl (sh_T1 ht) rfl (by omega) (by omega) hst (inS_0 (by omega) (by omega) (by omega) (by omega)) (wr_T1 ht ⟨by omega, by omega⟩) (fun z24 hq25 hs26 => ?_)
  refine r_ld (pc' := 8) rfl rfl rfl rfl ?_
  refine r_gr (b := t + 4) (pc' := 11) rfl rfl (sh_T ht) rfl (pp_T_8 ht) ?_
  refine r_ld (pc' := 12) rfl rfl rfl rfl ?_
  have hb27 := rd_T4 ht hz (i := a2.toNat) (by omega)
  refine r_ia (pc' := 13) rfl rfl (sh_T4 ht) rfl (by omega) (by omega) ((congrFun (congrFun hq25 _) _).trans (mu_ne (by omega))) ?_
  refine r_zne (pc' := 16) rfl rfl ⟨by omega, by omega⟩ (fun hc28 => ?_) (fun hc28 => ?_)
  · skip
    refine r_ld (pc' := 27) rfl rfl rfl rfl ?_
    refine r_gr (b := t + 6) (pc' := 30) rfl rfl (sh_T ht) rfl (pp_T_10 ht) ?_
    refine r_ld (pc' := 31) rfl rfl rfl rfl ?_
    refine r_ld (pc' := 32) rfl rfl rfl rfl ?_
    refine r_is (pc' := 33) rfl rfl (sh_T6 ht) rfl (by omega) (by omega) hs26 (inS_s (inS_0 (by omega) (by omega) (by omega) (by omega))) (wr_T6 ht ⟨by omega, by omega⟩) (fun z29 hq30 hs31 => ?_)
    refine r_ld (pc' := 34) rfl rfl rfl rfl ?_
    refine r_gr (b := t + 4) (pc' := 37) rfl rfl (sh_T ht) rfl (pp_T_8 ht) ?_
    refine r_ld (pc' := 38) rfl rfl rfl rfl ?_
    refine r_al (pc' := 39) rfl rfl rfl rfl ?_
    refine r_ia (pc' := 40) rfl rfl (sh_T4 ht) rfl (by omega) (by omega) (((congrFun (congrFun hq30 _) _).trans (mu_ne (by omega))).trans ((congrFun (congrFun hq25 _) _).trans (mu_ne (by omega)))) ?_
    refine r_c0 (pc' := 41) rfl rfl ?_
    refine r_add (pc' := 42) rfl rfl ?_
    refine r_is (pc' := 43) rfl rfl (sh_T4 ht) rfl (by omega) (by omega) hs31 (inS_s (inS_s (inS_0 (by omega) (by omega) (by omega) (by omega)))) (wr_T4 ht ⟨by omega, by omega⟩) (fun z32 hq33 hs34 => ?_)
    have hF35 : z32 (t + 1) = z24 (t + 1) := (((congrFun hq33 _).trans (mu_fn (by omega))).trans ((congrFun hq30 _).trans (mu_fn (by omega))))
    have hF36 : z32 (t + 5) = z0 (t + 5) := (((congrFun hq33 _).trans (mu_fn (by omega))).trans (((congrFun hq30 _).trans (mu_fn (by omega))).trans ((congrFun hq25 _).trans (mu_fn (by omega)))))
    have hF37 : z32 (t + 6) = z29 (t + 6) := ((congrFun hq33 _).trans (mu_fn (by omega)))
    exact r_ret rfl (po_V hs34 ⟨rfl, (by subst hq25 hq30 hq33; first | exact PI_0' (e := a2.toNat) hpi (by omega) (by omega) (by omega) (fun s hs => by (simp only [mu]; (repeat' split) <;> first | omega | (simp_all; done) | (simp_all; omega))) (by (simp only [mu]; (repeat' split) <;> first | omega | (simp_all; done) | (simp_all; omega))) (fun j hj => by (simp only [mu]; (repeat' split) <;> first | omega | (simp_all; done) | (simp_all; omega))) (by (simp only [mu]; (repeat' split) <;> first | omega | (simp_all; done) | (simp_all; omega))) (fun j hj => by (simp only [mu]; (repeat' split) <;> first | omega | (simp_all; done) | (simp_all; omega))) (by (simp only [mu]; (repeat' split) <;> first | omega | (simp_all; done) | (simp_all; omega))) (fun j => by (simp only [mu]; (repeat' split) <;> first | omega | (simp_all; done) | (simp_all; omega))) | exact PI_1' (e := a2.toNat) hpi (by omega) (by omega) (by omega) (fun s hs => by (simp only [mu]; (repeat' split) <;> first | omega | (simp_all; done) | (simp_all; omega))) (by (simp only [mu]; (repeat' split) <;> first | omega | (simp_all; done) | (simp_all; omega))) (fun j hj => by (simp only [mu]; (repeat' split) <;> first | omega | (simp_all; done) | (simp_all; omega))) (by (simp only [mu]; (repeat' split) <;> first | omega | (simp_all; done) | (simp_all; omega))) (fun j hj => by (simp only [mu]; (repeat' split) <;> first | omega | (simp_all; done) | (simp_all; omega))) (by (simp only [mu]; (repeat' split) <;> first | omega | (simp_all; done) | (simp_all; omega))) (fun j => by (simp only [mu]; (repeat' split) <;> first | omega | (simp_all; done) | (simp_all; omega))))⟩)
  · skip
    refine r_ld (pc' := 17) rfl rfl rfl rfl ?_
    refine r_gr (b := t + 5) (pc' := 20) rfl rfl (sh_T ht) rfl (pp_T_9 ht) ?_
    refine r_ld (pc' := 21) rfl rfl rfl rfl ?_
    refine r_ld (pc' := 22) rfl rfl rfl rfl ?_
    refine r_is (pc' := 23) rfl rfl (sh_T5 ht) rfl (by omega) (by omega) hs26 (inS_s (inS_s (inS_s (inS_0 (by omega) (by omega) (by omega) (by omega))))) (wr_T5 ht ⟨by omega, by omega⟩) (fun z38 hq39 hs40 => ?_)
    refine r_go rfl ?_
    refine r_ld (pc' := 34) rfl rfl rfl rfl ?_
    refine r_gr (b := t + 4) (pc' := 37) rfl rfl (sh_T ht) rfl (pp_T_8 ht) ?_
    refine r_ld (pc' := 38) rfl rfl rfl rfl ?_
    refine r_al (pc' := 39) rfl rfl rfl rfl ?_
    refine r_ia (pc' := 40) rfl rfl (sh_T4 ht) rfl (by omega) (by omega) (((congrFun (congrFun hq39 _) _).trans (mu_ne (by omega))).trans ((congrFun (congrFun hq25 _) _).trans (mu_ne (by omega)))) ?_
    refine r_c0 (pc' := 41) rfl rfl ?_
    refine r_add (pc' := 42) rfl rfl ?_
    refine r_is (pc' := 43) rfl rfl (sh_T4 ht) rfl (by omega) (by omega) hs40 (inS_s (inS_s (inS_0 (by omega) (by omega) (by omega) (by omega)))) (wr_T4 ht ⟨by omega, by omega⟩) (fun z41 hq42 hs43 => ?_)
    have hF44 : z41 (t + 1) = z24 (t + 1) := (((congrFun hq42 _).trans (mu_fn (by omega))).trans ((congrFun hq39 _).trans (mu_fn (by omega))))
    have hF45 : z41 (t + 5) = z38 (t + 5) := ((congrFun hq42 _).trans (mu_fn (by omega)))
    have hF46 : z41 (t + 6) = z0 (t + 6) := (((congrFun hq42 _).trans (mu_fn (by omega))).trans (((congrFun hq39 _).trans (mu_fn (by omega))).trans ((congrFun hq25 _).trans (mu_fn (by omega)))))
    exact r_ret rfl (po_V hs43 ⟨rfl, (by subst hq25 hq39 hq42; first | exact PI_0' (e := a2.toNat) hpi (by omega) (by omega) (by omega) (fun s hs => by (simp only [mu]; (repeat' split) <;> first | omega | (simp_all; done) | (simp_all; omega))) (by (simp only [mu]; (repeat' split) <;> first | omega | (simp_all; done) | (simp_all; omega))) (fun j hj => by (simp only [mu]; (repeat' split) <;> first | omega | (simp_all; done) | (simp_all; omega))) (by (simp only [mu]; (repeat' split) <;> first | omega | (simp_all; done) | (simp_all; omega))) (fun j hj => by (simp only [mu]; (repeat' split) <;> first | omega | (simp_all; done) | (simp_all; omega))) (by (simp only [mu]; (repeat' split) <;> first | omega | (simp_all; done) | (simp_all; omega))) (fun j => by (simp only [mu]; (repeat' split) <;> first | omega | (simp_all; done) | (simp_all; omega))) | exact PI_1' (e := a2.toNat) hpi (by omega) (by omega) (by omega) (fun s hs => by (simp only [mu]; (repeat' split) <;> first | omega | (simp_all; done) | (simp_all; omega))) (by (simp only [mu]; (repeat' split) <;> first | omega | (simp_all; done) | (simp_all; omega))) (fun j hj => by (simp only [mu]; (repeat' split) <;> first | omega | (simp_all; done) | (simp_all; omega))) (by (simp only [mu]; (repeat' split) <;> first | omega | (simp_all; done) | (simp_all; omega))) (fun j hj => by (simp only [mu]; (repeat' split) <;> first | omega | (simp_all; done) | (simp_all; omega))) (by (simp only [mu]; (repeat' split) <;> first | omega | (simp_all; done) | (simp_all; omega))) (fun j => by (simp only [mu]; (repeat' split) <;> first | omega | (simp_all; done) | (simp_all; omega))))⟩)
/-- Told hangsTogether -/
abbrev S_77  : mS := []
abbrev E_77 (t : Nat) (z0 w0 : mZ) (x y tx it mt tt ct : Option Nat) : Int → mZ → mZ → mP → Prop := fun v z w p => p = (pq x y tx it mt tt ct) ∧ z0 = z ∧ w0 = w ∧ 0 ≤ v ∧ v ≤ 1
theorem m_77 {d : Nat} {z0 w0 : mZ} {x y tx it mt tt ct : Option Nat} (t : Nat) (hz : rz z0) (hw : rw_ w0) (ht : isT t) : wc (d + 1) 77 [.ref t] (mk z0 w0 (pq x y tx it mt tt ct)) (poI S_77 z0 w0 (E_77 t z0 w0 x y tx it mt tt ct)) := by
  have hst : st_ S_77 z0 w0 z0 w0 := st_rf hz hw
  have key : ∀ N : Nat, (∀ (x1 x2 : Int) , (-2147483648) ≤ x1 ∧ x1 ≤ 2147483647 → 0 ≤ x2 ∧ x2 ≤ 12 → 2106 * (12 - x2) + 2101 < (N : Int) → wp_ (d) 77 4 (some .boolean) (4, [(0, .ref t), (1, .int (Int32.ofInt x1)), (2, .int (Int32.ofInt x2))], [], mk z0 w0 (pq x y tx it mt tt ct)) (poI S_77 z0 w0 (E_77 t z0 w0 x y tx it mt tt ct))) ∧ (∀ (x1 x2 x3 : Int) , (-2147483648) ≤ x1 ∧ x1 ≤ 2147483647 → 0 ≤ x2 ∧ x2 ≤ 11 → 0 ≤ x3 ∧ x3 ≤ 36 → 1 ≤ z0 t 0 ∧ z0 t 0 ≤ 12 → 2106 * (12 - x2) + 54 * (36 - x3) + 43 < (N : Int) → wp_ (d) 77 4 (some .boolean) (14, [(0, .ref t), (1, .int (Int32.ofInt x1)), (2, .int (Int32.ofInt x2)), (3, .int (Int32.ofInt x3))], [], mk z0 w0 (pq x y tx it mt tt ct)) (poI S_77 z0 w0 (E_77 t z0 w0 x y tx it mt tt ct))) := by
    intro N
    induction N with
    | zero =>
      refine ⟨?_, ?_⟩
      · intro x1 x2 
        intros; exfalso; omega
      · intro x1 x2 x3 
        intros; exfalso; omega
    | succ N ih =>
      obtain ⟨ih0, ih1⟩ := ih
      refine ⟨?_, ?_⟩
      · intro x1 x2 hx1 hx2 hM
        refine r_ld (pc' := 5) rfl rfl rfl rfl ?_
        refine r_ld (pc' := 6) rfl rfl rfl rfl ?_
        have hb19 := rd_T_0 ht hz
        refine r_gi (pc' := 9) rfl rfl (sh_T ht) rfl rfl ?_
        refine r_ige (pc' := 12) rfl rfl ⟨by omega, by omega⟩ ⟨by omega, by omega⟩ (fun hc20 => ?_) (fun hc20 => ?_)
        · skip
          refine r_ld (pc' := 60) rfl rfl rfl rfl ?_
          refine r_gi (pc' := 63) rfl rfl (sh_T ht) rfl rfl ?_
          refine r_zeq (pc' := 66) rfl rfl ⟨by omega, by omega⟩ (fun hc21 => ?_) (fun hc21 => ?_)
          · skip
            refine r_c0 (pc' := 79) rfl rfl ?_
            refine r_go rfl ?_
            exact r_rz rfl (by omega) (po_I hst ⟨by decide, by decide⟩ ⟨rfl, rfl, rfl, by omega, by omega⟩)
          · skip
            refine r_ld (pc' := 67) rfl rfl rfl rfl ?_
            refine r_c0 (pc' := 68) rfl rfl ?_
            refine r_ld (pc' := 69) rfl rfl rfl rfl ?_
            refine r_gi (pc' := 72) rfl rfl (sh_T ht) rfl rfl ?_
            refine r_ai (pc' := 73) rfl rfl rfl rfl (fun v22 h23 => ?_)
            unfold inI at h23
            refine r_c0 (pc' := 74) rfl rfl ?_
            refine r_sub (pc' := 75) rfl rfl ?_
            refine w_hxi (fun v24 h25 h26 => ?_)
            refine r_ine (pc' := 78) rfl rfl ⟨by omega, by omega⟩ ⟨by omega, by omega⟩ (fun hc27 => ?_) (fun hc27 => ?_)
            · skip
              refine r_c0 (pc' := 83) rfl rfl ?_
              exact r_rz rfl (by omega) (po_I hst ⟨by decide, by decide⟩ ⟨rfl, rfl, rfl, by omega, by omega⟩)
            · skip
              refine r_c0 (pc' := 79) rfl rfl ?_
              refine r_go rfl ?_
              exact r_rz rfl (by omega) (po_I hst ⟨by decide, by decide⟩ ⟨rfl, rfl, rfl, by omega, by omega⟩)
        · skip
          refine r_c0 (pc' := 13) rfl rfl ?_
          refine r_st (pc' := 14) (lv' := [(3, _), (0, _), (1, _), (2, _)]) rfl rfl rfl rfl ?_
          exact w_lv (sub_c rfl (sub_c rfl (sub_c rfl (sub_c rfl sub_n)))) rfl (ih1 x1 x2 0 ⟨by omega, by omega⟩ ⟨by omega, by omega⟩ ⟨by omega, by omega⟩ ⟨by omega, by omega⟩ (by omega))
      · intro x1 x2 x3 hx1 hx2 hx3 hz0_0 hM
        refine r_ld (pc' := 15) rfl rfl rfl rfl ?_
        refine r_c0 (pc' := 16) rfl rfl ?_
        refine r_ld (pc' := 17) rfl rfl rfl rfl ?_
        refine r_gi (pc' := 20) rfl rfl (sh_T ht) rfl rfl ?_
        refine r_mul (pc' := 21) rfl rfl ?_
        refine r_ige (pc' := 24) rfl rfl ⟨by omega, by omega⟩ ⟨by omega, by omega⟩ (fun hc28 => ?_) (fun hc28 => ?_)
        · skip
          refine r_inc (pc' := 56) (lv' := [(0, _), (1, _), (3, _)]) rfl rfl rfl rfl rfl ?_
          refine r_go rfl ?_
          exact w_lv (sub_c rfl (sub_c rfl (sub_c rfl sub_n))) rfl (ih0 x1 (x2 + 1) ⟨by omega, by omega⟩ ⟨by omega, by omega⟩ (by omega))
        · skip
          refine r_ld (pc' := 25) rfl rfl rfl rfl ?_
          refine r_ld (pc' := 26) rfl rfl rfl rfl ?_
          refine r_c0 (pc' := 27) rfl rfl ?_
          refine r_dv (pc' := 28) (v := x3 / 3) rfl rfl ⟨by omega, by omega⟩ ⟨by decide, by decide⟩ (by decide) (tdiv_n (by omega)) ?_
          refine r_ai (pc' := 29) rfl rfl rfl rfl (fun v29 h30 => ?_)
          unfold inI at h30
          refine r_c0 (pc' := 30) rfl rfl ?_
          refine r_msk (m := 1) (n := 1) (pc' := 31) rfl rfl ⟨by omega, by omega⟩ (by decide) (by decide) ?_
          refine r_zeq (pc' := 34) rfl rfl ⟨by omega, by omega⟩ (fun hc31 => ?_) (fun hc31 => ?_)
          · skip
            refine r_inc (pc' := 50) (lv' := [(0, _), (1, _), (2, _)]) rfl rfl rfl rfl rfl ?_
            refine r_go rfl ?_
            exact w_lv (sub_c rfl (sub_c rfl (sub_c rfl (sub_c rfl sub_n)))) rfl (ih1 x1 x2 (x3 + 1) ⟨by omega, by omega⟩ ⟨by omega, by omega⟩ ⟨by omega, by omega⟩ ⟨by omega, by omega⟩ (by omega))
          · skip
            refine r_ld (pc' := 35) rfl rfl rfl rfl ?_
            refine r_c0 (pc' := 36) rfl rfl ?_
            refine r_ld (pc' := 37) rfl rfl rfl rfl ?_
            refine r_gr (b := t + 2) (pc' := 40) rfl rfl (sh_T ht) rfl (pp_T_6 ht) ?_
            refine r_ld (pc' := 41) rfl rfl rfl rfl ?_
            have hb32 := rd_T2 ht hz (i := x3.toNat) (by omega)
            refine r_ia (pc' := 42) rfl rfl (sh_T2 ht) rfl (by omega) (by omega) rfl ?_
            refine r_c0 (pc' := 43) rfl rfl ?_
            refine r_dv (pc' := 44) (v := (z0 (t + 2) x3.toNat) / 3) rfl rfl ⟨by omega, by omega⟩ ⟨by decide, by decide⟩ (by decide) (tdiv_n (by omega)) ?_
            refine r_ai (pc' := 45) rfl rfl rfl rfl (fun v33 h34 => ?_)
            unfold inI at h34
            refine r_ai (pc' := 46) rfl rfl rfl rfl (fun v35 h36 => ?_)
            unfold inI at h36
            refine r_st (pc' := 47) (lv' := [(1, _), (0, _), (2, _), (3, _)]) rfl rfl rfl rfl ?_
            refine r_inc (pc' := 50) (lv' := [(1, _), (0, _), (2, _)]) rfl rfl rfl rfl rfl ?_
            refine r_go rfl ?_
            exact w_lv (sub_c rfl (sub_c rfl (sub_c rfl (sub_c rfl sub_n)))) rfl (ih1 v35 x2 (x3 + 1) ⟨by omega, by omega⟩ ⟨by omega, by omega⟩ ⟨by omega, by omega⟩ ⟨by omega, by omega⟩ (by omega))
  refine w_m rfl rfl ?_
  refine r_c0 (pc' := 1) rfl rfl ?_
  refine r_st (pc' := 2) (lv' := [(1, _), (0, _)]) rfl rfl rfl rfl ?_
  refine r_c0 (pc' := 3) rfl rfl ?_
  refine r_st (pc' := 4) (lv' := [(2, _), (1, _), (0, _)]) rfl rfl rfl rfl ?_
  exact w_lv (sub_c rfl (sub_c rfl (sub_c rfl sub_n))) rfl ((key ((2106 * (12 - 0) + 2101 : Int).toNat + 1)).1 1 0 ⟨by omega, by omega⟩ ⟨by omega, by omega⟩ (by omega))
/-- Told fitsIn -/
abbrev S_79  : mS := []
abbrev E_79 (t : Nat) (a1 : Int) (n : Nat) (z0 w0 : mZ) (x y tx it mt tt ct : Option Nat) : Int → mZ → mZ → mP → Prop := fun v z w p => p = (pq x y tx it mt tt ct) ∧ z0 = z ∧ w0 = w ∧ 0 ≤ v ∧ v ≤ 1 ∧ ((v = 1 → tri (w0 n (z0 (t + 1) (3 * a1).toNat).toNat) (w0 n (z0 (t + 1) (3 * a1 + 1).toNat).toNat) (w0 n (z0 (t + 1) (3 * a1 + 2).toNat).toNat)))
theorem m_79 {d : Nat} {z0 w0 : mZ} {x y tx it mt tt ct : Option Nat} (t : Nat) (a1 : Int) (n : Nat) (hz : rz z0) (hw : rw_ w0) (ha1 : 0 ≤ a1 ∧ a1 ≤ 11) (ht : isT t) (hn : lr n) (b15n : 15 ≤ n) (hnb : ∀ e : Nat, e < 18 → 0 ≤ w0 n e ∧ w0 n e ≤ 100000000000000) : wc (d + 1) 79 [.ref t, .int (Int32.ofInt a1), .ref n] (mk z0 w0 (pq x y tx it mt tt ct)) (poI S_79 z0 w0 (E_79 t a1 n z0 w0 x y tx it mt tt ct)) := by
  have hst : st_ S_79 z0 w0 z0 w0 := st_rf hz hw
  refine w_m rfl rfl ?_
  refine r_ld (pc' := 1) rfl rfl rfl rfl ?_
  refine r_ld (pc' := 2) rfl rfl rfl rfl ?_
  refine r_gr (b := t + 1) (pc' := 5) rfl rfl (sh_T ht) rfl (pp_T_5 ht) ?_
  refine r_c0 (pc' := 6) rfl rfl ?_
  refine r_ld (pc' := 7) rfl rfl rfl rfl ?_
  refine r_mul (pc' := 8) rfl rfl ?_
  have hb11 := rd_T1 ht hz (i := (3 * a1).toNat) (by omega)
  refine r_ia (pc' := 9) rfl rfl (sh_T1 ht) rfl (by omega) (by omega) rfl ?_
  have hb12 := nb_rd hnb hw (i := (z0 (t + 1) (3 * a1).toNat).toNat) (by omega)
  refine r_la (pc' := 10) rfl rfl hn.1 rfl (by omega) (by omega) rfl ?_
  refine r_st (pc' := 11) (lv' := [(3, _), (0, _), (1, _), (2, _)]) rfl rfl rfl rfl ?_
  refine r_ld (pc' := 12) rfl rfl rfl rfl ?_
  refine r_ld (pc' := 13) rfl rfl rfl rfl ?_
  refine r_gr (b := t + 1) (pc' := 16) rfl rfl (sh_T ht) rfl (pp_T_5 ht) ?_
  refine r_c0 (pc' := 17) rfl rfl ?_
  refine r_ld (pc' := 18) rfl rfl rfl rfl ?_
  refine r_mul (pc' := 19) rfl rfl ?_
  refine r_c0 (pc' := 20) rfl rfl ?_
  refine r_add (pc' := 21) rfl rfl ?_
  have hb13 := rd_T1 ht hz (i := ((3 * a1) + 1).toNat) (by omega)
  refine r_ia (pc' := 22) rfl rfl (sh_T1 ht) rfl (by omega) (by omega) rfl ?_
  have hb14 := nb_rd hnb hw (i := (z0 (t + 1) ((3 * a1) + 1).toNat).toNat) (by omega)
  refine r_la (pc' := 23) rfl rfl hn.1 rfl (by omega) (by omega) rfl ?_
  refine r_st (pc' := 25) (lv' := [(5, _), (3, _), (0, _), (1, _), (2, _)]) rfl rfl rfl rfl ?_
  refine r_ld (pc' := 26) rfl rfl rfl rfl ?_
  refine r_ld (pc' := 27) rfl rfl rfl rfl ?_
  refine r_gr (b := t + 1) (pc' := 30) rfl rfl (sh_T ht) rfl (pp_T_5 ht) ?_
  refine r_c0 (pc' := 31) rfl rfl ?_
  refine r_ld (pc' := 32) rfl rfl rfl rfl ?_
  refine r_mul (pc' := 33) rfl rfl ?_
  refine r_c0 (pc' := 34) rfl rfl ?_
  refine r_add (pc' := 35) rfl rfl ?_
  have hb15 := rd_T1 ht hz (i := ((3 * a1) + 2).toNat) (by omega)
  refine r_ia (pc' := 36) rfl rfl (sh_T1 ht) rfl (by omega) (by omega) rfl ?_
  have hb16 := nb_rd hnb hw (i := (z0 (t + 1) ((3 * a1) + 2).toNat).toNat) (by omega)
  refine r_la (pc' := 37) rfl rfl hn.1 rfl (by omega) (by omega) rfl ?_
  refine r_st (pc' := 39) (lv' := [(7, _), (5, _), (3, _), (0, _), (1, _), (2, _)]) rfl rfl rfl rfl ?_
  refine r_ld (pc' := 40) rfl rfl rfl rfl ?_
  refine r_ld (pc' := 42) rfl rfl rfl rfl ?_
  refine r_ladd (pc' := 43) rfl rfl ?_
  refine r_ld (pc' := 45) rfl rfl rfl rfl ?_
  refine r_ladd (pc' := 46) rfl rfl ?_
  refine r_al (pc' := 49) rfl rfl rfl rfl ?_
  refine r_lrm (pc' := 50) (v := (((w0 n (z0 (t + 1) (3 * a1).toNat).toNat) + (w0 n (z0 (t + 1) ((3 * a1) + 1).toNat).toNat)) + (w0 n (z0 (t + 1) ((3 * a1) + 2).toNat).toNat)) % 2) rfl rfl ⟨by omega, by omega⟩ ⟨by decide, by decide⟩ (by decide) (tmod_n (by omega)) ?_
  refine r_lc0 (pc' := 51) rfl rfl ?_
  refine r_lne (pc' := 55) rfl rfl rfl ⟨by omega, by omega⟩ ⟨by decide, by decide⟩ (fun hc17 => ?_) (fun hc17 => ?_)
  · skip
    refine r_c0 (pc' := 90) rfl rfl ?_
    exact r_rz rfl (by omega) (po_I hst ⟨by decide, by decide⟩ ⟨rfl, rfl, rfl, by omega, by omega, (by first | (intro h; exfalso; omega) | (intro _; exact ⟨by omega, by omega, by omega, by omega⟩))⟩)
  · skip
    refine r_ld (pc' := 56) rfl rfl rfl rfl ?_
    refine r_ld (pc' := 58) rfl rfl rfl rfl ?_
    refine r_ld (pc' := 60) rfl rfl rfl rfl ?_
    refine r_ladd (pc' := 61) rfl rfl ?_
    refine r_lgt (pc' := 65) rfl rfl rfl ⟨by omega, by omega⟩ ⟨by omega, by omega⟩ (fun hc18 => ?_) (fun hc18 => ?_)
    · skip
      refine r_c0 (pc' := 90) rfl rfl ?_
      exact r_rz rfl (by omega) (po_I hst ⟨by decide, by decide⟩ ⟨rfl, rfl, rfl, by omega, by omega, (by first | (intro h; exfalso; omega) | (intro _; exact ⟨by omega, by omega, by omega, by omega⟩))⟩)
    · skip
      refine r_ld (pc' := 67) rfl rfl rfl rfl ?_
      refine r_ld (pc' := 68) rfl rfl rfl rfl ?_
      refine r_ld (pc' := 70) rfl rfl rfl rfl ?_
      refine r_ladd (pc' := 71) rfl rfl ?_
      refine r_lgt (pc' := 75) rfl rfl rfl ⟨by omega, by omega⟩ ⟨by omega, by omega⟩ (fun hc19 => ?_) (fun hc19 => ?_)
      · skip
        refine r_c0 (pc' := 90) rfl rfl ?_
        exact r_rz rfl (by omega) (po_I hst ⟨by decide, by decide⟩ ⟨rfl, rfl, rfl, by omega, by omega, (by first | (intro h; exfalso; omega) | (intro _; exact ⟨by omega, by omega, by omega, by omega⟩))⟩)
      · skip
        refine r_ld (pc' := 77) rfl rfl rfl rfl ?_
        refine r_ld (pc' := 78) rfl rfl rfl rfl ?_
        refine r_ld (pc' := 80) rfl rfl rfl rfl ?_
        refine r_ladd (pc' := 81) rfl rfl ?_
        refine r_lgt (pc' := 85) rfl rfl rfl ⟨by omega, by omega⟩ ⟨by omega, by omega⟩ (fun hc20 => ?_) (fun hc20 => ?_)
        · skip
          refine r_c0 (pc' := 90) rfl rfl ?_
          exact r_rz rfl (by omega) (po_I hst ⟨by decide, by decide⟩ ⟨rfl, rfl, rfl, by omega, by omega, (by first | (intro h; exfalso; omega) | (intro _; exact ⟨by omega, by omega, by omega, by omega⟩))⟩)
        · skip
          refine r_c0 (pc' := 86) rfl rfl ?_
          refine r_go rfl ?_
          exact r_rz rfl (by omega) (po_I hst ⟨by decide, by decide⟩ ⟨rfl, rfl, rfl, by omega, by omega, (by first | (intro h; exfalso; omega) | (intro _; exact ⟨by omega, by omega, by omega, by omega⟩))⟩)
/-- Told placeOf -/
abbrev S_84  : mS := []
abbrev E_84 (a0 : Int) (t : Nat) (a3 : Int) (z0 w0 : mZ) (x y tx it mt tt ct : Option Nat) : Int → mZ → mZ → mP → Prop := fun v z w p => p = (pq x y tx it mt tt ct) ∧ z0 = z ∧ w0 = w ∧ (-1) ≤ v ∧ v ≤ 7 ∧ (v < a3)
theorem m_84 {d : Nat} {z0 w0 : mZ} {x y tx it mt tt ct : Option Nat} (a0 : Int) (t : Nat) (a3 : Int) (hz : rz z0) (hw : rw_ w0) (ha0 : (-9223372036854775808) ≤ a0 ∧ a0 ≤ 9223372036854775807) (ha3 : 0 ≤ a3 ∧ a3 ≤ 8) (ht : isT t) : wc (d + 1) 84 [.long (Int64.ofInt a0), .ref (t + 16), .int (Int32.ofInt a3)] (mk z0 w0 (pq x y tx it mt tt ct)) (poI S_84 z0 w0 (E_84 a0 t a3 z0 w0 x y tx it mt tt ct)) := by
  have hst : st_ S_84 z0 w0 z0 w0 := st_rf hz hw
  have key : ∀ N : Nat, (∀ (x4 : Int) , 0 ≤ x4 ∧ x4 ≤ 8 → 17 * (8 - x4) + 14 < (N : Int) → wp_ (d) 84 5 (some .int) (3, [(0, .long (Int64.ofInt a0)), (2, .ref (t + 16)), (3, .int (Int32.ofInt a3)), (4, .int (Int32.ofInt x4))], [], mk z0 w0 (pq x y tx it mt tt ct)) (poI S_84 z0 w0 (E_84 a0 t a3 z0 w0 x y tx it mt tt ct))) := by
    intro N
    induction N with
    | zero =>
      intro x4 
      intros; exfalso; omega
    | succ N ih =>
      have ih0 := ih; clear ih
      intro x4 hx4 hM
      refine r_ld (pc' := 5) rfl rfl rfl rfl ?_
      refine r_ld (pc' := 6) rfl rfl rfl rfl ?_
      refine r_ige (pc' := 9) rfl rfl ⟨by omega, by omega⟩ ⟨by omega, by omega⟩ (fun hc4 => ?_) (fun hc4 => ?_)
      · skip
        refine r_c0 (pc' := 28) rfl rfl ?_
        exact r_ri rfl (po_I hst ⟨by decide, by decide⟩ ⟨rfl, rfl, rfl, by omega, by omega, (by first | omega | assumption)⟩)
      · skip
        refine r_ld (pc' := 10) rfl rfl rfl rfl ?_
        refine r_ld (pc' := 12) rfl rfl rfl rfl ?_
        have hb5 := rd_T16 ht hw (i := x4.toNat) (by omega)
        refine r_la (pc' := 13) rfl rfl (sh_T16 ht) rfl (by omega) (by omega) rfl ?_
        refine r_ld (pc' := 14) rfl rfl rfl rfl ?_
        refine r_lne (pc' := 18) rfl rfl rfl ⟨by omega, by omega⟩ ⟨by omega, by omega⟩ (fun hc6 => ?_) (fun hc6 => ?_)
        · skip
          refine r_inc (pc' := 24) (lv' := [(0, _), (2, _), (3, _)]) rfl rfl rfl rfl rfl ?_
          refine r_go rfl ?_
          exact w_lv (sub_c rfl (sub_c rfl (sub_c rfl (sub_c rfl sub_n)))) rfl (ih0 (x4 + 1) ⟨by omega, by omega⟩ (by omega))
        · skip
          refine r_ld (pc' := 20) rfl rfl rfl rfl ?_
          exact r_ri rfl (po_I hst ⟨by omega, by omega⟩ ⟨rfl, rfl, rfl, by omega, by omega, (by first | omega | assumption)⟩)
  refine w_m rfl rfl ?_
  refine r_c0 (pc' := 1) rfl rfl ?_
  refine r_st (pc' := 3) (lv' := [(4, _), (0, _), (2, _), (3, _)]) rfl rfl rfl rfl ?_
  exact w_lv (sub_c rfl (sub_c rfl (sub_c rfl (sub_c rfl sub_n)))) rfl ((key ((17 * (8 - 0) + 14 : Int).toNat + 1)) 0 ⟨by omega, by omega⟩ (by omega))
/-- Told placeOf -/
abbrev S_84w  : mS := []
abbrev E_84w (a0 : Int) (t : Nat) (a3 : Int) (z0 w0 : mZ) (x y tx it mt tt ct : Option Nat) : Int → mZ → mZ → mP → Prop := fun v z w p => p = (pq x y tx it mt tt ct) ∧ z0 = z ∧ w0 = w ∧ (-1) ≤ v ∧ v ≤ 5 ∧ (v < a3)
theorem m_84w {d : Nat} {z0 w0 : mZ} {x y tx it mt tt ct : Option Nat} (a0 : Int) (t : Nat) (a3 : Int) (hz : rz z0) (hw : rw_ w0) (ha0 : (-9223372036854775808) ≤ a0 ∧ a0 ≤ 9223372036854775807) (ha3 : 0 ≤ a3 ∧ a3 ≤ 6) (ht : isT t) : wc (d + 1) 84 [.long (Int64.ofInt a0), .ref (t + 17), .int (Int32.ofInt a3)] (mk z0 w0 (pq x y tx it mt tt ct)) (poI S_84w z0 w0 (E_84w a0 t a3 z0 w0 x y tx it mt tt ct)) := by
  have hst : st_ S_84w z0 w0 z0 w0 := st_rf hz hw
  have key : ∀ N : Nat, (∀ (x4 : Int) , 0 ≤ x4 ∧ x4 ≤ 6 → 17 * (6 - x4) + 14 < (N : Int) → wp_ (d) 84 5 (some .int) (3, [(0, .long (Int64.ofInt a0)), (2, .ref (t + 17)), (3, .int (Int32.ofInt a3)), (4, .int (Int32.ofInt x4))], [], mk z0 w0 (pq x y tx it mt tt ct)) (poI S_84w z0 w0 (E_84w a0 t a3 z0 w0 x y tx it mt tt ct))) := by
    intro N
    induction N with
    | zero =>
      intro x4 
      intros; exfalso; omega
    | succ N ih =>
      have ih0 := ih; clear ih
      intro x4 hx4 hM
      refine r_ld (pc' := 5) rfl rfl rfl rfl ?_
      refine r_ld (pc' := 6) rfl rfl rfl rfl ?_
      refine r_ige (pc' := 9) rfl rfl ⟨by omega, by omega⟩ ⟨by omega, by omega⟩ (fun hc4 => ?_) (fun hc4 => ?_)
      · skip
        refine r_c0 (pc' := 28) rfl rfl ?_
        exact r_ri rfl (po_I hst ⟨by decide, by decide⟩ ⟨rfl, rfl, rfl, by omega, by omega, (by first | omega | assumption)⟩)
      · skip
        refine r_ld (pc' := 10) rfl rfl rfl rfl ?_
        refine r_ld (pc' := 12) rfl rfl rfl rfl ?_
        have hb5 := rd_T17 ht hw (i := x4.toNat) (by omega)
        refine r_la (pc' := 13) rfl rfl (sh_T17 ht) rfl (by omega) (by omega) rfl ?_
        refine r_ld (pc' := 14) rfl rfl rfl rfl ?_
        refine r_lne (pc' := 18) rfl rfl rfl ⟨by omega, by omega⟩ ⟨by omega, by omega⟩ (fun hc6 => ?_) (fun hc6 => ?_)
        · skip
          refine r_inc (pc' := 24) (lv' := [(0, _), (2, _), (3, _)]) rfl rfl rfl rfl rfl ?_
          refine r_go rfl ?_
          exact w_lv (sub_c rfl (sub_c rfl (sub_c rfl (sub_c rfl sub_n)))) rfl (ih0 (x4 + 1) ⟨by omega, by omega⟩ (by omega))
        · skip
          refine r_ld (pc' := 20) rfl rfl rfl rfl ?_
          exact r_ri rfl (po_I hst ⟨by omega, by omega⟩ ⟨rfl, rfl, rfl, by omega, by omega, (by first | omega | assumption)⟩)
  refine w_m rfl rfl ?_
  refine r_c0 (pc' := 1) rfl rfl ?_
  refine r_st (pc' := 3) (lv' := [(4, _), (0, _), (2, _), (3, _)]) rfl rfl rfl rfl ?_
  exact w_lv (sub_c rfl (sub_c rfl (sub_c rfl (sub_c rfl sub_n)))) rfl ((key ((17 * (6 - 0) + 14 : Int).toNat + 1)) 0 ⟨by omega, by omega⟩ (by omega))
/-- Tracer begin -/
abbrev S_87  : mS := [(4, 4, 9, 9), (4, 4, 10, 10), (4, 4, 11, 11), (4, 4, 12, 12)]
abbrev E_87 (a1 : Int) (a2 : Int) (z0 w0 : mZ) (x y tx it mt tt ct : Option Nat) : mZ → mZ → mP → Prop := fun z w p => p = (pq x y tx it mt tt ct)
theorem m_87 {d : Nat} {z0 w0 : mZ} {x y tx it mt tt ct : Option Nat} (a1 : Int) (a2 : Int) (hz : rz z0) (hw : rw_ w0) (ha1 : 0 ≤ a1 ∧ a1 ≤ 35) (ha2 : (-2147483648) ≤ a2 ∧ a2 ≤ 2147483647) : wc (d + 1) 87 [.ref 4, .int (Int32.ofInt a1), .int (Int32.ofInt a2)] (mk z0 w0 (pq x y tx it mt tt ct)) (poV S_87 z0 w0 (E_87 a1 a2 z0 w0 x y tx it mt tt ct)) := by
  have hst : st_ S_87 z0 w0 z0 w0 := st_rf hz hw
  refine w_m rfl rfl ?_
  refine r_ld (pc' := 1) rfl rfl rfl rfl ?_
  refine r_ld (pc' := 2) rfl rfl rfl rfl ?_
  refine r_pi (pc' := 5) rfl rfl sh_4 rfl rfl hst (inS_0 (by omega) (by omega) (by omega) (by omega)) (wr_4_9 ⟨by omega, by omega⟩) (fun z13 hq14 hs15 => ?_)
  refine r_ld (pc' := 6) rfl rfl rfl rfl ?_
  refine r_ld (pc' := 7) rfl rfl rfl rfl ?_
  refine r_pi (pc' := 10) rfl rfl sh_4 rfl rfl hs15 (inS_s (inS_0 (by omega) (by omega) (by omega) (by omega))) (wr_4_10 ⟨by omega, by omega⟩) (fun z16 hq17 hs18 => ?_)
  refine r_ld (pc' := 11) rfl rfl rfl rfl ?_
  refine r_ld (pc' := 12) rfl rfl rfl rfl ?_
  refine r_pi (pc' := 15) rfl rfl sh_4 rfl rfl hs18 (inS_s (inS_s (inS_0 (by omega) (by omega) (by omega) (by omega)))) (wr_4_11 ⟨by omega, by omega⟩) (fun z19 hq20 hs21 => ?_)
  refine r_ld (pc' := 16) rfl rfl rfl rfl ?_
  refine r_ld (pc' := 17) rfl rfl rfl rfl ?_
  refine r_pi (pc' := 20) rfl rfl sh_4 rfl rfl hs21 (inS_s (inS_s (inS_s (inS_0 (by omega) (by omega) (by omega) (by omega))))) (wr_4_12 ⟨by omega, by omega⟩) (fun z22 hq23 hs24 => ?_)
  exact r_ret rfl (po_V hs24 rfl)
/-- Tracer isBack -/
abbrev S_89  : mS := []
abbrev E_89  (z0 w0 : mZ) (x y tx it mt tt ct : Option Nat) : Int → mZ → mZ → mP → Prop := fun v z w p => p = (pq x y tx it mt tt ct) ∧ z0 = z ∧ w0 = w ∧ 0 ≤ v ∧ v ≤ 1
theorem m_89 {d : Nat} {z0 w0 : mZ} {x y tx it mt tt ct : Option Nat}  (hz : rz z0) (hw : rw_ w0) : wc (d + 1) 89 [.ref 4] (mk z0 w0 (pq x y tx it mt tt ct)) (poI S_89 z0 w0 (E_89  z0 w0 x y tx it mt tt ct)) := by
  have hst : st_ S_89 z0 w0 z0 w0 := st_rf hz hw
  refine w_m rfl rfl ?_
  refine r_ld (pc' := 1) rfl rfl rfl rfl ?_
  have hb7 := rd_4_9 hz
  refine r_gi (pc' := 4) rfl rfl sh_4 rfl rfl ?_
  refine r_ld (pc' := 5) rfl rfl rfl rfl ?_
  have hb8 := rd_4_11 hz
  refine r_gi (pc' := 8) rfl rfl sh_4 rfl rfl ?_
  refine r_ine (pc' := 11) rfl rfl ⟨by omega, by omega⟩ ⟨by omega, by omega⟩ (fun hc9 => ?_) (fun hc9 => ?_)
  · skip
    refine r_c0 (pc' := 27) rfl rfl ?_
    exact r_rz rfl (by omega) (po_I hst ⟨by decide, by decide⟩ ⟨rfl, rfl, rfl, by omega, by omega⟩)
  · skip
    refine r_ld (pc' := 12) rfl rfl rfl rfl ?_
    have hb10 := rd_4_10 hz
    refine r_gi (pc' := 15) rfl rfl sh_4 rfl rfl ?_
    refine r_ld (pc' := 16) rfl rfl rfl rfl ?_
    have hb11 := rd_4_12 hz
    refine r_gi (pc' := 19) rfl rfl sh_4 rfl rfl ?_
    refine r_ine (pc' := 22) rfl rfl ⟨by omega, by omega⟩ ⟨by omega, by omega⟩ (fun hc12 => ?_) (fun hc12 => ?_)
    · skip
      refine r_c0 (pc' := 27) rfl rfl ?_
      exact r_rz rfl (by omega) (po_I hst ⟨by decide, by decide⟩ ⟨rfl, rfl, rfl, by omega, by omega⟩)
    · skip
      refine r_c0 (pc' := 23) rfl rfl ?_
      refine r_go rfl ?_
      exact r_rz rfl (by omega) (po_I hst ⟨by decide, by decide⟩ ⟨rfl, rfl, rfl, by omega, by omega⟩)
/-- Tracer countAt -/
abbrev S_90  : mS := []
abbrev E_90 (t : Nat) (a1 : Int) (z0 w0 : mZ) (x y tx it mt ct : Option Nat) : Int → mZ → mZ → mP → Prop := fun v z w p => p = (pq x y tx it mt (some t) ct) ∧ z0 = z ∧ w0 = w ∧ 0 ≤ v ∧ v ≤ 18000
theorem m_90 {d : Nat} {z0 w0 : mZ} {x y tx it mt ct : Option Nat} (t : Nat) (a1 : Int) (hz : rz z0) (hw : rw_ w0) (ha1 : 0 ≤ a1 ∧ a1 ≤ 35) (ht : isT t) : wc (d + 1) 90 [.ref 4, .int (Int32.ofInt a1)] (mk z0 w0 (pq x y tx it mt (some t) ct)) (poI S_90 z0 w0 (E_90 t a1 z0 w0 x y tx it mt ct)) := by
  have hst : st_ S_90 z0 w0 z0 w0 := st_rf hz hw
  refine w_m rfl rfl ?_
  refine r_ld (pc' := 1) rfl rfl rfl rfl ?_
  refine r_gr (b := 7) (pc' := 4) rfl rfl sh_4 rfl pp_4_4 ?_
  refine r_ld (pc' := 5) rfl rfl rfl rfl ?_
  refine r_gr (b := t) (pc' := 8) rfl rfl sh_4 rfl pp_4_7 ?_
  refine r_gr (b := t + 1) (pc' := 11) rfl rfl (sh_T ht) rfl (pp_T_5 ht) ?_
  refine r_ld (pc' := 12) rfl rfl rfl rfl ?_
  have hb3 := rd_T1 ht hz (i := a1.toNat) (by omega)
  refine r_ia (pc' := 13) rfl rfl (sh_T1 ht) rfl (by omega) (by omega) rfl ?_
  have hb4 := rd_7 hz (i := (z0 (t + 1) a1.toNat).toNat) (by omega)
  refine r_ia (pc' := 14) rfl rfl sh_7 rfl (by omega) (by omega) rfl ?_
  exact r_ri rfl (po_I hst ⟨by omega, by omega⟩ ⟨rfl, rfl, rfl, by omega, by omega⟩)
/-- LoopGround isEdge -/
abbrev S_133  : mS := []
abbrev E_133 (t : Nat) (u : Nat) (a1 : Int) (z0 w0 : mZ) (tx it mt tt ct : Option Nat) : Int → mZ → mZ → mP → Prop := fun v z w p => p = (pq (some t) (some u) tx it mt tt ct) ∧ z0 = z ∧ w0 = w ∧ 0 ≤ v ∧ v ≤ 1 ∧ ((v = 1 ∧ 0 ≤ a1 ∧ a1 < z0 t 1) ∨ (v = 0 ∧ (a1 < 0 ∨ z0 t 1 ≤ a1)))
theorem m_133 {d : Nat} {z0 w0 : mZ} {tx it mt tt ct : Option Nat} (t : Nat) (u : Nat) (a1 : Int) (hz : rz z0) (hw : rw_ w0) (ha1 : (-2147483648) ≤ a1 ∧ a1 ≤ 2147483647) (ht : isT t) (hu : isT u) : wc (d + 1) 133 [.ref 1, .int (Int32.ofInt a1)] (mk z0 w0 (pq (some t) (some u) tx it mt tt ct)) (poI S_133 z0 w0 (E_133 t u a1 z0 w0 tx it mt tt ct)) := by
  have hst : st_ S_133 z0 w0 z0 w0 := st_rf hz hw
  have hz4 := rd_T_1 ht hz
  refine w_m rfl rfl ?_
  refine r_ld (pc' := 1) rfl rfl rfl rfl ?_
  refine r_zlt (pc' := 4) rfl rfl ⟨by omega, by omega⟩ (fun hc5 => ?_) (fun hc5 => ?_)
  · skip
    refine r_c0 (pc' := 20) rfl rfl ?_
    exact r_rz rfl (by omega) (po_I hst ⟨by decide, by decide⟩ ⟨rfl, rfl, rfl, by omega, by omega, (by first | omega | assumption)⟩)
  · skip
    refine r_ld (pc' := 5) rfl rfl rfl rfl ?_
    refine r_ld (pc' := 6) rfl rfl rfl rfl ?_
    refine r_gr (b := t) (pc' := 9) rfl rfl sh_1 rfl pp_1_13 ?_
    have hb6 := rd_T_1 ht hz
    refine r_gi (pc' := 12) rfl rfl (sh_T ht) rfl rfl ?_
    refine r_ige (pc' := 15) rfl rfl ⟨by omega, by omega⟩ ⟨by omega, by omega⟩ (fun hc7 => ?_) (fun hc7 => ?_)
    · skip
      refine r_c0 (pc' := 20) rfl rfl ?_
      exact r_rz rfl (by omega) (po_I hst ⟨by decide, by decide⟩ ⟨rfl, rfl, rfl, by omega, by omega, (by first | omega | assumption)⟩)
    · skip
      refine r_c0 (pc' := 16) rfl rfl ?_
      refine r_go rfl ?_
      exact r_rz rfl (by omega) (po_I hst ⟨by decide, by decide⟩ ⟨rfl, rfl, rfl, by omega, by omega, (by first | omega | assumption)⟩)
/-- LoopGround isLine -/
abbrev S_134  : mS := []
abbrev E_134 (t : Nat) (u : Nat) (a1 : Int) (z0 w0 : mZ) (tx it mt tt ct : Option Nat) : Int → mZ → mZ → mP → Prop := fun v z w p => p = (pq (some t) (some u) tx it mt tt ct) ∧ z0 = z ∧ w0 = w ∧ 0 ≤ v ∧ v ≤ 1 ∧ ((v = 1 ∧ 0 ≤ a1 ∧ a1 < z0 t 3) ∨ (v = 0 ∧ (a1 < 0 ∨ z0 t 3 ≤ a1)))
theorem m_134 {d : Nat} {z0 w0 : mZ} {tx it mt tt ct : Option Nat} (t : Nat) (u : Nat) (a1 : Int) (hz : rz z0) (hw : rw_ w0) (ha1 : (-2147483648) ≤ a1 ∧ a1 ≤ 2147483647) (ht : isT t) (hu : isT u) : wc (d + 1) 134 [.ref 1, .int (Int32.ofInt a1)] (mk z0 w0 (pq (some t) (some u) tx it mt tt ct)) (poI S_134 z0 w0 (E_134 t u a1 z0 w0 tx it mt tt ct)) := by
  have hst : st_ S_134 z0 w0 z0 w0 := st_rf hz hw
  have hz4 := rd_T_3 ht hz
  refine w_m rfl rfl ?_
  refine r_ld (pc' := 1) rfl rfl rfl rfl ?_
  refine r_zlt (pc' := 4) rfl rfl ⟨by omega, by omega⟩ (fun hc5 => ?_) (fun hc5 => ?_)
  · skip
    refine r_c0 (pc' := 20) rfl rfl ?_
    exact r_rz rfl (by omega) (po_I hst ⟨by decide, by decide⟩ ⟨rfl, rfl, rfl, by omega, by omega, (by first | omega | assumption)⟩)
  · skip
    refine r_ld (pc' := 5) rfl rfl rfl rfl ?_
    refine r_ld (pc' := 6) rfl rfl rfl rfl ?_
    refine r_gr (b := t) (pc' := 9) rfl rfl sh_1 rfl pp_1_13 ?_
    have hb6 := rd_T_3 ht hz
    refine r_gi (pc' := 12) rfl rfl (sh_T ht) rfl rfl ?_
    refine r_ige (pc' := 15) rfl rfl ⟨by omega, by omega⟩ ⟨by omega, by omega⟩ (fun hc7 => ?_) (fun hc7 => ?_)
    · skip
      refine r_c0 (pc' := 20) rfl rfl ?_
      exact r_rz rfl (by omega) (po_I hst ⟨by decide, by decide⟩ ⟨rfl, rfl, rfl, by omega, by omega, (by first | omega | assumption)⟩)
    · skip
      refine r_c0 (pc' := 16) rfl rfl ?_
      refine r_go rfl ?_
      exact r_rz rfl (by omega) (po_I hst ⟨by decide, by decide⟩ ⟨rfl, rfl, rfl, by omega, by omega, (by first | omega | assumption)⟩)
/-- LoopGround sameRow -/
abbrev S_141  : mS := []
abbrev E_141 (n : Nat) (q : Nat) (z0 w0 : mZ) (x y tx it mt tt ct : Option Nat) : Int → mZ → mZ → mP → Prop := fun v z w p => p = (pq x y tx it mt tt ct) ∧ z0 = z ∧ w0 = w ∧ 0 ≤ v ∧ v ≤ 1
theorem m_141 {d : Nat} {z0 w0 : mZ} {x y tx it mt tt ct : Option Nat} (n : Nat) (q : Nat) (hz : rz z0) (hw : rw_ w0) (hn : lr n) (b15n : 15 ≤ n) (hq : lr q) (b15q : 15 ≤ q) : wc (d + 1) 141 [.ref n, .ref q] (mk z0 w0 (pq x y tx it mt tt ct)) (poI S_141 z0 w0 (E_141 n q z0 w0 x y tx it mt tt ct)) := by
  have hst : st_ S_141 z0 w0 z0 w0 := st_rf hz hw
  have key : ∀ N : Nat, (∀ (x2 : Int) , 0 ≤ x2 ∧ x2 ≤ 18 → 19 * (18 - x2) + 16 < (N : Int) → wp_ (d) 141 3 (some .boolean) (2, [(0, .ref n), (1, .ref q), (2, .int (Int32.ofInt x2))], [], mk z0 w0 (pq x y tx it mt tt ct)) (poI S_141 z0 w0 (E_141 n q z0 w0 x y tx it mt tt ct))) := by
    intro N
    induction N with
    | zero =>
      intro x2 
      intros; exfalso; omega
    | succ N ih =>
      have ih0 := ih; clear ih
      intro x2 hx2 hM
      refine r_ld (pc' := 3) rfl rfl rfl rfl ?_
      refine r_cb (pc' := 5) rfl (by decide) rfl ?_
      refine r_ige (pc' := 8) rfl rfl ⟨by omega, by omega⟩ ⟨by decide, by decide⟩ (fun hc5 => ?_) (fun hc5 => ?_)
      · skip
        refine r_c0 (pc' := 27) rfl rfl ?_
        exact r_rz rfl (by omega) (po_I hst ⟨by decide, by decide⟩ ⟨rfl, rfl, rfl, by omega, by omega⟩)
      · skip
        refine r_ld (pc' := 9) rfl rfl rfl rfl ?_
        refine r_ld (pc' := 10) rfl rfl rfl rfl ?_
        have hb6 := lr_rd hn hw (i := x2.toNat) (by omega)
        refine r_la (pc' := 11) rfl rfl hn.1 rfl (by omega) (by omega) rfl ?_
        refine r_ld (pc' := 12) rfl rfl rfl rfl ?_
        refine r_ld (pc' := 13) rfl rfl rfl rfl ?_
        have hb7 := lr_rd hq hw (i := x2.toNat) (by omega)
        refine r_la (pc' := 14) rfl rfl hq.1 rfl (by omega) (by omega) rfl ?_
        refine r_leq (pc' := 18) rfl rfl rfl ⟨by omega, by omega⟩ ⟨by omega, by omega⟩ (fun hc8 => ?_) (fun hc8 => ?_)
        · skip
          refine r_inc (pc' := 23) (lv' := [(0, _), (1, _)]) rfl rfl rfl rfl rfl ?_
          refine r_go rfl ?_
          exact w_lv (sub_c rfl (sub_c rfl (sub_c rfl sub_n))) rfl (ih0 (x2 + 1) ⟨by omega, by omega⟩ (by omega))
        · skip
          refine r_c0 (pc' := 19) rfl rfl ?_
          exact r_rz rfl (by omega) (po_I hst ⟨by decide, by decide⟩ ⟨rfl, rfl, rfl, by omega, by omega⟩)
  refine w_m rfl rfl ?_
  refine r_c0 (pc' := 1) rfl rfl ?_
  refine r_st (pc' := 2) (lv' := [(2, _), (0, _), (1, _)]) rfl rfl rfl rfl ?_
  exact w_lv (sub_c rfl (sub_c rfl (sub_c rfl sub_n))) rfl ((key ((19 * (18 - 0) + 16 : Int).toNat + 1)) 0 ⟨by omega, by omega⟩ (by omega))
/-- LoopGround total -/
abbrev S_142  : mS := []
abbrev E_142 (n : Nat) (z0 w0 : mZ) (x y tx it mt tt ct : Option Nat) : Int → mZ → mZ → mP → Prop := fun v z w p => p = (pq x y tx it mt tt ct) ∧ z0 = z ∧ w0 = w ∧ (-9223372036854775808) ≤ v ∧ v ≤ 9223372036854775807
theorem m_142 {d : Nat} {z0 w0 : mZ} {x y tx it mt tt ct : Option Nat} (n : Nat) (hz : rz z0) (hw : rw_ w0) (hn : lr n) (b15n : 15 ≤ n) : wc (d + 1) 142 [.ref n] (mk z0 w0 (pq x y tx it mt tt ct)) (poL S_142 z0 w0 (E_142 n z0 w0 x y tx it mt tt ct)) := by
  have hst : st_ S_142 z0 w0 z0 w0 := st_rf hz hw
  have key : ∀ N : Nat, (∀ (x1 x3 : Int) , (-9223372036854775808) ≤ x1 ∧ x1 ≤ 9223372036854775807 → 0 ≤ x3 ∧ x3 ≤ 18 → 17 * (18 - x3) + 12 < (N : Int) → wp_ (d) 142 4 (some .long) (4, [(0, .ref n), (1, .long (Int64.ofInt x1)), (3, .int (Int32.ofInt x3))], [], mk z0 w0 (pq x y tx it mt tt ct)) (poL S_142 z0 w0 (E_142 n z0 w0 x y tx it mt tt ct))) := by
    intro N
    induction N with
    | zero =>
      intro x1 x3 
      intros; exfalso; omega
    | succ N ih =>
      have ih0 := ih; clear ih
      intro x1 x3 hx1 hx3 hM
      refine r_ld (pc' := 5) rfl rfl rfl rfl ?_
      refine r_cb (pc' := 7) rfl (by decide) rfl ?_
      refine r_ige (pc' := 10) rfl rfl ⟨by omega, by omega⟩ ⟨by decide, by decide⟩ (fun hc6 => ?_) (fun hc6 => ?_)
      · skip
        refine r_ld (pc' := 23) rfl rfl rfl rfl ?_
        exact r_rl rfl (po_L hst ⟨by omega, by omega⟩ ⟨rfl, rfl, rfl, by omega, by omega⟩)
      · skip
        refine r_ld (pc' := 11) rfl rfl rfl rfl ?_
        refine r_ld (pc' := 12) rfl rfl rfl rfl ?_
        refine r_ld (pc' := 13) rfl rfl rfl rfl ?_
        have hb7 := lr_rd hn hw (i := x3.toNat) (by omega)
        refine r_la (pc' := 14) rfl rfl hn.1 rfl (by omega) (by omega) rfl ?_
        refine r_ladd (pc' := 15) rfl rfl ?_
        refine w_hxl (fun v8 h9 h10 => ?_)
        refine r_st (pc' := 16) (lv' := [(1, _), (0, _), (3, _)]) rfl rfl rfl rfl ?_
        refine r_inc (pc' := 19) (lv' := [(1, _), (0, _)]) rfl rfl rfl rfl rfl ?_
        refine r_go rfl ?_
        exact w_lv (sub_c rfl (sub_c rfl (sub_c rfl sub_n))) rfl (ih0 v8 (x3 + 1) ⟨by omega, by omega⟩ ⟨by omega, by omega⟩ (by omega))
  refine w_m rfl rfl ?_
  refine r_lc0 (pc' := 1) rfl rfl ?_
  refine r_st (pc' := 2) (lv' := [(1, _), (0, _)]) rfl rfl rfl rfl ?_
  refine r_c0 (pc' := 3) rfl rfl ?_
  refine r_st (pc' := 4) (lv' := [(3, _), (1, _), (0, _)]) rfl rfl rfl rfl ?_
  exact w_lv (sub_c rfl (sub_c rfl (sub_c rfl sub_n))) rfl ((key ((17 * (18 - 0) + 12 : Int).toNat + 1)) 0 0 ⟨by omega, by omega⟩ ⟨by omega, by omega⟩ (by omega))
/-- LoopGround behind -/
abbrev S_143  : mS := []
abbrev E_143 (a0 : Int) (z0 w0 : mZ) (x y tx it mt tt ct : Option Nat) : Int → mZ → mZ → mP → Prop := fun v z w p => p = (pq x y tx it mt tt ct) ∧ z0 = z ∧ w0 = w ∧ 0 ≤ v ∧ v ≤ 35 ∧ ((a0 % 3 = 2 → v = a0 - 2) ∧ (a0 % 3 ≠ 2 → v = a0 + 1))
theorem m_143 {d : Nat} {z0 w0 : mZ} {x y tx it mt tt ct : Option Nat} (a0 : Int) (hz : rz z0) (hw : rw_ w0) (ha0 : 0 ≤ a0 ∧ a0 ≤ 35) : wc (d + 1) 143 [.int (Int32.ofInt a0)] (mk z0 w0 (pq x y tx it mt tt ct)) (poI S_143 z0 w0 (E_143 a0 z0 w0 x y tx it mt tt ct)) := by
  have hst : st_ S_143 z0 w0 z0 w0 := st_rf hz hw
  refine w_m rfl rfl ?_
  refine r_ld (pc' := 1) rfl rfl rfl rfl ?_
  refine r_c0 (pc' := 2) rfl rfl ?_
  refine r_rm (pc' := 3) (v := a0 % 3) rfl rfl ⟨by omega, by omega⟩ ⟨by decide, by decide⟩ (by decide) (tmod_n (by omega)) ?_
  refine r_c0 (pc' := 4) rfl rfl ?_
  refine r_ine (pc' := 7) rfl rfl ⟨by omega, by omega⟩ ⟨by decide, by decide⟩ (fun hc2 => ?_) (fun hc2 => ?_)
  · skip
    refine r_ld (pc' := 14) rfl rfl rfl rfl ?_
    refine r_c0 (pc' := 15) rfl rfl ?_
    refine r_add (pc' := 16) rfl rfl ?_
    exact r_ri rfl (po_I hst ⟨by omega, by omega⟩ ⟨rfl, rfl, rfl, by omega, by omega, (by first | omega | assumption)⟩)
  · skip
    refine r_ld (pc' := 8) rfl rfl rfl rfl ?_
    refine r_c0 (pc' := 9) rfl rfl ?_
    refine r_sub (pc' := 10) rfl rfl ?_
    refine r_go rfl ?_
    exact r_ri rfl (po_I hst ⟨by omega, by omega⟩ ⟨rfl, rfl, rfl, by omega, by omega, (by first | omega | assumption)⟩)
/-- LoopGround ahead -/
abbrev S_144  : mS := []
abbrev E_144 (a0 : Int) (z0 w0 : mZ) (x y tx it mt tt ct : Option Nat) : Int → mZ → mZ → mP → Prop := fun v z w p => p = (pq x y tx it mt tt ct) ∧ z0 = z ∧ w0 = w ∧ 0 ≤ v ∧ v ≤ 35 ∧ ((a0 % 3 = 0 → v = a0 + 2) ∧ (a0 % 3 ≠ 0 → v = a0 - 1))
theorem m_144 {d : Nat} {z0 w0 : mZ} {x y tx it mt tt ct : Option Nat} (a0 : Int) (hz : rz z0) (hw : rw_ w0) (ha0 : 0 ≤ a0 ∧ a0 ≤ 35) : wc (d + 1) 144 [.int (Int32.ofInt a0)] (mk z0 w0 (pq x y tx it mt tt ct)) (poI S_144 z0 w0 (E_144 a0 z0 w0 x y tx it mt tt ct)) := by
  have hst : st_ S_144 z0 w0 z0 w0 := st_rf hz hw
  refine w_m rfl rfl ?_
  refine r_ld (pc' := 1) rfl rfl rfl rfl ?_
  refine r_c0 (pc' := 2) rfl rfl ?_
  refine r_rm (pc' := 3) (v := a0 % 3) rfl rfl ⟨by omega, by omega⟩ ⟨by decide, by decide⟩ (by decide) (tmod_n (by omega)) ?_
  refine r_zne (pc' := 6) rfl rfl ⟨by omega, by omega⟩ (fun hc2 => ?_) (fun hc2 => ?_)
  · skip
    refine r_ld (pc' := 13) rfl rfl rfl rfl ?_
    refine r_c0 (pc' := 14) rfl rfl ?_
    refine r_sub (pc' := 15) rfl rfl ?_
    exact r_ri rfl (po_I hst ⟨by omega, by omega⟩ ⟨rfl, rfl, rfl, by omega, by omega, (by first | omega | assumption)⟩)
  · skip
    refine r_ld (pc' := 7) rfl rfl rfl rfl ?_
    refine r_c0 (pc' := 8) rfl rfl ?_
    refine r_add (pc' := 9) rfl rfl ?_
    refine r_go rfl ?_
    exact r_ri rfl (po_I hst ⟨by omega, by omega⟩ ⟨rfl, rfl, rfl, by omega, by omega, (by first | omega | assumption)⟩)
/-- J9 floorMod_f86c9 -/
abbrev S_258  : mS := []
abbrev E_258 (a0 : Int) (a2 : Int) (z0 w0 : mZ) (x y tx it mt tt ct : Option Nat) : Int → mZ → mZ → mP → Prop := fun v z w p => p = (pq x y tx it mt tt ct) ∧ z0 = z ∧ w0 = w ∧ (-1000002) ≤ v ∧ v ≤ 2000005
theorem m_258 {d : Nat} {z0 w0 : mZ} {x y tx it mt tt ct : Option Nat} (a0 : Int) (a2 : Int) (hz : rz z0) (hw : rw_ w0) (ha0 : (-9223372036854775808) ≤ a0 ∧ a0 ≤ 9223372036854775807) (ha2 : 1 ≤ a2 ∧ a2 ≤ 1000003) : wc (d + 1) 258 [.long (Int64.ofInt a0), .long (Int64.ofInt a2)] (mk z0 w0 (pq x y tx it mt tt ct)) (poL S_258 z0 w0 (E_258 a0 a2 z0 w0 x y tx it mt tt ct)) := by
  have hst : st_ S_258 z0 w0 z0 w0 := st_rf hz hw
  refine w_m rfl rfl ?_
  refine r_ld (pc' := 1) rfl rfl rfl rfl ?_
  refine r_ld (pc' := 2) rfl rfl rfl rfl ?_
  refine r_lrmh (pc' := 3) rfl rfl ⟨by omega, by omega⟩ (by omega) (fun v9 h10 h11 h12 => ?_)
  refine r_st (pc' := 5) (lv' := [(4, _), (0, _), (2, _)]) rfl rfl rfl rfl ?_
  refine r_ld (pc' := 6) rfl rfl rfl rfl ?_
  refine r_ld (pc' := 7) rfl rfl rfl rfl ?_
  refine r_aL (pc' := 8) rfl rfl rfl rfl (fun v13 h14 => ?_)
  unfold inL at h14
  refine r_lc0 (pc' := 9) rfl rfl ?_
  refine r_lge (pc' := 13) rfl rfl rfl ⟨by omega, by omega⟩ ⟨by decide, by decide⟩ (fun hc15 => ?_) (fun hc15 => ?_)
  · skip
    refine r_ld (pc' := 27) rfl rfl rfl rfl ?_
    exact r_rl rfl (po_L hst ⟨by omega, by omega⟩ ⟨rfl, rfl, rfl, by omega, by omega⟩)
  · skip
    refine r_ld (pc' := 15) rfl rfl rfl rfl ?_
    refine r_lc0 (pc' := 16) rfl rfl ?_
    refine r_leq (pc' := 20) rfl rfl rfl ⟨by omega, by omega⟩ ⟨by decide, by decide⟩ (fun hc16 => ?_) (fun hc16 => ?_)
    · skip
      refine r_ld (pc' := 27) rfl rfl rfl rfl ?_
      exact r_rl rfl (po_L hst ⟨by omega, by omega⟩ ⟨rfl, rfl, rfl, by omega, by omega⟩)
    · skip
      refine r_ld (pc' := 22) rfl rfl rfl rfl ?_
      refine r_ld (pc' := 23) rfl rfl rfl rfl ?_
      refine r_ladd (pc' := 24) rfl rfl ?_
      exact r_rl rfl (po_L hst ⟨by omega, by omega⟩ ⟨rfl, rfl, rfl, by omega, by omega⟩)
/-- J9 abs_0f7a4 -/
abbrev S_259  : mS := []
abbrev E_259 (a0 : Int) (z0 w0 : mZ) (x y tx it mt tt ct : Option Nat) : Int → mZ → mZ → mP → Prop := fun v z w p => p = (pq x y tx it mt tt ct) ∧ z0 = z ∧ w0 = w ∧ (-2147483648) ≤ v ∧ v ≤ 2147483647 ∧ ((0 ≤ a0 → v = a0) ∧ (-2147483648 < a0 → a0 < 0 → v = -a0))
theorem m_259 {d : Nat} {z0 w0 : mZ} {x y tx it mt tt ct : Option Nat} (a0 : Int) (hz : rz z0) (hw : rw_ w0) (ha0 : (-2147483648) ≤ a0 ∧ a0 ≤ 2147483647) : wc (d + 1) 259 [.int (Int32.ofInt a0)] (mk z0 w0 (pq x y tx it mt tt ct)) (poI S_259 z0 w0 (E_259 a0 z0 w0 x y tx it mt tt ct)) := by
  have hst : st_ S_259 z0 w0 z0 w0 := st_rf hz hw
  refine w_m rfl rfl ?_
  refine r_ld (pc' := 1) rfl rfl rfl rfl ?_
  refine r_zge (pc' := 4) rfl rfl ⟨by omega, by omega⟩ (fun hc5 => ?_) (fun hc5 => ?_)
  · skip
    refine r_ld (pc' := 10) rfl rfl rfl rfl ?_
    exact r_ri rfl (po_I hst ⟨by omega, by omega⟩ ⟨rfl, rfl, rfl, by omega, by omega, (by first | omega | assumption)⟩)
  · skip
    refine r_ld (pc' := 5) rfl rfl rfl rfl ?_
    refine r_neg (pc' := 6) rfl rfl ?_
    refine w_hxi (fun v6 h7 h8 => ?_)
    refine r_go rfl ?_
    exact r_ri rfl (po_I hst ⟨by omega, by omega⟩ ⟨rfl, rfl, rfl, by omega, by omega, (by first | omega | assumption)⟩)
/-- J9 abs_067f4 -/
abbrev S_260  : mS := []
abbrev E_260 (a0 : Int) (z0 w0 : mZ) (x y tx it mt tt ct : Option Nat) : Int → mZ → mZ → mP → Prop := fun v z w p => p = (pq x y tx it mt tt ct) ∧ z0 = z ∧ w0 = w ∧ (-9223372036854775808) ≤ v ∧ v ≤ 9223372036854775807 ∧ ((0 ≤ a0 → v = a0) ∧ (-9223372036854775808 < a0 → a0 < 0 → v = -a0))
theorem m_260 {d : Nat} {z0 w0 : mZ} {x y tx it mt tt ct : Option Nat} (a0 : Int) (hz : rz z0) (hw : rw_ w0) (ha0 : (-9223372036854775808) ≤ a0 ∧ a0 ≤ 9223372036854775807) : wc (d + 1) 260 [.long (Int64.ofInt a0)] (mk z0 w0 (pq x y tx it mt tt ct)) (poL S_260 z0 w0 (E_260 a0 z0 w0 x y tx it mt tt ct)) := by
  have hst : st_ S_260 z0 w0 z0 w0 := st_rf hz hw
  refine w_m rfl rfl ?_
  refine r_ld (pc' := 1) rfl rfl rfl rfl ?_
  refine r_lc0 (pc' := 2) rfl rfl ?_
  refine r_lge (pc' := 6) rfl rfl rfl ⟨by omega, by omega⟩ ⟨by decide, by decide⟩ (fun hc5 => ?_) (fun hc5 => ?_)
  · skip
    refine r_ld (pc' := 12) rfl rfl rfl rfl ?_
    exact r_rl rfl (po_L hst ⟨by omega, by omega⟩ ⟨rfl, rfl, rfl, by omega, by omega, (by first | omega | assumption)⟩)
  · skip
    refine r_ld (pc' := 7) rfl rfl rfl rfl ?_
    refine r_lneg (pc' := 8) rfl rfl ?_
    refine w_hxl (fun v6 h7 h8 => ?_)
    refine r_go rfl ?_
    exact r_rl rfl (po_L hst ⟨by omega, by omega⟩ ⟨rfl, rfl, rfl, by omega, by omega, (by first | omega | assumption)⟩)
/-- J9 max_7cf53 -/
abbrev S_261  : mS := []
abbrev E_261 (a0 : Int) (a1 : Int) (z0 w0 : mZ) (x y tx it mt tt ct : Option Nat) : Int → mZ → mZ → mP → Prop := fun v z w p => p = (pq x y tx it mt tt ct) ∧ z0 = z ∧ w0 = w ∧ (-2147483648) ≤ v ∧ v ≤ 2147483647 ∧ ((a0 ≤ a1 → v = a1) ∧ (a1 ≤ a0 → v = a0))
theorem m_261 {d : Nat} {z0 w0 : mZ} {x y tx it mt tt ct : Option Nat} (a0 : Int) (a1 : Int) (hz : rz z0) (hw : rw_ w0) (ha0 : (-2147483648) ≤ a0 ∧ a0 ≤ 2147483647) (ha1 : (-2147483648) ≤ a1 ∧ a1 ≤ 2147483647) : wc (d + 1) 261 [.int (Int32.ofInt a0), .int (Int32.ofInt a1)] (mk z0 w0 (pq x y tx it mt tt ct)) (poI S_261 z0 w0 (E_261 a0 a1 z0 w0 x y tx it mt tt ct)) := by
  have hst : st_ S_261 z0 w0 z0 w0 := st_rf hz hw
  refine w_m rfl rfl ?_
  refine r_ld (pc' := 1) rfl rfl rfl rfl ?_
  refine r_ld (pc' := 2) rfl rfl rfl rfl ?_
  refine r_ilt (pc' := 5) rfl rfl ⟨by omega, by omega⟩ ⟨by omega, by omega⟩ (fun hc2 => ?_) (fun hc2 => ?_)
  · skip
    refine r_ld (pc' := 10) rfl rfl rfl rfl ?_
    exact r_ri rfl (po_I hst ⟨by omega, by omega⟩ ⟨rfl, rfl, rfl, by omega, by omega, (by first | omega | assumption)⟩)
  · skip
    refine r_ld (pc' := 6) rfl rfl rfl rfl ?_
    refine r_go rfl ?_
    exact r_ri rfl (po_I hst ⟨by omega, by omega⟩ ⟨rfl, rfl, rfl, by omega, by omega, (by first | omega | assumption)⟩)
/-- J9 max_f86c9 -/
abbrev S_262  : mS := []
abbrev E_262 (a0 : Int) (a2 : Int) (z0 w0 : mZ) (x y tx it mt tt ct : Option Nat) : Int → mZ → mZ → mP → Prop := fun v z w p => p = (pq x y tx it mt tt ct) ∧ z0 = z ∧ w0 = w ∧ (-9223372036854775808) ≤ v ∧ v ≤ 9223372036854775807 ∧ ((a0 ≤ a2 → v = a2) ∧ (a2 ≤ a0 → v = a0))
theorem m_262 {d : Nat} {z0 w0 : mZ} {x y tx it mt tt ct : Option Nat} (a0 : Int) (a2 : Int) (hz : rz z0) (hw : rw_ w0) (ha0 : (-9223372036854775808) ≤ a0 ∧ a0 ≤ 9223372036854775807) (ha2 : (-9223372036854775808) ≤ a2 ∧ a2 ≤ 9223372036854775807) : wc (d + 1) 262 [.long (Int64.ofInt a0), .long (Int64.ofInt a2)] (mk z0 w0 (pq x y tx it mt tt ct)) (poL S_262 z0 w0 (E_262 a0 a2 z0 w0 x y tx it mt tt ct)) := by
  have hst : st_ S_262 z0 w0 z0 w0 := st_rf hz hw
  refine w_m rfl rfl ?_
  refine r_ld (pc' := 1) rfl rfl rfl rfl ?_
  refine r_ld (pc' := 2) rfl rfl rfl rfl ?_
  refine r_llt (pc' := 6) rfl rfl rfl ⟨by omega, by omega⟩ ⟨by omega, by omega⟩ (fun hc2 => ?_) (fun hc2 => ?_)
  · skip
    refine r_ld (pc' := 11) rfl rfl rfl rfl ?_
    exact r_rl rfl (po_L hst ⟨by omega, by omega⟩ ⟨rfl, rfl, rfl, by omega, by omega, (by first | omega | assumption)⟩)
  · skip
    refine r_ld (pc' := 7) rfl rfl rfl rfl ?_
    refine r_go rfl ?_
    exact r_rl rfl (po_L hst ⟨by omega, by omega⟩ ⟨rfl, rfl, rfl, by omega, by omega, (by first | omega | assumption)⟩)
/-- J9 min_7cf53 -/
abbrev S_263  : mS := []
abbrev E_263 (a0 : Int) (a1 : Int) (z0 w0 : mZ) (x y tx it mt tt ct : Option Nat) : Int → mZ → mZ → mP → Prop := fun v z w p => p = (pq x y tx it mt tt ct) ∧ z0 = z ∧ w0 = w ∧ (-2147483648) ≤ v ∧ v ≤ 2147483647 ∧ ((a0 ≤ a1 → v = a0) ∧ (a1 ≤ a0 → v = a1))
theorem m_263 {d : Nat} {z0 w0 : mZ} {x y tx it mt tt ct : Option Nat} (a0 : Int) (a1 : Int) (hz : rz z0) (hw : rw_ w0) (ha0 : (-2147483648) ≤ a0 ∧ a0 ≤ 2147483647) (ha1 : (-2147483648) ≤ a1 ∧ a1 ≤ 2147483647) : wc (d + 1) 263 [.int (Int32.ofInt a0), .int (Int32.ofInt a1)] (mk z0 w0 (pq x y tx it mt tt ct)) (poI S_263 z0 w0 (E_263 a0 a1 z0 w0 x y tx it mt tt ct)) := by
  have hst : st_ S_263 z0 w0 z0 w0 := st_rf hz hw
  refine w_m rfl rfl ?_
  refine r_ld (pc' := 1) rfl rfl rfl rfl ?_
  refine r_ld (pc' := 2) rfl rfl rfl rfl ?_
  refine r_igt (pc' := 5) rfl rfl ⟨by omega, by omega⟩ ⟨by omega, by omega⟩ (fun hc2 => ?_) (fun hc2 => ?_)
  · skip
    refine r_ld (pc' := 10) rfl rfl rfl rfl ?_
    exact r_ri rfl (po_I hst ⟨by omega, by omega⟩ ⟨rfl, rfl, rfl, by omega, by omega, (by first | omega | assumption)⟩)
  · skip
    refine r_ld (pc' := 6) rfl rfl rfl rfl ?_
    refine r_go rfl ?_
    exact r_ri rfl (po_I hst ⟨by omega, by omega⟩ ⟨rfl, rfl, rfl, by omega, by omega, (by first | omega | assumption)⟩)
/-- Drawing agrees -/
abbrev S_19  : mS := []
abbrev E_19 (a1 : Int) (a2 : Int) (z0 w0 : mZ) (x y tx it mt tt ct : Option Nat) : Int → mZ → mZ → mP → Prop := fun v z w p => p = (pq x y tx it mt tt ct) ∧ z0 = z ∧ w0 = w ∧ 0 ≤ v ∧ v ≤ 1
theorem m_19 {d : Nat} {z0 w0 : mZ} {x y tx it mt tt ct : Option Nat} (a1 : Int) (a2 : Int) (hz : rz z0) (hw : rw_ w0) (ha1 : 0 ≤ a1 ∧ a1 ≤ 1599) (ha2 : (-1) ≤ a2 ∧ a2 ≤ 1) (hft : z0 35 3 ≤ z0 35 4) (hs : a1 < z0 35 4 - z0 35 3) : wc (d + 2) 19 [.ref 35, .int (Int32.ofInt a1), .int (Int32.ofInt a2)] (mk z0 w0 (pq x y tx it mt tt ct)) (poI S_19 z0 w0 (E_19 a1 a2 z0 w0 x y tx it mt tt ct)) := by
  have hst : st_ S_19 z0 w0 z0 w0 := st_rf hz hw
  have hz18 := rd_35_3 hz
  have hz19 := rd_35_4 hz
  have key : ∀ N : Nat, (∀ (x3 x4 x5 : Int) , 0 ≤ x3 ∧ x3 ≤ 1600 → 0 ≤ x4 ∧ x4 ≤ 1599 → 0 ≤ x5 ∧ x5 ≤ 1600 → (0 ≤ x4 ∧ x4 < x3 ∧ x3 = z0 35 4 - z0 35 3) → 44 * (1600 - x5) + 36 < (N : Int) → wp_ (d + 1) 19 6 (some .boolean) (11, [(0, .ref 35), (2, .int (Int32.ofInt a2)), (3, .int (Int32.ofInt x3)), (4, .int (Int32.ofInt x4)), (5, .int (Int32.ofInt x5))], [], mk z0 w0 (pq x y tx it mt tt ct)) (poI S_19 z0 w0 (E_19 a1 a2 z0 w0 x y tx it mt tt ct))) := by
    intro N
    induction N with
    | zero =>
      intro x3 x4 x5 
      intros; exfalso; omega
    | succ N ih =>
      have ih0 := ih; clear ih
      intro x3 x4 x5 hx3 hx4 hx5 as1 hM
      refine r_ld (pc' := 13) rfl rfl rfl rfl ?_
      refine r_ld (pc' := 14) rfl rfl rfl rfl ?_
      refine r_ige (pc' := 17) rfl rfl ⟨by omega, by omega⟩ ⟨by omega, by omega⟩ (fun hc20 => ?_) (fun hc20 => ?_)
      · skip
        refine r_c0 (pc' := 76) rfl rfl ?_
        exact r_rz rfl (by omega) (po_I hst ⟨by decide, by decide⟩ ⟨rfl, rfl, rfl, by omega, by omega⟩)
      · skip
        refine r_ld (pc' := 18) rfl rfl rfl rfl ?_
        refine r_gr (b := 38) (pc' := 21) rfl rfl sh_35 rfl pp_35_2 ?_
        refine r_ld (pc' := 23) rfl rfl rfl rfl ?_
        have hb21 := rd_38 hz (i := x4.toNat) (by omega)
        refine r_ia (pc' := 24) rfl rfl sh_38 rfl (by omega) (by omega) rfl ?_
        refine r_ld (pc' := 25) rfl rfl rfl rfl ?_
        refine r_gr (b := 37) (pc' := 28) rfl rfl sh_35 rfl pp_35_1 ?_
        refine r_ld (pc' := 29) rfl rfl rfl rfl ?_
        have hb22 := rd_35_3 hz
        refine r_gi (pc' := 32) rfl rfl sh_35 rfl rfl ?_
        refine r_ld (pc' := 34) rfl rfl rfl rfl ?_
        refine r_add (pc' := 35) rfl rfl ?_
        have hb23 := rd_37 hz (i := ((z0 35 3) + x5).toNat) (by omega)
        refine r_ia (pc' := 36) rfl rfl sh_37 rfl (by omega) (by omega) rfl ?_
        refine r_ieq (pc' := 39) rfl rfl ⟨by omega, by omega⟩ ⟨by omega, by omega⟩ (fun hc24 => ?_) (fun hc24 => ?_)
        · skip
          refine r_ld (pc' := 43) rfl rfl rfl rfl ?_
          refine r_ld (pc' := 44) rfl rfl rfl rfl ?_
          refine r_add (pc' := 45) rfl rfl ?_
          refine r_st (pc' := 47) (lv' := [(4, _), (0, _), (2, _), (3, _), (5, _)]) rfl rfl rfl rfl ?_
          refine r_ld (pc' := 49) rfl rfl rfl rfl ?_
          refine r_ld (pc' := 50) rfl rfl rfl rfl ?_
          refine r_ine (pc' := 53) rfl rfl ⟨by omega, by omega⟩ ⟨by omega, by omega⟩ (fun hc25 => ?_) (fun hc25 => ?_)
          · skip
            refine r_ld (pc' := 61) rfl rfl rfl rfl ?_
            refine r_zge (pc' := 64) rfl rfl ⟨by omega, by omega⟩ (fun hc26 => ?_) (fun hc26 => ?_)
            · skip
              refine r_inc (pc' := 72) (lv' := [(4, _), (0, _), (2, _), (3, _)]) rfl rfl rfl rfl rfl ?_
              refine r_go rfl ?_
              exact w_lv (sub_c rfl (sub_c rfl (sub_c rfl (sub_c rfl (sub_c rfl sub_n))))) rfl (ih0 x3 (x4 + a2) (x5 + 1) ⟨by omega, by omega⟩ ⟨by omega, by omega⟩ ⟨by omega, by omega⟩ (by first | omega | assumption) (by omega))
            · skip
              refine r_ld (pc' := 65) rfl rfl rfl rfl ?_
              refine r_c0 (pc' := 66) rfl rfl ?_
              refine r_sub (pc' := 67) rfl rfl ?_
              refine r_st (pc' := 69) (lv' := [(4, _), (0, _), (2, _), (3, _), (5, _)]) rfl rfl rfl rfl ?_
              refine r_inc (pc' := 72) (lv' := [(4, _), (0, _), (2, _), (3, _)]) rfl rfl rfl rfl rfl ?_
              refine r_go rfl ?_
              exact w_lv (sub_c rfl (sub_c rfl (sub_c rfl (sub_c rfl (sub_c rfl sub_n))))) rfl (ih0 x3 (x3 - 1) (x5 + 1) ⟨by omega, by omega⟩ ⟨by omega, by omega⟩ ⟨by omega, by omega⟩ (by first | omega | assumption) (by omega))
          · skip
            refine r_c0 (pc' := 54) rfl rfl ?_
            refine r_st (pc' := 56) (lv' := [(4, _), (0, _), (2, _), (3, _), (5, _)]) rfl rfl rfl rfl ?_
            refine r_go rfl ?_
            refine r_inc (pc' := 72) (lv' := [(4, _), (0, _), (2, _), (3, _)]) rfl rfl rfl rfl rfl ?_
            refine r_go rfl ?_
            exact w_lv (sub_c rfl (sub_c rfl (sub_c rfl (sub_c rfl (sub_c rfl sub_n))))) rfl (ih0 x3 0 (x5 + 1) ⟨by omega, by omega⟩ ⟨by omega, by omega⟩ ⟨by omega, by omega⟩ (by first | omega | assumption) (by omega))
        · skip
          refine r_c0 (pc' := 40) rfl rfl ?_
          exact r_rz rfl (by omega) (po_I hst ⟨by decide, by decide⟩ ⟨rfl, rfl, rfl, by omega, by omega⟩)
  refine w_m rfl rfl ?_
  refine r_ld (pc' := 1) rfl rfl rfl rfl ?_
  have hb27 := rd_35_4 hz
  have hb28 := rd_35_3 hz
  refine r_cVI (pc' := 4) rfl rfl rfl rfl rfl sh_35 (m_16 (d := d)  hst.1 hst.2.1 ) (fun v29 z30 w31 p32 h33 hs34 hE35 => ?_)
  obtain ⟨rfl, rfl, rfl, hE35⟩ := hE35
  refine r_st (pc' := 5) (lv' := [(3, _), (0, _), (1, _), (2, _)]) rfl rfl rfl rfl ?_
  refine r_ld (pc' := 6) rfl rfl rfl rfl ?_
  refine r_st (pc' := 8) (lv' := [(4, _), (3, _), (0, _), (1, _), (2, _)]) rfl rfl rfl rfl ?_
  refine r_c0 (pc' := 9) rfl rfl ?_
  refine r_st (pc' := 11) (lv' := [(5, _), (4, _), (3, _), (0, _), (1, _), (2, _)]) rfl rfl rfl rfl ?_
  exact w_lv (sub_c rfl (sub_c rfl (sub_c rfl (sub_c rfl (sub_c rfl sub_n))))) rfl ((key ((44 * (1600 - 0) + 36 : Int).toNat + 1)) v29 a1 0 ⟨by omega, by omega⟩ ⟨by omega, by omega⟩ ⟨by omega, by omega⟩ (by first | omega | assumption) (by omega))
/-- Reader refuseToken -/
abbrev S_34  : mS := [(3, 3, 0, 0), (3, 3, 1, 1)]
abbrev E_34  (z0 w0 : mZ) (x y tx it mt tt ct : Option Nat) : Int → mZ → mZ → mP → Prop := fun v z w p => p = (pq x y tx it mt tt ct) ∧ 0 ≤ v ∧ v ≤ 0 ∧ (v = 0 ∧ z 3 0 ≠ 0)
theorem m_34 {d : Nat} {z0 w0 : mZ} {x y tx it mt tt ct : Option Nat}  (hz : rz z0) (hw : rw_ w0) : wc (d + 2) 34 [.ref 3] (mk z0 w0 (pq x y tx it mt tt ct)) (poI S_34 z0 w0 (E_34  z0 w0 x y tx it mt tt ct)) := by
  have hst : st_ S_34 z0 w0 z0 w0 := st_rf hz hw
  refine w_m rfl rfl ?_
  refine r_ld (pc' := 1) rfl rfl rfl rfl ?_
  refine r_ld (pc' := 2) rfl rfl rfl rfl ?_
  have hb23 := rd_3_7 hz
  refine r_gi (pc' := 5) rfl rfl sh_3 rfl rfl ?_
  refine r_c0 (pc' := 6) rfl rfl ?_
  refine r_ine (pc' := 9) rfl rfl ⟨by omega, by omega⟩ ⟨by decide, by decide⟩ (fun hc24 => ?_) (fun hc24 => ?_)
  · skip
    refine r_c0 (pc' := 14) rfl rfl ?_
    refine r_ld (pc' := 15) rfl rfl rfl rfl ?_
    have hb25 := rd_3_8 hz
    refine r_gi (pc' := 18) rfl rfl sh_3 rfl rfl ?_
    refine r_cVV (pc' := 21) rfl rfl rfl rfl rfl sh_3 (m_33 (d := d) 2 (z0 3 8) hst.1 hst.2.1 ⟨by omega, by omega⟩ ⟨by omega, by omega⟩) (fun z27 w28 p29 hs31 hE32 => ?_)
    have hs33 := st_tr hst hs31 (sub_B rfl)
    obtain ⟨rfl, hE32⟩ := hE32
    refine r_c0 (pc' := 22) rfl rfl ?_
    have hb34 := rd_3_0 hs33.1
    exact r_rz rfl (by omega) (po_I hs33 ⟨by decide, by decide⟩ ⟨rfl, by omega, by omega, (by first | omega | assumption)⟩)
  · skip
    refine r_c0 (pc' := 10) rfl rfl ?_
    refine r_go rfl ?_
    refine r_ld (pc' := 15) rfl rfl rfl rfl ?_
    have hb35 := rd_3_8 hz
    refine r_gi (pc' := 18) rfl rfl sh_3 rfl rfl ?_
    refine r_cVV (pc' := 21) rfl rfl rfl rfl rfl sh_3 (m_33 (d := d) 1 (z0 3 8) hst.1 hst.2.1 ⟨by omega, by omega⟩ ⟨by omega, by omega⟩) (fun z37 w38 p39 hs41 hE42 => ?_)
    have hs43 := st_tr hst hs41 (sub_B rfl)
    obtain ⟨rfl, hE42⟩ := hE42
    refine r_c0 (pc' := 22) rfl rfl ?_
    have hb44 := rd_3_0 hs43.1
    exact r_rz rfl (by omega) (po_I hs43 ⟨by decide, by decide⟩ ⟨rfl, by omega, by omega, (by first | omega | assumption)⟩)
/-- Reader readLetters -/
abbrev S_47  : mS := [(3, 3, 10, 10), (3, 3, 6, 6), (3, 3, 7, 7)]
abbrev E_47 (t : Nat) (z0 w0 : mZ) (x y mt tt ct : Option Nat) : mZ → mZ → mP → Prop := fun z w p => p = (pq x y (some 2) (some t) mt tt ct) ∧ (z 3 7 ≠ 2)
theorem m_47 {d : Nat} {z0 w0 : mZ} {x y mt tt ct : Option Nat} (t : Nat) (hz : rz z0) (hw : rw_ w0) (ht : isT t) : wc (d + 2) 47 [.ref 3] (mk z0 w0 (pq x y (some 2) (some t) mt tt ct)) (poV S_47 z0 w0 (E_47 t z0 w0 x y mt tt ct)) := by
  have hst : st_ S_47 z0 w0 z0 w0 := st_rf hz hw
  have key : ∀ N : Nat, (∀ (x1 : Int) (z w : mZ), 0 ≤ x1 ∧ x1 ≤ 1600 → st_ S_47 z0 w0 z w → z 3 7 = z0 3 7 → 52 * (1600 - x1) + 46 < (N : Int) → wp_ (d + 1) 47 2 none (7, [(0, .ref 3), (1, .int (Int32.ofInt x1))], [], mk z w (pq x y (some 2) (some t) mt tt ct)) (poV S_47 z0 w0 (E_47 t z0 w0 x y mt tt ct))) ∧ (∀ (z w : mZ), st_ S_47 z0 w0 z w → z 3 7 = z0 3 7 → 13 < (N : Int) → wp_ (d + 1) 47 2 none (72, [(0, .ref 3)], [], mk z w (pq x y (some 2) (some t) mt tt ct)) (poV S_47 z0 w0 (E_47 t z0 w0 x y mt tt ct))) := by
    intro N
    induction N with
    | zero =>
      refine ⟨?_, ?_⟩
      · intro x1 z w
        intros; exfalso; omega
      · intro  z w
        intros; exfalso; omega
    | succ N ih =>
      obtain ⟨ih0, ih1⟩ := ih
      refine ⟨?_, ?_⟩
      · intro x1 z w hx1 hst un_z_3_7 hM
        refine r_ld (pc' := 8) rfl rfl rfl rfl ?_
        refine r_cs (pc' := 11) rfl (by decide) rfl ?_
        refine r_ige (pc' := 14) rfl rfl ⟨by omega, by omega⟩ ⟨by decide, by decide⟩ (fun hc72 => ?_) (fun hc72 => ?_)
        · skip
          have hb73 := rd_3_7 hz
          exact w_lv (sub_c rfl sub_n) rfl (ih1 z w hst (un_z_3_7) (by omega))
        · skip
          refine r_ld (pc' := 15) rfl rfl rfl rfl ?_
          refine r_ld (pc' := 16) rfl rfl rfl rfl ?_
          have hb74 := rd_3_6 hst.1
          refine r_gi (pc' := 19) rfl rfl sh_3 rfl rfl ?_
          have hb75 := rd_3_3 hz
          have hf76 : z 3 3 = z0 3 3 := (hst.2.2.1 _ _ (notS_c (by omega) (notS_c (by omega) (notS_c (by omega) notS_n))))
          refine r_cVI (pc' := 22) rfl rfl rfl rfl rfl sh_3 (m_43 (d := d) t (z 3 6) hst.1 hst.2.1 ⟨by omega, by omega⟩ ht) (fun v77 z78 w79 p80 h81 hs82 hE83 => ?_)
          obtain ⟨rfl, rfl, rfl, hE83⟩ := hE83
          refine r_cSI (pc' := 25) rfl rfl rfl rfl rfl (m_44 (d := d) v77 hst.1 hst.2.1 ⟨by omega, by omega⟩) (fun v85 z86 w87 p88 h89 hs90 hE91 => ?_)
          obtain ⟨rfl, rfl, rfl, hE91⟩ := hE91
          refine r_zeq (pc' := 28) rfl rfl ⟨by omega, by omega⟩ (fun hc93 => ?_) (fun hc93 => ?_)
          · skip
            have hb94 := rd_3_7 hz
            exact w_lv (sub_c rfl sub_n) rfl (ih1 z w hst (un_z_3_7) (by omega))
          · skip
            refine r_ld (pc' := 29) rfl rfl rfl rfl ?_
            refine r_ld (pc' := 30) rfl rfl rfl rfl ?_
            have hb95 := rd_3_10 hst.2.1
            refine r_gl (pc' := 33) rfl rfl sh_3 rfl rfl ?_
            refine r_al (pc' := 36) rfl rfl rfl rfl ?_
            refine r_lmul (pc' := 37) rfl rfl ?_
            refine w_hxl (fun v96 h97 h98 => ?_)
            refine r_ld (pc' := 38) rfl rfl rfl rfl ?_
            refine r_ld (pc' := 39) rfl rfl rfl rfl ?_
            refine r_gi (pc' := 42) rfl rfl sh_3 rfl rfl ?_
            have hf99 : z 3 3 = z0 3 3 := (hst.2.2.1 _ _ (notS_c (by omega) (notS_c (by omega) (notS_c (by omega) notS_n))))
            refine r_cVI (pc' := 45) rfl rfl rfl rfl rfl sh_3 (m_43 (d := d) t (z 3 6) hst.1 hst.2.1 ⟨by omega, by omega⟩ ht) (fun v100 z101 w102 p103 h104 hs105 hE106 => ?_)
            obtain ⟨rfl, rfl, rfl, hE106⟩ := hE106
            refine r_i2l (pc' := 46) rfl rfl ⟨by omega, by omega⟩ ?_
            refine r_ladd (pc' := 47) rfl rfl ?_
            refine w_hxl (fun v108 h109 h110 => ?_)
            refine r_al (pc' := 50) rfl rfl rfl rfl ?_
            refine r_lsub (pc' := 51) rfl rfl ?_
            refine w_hxl (fun v111 h112 h113 => ?_)
            refine r_lc1 (pc' := 52) rfl rfl ?_
            refine r_ladd (pc' := 53) rfl rfl ?_
            refine w_hxl (fun v114 h115 h116 => ?_)
            refine r_pl (pc' := 56) rfl rfl sh_3 rfl rfl hst (inS_0 (by omega) (by omega) (by omega) (by omega)) (wr_3_10 ⟨by omega, by omega⟩) (fun w117 hq118 hs119 => ?_)
            refine r_ld (pc' := 57) rfl rfl rfl rfl ?_
            refine r_al (pc' := 58) rfl rfl rfl rfl ?_
            refine r_gi (pc' := 61) rfl rfl sh_3 rfl rfl ?_
            refine r_c0 (pc' := 62) rfl rfl ?_
            refine r_add (pc' := 63) rfl rfl ?_
            refine r_pi (pc' := 66) rfl rfl sh_3 rfl rfl hs119 (inS_s (inS_0 (by omega) (by omega) (by omega) (by omega))) (wr_3_6 ⟨by omega, by omega⟩) (fun z120 hq121 hs122 => ?_)
            refine r_inc (pc' := 69) (lv' := [(0, _)]) rfl rfl rfl rfl rfl ?_
            refine r_go rfl ?_
            have hb123 := rd_3_7 hz
            exact w_lv (sub_c rfl (sub_c rfl sub_n)) rfl (ih0 (x1 + 1) z120 w117 ⟨by omega, by omega⟩ hs122 ((((congrFun (congrFun hq121 _) _).trans (mu_ne (by omega))).trans un_z_3_7)) (by omega))
      · intro  z w hst un_z_3_7 hM
        refine r_ld (pc' := 73) rfl rfl rfl rfl ?_
        refine r_ld (pc' := 74) rfl rfl rfl rfl ?_
        have hb124 := rd_3_6 hst.1
        refine r_gi (pc' := 77) rfl rfl sh_3 rfl rfl ?_
        refine r_ld (pc' := 78) rfl rfl rfl rfl ?_
        have hb125 := rd_3_8 hz
        refine r_gi (pc' := 81) rfl rfl sh_3 rfl (hst.2.2.1 _ _ (notS_c (by omega) (notS_c (by omega) (notS_c (by omega) notS_n)))) ?_
        refine r_sub (pc' := 82) rfl rfl ?_
        refine r_cb (pc' := 84) rfl (by decide) rfl ?_
        refine r_ile (pc' := 87) rfl rfl ⟨by omega, by omega⟩ ⟨by decide, by decide⟩ (fun hc126 => ?_) (fun hc126 => ?_)
        · skip
          refine r_ld (pc' := 92) rfl rfl rfl rfl ?_
          refine r_cVI (pc' := 95) rfl rfl rfl rfl rfl sh_3 (m_48 (d := d)  hst.1 hst.2.1 ) (fun v127 z128 w129 p130 h131 hs132 hE133 => ?_)
          obtain ⟨rfl, rfl, rfl, hE133⟩ := hE133
          refine r_pi (pc' := 98) rfl rfl sh_3 rfl rfl hst (inS_s (inS_s (inS_0 (by omega) (by omega) (by omega) (by omega)))) (wr_3_7 ⟨by omega, by omega⟩) (fun z135 hq136 hs137 => ?_)
          have hf138 : z135 3 7 = v127 := ((congrFun (congrFun hq136 _) _).trans mu_eq)
          exact r_ret rfl (po_V hs137 ⟨rfl, (by first | omega | assumption | (simp only [hf138]; assumption))⟩)
        · skip
          refine r_c0 (pc' := 88) rfl rfl ?_
          refine r_go rfl ?_
          refine r_pi (pc' := 98) rfl rfl sh_3 rfl rfl hst (inS_s (inS_s (inS_0 (by omega) (by omega) (by omega) (by omega)))) (wr_3_7 ⟨by omega, by omega⟩) (fun z139 hq140 hs141 => ?_)
          have hf142 : z139 3 7 = 5 := ((congrFun (congrFun hq140 _) _).trans mu_eq)
          exact r_ret rfl (po_V hs141 ⟨rfl, (by first | omega | assumption | (simp only [hf142]; assumption))⟩)
  refine w_m rfl rfl ?_
  refine r_ld (pc' := 1) rfl rfl rfl rfl ?_
  refine r_lc0 (pc' := 2) rfl rfl ?_
  refine r_pl (pc' := 5) rfl rfl sh_3 rfl rfl hst (inS_0 (by omega) (by omega) (by omega) (by omega)) (wr_3_10 ⟨by omega, by omega⟩) (fun w143 hq144 hs145 => ?_)
  refine r_c0 (pc' := 6) rfl rfl ?_
  refine r_st (pc' := 7) (lv' := [(1, _), (0, _)]) rfl rfl rfl rfl ?_
  have hb146 := rd_3_7 hz
  exact w_lv (sub_c rfl (sub_c rfl sub_n)) rfl ((key ((52 * (1600 - 0) + 46 : Int).toNat + 1)).1 0 z0 w143 ⟨by omega, by omega⟩ hs145 (rfl) (by omega))
/-- Reader readDigits -/
abbrev S_49  : mS := [(3, 3, 9, 9), (3, 3, 6, 6), (3, 3, 7, 7)]
abbrev E_49 (t : Nat) (z0 w0 : mZ) (x y mt tt ct : Option Nat) : mZ → mZ → mP → Prop := fun z w p => p = (pq x y (some 2) (some t) mt tt ct) ∧ ((z 3 7 = 2 → 0 ≤ z 3 9 ∧ z 3 9 ≤ 9999))
theorem m_49 {d : Nat} {z0 w0 : mZ} {x y mt tt ct : Option Nat} (t : Nat) (hz : rz z0) (hw : rw_ w0) (ht : isT t) (has : z0 3 6 = z0 3 8) : wc (d + 2) 49 [.ref 3] (mk z0 w0 (pq x y (some 2) (some t) mt tt ct)) (poV S_49 z0 w0 (E_49 t z0 w0 x y mt tt ct)) := by
  have hst : st_ S_49 z0 w0 z0 w0 := st_rf hz hw
  have hz90 := rd_3_6 hz
  have hz91 := rd_3_8 hz
  have key : ∀ N : Nat, (∀ (x1 : Int) (z w : mZ), 0 ≤ x1 ∧ x1 ≤ 1600 → st_ S_49 z0 w0 z w → z 3 7 = z0 3 7 → ((z 3 6 = z0 3 8 → z 3 9 = 0) ∧ (z 3 6 = z0 3 8 + 1 → 0 ≤ z 3 9 ∧ z 3 9 ≤ 9) ∧ (z 3 6 = z0 3 8 + 2 → 0 ≤ z 3 9 ∧ z 3 9 ≤ 99) ∧ (z 3 6 = z0 3 8 + 3 → 0 ≤ z 3 9 ∧ z 3 9 ≤ 999) ∧ (z 3 6 = z0 3 8 + 4 → 0 ≤ z 3 9 ∧ z 3 9 ≤ 9999) ∧ z0 3 8 ≤ z 3 6) → 54 * (1600 - x1) + 48 < (N : Int) → wp_ (d + 1) 49 2 none (7, [(0, .ref 3), (1, .int (Int32.ofInt x1))], [], mk z w (pq x y (some 2) (some t) mt tt ct)) (poV S_49 z0 w0 (E_49 t z0 w0 x y mt tt ct))) ∧ (∀ (z w : mZ), st_ S_49 z0 w0 z w → z 3 7 = z0 3 7 → ((z 3 6 = z0 3 8 → z 3 9 = 0) ∧ (z 3 6 = z0 3 8 + 1 → 0 ≤ z 3 9 ∧ z 3 9 ≤ 9) ∧ (z 3 6 = z0 3 8 + 2 → 0 ≤ z 3 9 ∧ z 3 9 ≤ 99) ∧ (z 3 6 = z0 3 8 + 3 → 0 ≤ z 3 9 ∧ z 3 9 ≤ 999) ∧ (z 3 6 = z0 3 8 + 4 → 0 ≤ z 3 9 ∧ z 3 9 ≤ 9999) ∧ z0 3 8 ≤ z 3 6) → 18 < (N : Int) → wp_ (d + 1) 49 2 none (67, [(0, .ref 3)], [], mk z w (pq x y (some 2) (some t) mt tt ct)) (poV S_49 z0 w0 (E_49 t z0 w0 x y mt tt ct))) := by
    intro N
    induction N with
    | zero =>
      refine ⟨?_, ?_⟩
      · intro x1 z w
        intros; exfalso; omega
      · intro  z w
        intros; exfalso; omega
    | succ N ih =>
      obtain ⟨ih0, ih1⟩ := ih
      refine ⟨?_, ?_⟩
      · intro x1 z w hx1 hst un_z_3_7 as1 hM
        refine r_ld (pc' := 8) rfl rfl rfl rfl ?_
        refine r_cs (pc' := 11) rfl (by decide) rfl ?_
        refine r_ige (pc' := 14) rfl rfl ⟨by omega, by omega⟩ ⟨by decide, by decide⟩ (fun hc92 => ?_) (fun hc92 => ?_)
        · skip
          have hb93 := rd_3_6 hst.1
          have hb94 := rd_3_9 hst.1
          have hb95 := rd_3_7 hz
          exact w_lv (sub_c rfl sub_n) rfl (ih1 z w hst (un_z_3_7) (by first | omega | assumption) (by omega))
        · skip
          refine r_ld (pc' := 15) rfl rfl rfl rfl ?_
          refine r_ld (pc' := 16) rfl rfl rfl rfl ?_
          have hb96 := rd_3_6 hst.1
          refine r_gi (pc' := 19) rfl rfl sh_3 rfl rfl ?_
          have hb97 := rd_3_3 hz
          have hf98 : z 3 3 = z0 3 3 := (hst.2.2.1 _ _ (notS_c (by omega) (notS_c (by omega) (notS_c (by omega) notS_n))))
          refine r_cVI (pc' := 22) rfl rfl rfl rfl rfl sh_3 (m_43 (d := d) t (z 3 6) hst.1 hst.2.1 ⟨by omega, by omega⟩ ht) (fun v99 z100 w101 p102 h103 hs104 hE105 => ?_)
          obtain ⟨rfl, rfl, rfl, hE105⟩ := hE105
          refine r_cSI (pc' := 25) rfl rfl rfl rfl rfl (m_45 (d := d) v99 hst.1 hst.2.1 ⟨by omega, by omega⟩) (fun v107 z108 w109 p110 h111 hs112 hE113 => ?_)
          obtain ⟨rfl, rfl, rfl, hE113⟩ := hE113
          refine r_zeq (pc' := 28) rfl rfl ⟨by omega, by omega⟩ (fun hc115 => ?_) (fun hc115 => ?_)
          · skip
            have hb116 := rd_3_9 hst.1
            have hb117 := rd_3_7 hz
            exact w_lv (sub_c rfl sub_n) rfl (ih1 z w hst (un_z_3_7) (by first | omega | assumption) (by omega))
          · skip
            refine r_ld (pc' := 29) rfl rfl rfl rfl ?_
            refine r_ld (pc' := 30) rfl rfl rfl rfl ?_
            have hb118 := rd_3_9 hst.1
            refine r_gi (pc' := 33) rfl rfl sh_3 rfl rfl ?_
            refine r_cb (pc' := 35) rfl (by decide) rfl ?_
            refine r_mul (pc' := 36) rfl rfl ?_
            refine w_hxi (fun v119 h120 h121 => ?_)
            refine r_ld (pc' := 37) rfl rfl rfl rfl ?_
            refine r_ld (pc' := 38) rfl rfl rfl rfl ?_
            refine r_gi (pc' := 41) rfl rfl sh_3 rfl rfl ?_
            have hf122 : z 3 3 = z0 3 3 := (hst.2.2.1 _ _ (notS_c (by omega) (notS_c (by omega) (notS_c (by omega) notS_n))))
            refine r_cVI (pc' := 44) rfl rfl rfl rfl rfl sh_3 (m_43 (d := d) t (z 3 6) hst.1 hst.2.1 ⟨by omega, by omega⟩ ht) (fun v123 z124 w125 p126 h127 hs128 hE129 => ?_)
            obtain ⟨rfl, rfl, rfl, hE129⟩ := hE129
            refine r_add (pc' := 45) rfl rfl ?_
            refine w_hxi (fun v131 h132 h133 => ?_)
            refine r_cb (pc' := 47) rfl (by decide) rfl ?_
            refine r_sub (pc' := 48) rfl rfl ?_
            refine w_hxi (fun v134 h135 h136 => ?_)
            refine r_pi (pc' := 51) rfl rfl sh_3 rfl rfl hst (inS_0 (by omega) (by omega) (by omega) (by omega)) (wr_3_9 ⟨by omega, by omega⟩) (fun z137 hq138 hs139 => ?_)
            refine r_ld (pc' := 52) rfl rfl rfl rfl ?_
            refine r_al (pc' := 53) rfl rfl rfl rfl ?_
            refine r_gi (pc' := 56) rfl rfl sh_3 rfl ((congrFun (congrFun hq138 _) _).trans (mu_ne (by omega))) ?_
            refine r_c0 (pc' := 57) rfl rfl ?_
            refine r_add (pc' := 58) rfl rfl ?_
            refine r_pi (pc' := 61) rfl rfl sh_3 rfl rfl hs139 (inS_s (inS_0 (by omega) (by omega) (by omega) (by omega))) (wr_3_6 ⟨by omega, by omega⟩) (fun z140 hq141 hs142 => ?_)
            refine r_inc (pc' := 64) (lv' := [(0, _)]) rfl rfl rfl rfl rfl ?_
            refine r_go rfl ?_
            have hf143 : z140 3 6 = (z 3 6) + 1 := ((congrFun (congrFun hq141 _) _).trans mu_eq)
            have hf144 : z140 3 9 = v134 := (((congrFun (congrFun hq141 _) _).trans (mu_ne (by omega))).trans ((congrFun (congrFun hq138 _) _).trans mu_eq))
            have hb145 := rd_3_7 hz
            exact w_lv (sub_c rfl (sub_c rfl sub_n)) rfl (ih0 (x1 + 1) z140 w ⟨by omega, by omega⟩ hs142 ((((congrFun (congrFun hq141 _) _).trans (mu_ne (by omega))).trans (((congrFun (congrFun hq138 _) _).trans (mu_ne (by omega))).trans un_z_3_7))) (by first | omega | assumption | (simp only [hf143, hf144]; assumption)) (by omega))
      · intro  z w hst un_z_3_7 as1 hM
        refine r_ld (pc' := 68) rfl rfl rfl rfl ?_
        refine r_ld (pc' := 69) rfl rfl rfl rfl ?_
        have hb146 := rd_3_6 hst.1
        refine r_gi (pc' := 72) rfl rfl sh_3 rfl rfl ?_
        refine r_ld (pc' := 73) rfl rfl rfl rfl ?_
        have hb147 := rd_3_8 hz
        refine r_gi (pc' := 76) rfl rfl sh_3 rfl (hst.2.2.1 _ _ (notS_c (by omega) (notS_c (by omega) (notS_c (by omega) notS_n)))) ?_
        refine r_sub (pc' := 77) rfl rfl ?_
        refine r_c0 (pc' := 78) rfl rfl ?_
        refine r_igt (pc' := 81) rfl rfl ⟨by omega, by omega⟩ ⟨by decide, by decide⟩ (fun hc148 => ?_) (fun hc148 => ?_)
        · skip
          refine r_c0 (pc' := 96) rfl rfl ?_
          refine r_go rfl ?_
          refine r_pi (pc' := 103) rfl rfl sh_3 rfl rfl hst (inS_s (inS_s (inS_0 (by omega) (by omega) (by omega) (by omega)))) (wr_3_7 ⟨by omega, by omega⟩) (fun z149 hq150 hs151 => ?_)
          have hf152 : z149 3 7 = 5 := ((congrFun (congrFun hq150 _) _).trans mu_eq)
          have hb153 := rd_3_9 hst.1
          have hf154 : z149 3 9 = z 3 9 := ((congrFun (congrFun hq150 _) _).trans (mu_ne (by omega)))
          exact r_ret rfl (po_V hs151 ⟨rfl, (by first | omega | assumption | (simp only [hf152, hf154]; assumption))⟩)
        · skip
          refine r_ld (pc' := 82) rfl rfl rfl rfl ?_
          refine r_ld (pc' := 83) rfl rfl rfl rfl ?_
          refine r_gi (pc' := 86) rfl rfl sh_3 rfl rfl ?_
          have hb155 := rd_3_3 hz
          have hf156 : z 3 3 = z0 3 3 := (hst.2.2.1 _ _ (notS_c (by omega) (notS_c (by omega) (notS_c (by omega) notS_n))))
          refine r_cVI (pc' := 89) rfl rfl rfl rfl rfl sh_3 (m_43 (d := d) t (z 3 6) hst.1 hst.2.1 ⟨by omega, by omega⟩ ht) (fun v157 z158 w159 p160 h161 hs162 hE163 => ?_)
          obtain ⟨rfl, rfl, rfl, hE163⟩ := hE163
          refine r_cSI (pc' := 92) rfl rfl rfl rfl rfl (m_44 (d := d) v157 hst.1 hst.2.1 ⟨by omega, by omega⟩) (fun v165 z166 w167 p168 h169 hs170 hE171 => ?_)
          obtain ⟨rfl, rfl, rfl, hE171⟩ := hE171
          refine r_zeq (pc' := 95) rfl rfl ⟨by omega, by omega⟩ (fun hc173 => ?_) (fun hc173 => ?_)
          · skip
            refine r_c0 (pc' := 100) rfl rfl ?_
            refine r_pi (pc' := 103) rfl rfl sh_3 rfl rfl hst (inS_s (inS_s (inS_0 (by omega) (by omega) (by omega) (by omega)))) (wr_3_7 ⟨by omega, by omega⟩) (fun z174 hq175 hs176 => ?_)
            have hf177 : z174 3 7 = 2 := ((congrFun (congrFun hq175 _) _).trans mu_eq)
            have hb178 := rd_3_9 hst.1
            have hf179 : z174 3 9 = z 3 9 := ((congrFun (congrFun hq175 _) _).trans (mu_ne (by omega)))
            exact r_ret rfl (po_V hs176 ⟨rfl, (by first | omega | assumption | (simp only [hf177, hf179]; assumption))⟩)
          · skip
            refine r_c0 (pc' := 96) rfl rfl ?_
            refine r_go rfl ?_
            refine r_pi (pc' := 103) rfl rfl sh_3 rfl rfl hst (inS_s (inS_s (inS_0 (by omega) (by omega) (by omega) (by omega)))) (wr_3_7 ⟨by omega, by omega⟩) (fun z180 hq181 hs182 => ?_)
            have hf183 : z180 3 7 = 5 := ((congrFun (congrFun hq181 _) _).trans mu_eq)
            have hb184 := rd_3_9 hst.1
            have hf185 : z180 3 9 = z 3 9 := ((congrFun (congrFun hq181 _) _).trans (mu_ne (by omega)))
            exact r_ret rfl (po_V hs182 ⟨rfl, (by first | omega | assumption | (simp only [hf183, hf185]; assumption))⟩)
  refine w_m rfl rfl ?_
  refine r_ld (pc' := 1) rfl rfl rfl rfl ?_
  refine r_c0 (pc' := 2) rfl rfl ?_
  refine r_pi (pc' := 5) rfl rfl sh_3 rfl rfl hst (inS_0 (by omega) (by omega) (by omega) (by omega)) (wr_3_9 ⟨by omega, by omega⟩) (fun z186 hq187 hs188 => ?_)
  refine r_c0 (pc' := 6) rfl rfl ?_
  refine r_st (pc' := 7) (lv' := [(1, _), (0, _)]) rfl rfl rfl rfl ?_
  have hb189 := rd_3_6 hz
  have hf190 : z186 3 6 = z0 3 6 := ((congrFun (congrFun hq187 _) _).trans (mu_ne (by omega)))
  have hf191 : z186 3 9 = 0 := ((congrFun (congrFun hq187 _) _).trans mu_eq)
  have hb192 := rd_3_7 hz
  exact w_lv (sub_c rfl (sub_c rfl sub_n)) rfl ((key ((54 * (1600 - 0) + 48 : Int).toNat + 1)).1 0 z186 w0 ⟨by omega, by omega⟩ hs188 (((congrFun (congrFun hq187 _) _).trans (mu_ne (by omega)))) (by first | omega | assumption | (simp only [hf190, hf191]; assumption)) (by omega))
/-- Table begin -/
abbrev S_64  : mS := [(102, 102, 1, 1), (102, 102, 2, 2), (102, 102, 3, 3), (102, 102, 4, 4), (104, 121, 0, 17)]
abbrev E_64 (a1 : Int) (a2 : Int) (a3 : Int) (z0 w0 : mZ) (x y tx it mt tt ct : Option Nat) : mZ → mZ → mP → Prop := fun z w p => p = (pq x y tx it mt tt ct)
theorem m_64 {d : Nat} {z0 w0 : mZ} {x y tx it mt tt ct : Option Nat} (a1 : Int) (a2 : Int) (a3 : Int) (hz : rz z0) (hw : rw_ w0) (ha1 : 0 ≤ a1 ∧ a1 ≤ 18) (ha2 : (-2147483648) ≤ a2 ∧ a2 ≤ 2147483647) (ha3 : (-2147483648) ≤ a3 ∧ a3 ≤ 2147483647) : wc (d + 2) 64 [.ref 102, .int (Int32.ofInt a1), .int (Int32.ofInt a2), .int (Int32.ofInt a3)] (mk z0 w0 (pq x y tx it mt tt ct)) (poV S_64 z0 w0 (E_64 a1 a2 a3 z0 w0 x y tx it mt tt ct)) := by
  have hst : st_ S_64 z0 w0 z0 w0 := st_rf hz hw
  refine w_m rfl rfl ?_
  refine r_ld (pc' := 1) rfl rfl rfl rfl ?_
  refine r_ld (pc' := 2) rfl rfl rfl rfl ?_
  refine r_pi (pc' := 5) rfl rfl sh_102 rfl rfl hst (inS_0 (by omega) (by omega) (by omega) (by omega)) (wr_102_1 ⟨by omega, by omega⟩) (fun z21 hq22 hs23 => ?_)
  refine r_ld (pc' := 6) rfl rfl rfl rfl ?_
  refine r_ld (pc' := 7) rfl rfl rfl rfl ?_
  refine r_pi (pc' := 10) rfl rfl sh_102 rfl rfl hs23 (inS_s (inS_0 (by omega) (by omega) (by omega) (by omega))) (wr_102_2 ⟨by omega, by omega⟩) (fun z24 hq25 hs26 => ?_)
  refine r_ld (pc' := 11) rfl rfl rfl rfl ?_
  refine r_ld (pc' := 12) rfl rfl rfl rfl ?_
  refine r_pi (pc' := 15) rfl rfl sh_102 rfl rfl hs26 (inS_s (inS_s (inS_0 (by omega) (by omega) (by omega) (by omega)))) (wr_102_3 ⟨by omega, by omega⟩) (fun z27 hq28 hs29 => ?_)
  refine r_ld (pc' := 16) rfl rfl rfl rfl ?_
  refine r_c0 (pc' := 17) rfl rfl ?_
  refine r_pi (pc' := 20) rfl rfl sh_102 rfl (fit_b (by omega)) hs29 (inS_s (inS_s (inS_s (inS_0 (by omega) (by omega) (by omega) (by omega))))) (wr_102_4 ⟨by omega, by omega⟩) (fun z30 hq31 hs32 => ?_)
  refine r_ld (pc' := 21) rfl rfl rfl rfl ?_
  refine r_ld (pc' := 22) rfl rfl rfl rfl ?_
  refine r_gr (b := 103) (pc' := 25) rfl rfl sh_102 rfl pp_102_5 ?_
  refine r_cVV (pc' := 28) rfl rfl rfl rfl rfl sh_102 (m_65 (d := d)  hs32.1 hs32.2.1 ) (fun z34 w35 p36 hs38 hE39 => ?_)
  have hs40 := st_tr hs32 hs38 (sub_B rfl)
  obtain rfl := hE39
  exact r_ret rfl (po_V hs40 rfl)
/-- Table expand -/
abbrev S_70  : mS := [(123, 140, 0, 17), (142, 142, 0, 18), (141, 141, 0, 17)]
abbrev E_70  (z0 w0 : mZ) (x y tx it mt tt ct : Option Nat) : mZ → mZ → mP → Prop := fun z w p => p = (pq x y tx it mt tt ct)
theorem m_70 {d : Nat} {z0 w0 : mZ} {x y tx it mt tt ct : Option Nat}  (hz : rz z0) (hw : rw_ w0) : wc (d + 2) 70 [.ref 102] (mk z0 w0 (pq x y tx it mt tt ct)) (poV S_70 z0 w0 (E_70  z0 w0 x y tx it mt tt ct)) := by
  have hst : st_ S_70 z0 w0 z0 w0 := st_rf hz hw
  have hz65 := rd_102_1 hz
  have key : ∀ N : Nat, (∀ (x1 : Int) (z w : mZ), 1 ≤ x1 ∧ x1 ≤ 19 → st_ S_70 z0 w0 z w → 3362 * (19 - x1) + 3349 < (N : Int) → wp_ (d + 1) 70 7 none (20, [(0, .ref 102), (1, .int (Int32.ofInt x1))], [], mk z w (pq x y tx it mt tt ct)) (poV S_70 z0 w0 (E_70  z0 w0 x y tx it mt tt ct))) ∧ (∀ (x1 x2 x4 : Int) (z w : mZ), 1 ≤ x1 ∧ x1 ≤ 18 → (-9223372036854775808) ≤ x2 ∧ x2 ≤ 9223372036854775807 → 0 ≤ x4 ∧ x4 ≤ 18 → 1 ≤ z0 102 1 ∧ z0 102 1 ≤ 18 → st_ S_70 z0 w0 z w → (x1 ≤ z0 102 1) → 3362 * (19 - x1) + 82 * (18 - x4) + 1699 < (N : Int) → wp_ (d + 1) 70 7 none (37, [(0, .ref 102), (1, .int (Int32.ofInt x1)), (2, .long (Int64.ofInt x2)), (4, .int (Int32.ofInt x4))], [], mk z w (pq x y tx it mt tt ct)) (poV S_70 z0 w0 (E_70  z0 w0 x y tx it mt tt ct))) ∧ (∀ (x1 x4 x6 : Int) (z w : mZ), 1 ≤ x1 ∧ x1 ≤ 18 → (-1000002) ≤ x4 ∧ x4 ≤ 2000005 → 0 ≤ x6 ∧ x6 ≤ 18 → 1 ≤ z0 102 1 ∧ z0 102 1 ≤ 18 → st_ S_70 z0 w0 z w → (x1 ≤ z0 102 1) → 3362 * (19 - x1) + 82 * (18 - x6) + 24 < (N : Int) → wp_ (d + 1) 70 7 none (100, [(0, .ref 102), (1, .int (Int32.ofInt x1)), (4, .long (Int64.ofInt x4)), (6, .int (Int32.ofInt x6))], [], mk z w (pq x y tx it mt tt ct)) (poV S_70 z0 w0 (E_70  z0 w0 x y tx it mt tt ct))) := by
    intro N
    induction N with
    | zero =>
      refine ⟨?_, ?_, ?_⟩
      · intro x1 z w
        intros; exfalso; omega
      · intro x1 x2 x4 z w
        intros; exfalso; omega
      · intro x1 x4 x6 z w
        intros; exfalso; omega
    | succ N ih =>
      obtain ⟨ih0, ih1, ih2⟩ := ih
      refine ⟨?_, ?_, ?_⟩
      · intro x1 z w hx1 hst hM
        refine r_ld (pc' := 21) rfl rfl rfl rfl ?_
        refine r_ld (pc' := 22) rfl rfl rfl rfl ?_
        have hb66 := rd_102_1 hz
        refine r_gi (pc' := 25) rfl rfl sh_102 rfl (hst.2.2.1 _ _ (notS_c (by omega) (notS_c (by omega) (notS_c (by omega) notS_n)))) ?_
        refine r_igt (pc' := 28) rfl rfl ⟨by omega, by omega⟩ ⟨by omega, by omega⟩ (fun hc67 => ?_) (fun hc67 => ?_)
        · skip
          exact r_ret rfl (po_V hst rfl)
        · skip
          refine r_ld (pc' := 29) rfl rfl rfl rfl ?_
          refine r_cVV (pc' := 32) rfl rfl rfl rfl rfl sh_102 (m_71 (d := d)  hst.1 hst.2.1 ) (fun z69 w70 p71 hs73 hE74 => ?_)
          have hs75 := st_tr hst hs73 (sub_B rfl)
          obtain rfl := hE74
          refine r_lc0 (pc' := 33) rfl rfl ?_
          refine r_st (pc' := 34) (lv' := [(2, _), (0, _), (1, _)]) rfl rfl rfl rfl ?_
          refine r_c0 (pc' := 35) rfl rfl ?_
          refine r_st (pc' := 37) (lv' := [(4, _), (2, _), (0, _), (1, _)]) rfl rfl rfl rfl ?_
          exact w_lv (sub_c rfl (sub_c rfl (sub_c rfl (sub_c rfl sub_n)))) rfl (ih1 x1 0 0 z69 w70 ⟨by omega, by omega⟩ ⟨by omega, by omega⟩ ⟨by omega, by omega⟩ ⟨by omega, by omega⟩ hs75 (by first | omega | assumption) (by omega))
      · intro x1 x2 x4 z w hx1 hx2 hx4 hz0_0 hst as1 hM
        refine r_ld (pc' := 39) rfl rfl rfl rfl ?_
        refine r_ld (pc' := 40) rfl rfl rfl rfl ?_
        refine r_gi (pc' := 43) rfl rfl sh_102 rfl (hst.2.2.1 _ _ (notS_c (by omega) (notS_c (by omega) (notS_c (by omega) notS_n)))) ?_
        refine r_ige (pc' := 46) rfl rfl ⟨by omega, by omega⟩ ⟨by omega, by omega⟩ (fun hc76 => ?_) (fun hc76 => ?_)
        · skip
          refine r_ld (pc' := 66) rfl rfl rfl rfl ?_
          refine r_al (pc' := 69) rfl rfl rfl rfl ?_
          refine r_lrmh (pc' := 70) rfl rfl ⟨by decide, by decide⟩ (by decide) (fun v77 h78 h79 h80 => ?_)
          refine r_lneg (pc' := 71) rfl rfl ?_
          refine r_ld (pc' := 72) rfl rfl rfl rfl ?_
          refine r_cSL (pc' := 75) rfl rfl rfl rfl rfl (m_72 (d := d) x1 hst.1 hst.2.1 ⟨by omega, by omega⟩) (fun v81 z82 w83 p84 h85 hs86 hE87 => ?_)
          obtain ⟨rfl, rfl, rfl, hE87⟩ := hE87
          refine r_lmul (pc' := 76) rfl rfl ?_
          refine w_hl (fun v89 h90 => ?_)
          unfold inL at h90
          refine r_al (pc' := 79) rfl rfl rfl rfl ?_
          refine r_cSL (pc' := 82) rfl rfl rfl rfl rfl (m_258 (d := d) v89 1000003 hst.1 hst.2.1 ⟨by omega, by omega⟩ ⟨by omega, by omega⟩) (fun v91 z92 w93 p94 h95 hs96 hE97 => ?_)
          obtain ⟨rfl, rfl, rfl, hE97⟩ := hE97
          refine r_st (pc' := 84) (lv' := [(4, _), (0, _), (1, _), (2, _)]) rfl rfl rfl rfl ?_
          refine r_ld (pc' := 85) rfl rfl rfl rfl ?_
          refine r_gr (b := 142) (pc' := 88) rfl rfl sh_102 rfl pp_102_8 ?_
          refine r_ld (pc' := 89) rfl rfl rfl rfl ?_
          refine r_gi (pc' := 92) rfl rfl sh_102 rfl (hst.2.2.1 _ _ (notS_c (by omega) (notS_c (by omega) (notS_c (by omega) notS_n)))) ?_
          refine r_ld (pc' := 93) rfl rfl rfl rfl ?_
          refine r_sub (pc' := 94) rfl rfl ?_
          refine r_ld (pc' := 96) rfl rfl rfl rfl ?_
          refine r_ls (pc' := 97) rfl rfl sh_142 rfl (by omega) (by omega) hst (inS_s (inS_0 (by omega) (by omega) (by omega) (by omega))) (wr_142 ⟨by omega, by omega⟩) (fun w99 hq100 hs101 => ?_)
          refine r_c0 (pc' := 98) rfl rfl ?_
          refine r_st (pc' := 100) (lv' := [(6, _), (4, _), (0, _), (1, _), (2, _)]) rfl rfl rfl rfl ?_
          exact w_lv (sub_c rfl (sub_c rfl (sub_c rfl (sub_c rfl sub_n)))) rfl (ih2 x1 v91 0 z w99 ⟨by omega, by omega⟩ ⟨by omega, by omega⟩ ⟨by omega, by omega⟩ ⟨by omega, by omega⟩ hs101 (by first | omega | assumption) (by omega))
        · skip
          refine r_ld (pc' := 47) rfl rfl rfl rfl ?_
          refine r_ld (pc' := 48) rfl rfl rfl rfl ?_
          refine r_gr (b := 122) (pc' := 51) rfl rfl sh_102 rfl pp_102_6 ?_
          refine r_ld (pc' := 53) rfl rfl rfl rfl ?_
          refine r_aa (b := 123 + x4.toNat) (pc' := 54) rfl rfl sh_122 (Or.inl rfl) rfl (by omega) (by omega) (pa_122 (by omega)) ?_
          refine r_ld (pc' := 56) rfl rfl rfl rfl ?_
          have hb102 := rd_123 (k := x4.toNat) (by omega) hst.2.1 (i := x4.toNat) (by omega)
          refine r_la (pc' := 57) rfl rfl (sh_123 (k := x4.toNat) (by omega)) rfl (by omega) (by omega) rfl ?_
          refine r_ladd (pc' := 58) rfl rfl ?_
          refine w_hxl (fun v103 h104 h105 => ?_)
          refine r_st (pc' := 59) (lv' := [(2, _), (0, _), (1, _), (4, _)]) rfl rfl rfl rfl ?_
          refine r_inc (pc' := 62) (lv' := [(2, _), (0, _), (1, _)]) rfl rfl rfl rfl rfl ?_
          refine r_go rfl ?_
          exact w_lv (sub_c rfl (sub_c rfl (sub_c rfl (sub_c rfl sub_n)))) rfl (ih1 x1 v103 (x4 + 1) z w ⟨by omega, by omega⟩ ⟨by omega, by omega⟩ ⟨by omega, by omega⟩ ⟨by omega, by omega⟩ hst (by first | omega | assumption) (by omega))
      · intro x1 x4 x6 z w hx1 hx4 hx6 hz0_0 hst as1 hM
        refine r_ld (pc' := 102) rfl rfl rfl rfl ?_
        refine r_ld (pc' := 103) rfl rfl rfl rfl ?_
        refine r_gi (pc' := 106) rfl rfl sh_102 rfl (hst.2.2.1 _ _ (notS_c (by omega) (notS_c (by omega) (notS_c (by omega) notS_n)))) ?_
        refine r_ige (pc' := 109) rfl rfl ⟨by omega, by omega⟩ ⟨by omega, by omega⟩ (fun hc106 => ?_) (fun hc106 => ?_)
        · skip
          refine r_inc (pc' := 145) (lv' := [(0, _), (4, _), (6, _)]) rfl rfl rfl rfl rfl ?_
          refine r_go rfl ?_
          exact w_lv (sub_c rfl (sub_c rfl sub_n)) rfl (ih0 (x1 + 1) z w ⟨by omega, by omega⟩ hst (by omega))
        · skip
          refine r_ld (pc' := 110) rfl rfl rfl rfl ?_
          refine r_gr (b := 122) (pc' := 113) rfl rfl sh_102 rfl pp_102_6 ?_
          refine r_ld (pc' := 115) rfl rfl rfl rfl ?_
          refine r_aa (b := 123 + x6.toNat) (pc' := 116) rfl rfl sh_122 (Or.inl rfl) rfl (by omega) (by omega) (pa_122 (by omega)) ?_
          refine r_ld (pc' := 118) rfl rfl rfl rfl ?_
          refine r_ld (pc' := 119) rfl rfl rfl rfl ?_
          refine r_gr (b := 122) (pc' := 122) rfl rfl sh_102 rfl pp_102_6 ?_
          refine r_ld (pc' := 124) rfl rfl rfl rfl ?_
          refine r_aa (b := 123 + x6.toNat) (pc' := 125) rfl rfl sh_122 (Or.inl rfl) rfl (by omega) (by omega) (pa_122 (by omega)) ?_
          refine r_ld (pc' := 127) rfl rfl rfl rfl ?_
          have hb107 := rd_123 (k := x6.toNat) (by omega) hst.2.1 (i := x6.toNat) (by omega)
          refine r_la (pc' := 128) rfl rfl (sh_123 (k := x6.toNat) (by omega)) rfl (by omega) (by omega) rfl ?_
          refine r_ld (pc' := 130) rfl rfl rfl rfl ?_
          refine r_ladd (pc' := 131) rfl rfl ?_
          refine w_hxl (fun v108 h109 h110 => ?_)
          refine r_al (pc' := 134) rfl rfl rfl rfl ?_
          refine r_lrmh (pc' := 135) rfl rfl ⟨by decide, by decide⟩ (by decide) (fun v111 h112 h113 h114 => ?_)
          refine r_ls (pc' := 136) rfl rfl (sh_123 (k := x6.toNat) (by omega)) rfl (by omega) (by omega) hst (inS_0 (by omega) (by omega) (by omega) (by omega)) (wr_123 (k := x6.toNat) (by omega) ⟨by omega, by omega⟩) (fun w115 hq116 hs117 => ?_)
          refine r_inc (pc' := 139) (lv' := [(0, _), (1, _), (4, _)]) rfl rfl rfl rfl rfl ?_
          refine r_go rfl ?_
          exact w_lv (sub_c rfl (sub_c rfl (sub_c rfl (sub_c rfl sub_n)))) rfl (ih2 x1 x4 (x6 + 1) z w115 ⟨by omega, by omega⟩ ⟨by omega, by omega⟩ ⟨by omega, by omega⟩ ⟨by omega, by omega⟩ hs117 (by first | omega | assumption) (by omega))
  refine w_m rfl rfl ?_
  refine r_ld (pc' := 1) rfl rfl rfl rfl ?_
  refine r_ld (pc' := 2) rfl rfl rfl rfl ?_
  refine r_gr (b := 122) (pc' := 5) rfl rfl sh_102 rfl pp_102_6 ?_
  refine r_cVV (pc' := 8) rfl rfl rfl rfl rfl sh_102 (m_65p (d := d)  hst.1 hst.2.1 ) (fun z119 w120 p121 hs123 hE124 => ?_)
  have hs125 := st_tr hst hs123 (sub_B rfl)
  obtain rfl := hE124
  refine r_ld (pc' := 9) rfl rfl rfl rfl ?_
  refine r_gr (b := 142) (pc' := 12) rfl rfl sh_102 rfl pp_102_8 ?_
  refine r_ld (pc' := 13) rfl rfl rfl rfl ?_
  have hb126 := rd_102_1 hz
  refine r_gi (pc' := 16) rfl rfl sh_102 rfl (hs123.2.2.1 _ _ (notS_c (by omega) notS_n)) ?_
  refine r_lc1 (pc' := 17) rfl rfl ?_
  refine r_ls (pc' := 18) rfl rfl sh_142 rfl (by omega) (by omega) hs125 (inS_s (inS_0 (by omega) (by omega) (by omega) (by omega))) (wr_142 ⟨by omega, by omega⟩) (fun w127 hq128 hs129 => ?_)
  refine r_c0 (pc' := 19) rfl rfl ?_
  refine r_st (pc' := 20) (lv' := [(1, _), (0, _)]) rfl rfl rfl rfl ?_
  exact w_lv (sub_c rfl (sub_c rfl sub_n)) rfl ((key ((3362 * (19 - 1) + 3349 : Int).toNat + 1)).1 1 z119 w127 ⟨by omega, by omega⟩ hs129 (by omega))
/-- Told numberPoints -/
abbrev S_78 (t : Nat) : mS := [(t + 3, t + 3, 0, 35), (t, t, 2, 2)]
abbrev E_78 (t : Nat) (z0 w0 : mZ) (x y tx it mt tt ct : Option Nat) : mZ → mZ → mP → Prop := fun z w p => p = (pq x y tx it mt tt ct)
theorem m_78 {d : Nat} {z0 w0 : mZ} {x y tx it mt tt ct : Option Nat} (t : Nat) (hz : rz z0) (hw : rw_ w0) (ht : isT t) : wc (d + 2) 78 [.ref t] (mk z0 w0 (pq x y tx it mt tt ct)) (poV (S_78 t) z0 w0 (E_78 t z0 w0 x y tx it mt tt ct)) := by
  have hst : st_ (S_78 t) z0 w0 z0 w0 := st_rf hz hw
  have key : ∀ N : Nat, (∀ (x1 x2 : Int) (z w : mZ), 0 ≤ x1 ∧ x1 ≤ 36 → 0 ≤ x2 ∧ x2 ≤ 36 → st_ (S_78 t) z0 w0 z w → z t 2 = z0 t 2 → 64 * (36 - x2) + 94904 < (N : Int) → wp_ (d + 1) 78 5 none (9, [(0, .ref t), (1, .int (Int32.ofInt x1)), (2, .int (Int32.ofInt x2))], [], mk z w (pq x y tx it mt tt ct)) (poV (S_78 t) z0 w0 (E_78 t z0 w0 x y tx it mt tt ct))) ∧ (∀ (x1 x2 : Int) (z w : mZ), 0 ≤ x1 ∧ x1 ≤ 36 → 0 ≤ x2 ∧ x2 ≤ 36 → st_ (S_78 t) z0 w0 z w → 2496 * (36 - x2) + 2476 < (N : Int) → wp_ (d + 1) 78 5 none (29, [(0, .ref t), (1, .int (Int32.ofInt x1)), (2, .int (Int32.ofInt x2))], [], mk z w (pq x y tx it mt tt ct)) (poV (S_78 t) z0 w0 (E_78 t z0 w0 x y tx it mt tt ct))) ∧ (∀ (x1 x2 x3 x4 : Int) (z w : mZ), 1 ≤ x1 ∧ x1 ≤ 36 → 0 ≤ x2 ∧ x2 ≤ 35 → 0 ≤ x3 ∧ x3 ≤ 35 → 0 ≤ x4 ∧ x4 ≤ 36 → st_ (S_78 t) z0 w0 z w → 2496 * (36 - x2) + 64 * (36 - x4) + 31 < (N : Int) → wp_ (d + 1) 78 5 none (49, [(0, .ref t), (1, .int (Int32.ofInt x1)), (2, .int (Int32.ofInt x2)), (3, .int (Int32.ofInt x3)), (4, .int (Int32.ofInt x4))], [], mk z w (pq x y tx it mt tt ct)) (poV (S_78 t) z0 w0 (E_78 t z0 w0 x y tx it mt tt ct))) ∧ (∀ (x1 x2 : Int) (z w : mZ), 1 ≤ x1 ∧ x1 ≤ 36 → 0 ≤ x2 ∧ x2 ≤ 35 → st_ (S_78 t) z0 w0 z w → 2496 * (36 - x2) + 8 < (N : Int) → wp_ (d + 1) 78 5 none (91, [(0, .ref t), (1, .int (Int32.ofInt x1)), (2, .int (Int32.ofInt x2))], [], mk z w (pq x y tx it mt tt ct)) (poV (S_78 t) z0 w0 (E_78 t z0 w0 x y tx it mt tt ct))) := by
    intro N
    induction N with
    | zero =>
      refine ⟨?_, ?_, ?_, ?_⟩
      · intro x1 x2 z w
        intros; exfalso; omega
      · intro x1 x2 z w
        intros; exfalso; omega
      · intro x1 x2 x3 x4 z w
        intros; exfalso; omega
      · intro x1 x2 z w
        intros; exfalso; omega
    | succ N ih =>
      obtain ⟨ih0, ih1, ih2, ih3⟩ := ih
      refine ⟨?_, ?_, ?_, ?_⟩
      · intro x1 x2 z w hx1 hx2 hst un_z_t_2 hM
        refine r_ld (pc' := 10) rfl rfl rfl rfl ?_
        refine r_ld (pc' := 11) rfl rfl rfl rfl ?_
        refine r_ige (pc' := 14) rfl rfl ⟨by omega, by omega⟩ ⟨by omega, by omega⟩ (fun hc32 => ?_) (fun hc32 => ?_)
        · skip
          refine r_c0 (pc' := 28) rfl rfl ?_
          refine r_st (pc' := 29) (lv' := [(2, _), (0, _), (1, _)]) rfl rfl rfl rfl ?_
          exact w_lv (sub_c rfl (sub_c rfl (sub_c rfl sub_n))) rfl (ih1 x1 0 z w ⟨by omega, by omega⟩ ⟨by omega, by omega⟩ hst (by omega))
        · skip
          refine r_ld (pc' := 15) rfl rfl rfl rfl ?_
          refine r_gr (b := t + 3) (pc' := 18) rfl rfl (sh_T ht) rfl (pp_T_7 ht) ?_
          refine r_ld (pc' := 19) rfl rfl rfl rfl ?_
          refine r_c0 (pc' := 20) rfl rfl ?_
          refine r_is (pc' := 21) rfl rfl (sh_T3 ht) rfl (by omega) (by omega) hst (inS_0 (by omega) (by omega) (by omega) (by omega)) (wr_T3 ht ⟨by omega, by omega⟩) (fun z33 hq34 hs35 => ?_)
          refine r_inc (pc' := 24) (lv' := [(0, _), (1, _)]) rfl rfl rfl rfl rfl ?_
          refine r_go rfl ?_
          have hb36 := rd_T_2 ht hz
          exact w_lv (sub_c rfl (sub_c rfl (sub_c rfl sub_n))) rfl (ih0 x1 (x2 + 1) z33 w ⟨by omega, by omega⟩ ⟨by omega, by omega⟩ hs35 ((((congrFun (congrFun hq34 _) _).trans (mu_ne (by omega))).trans un_z_t_2)) (by omega))
      · intro x1 x2 z w hx1 hx2 hst hM
        refine r_ld (pc' := 30) rfl rfl rfl rfl ?_
        refine r_ld (pc' := 31) rfl rfl rfl rfl ?_
        refine r_ige (pc' := 34) rfl rfl ⟨by omega, by omega⟩ ⟨by omega, by omega⟩ (fun hc37 => ?_) (fun hc37 => ?_)
        · skip
          exact r_ret rfl (po_V hst rfl)
        · skip
          refine r_ld (pc' := 35) rfl rfl rfl rfl ?_
          refine r_gr (b := t + 3) (pc' := 38) rfl rfl (sh_T ht) rfl (pp_T_7 ht) ?_
          refine r_ld (pc' := 39) rfl rfl rfl rfl ?_
          have hb38 := rd_T3 ht hst.1 (i := x2.toNat) (by omega)
          refine r_ia (pc' := 40) rfl rfl (sh_T3 ht) rfl (by omega) (by omega) rfl ?_
          refine r_c0 (pc' := 41) rfl rfl ?_
          refine r_ine (pc' := 44) rfl rfl ⟨by omega, by omega⟩ ⟨by decide, by decide⟩ (fun hc39 => ?_) (fun hc39 => ?_)
          · skip
            refine r_inc (pc' := 104) (lv' := [(0, _), (1, _)]) rfl rfl rfl rfl rfl ?_
            refine r_go rfl ?_
            exact w_lv (sub_c rfl (sub_c rfl (sub_c rfl sub_n))) rfl (ih1 x1 (x2 + 1) z w ⟨by omega, by omega⟩ ⟨by omega, by omega⟩ hst (by omega))
          · skip
            refine r_ld (pc' := 45) rfl rfl rfl rfl ?_
            refine r_st (pc' := 46) (lv' := [(3, _), (0, _), (1, _), (2, _)]) rfl rfl rfl rfl ?_
            refine r_c0 (pc' := 47) rfl rfl ?_
            refine r_st (pc' := 49) (lv' := [(4, _), (3, _), (0, _), (1, _), (2, _)]) rfl rfl rfl rfl ?_
            exact w_lv (sub_c rfl (sub_c rfl (sub_c rfl (sub_c rfl (sub_c rfl sub_n))))) rfl (ih2 x1 x2 x2 0 z w ⟨by omega, by omega⟩ ⟨by omega, by omega⟩ ⟨by omega, by omega⟩ ⟨by omega, by omega⟩ hst (by omega))
      · intro x1 x2 x3 x4 z w hx1 hx2 hx3 hx4 hst hM
        refine r_ld (pc' := 51) rfl rfl rfl rfl ?_
        refine r_ld (pc' := 52) rfl rfl rfl rfl ?_
        refine r_ige (pc' := 55) rfl rfl ⟨by omega, by omega⟩ ⟨by omega, by omega⟩ (fun hc40 => ?_) (fun hc40 => ?_)
        · skip
          exact w_lv (sub_c rfl (sub_c rfl (sub_c rfl sub_n))) rfl (ih3 x1 x2 z w ⟨by omega, by omega⟩ ⟨by omega, by omega⟩ hst (by omega))
        · skip
          refine r_ld (pc' := 56) rfl rfl rfl rfl ?_
          refine r_gr (b := t + 3) (pc' := 59) rfl rfl (sh_T ht) rfl (pp_T_7 ht) ?_
          refine r_ld (pc' := 60) rfl rfl rfl rfl ?_
          have hb41 := rd_T3 ht hst.1 (i := x3.toNat) (by omega)
          refine r_ia (pc' := 61) rfl rfl (sh_T3 ht) rfl (by omega) (by omega) rfl ?_
          refine r_c0 (pc' := 62) rfl rfl ?_
          refine r_ine (pc' := 65) rfl rfl ⟨by omega, by omega⟩ ⟨by decide, by decide⟩ (fun hc42 => ?_) (fun hc42 => ?_)
          · skip
            exact w_lv (sub_c rfl (sub_c rfl (sub_c rfl sub_n))) rfl (ih3 x1 x2 z w ⟨by omega, by omega⟩ ⟨by omega, by omega⟩ hst (by omega))
          · skip
            refine r_ld (pc' := 66) rfl rfl rfl rfl ?_
            refine r_gr (b := t + 3) (pc' := 69) rfl rfl (sh_T ht) rfl (pp_T_7 ht) ?_
            refine r_ld (pc' := 70) rfl rfl rfl rfl ?_
            refine r_ld (pc' := 71) rfl rfl rfl rfl ?_
            have hb43 := rd_T_2 ht hst.1
            refine r_gi (pc' := 74) rfl rfl (sh_T ht) rfl rfl ?_
            refine r_is (pc' := 75) rfl rfl (sh_T3 ht) rfl (by omega) (by omega) hst (inS_0 (by omega) (by omega) (by omega) (by omega)) (wr_T3 ht ⟨by omega, by omega⟩) (fun z44 hq45 hs46 => ?_)
            refine r_ld (pc' := 76) rfl rfl rfl rfl ?_
            refine r_gr (b := t + 2) (pc' := 79) rfl rfl (sh_T ht) rfl (pp_T_6 ht) ?_
            refine r_ld (pc' := 80) rfl rfl rfl rfl ?_
            refine r_cSI (pc' := 83) rfl rfl rfl rfl rfl (m_143 (d := d) x3 hs46.1 hs46.2.1 ⟨by omega, by omega⟩) (fun v47 z48 w49 p50 h51 hs52 hE53 => ?_)
            obtain ⟨rfl, rfl, rfl, hE53⟩ := hE53
            have hb55 := rd_T2 ht hz (i := v47.toNat) (by omega)
            refine r_ia (pc' := 84) rfl rfl (sh_T2 ht) rfl (by omega) (by omega) (((congrFun (congrFun hq45 _) _).trans (mu_ne (by omega))).trans (hst.2.2.1 _ _ (notS_c (by omega) (notS_c (by omega) notS_n)))) ?_
            refine r_st (pc' := 85) (lv' := [(3, _), (0, _), (1, _), (2, _), (4, _)]) rfl rfl rfl rfl ?_
            refine r_inc (pc' := 88) (lv' := [(3, _), (0, _), (1, _), (2, _)]) rfl rfl rfl rfl rfl ?_
            refine r_go rfl ?_
            exact w_lv (sub_c rfl (sub_c rfl (sub_c rfl (sub_c rfl (sub_c rfl sub_n))))) rfl (ih2 x1 x2 (z0 (t + 2) v47.toNat) (x4 + 1) z44 w ⟨by omega, by omega⟩ ⟨by omega, by omega⟩ ⟨by omega, by omega⟩ ⟨by omega, by omega⟩ hs46 (by omega))
      · intro x1 x2 z w hx1 hx2 hst hM
        refine r_ld (pc' := 92) rfl rfl rfl rfl ?_
        refine r_al (pc' := 93) rfl rfl rfl rfl ?_
        have hb56 := rd_T_2 ht hst.1
        refine r_gi (pc' := 96) rfl rfl (sh_T ht) rfl rfl ?_
        refine r_c0 (pc' := 97) rfl rfl ?_
        refine r_add (pc' := 98) rfl rfl ?_
        refine w_hxi (fun v57 h58 h59 => ?_)
        refine r_pi (pc' := 101) rfl rfl (sh_T ht) rfl rfl hst (inS_s (inS_0 (by omega) (by omega) (by omega) (by omega))) (wr_T_2 ht ⟨by omega, by omega⟩) (fun z60 hq61 hs62 => ?_)
        refine r_inc (pc' := 104) (lv' := [(0, _), (1, _)]) rfl rfl rfl rfl rfl ?_
        refine r_go rfl ?_
        exact w_lv (sub_c rfl (sub_c rfl (sub_c rfl sub_n))) rfl (ih1 x1 (x2 + 1) z60 w ⟨by omega, by omega⟩ ⟨by omega, by omega⟩ hs62 (by omega))
  refine w_m rfl rfl ?_
  refine r_c0 (pc' := 1) rfl rfl ?_
  refine r_ld (pc' := 2) rfl rfl rfl rfl ?_
  have hb63 := rd_T_0 ht hz
  refine r_gi (pc' := 5) rfl rfl (sh_T ht) rfl rfl ?_
  refine r_mul (pc' := 6) rfl rfl ?_
  refine r_st (pc' := 7) (lv' := [(1, _), (0, _)]) rfl rfl rfl rfl ?_
  refine r_c0 (pc' := 8) rfl rfl ?_
  refine r_st (pc' := 9) (lv' := [(2, _), (1, _), (0, _)]) rfl rfl rfl rfl ?_
  have hb64 := rd_T_2 ht hz
  exact w_lv (sub_c rfl (sub_c rfl (sub_c rfl sub_n))) rfl ((key ((64 * (36 - 0) + 94904 : Int).toNat + 1)).1 (3 * (z0 t 0)) 0 z0 w0 ⟨by omega, by omega⟩ ⟨by omega, by omega⟩ hst (rfl) (by omega))
/-- Told fits -/
abbrev S_80  : mS := []
abbrev E_80 (t : Nat) (n : Nat) (z0 w0 : mZ) (x y tx it mt tt ct : Option Nat) : Int → mZ → mZ → mP → Prop := fun v z w p => p = (pq x y tx it mt tt ct) ∧ z0 = z ∧ w0 = w ∧ 0 ≤ v ∧ v ≤ 1 ∧ ((v = 1 → FTt z0 t (w0 n)))
theorem m_80 {d : Nat} {z0 w0 : mZ} {x y tx it mt tt ct : Option Nat} (t : Nat) (n : Nat) (hz : rz z0) (hw : rw_ w0) (ht : isT t) (hn : lr n) (b15n : 15 ≤ n) (hnb : ∀ e : Nat, e < 18 → 0 ≤ w0 n e ∧ w0 n e ≤ 100000000000000) : wc (d + 2) 80 [.ref t, .ref n] (mk z0 w0 (pq x y tx it mt tt ct)) (poI S_80 z0 w0 (E_80 t n z0 w0 x y tx it mt tt ct)) := by
  have hst : st_ S_80 z0 w0 z0 w0 := st_rf hz hw
  have key : ∀ N : Nat, (∀ (x2 : Int) , 0 ≤ x2 ∧ x2 ≤ 12 → (∀ q : Nat, (q : Int) < x2 → tri (w0 n (vT (z0 (t + 1)) (3 * q))) (w0 n (vT (z0 (t + 1)) (3 * q + 1))) (w0 n (vT (z0 (t + 1)) (3 * q + 2)))) → 17 * (12 - x2) + 14 < (N : Int) → wp_ (d + 1) 80 3 (some .boolean) (2, [(0, .ref t), (1, .ref n), (2, .int (Int32.ofInt x2))], [], mk z0 w0 (pq x y tx it mt tt ct)) (poI S_80 z0 w0 (E_80 t n z0 w0 x y tx it mt tt ct))) := by
    intro N
    induction N with
    | zero =>
      intro x2 
      intros; exfalso; omega
    | succ N ih =>
      have ih0 := ih; clear ih
      intro x2 hx2 as1 hM
      refine r_ld (pc' := 3) rfl rfl rfl rfl ?_
      refine r_ld (pc' := 4) rfl rfl rfl rfl ?_
      have hb12 := rd_T_0 ht hz
      refine r_gi (pc' := 7) rfl rfl (sh_T ht) rfl rfl ?_
      refine r_ige (pc' := 10) rfl rfl ⟨by omega, by omega⟩ ⟨by omega, by omega⟩ (fun hc13 => ?_) (fun hc13 => ?_)
      · skip
        refine r_c0 (pc' := 28) rfl rfl ?_
        exact r_rz rfl (by omega) (po_I hst ⟨by decide, by decide⟩ ⟨rfl, rfl, rfl, by omega, by omega, (by first | (intro h; exfalso; omega) | (intro _; exact FT_of (fun e he => (hnb e he).1) (fun q hq => as1 q (by omega))))⟩)
      · skip
        refine r_ld (pc' := 11) rfl rfl rfl rfl ?_
        refine r_ld (pc' := 12) rfl rfl rfl rfl ?_
        refine r_ld (pc' := 13) rfl rfl rfl rfl ?_
        refine r_cVI (pc' := 16) rfl rfl rfl rfl rfl (sh_T ht) (m_79 (d := d) t x2 n hst.1 hst.2.1 ⟨by omega, by omega⟩ ht hn (by first | omega | assumption) (by first | omega | assumption)) (fun v14 z15 w16 p17 h18 hs19 hE20 => ?_)
        obtain ⟨rfl, rfl, rfl, hE20⟩ := hE20
        have hfi := hE20.2.2
        refine r_zne (pc' := 19) rfl rfl ⟨by omega, by omega⟩ (fun hc22 => ?_) (fun hc22 => ?_)
        · skip
          refine r_inc (pc' := 24) (lv' := [(0, _), (1, _)]) rfl rfl rfl rfl rfl ?_
          refine r_go rfl ?_
          exact w_lv (sub_c rfl (sub_c rfl (sub_c rfl sub_n))) rfl (ih0 (x2 + 1) ⟨by omega, by omega⟩ (by first | (intro q hq; exfalso; omega) | (intro q hq; by_cases k : (q : Int) = x2; (have h9 := hfi (by omega); rw [show (3 * x2).toNat = 3 * q by omega, show (3 * x2 + 1).toNat = 3 * q + 1 by omega, show (3 * x2 + 2).toNat = 3 * q + 2 by omega] at h9; exact h9); exact as1 q (by omega))) (by omega))
        · skip
          refine r_c0 (pc' := 20) rfl rfl ?_
          exact r_rz rfl (by omega) (po_I hst ⟨by decide, by decide⟩ ⟨rfl, rfl, rfl, by omega, by omega, (by first | (intro h; exfalso; omega) | (intro _; exact FT_of (fun e he => (hnb e he).1) (fun q hq => as1 q (by omega))))⟩)
  refine w_m rfl rfl ?_
  refine r_c0 (pc' := 1) rfl rfl ?_
  refine r_st (pc' := 2) (lv' := [(2, _), (0, _), (1, _)]) rfl rfl rfl rfl ?_
  exact w_lv (sub_c rfl (sub_c rfl (sub_c rfl sub_n))) rfl ((key ((17 * (12 - 0) + 14 : Int).toNat + 1)) 0 ⟨by omega, by omega⟩ (by first | (intro q hq; exfalso; omega) | (intro q hq; by_cases k : (q : Int) = x2; (have h9 := hfi (by omega); rw [show (3 * x2).toNat = 3 * q by omega, show (3 * x2 + 1).toNat = 3 * q + 1 by omega, show (3 * x2 + 2).toNat = 3 * q + 2 by omega] at h9; exact h9); exact as1 q (by omega))) (by omega))
/-- Told lastEdgeOf -/
abbrev S_81  : mS := []
abbrev E_81 (t : Nat) (a1 : Int) (z0 w0 : mZ) (x y tx it mt tt ct : Option Nat) : Int → mZ → mZ → mP → Prop := fun v z w p => p = (pq x y tx it mt tt ct) ∧ z0 = z ∧ w0 = w ∧ 0 ≤ v ∧ v ≤ 17
theorem m_81 {d : Nat} {z0 w0 : mZ} {x y tx it mt tt ct : Option Nat} (t : Nat) (a1 : Int) (hz : rz z0) (hw : rw_ w0) (ha1 : 0 ≤ a1 ∧ a1 ≤ 11) (ht : isT t) : wc (d + 2) 81 [.ref t, .int (Int32.ofInt a1)] (mk z0 w0 (pq x y tx it mt tt ct)) (poI S_81 z0 w0 (E_81 t a1 z0 w0 x y tx it mt tt ct)) := by
  have hst : st_ S_81 z0 w0 z0 w0 := st_rf hz hw
  have key : ∀ N : Nat, (∀ (x2 x3 : Int) , 0 ≤ x2 ∧ x2 ≤ 17 → 0 ≤ x3 ∧ x3 ≤ 36 → 24 * (36 - x3) + 17 < (N : Int) → wp_ (d + 1) 81 4 (some .int) (6, [(0, .ref t), (1, .int (Int32.ofInt a1)), (2, .int (Int32.ofInt x2)), (3, .int (Int32.ofInt x3))], [], mk z0 w0 (pq x y tx it mt tt ct)) (poI S_81 z0 w0 (E_81 t a1 z0 w0 x y tx it mt tt ct))) := by
    intro N
    induction N with
    | zero =>
      intro x2 x3 
      intros; exfalso; omega
    | succ N ih =>
      have ih0 := ih; clear ih
      intro x2 x3 hx2 hx3 hM
      refine r_ld (pc' := 7) rfl rfl rfl rfl ?_
      refine r_c0 (pc' := 8) rfl rfl ?_
      refine r_ld (pc' := 9) rfl rfl rfl rfl ?_
      refine r_mul (pc' := 10) rfl rfl ?_
      refine r_c0 (pc' := 11) rfl rfl ?_
      refine r_add (pc' := 12) rfl rfl ?_
      refine r_ige (pc' := 15) rfl rfl ⟨by omega, by omega⟩ ⟨by omega, by omega⟩ (fun hc11 => ?_) (fun hc11 => ?_)
      · skip
        refine r_ld (pc' := 33) rfl rfl rfl rfl ?_
        exact r_ri rfl (po_I hst ⟨by omega, by omega⟩ ⟨rfl, rfl, rfl, by omega, by omega⟩)
      · skip
        refine r_ld (pc' := 16) rfl rfl rfl rfl ?_
        refine r_ld (pc' := 17) rfl rfl rfl rfl ?_
        refine r_gr (b := t + 1) (pc' := 20) rfl rfl (sh_T ht) rfl (pp_T_5 ht) ?_
        refine r_ld (pc' := 21) rfl rfl rfl rfl ?_
        have hb12 := rd_T1 ht hz (i := x3.toNat) (by omega)
        refine r_ia (pc' := 22) rfl rfl (sh_T1 ht) rfl (by omega) (by omega) rfl ?_
        refine r_cSI (pc' := 25) rfl rfl rfl rfl rfl (m_261 (d := d) x2 (z0 (t + 1) x3.toNat) hst.1 hst.2.1 ⟨by omega, by omega⟩ ⟨by omega, by omega⟩) (fun v13 z14 w15 p16 h17 hs18 hE19 => ?_)
        obtain ⟨rfl, rfl, rfl, hE19⟩ := hE19
        refine r_st (pc' := 26) (lv' := [(2, _), (0, _), (1, _), (3, _)]) rfl rfl rfl rfl ?_
        refine r_inc (pc' := 29) (lv' := [(2, _), (0, _), (1, _)]) rfl rfl rfl rfl rfl ?_
        refine r_go rfl ?_
        exact w_lv (sub_c rfl (sub_c rfl (sub_c rfl (sub_c rfl sub_n)))) rfl (ih0 v13 (x3 + 1) ⟨by omega, by omega⟩ ⟨by omega, by omega⟩ (by omega))
  refine w_m rfl rfl ?_
  refine r_c0 (pc' := 1) rfl rfl ?_
  refine r_st (pc' := 2) (lv' := [(2, _), (0, _), (1, _)]) rfl rfl rfl rfl ?_
  refine r_c0 (pc' := 3) rfl rfl ?_
  refine r_ld (pc' := 4) rfl rfl rfl rfl ?_
  refine r_mul (pc' := 5) rfl rfl ?_
  refine r_st (pc' := 6) (lv' := [(3, _), (2, _), (0, _), (1, _)]) rfl rfl rfl rfl ?_
  exact w_lv (sub_c rfl (sub_c rfl (sub_c rfl (sub_c rfl sub_n)))) rfl ((key ((24 * (36 - (3 * a1)) + 17 : Int).toNat + 1)) 0 (3 * a1) ⟨by omega, by omega⟩ ⟨by omega, by omega⟩ (by omega))
/-- Told lineNamed -/
abbrev S_82  : mS := []
abbrev E_82 (t : Nat) (a1 : Int) (z0 w0 : mZ) (x y tx it mt tt ct : Option Nat) : Int → mZ → mZ → mP → Prop := fun v z w p => p = (pq x y tx it mt tt ct) ∧ z0 = z ∧ w0 = w ∧ (-1) ≤ v ∧ v ≤ 7 ∧ (v < z0 t 3)
theorem m_82 {d : Nat} {z0 w0 : mZ} {x y tx it mt tt ct : Option Nat} (t : Nat) (a1 : Int) (hz : rz z0) (hw : rw_ w0) (ha1 : (-9223372036854775808) ≤ a1 ∧ a1 ≤ 9223372036854775807) (ht : isT t) : wc (d + 2) 82 [.ref t, .long (Int64.ofInt a1)] (mk z0 w0 (pq x y tx it mt tt ct)) (poI S_82 z0 w0 (E_82 t a1 z0 w0 x y tx it mt tt ct)) := by
  have hst : st_ S_82 z0 w0 z0 w0 := st_rf hz hw
  have hz10 := rd_T_3 ht hz
  refine w_m rfl rfl ?_
  refine r_ld (pc' := 1) rfl rfl rfl rfl ?_
  refine r_ld (pc' := 2) rfl rfl rfl rfl ?_
  refine r_gr (b := t + 16) (pc' := 5) rfl rfl (sh_T ht) rfl (pp_T_12 ht) ?_
  refine r_ld (pc' := 6) rfl rfl rfl rfl ?_
  have hb11 := rd_T_3 ht hz
  refine r_gi (pc' := 9) rfl rfl (sh_T ht) rfl rfl ?_
  refine r_cSI (pc' := 12) rfl rfl rfl rfl rfl (m_84 (d := d) a1 t (z0 t 3) hst.1 hst.2.1 ⟨by omega, by omega⟩ ⟨by omega, by omega⟩ ht) (fun v12 z13 w14 p15 h16 hs17 hE18 => ?_)
  obtain ⟨rfl, rfl, rfl, hE18⟩ := hE18
  exact r_ri rfl (po_I hst ⟨by omega, by omega⟩ ⟨rfl, rfl, rfl, by omega, by omega, (by first | omega | assumption)⟩)
/-- Told wordNamed -/
abbrev S_83  : mS := []
abbrev E_83 (t : Nat) (a1 : Int) (z0 w0 : mZ) (x y tx it mt tt ct : Option Nat) : Int → mZ → mZ → mP → Prop := fun v z w p => p = (pq x y tx it mt tt ct) ∧ z0 = z ∧ w0 = w ∧ (-1) ≤ v ∧ v ≤ 5 ∧ (v < z0 t 4)
theorem m_83 {d : Nat} {z0 w0 : mZ} {x y tx it mt tt ct : Option Nat} (t : Nat) (a1 : Int) (hz : rz z0) (hw : rw_ w0) (ha1 : (-9223372036854775808) ≤ a1 ∧ a1 ≤ 9223372036854775807) (ht : isT t) : wc (d + 2) 83 [.ref t, .long (Int64.ofInt a1)] (mk z0 w0 (pq x y tx it mt tt ct)) (poI S_83 z0 w0 (E_83 t a1 z0 w0 x y tx it mt tt ct)) := by
  have hst : st_ S_83 z0 w0 z0 w0 := st_rf hz hw
  have hz10 := rd_T_4 ht hz
  refine w_m rfl rfl ?_
  refine r_ld (pc' := 1) rfl rfl rfl rfl ?_
  refine r_ld (pc' := 2) rfl rfl rfl rfl ?_
  refine r_gr (b := t + 17) (pc' := 5) rfl rfl (sh_T ht) rfl (pp_T_13 ht) ?_
  refine r_ld (pc' := 6) rfl rfl rfl rfl ?_
  have hb11 := rd_T_4 ht hz
  refine r_gi (pc' := 9) rfl rfl (sh_T ht) rfl rfl ?_
  refine r_cSI (pc' := 12) rfl rfl rfl rfl rfl (m_84w (d := d) a1 t (z0 t 4) hst.1 hst.2.1 ⟨by omega, by omega⟩ ⟨by omega, by omega⟩ ht) (fun v12 z13 w14 p15 h16 hs17 hE18 => ?_)
  obtain ⟨rfl, rfl, rfl, hE18⟩ := hE18
  exact r_ri rfl (po_I hst ⟨by omega, by omega⟩ ⟨rfl, rfl, rfl, by omega, by omega, (by first | omega | assumption)⟩)
/-- Tracer beginFirst -/
abbrev S_88  : mS := [(4, 4, 9, 9), (4, 4, 10, 10), (4, 4, 11, 11), (4, 4, 12, 12)]
abbrev E_88 (t : Nat) (z0 w0 : mZ) (x y tx it mt ct : Option Nat) : Int → mZ → mZ → mP → Prop := fun v z w p => p = (pq x y tx it mt (some t) ct) ∧ 0 ≤ v ∧ v ≤ 1
theorem m_88 {d : Nat} {z0 w0 : mZ} {x y tx it mt ct : Option Nat} (t : Nat) (hz : rz z0) (hw : rw_ w0) (ht : isT t) : wc (d + 2) 88 [.ref 4] (mk z0 w0 (pq x y tx it mt (some t) ct)) (poI S_88 z0 w0 (E_88 t z0 w0 x y tx it mt ct)) := by
  have hst : st_ S_88 z0 w0 z0 w0 := st_rf hz hw
  have key : ∀ N : Nat, (∀ (x1 : Int) (z w : mZ), 0 ≤ x1 ∧ x1 ≤ 18 → st_ S_88 z0 w0 z w → z 4 9 = z0 4 9 → z 4 10 = z0 4 10 → z 4 11 = z0 4 11 → z 4 12 = z0 4 12 → 26 * (18 - x1) + 23 < (N : Int) → wp_ (d + 1) 88 2 (some .boolean) (2, [(0, .ref 4), (1, .int (Int32.ofInt x1))], [], mk z w (pq x y tx it mt (some t) ct)) (poI S_88 z0 w0 (E_88 t z0 w0 x y tx it mt ct))) := by
    intro N
    induction N with
    | zero =>
      intro x1 z w
      intros; exfalso; omega
    | succ N ih =>
      have ih0 := ih; clear ih
      intro x1 z w hx1 hst un_z_4_9 un_z_4_10 un_z_4_11 un_z_4_12 hM
      refine r_ld (pc' := 3) rfl rfl rfl rfl ?_
      refine r_ld (pc' := 4) rfl rfl rfl rfl ?_
      refine r_gr (b := t) (pc' := 7) rfl rfl sh_4 rfl pp_4_7 ?_
      have hb14 := rd_T_1 ht hz
      refine r_gi (pc' := 10) rfl rfl (sh_T ht) rfl (hst.2.2.1 _ _ (notS_c (by omega) (notS_c (by omega) (notS_c (by omega) (notS_c (by omega) notS_n))))) ?_
      refine r_ige (pc' := 13) rfl rfl ⟨by omega, by omega⟩ ⟨by omega, by omega⟩ (fun hc15 => ?_) (fun hc15 => ?_)
      · skip
        refine r_c0 (pc' := 45) rfl rfl ?_
        exact r_rz rfl (by omega) (po_I hst ⟨by decide, by decide⟩ ⟨rfl, by omega, by omega⟩)
      · skip
        refine r_ld (pc' := 14) rfl rfl rfl rfl ?_
        refine r_gr (b := 7) (pc' := 17) rfl rfl sh_4 rfl pp_4_4 ?_
        refine r_ld (pc' := 18) rfl rfl rfl rfl ?_
        have hb16 := rd_7 hz (i := x1.toNat) (by omega)
        refine r_ia (pc' := 19) rfl rfl sh_7 rfl (by omega) (by omega) (hst.2.2.1 _ _ (notS_c (by omega) (notS_c (by omega) (notS_c (by omega) (notS_c (by omega) notS_n))))) ?_
        refine r_zle (pc' := 22) rfl rfl ⟨by omega, by omega⟩ (fun hc17 => ?_) (fun hc17 => ?_)
        · skip
          refine r_inc (pc' := 41) (lv' := [(0, _)]) rfl rfl rfl rfl rfl ?_
          refine r_go rfl ?_
          have hb18 := rd_4_9 hz
          have hb19 := rd_4_10 hz
          have hb20 := rd_4_11 hz
          have hb21 := rd_4_12 hz
          exact w_lv (sub_c rfl (sub_c rfl sub_n)) rfl (ih0 (x1 + 1) z w ⟨by omega, by omega⟩ hst (un_z_4_9) (un_z_4_10) (un_z_4_11) (un_z_4_12) (by omega))
        · skip
          refine r_ld (pc' := 23) rfl rfl rfl rfl ?_
          refine r_ld (pc' := 24) rfl rfl rfl rfl ?_
          refine r_gr (b := t) (pc' := 27) rfl rfl sh_4 rfl pp_4_7 ?_
          refine r_gr (b := t + 5) (pc' := 30) rfl rfl (sh_T ht) rfl (pp_T_9 ht) ?_
          refine r_ld (pc' := 31) rfl rfl rfl rfl ?_
          have hb22 := rd_T5 ht hz (i := x1.toNat) (by omega)
          refine r_ia (pc' := 32) rfl rfl (sh_T5 ht) rfl (by omega) (by omega) (hst.2.2.1 _ _ (notS_c (by omega) (notS_c (by omega) (notS_c (by omega) (notS_c (by omega) notS_n))))) ?_
          refine r_c0 (pc' := 33) rfl rfl ?_
          refine r_cVV (pc' := 36) rfl rfl rfl rfl rfl sh_4 (m_87 (d := d) (z0 (t + 5) x1.toNat) 0 hst.1 hst.2.1 ⟨by omega, by omega⟩ ⟨by omega, by omega⟩) (fun z24 w25 p26 hs28 hE29 => ?_)
          have hs30 := st_tr hst hs28 (sub_B rfl)
          obtain rfl := hE29
          refine r_c0 (pc' := 37) rfl rfl ?_
          exact r_rz rfl (by omega) (po_I hs30 ⟨by decide, by decide⟩ ⟨rfl, by omega, by omega⟩)
  refine w_m rfl rfl ?_
  refine r_c0 (pc' := 1) rfl rfl ?_
  refine r_st (pc' := 2) (lv' := [(1, _), (0, _)]) rfl rfl rfl rfl ?_
  have hb31 := rd_4_9 hz
  have hb32 := rd_4_10 hz
  have hb33 := rd_4_11 hz
  have hb34 := rd_4_12 hz
  exact w_lv (sub_c rfl (sub_c rfl sub_n)) rfl ((key ((26 * (18 - 0) + 23 : Int).toNat + 1)) 0 z0 w0 ⟨by omega, by omega⟩ hst (rfl) (rfl) (rfl) (rfl) (by omega))
/-- Tracer step -/
abbrev S_91  : mS := [(4, 4, 13, 13), (4, 4, 9, 9), (4, 4, 10, 10)]
abbrev E_91 (t : Nat) (z0 w0 : mZ) (x y tx it mt ct : Option Nat) : mZ → mZ → mP → Prop := fun z w p => p = (pq x y tx it mt (some t) ct)
theorem m_91 {d : Nat} {z0 w0 : mZ} {x y tx it mt ct : Option Nat} (t : Nat) (hz : rz z0) (hw : rw_ w0) (ht : isT t) : wc (d + 2) 91 [.ref 4] (mk z0 w0 (pq x y tx it mt (some t) ct)) (poV S_91 z0 w0 (E_91 t z0 w0 x y tx it mt ct)) := by
  have hst : st_ S_91 z0 w0 z0 w0 := st_rf hz hw
  refine w_m rfl rfl ?_
  refine r_ld (pc' := 1) rfl rfl rfl rfl ?_
  refine r_gr (b := t) (pc' := 4) rfl rfl sh_4 rfl pp_4_7 ?_
  refine r_gr (b := t + 2) (pc' := 7) rfl rfl (sh_T ht) rfl (pp_T_6 ht) ?_
  refine r_ld (pc' := 8) rfl rfl rfl rfl ?_
  have hb100 := rd_4_9 hz
  refine r_gi (pc' := 11) rfl rfl sh_4 rfl rfl ?_
  have hb101 := rd_T2 ht hz (i := (z0 4 9).toNat) (by omega)
  refine r_ia (pc' := 12) rfl rfl (sh_T2 ht) rfl (by omega) (by omega) rfl ?_
  refine r_st (pc' := 13) (lv' := [(1, _), (0, _)]) rfl rfl rfl rfl ?_
  refine r_ld (pc' := 14) rfl rfl rfl rfl ?_
  refine r_ld (pc' := 15) rfl rfl rfl rfl ?_
  refine r_cVI (pc' := 18) rfl rfl rfl rfl rfl sh_4 (m_90 (d := d) t (z0 (t + 2) (z0 4 9).toNat) hst.1 hst.2.1 ⟨by omega, by omega⟩ ht) (fun v102 z103 w104 p105 h106 hs107 hE108 => ?_)
  obtain ⟨rfl, rfl, rfl, hE108⟩ := hE108
  refine r_c0 (pc' := 19) rfl rfl ?_
  refine r_sub (pc' := 20) rfl rfl ?_
  refine r_ld (pc' := 21) rfl rfl rfl rfl ?_
  have hb110 := rd_4_10 hz
  refine r_gi (pc' := 24) rfl rfl sh_4 rfl rfl ?_
  refine r_sub (pc' := 25) rfl rfl ?_
  refine w_hxi (fun v111 h112 h113 => ?_)
  refine r_st (pc' := 26) (lv' := [(2, _), (1, _), (0, _)]) rfl rfl rfl rfl ?_
  refine r_ld (pc' := 27) rfl rfl rfl rfl ?_
  refine r_cSI (pc' := 30) rfl rfl rfl rfl rfl (m_144 (d := d) (z0 (t + 2) (z0 4 9).toNat) hst.1 hst.2.1 ⟨by omega, by omega⟩) (fun v114 z115 w116 p117 h118 hs119 hE120 => ?_)
  obtain ⟨rfl, rfl, rfl, hE120⟩ := hE120
  refine r_st (pc' := 31) (lv' := [(3, _), (2, _), (1, _), (0, _)]) rfl rfl rfl rfl ?_
  refine r_ld (pc' := 32) rfl rfl rfl rfl ?_
  refine r_cSI (pc' := 35) rfl rfl rfl rfl rfl (m_143 (d := d) (z0 (t + 2) (z0 4 9).toNat) hst.1 hst.2.1 ⟨by omega, by omega⟩) (fun v122 z123 w124 p125 h126 hs127 hE128 => ?_)
  obtain ⟨rfl, rfl, rfl, hE128⟩ := hE128
  refine r_st (pc' := 37) (lv' := [(4, _), (3, _), (2, _), (1, _), (0, _)]) rfl rfl rfl rfl ?_
  refine r_ld (pc' := 38) rfl rfl rfl rfl ?_
  refine r_ld (pc' := 39) rfl rfl rfl rfl ?_
  refine r_cVI (pc' := 42) rfl rfl rfl rfl rfl sh_4 (m_90 (d := d) t v114 hst.1 hst.2.1 ⟨by omega, by omega⟩ ht) (fun v130 z131 w132 p133 h134 hs135 hE136 => ?_)
  obtain ⟨rfl, rfl, rfl, hE136⟩ := hE136
  refine r_ld (pc' := 43) rfl rfl rfl rfl ?_
  refine r_ld (pc' := 44) rfl rfl rfl rfl ?_
  refine r_cVI (pc' := 47) rfl rfl rfl rfl rfl sh_4 (m_90 (d := d) t (z0 (t + 2) (z0 4 9).toNat) hst.1 hst.2.1 ⟨by omega, by omega⟩ ht) (fun v138 z139 w140 p141 h142 hs143 hE144 => ?_)
  obtain ⟨rfl, rfl, rfl, hE144⟩ := hE144
  refine r_add (pc' := 48) rfl rfl ?_
  refine r_ld (pc' := 49) rfl rfl rfl rfl ?_
  refine r_ld (pc' := 51) rfl rfl rfl rfl ?_
  refine r_cVI (pc' := 54) rfl rfl rfl rfl rfl sh_4 (m_90 (d := d) t v122 hst.1 hst.2.1 ⟨by omega, by omega⟩ ht) (fun v146 z147 w148 p149 h150 hs151 hE152 => ?_)
  obtain ⟨rfl, rfl, rfl, hE152⟩ := hE152
  refine r_sub (pc' := 55) rfl rfl ?_
  refine r_c0 (pc' := 56) rfl rfl ?_
  refine r_dvg (pc' := 57) rfl rfl ⟨by omega, by omega⟩ ⟨by decide, by decide⟩ (by decide) (fun v154 h155 h156 => ?_)
  refine r_st (pc' := 59) (lv' := [(5, _), (4, _), (3, _), (2, _), (1, _), (0, _)]) rfl rfl rfl rfl ?_
  refine r_ld (pc' := 60) rfl rfl rfl rfl ?_
  refine r_ld (pc' := 61) rfl rfl rfl rfl ?_
  refine r_ld (pc' := 63) rfl rfl rfl rfl ?_
  refine r_ilt (pc' := 66) rfl rfl ⟨by omega, by omega⟩ ⟨by omega, by omega⟩ (fun hc157 => ?_) (fun hc157 => ?_)
  · skip
    refine r_c0 (pc' := 71) rfl rfl ?_
    refine r_pi (pc' := 74) rfl rfl sh_4 rfl (fit_b (by omega)) hst (inS_0 (by omega) (by omega) (by omega) (by omega)) (wr_4_13 ⟨by omega, by omega⟩) (fun z158 hq159 hs160 => ?_)
    refine r_ld (pc' := 75) rfl rfl rfl rfl ?_
    refine r_ld (pc' := 76) rfl rfl rfl rfl ?_
    refine r_gi (pc' := 79) rfl rfl sh_4 rfl ((congrFun (congrFun hq159 _) _).trans mu_eq) ?_
    refine r_zeq (pc' := 82) rfl rfl ⟨by decide, by decide⟩ (fun hc161 => ?_) (fun hc161 => ?_)
    · skip
      refine r_ld (pc' := 88) rfl rfl rfl rfl ?_
      refine r_pi (pc' := 91) rfl rfl sh_4 rfl rfl hs160 (inS_s (inS_0 (by omega) (by omega) (by omega) (by omega))) (wr_4_9 ⟨by omega, by omega⟩) (fun z162 hq163 hs164 => ?_)
      refine r_ld (pc' := 92) rfl rfl rfl rfl ?_
      refine r_ld (pc' := 93) rfl rfl rfl rfl ?_
      refine r_gi (pc' := 96) rfl rfl sh_4 rfl (((congrFun (congrFun hq163 _) _).trans (mu_ne (by omega))).trans ((congrFun (congrFun hq159 _) _).trans mu_eq)) ?_
      refine r_zeq (pc' := 99) rfl rfl ⟨by decide, by decide⟩ (fun hc165 => ?_) (fun hc165 => ?_)
      · skip
        refine r_ld (pc' := 108) rfl rfl rfl rfl ?_
        refine r_ld (pc' := 109) rfl rfl rfl rfl ?_
        refine r_cVI (pc' := 112) rfl rfl rfl rfl rfl sh_4 (m_90 (d := d) t v114 hs164.1 hs164.2.1 ⟨by omega, by omega⟩ ht) (fun v166 z167 w168 p169 h170 hs171 hE172 => ?_)
        obtain ⟨rfl, rfl, rfl, hE172⟩ := hE172
        refine r_c0 (pc' := 113) rfl rfl ?_
        refine r_sub (pc' := 114) rfl rfl ?_
        refine r_ld (pc' := 115) rfl rfl rfl rfl ?_
        refine r_sub (pc' := 116) rfl rfl ?_
        refine w_hxi (fun v174 h175 h176 => ?_)
        refine r_pi (pc' := 119) rfl rfl sh_4 rfl rfl hs164 (inS_s (inS_s (inS_0 (by omega) (by omega) (by omega) (by omega)))) (wr_4_10 ⟨by omega, by omega⟩) (fun z177 hq178 hs179 => ?_)
        exact r_ret rfl (po_V hs179 rfl)
      · exfalso; omega
    · exfalso; omega
  · skip
    refine r_c0 (pc' := 67) rfl rfl ?_
    refine r_go rfl ?_
    refine r_pi (pc' := 74) rfl rfl sh_4 rfl (fit_b (by omega)) hst (inS_0 (by omega) (by omega) (by omega) (by omega)) (wr_4_13 ⟨by omega, by omega⟩) (fun z180 hq181 hs182 => ?_)
    refine r_ld (pc' := 75) rfl rfl rfl rfl ?_
    refine r_ld (pc' := 76) rfl rfl rfl rfl ?_
    refine r_gi (pc' := 79) rfl rfl sh_4 rfl ((congrFun (congrFun hq181 _) _).trans mu_eq) ?_
    refine r_zeq (pc' := 82) rfl rfl ⟨by decide, by decide⟩ (fun hc183 => ?_) (fun hc183 => ?_)
    · exfalso; omega
    · skip
      refine r_ld (pc' := 84) rfl rfl rfl rfl ?_
      refine r_go rfl ?_
      refine r_pi (pc' := 91) rfl rfl sh_4 rfl rfl hs182 (inS_s (inS_0 (by omega) (by omega) (by omega) (by omega))) (wr_4_9 ⟨by omega, by omega⟩) (fun z184 hq185 hs186 => ?_)
      refine r_ld (pc' := 92) rfl rfl rfl rfl ?_
      refine r_ld (pc' := 93) rfl rfl rfl rfl ?_
      refine r_gi (pc' := 96) rfl rfl sh_4 rfl (((congrFun (congrFun hq185 _) _).trans (mu_ne (by omega))).trans ((congrFun (congrFun hq181 _) _).trans mu_eq)) ?_
      refine r_zeq (pc' := 99) rfl rfl ⟨by decide, by decide⟩ (fun hc187 => ?_) (fun hc187 => ?_)
      · exfalso; omega
      · skip
        refine r_ld (pc' := 100) rfl rfl rfl rfl ?_
        refine r_ld (pc' := 101) rfl rfl rfl rfl ?_
        refine r_cVI (pc' := 104) rfl rfl rfl rfl rfl sh_4 (m_90 (d := d) t (z0 (t + 2) (z0 4 9).toNat) hs186.1 hs186.2.1 ⟨by omega, by omega⟩ ht) (fun v188 z189 w190 p191 h192 hs193 hE194 => ?_)
        obtain ⟨rfl, rfl, rfl, hE194⟩ := hE194
        refine r_go rfl ?_
        refine r_c0 (pc' := 113) rfl rfl ?_
        refine r_sub (pc' := 114) rfl rfl ?_
        refine r_ld (pc' := 115) rfl rfl rfl rfl ?_
        refine r_sub (pc' := 116) rfl rfl ?_
        refine r_pi (pc' := 119) rfl rfl sh_4 rfl rfl hs186 (inS_s (inS_s (inS_0 (by omega) (by omega) (by omega) (by omega)))) (wr_4_10 ⟨by omega, by omega⟩) (fun z196 hq197 hs198 => ?_)
        exact r_ret rfl (po_V hs198 rfl)
/-- Drawing isRoundLine -/
abbrev S_18  : mS := []
abbrev E_18  (z0 w0 : mZ) (x y tx it mt tt ct : Option Nat) : Int → mZ → mZ → mP → Prop := fun v z w p => p = (pq x y tx it mt tt ct) ∧ z0 = z ∧ w0 = w ∧ 0 ≤ v ∧ v ≤ 1
theorem m_18 {d : Nat} {z0 w0 : mZ} {x y tx it mt tt ct : Option Nat}  (hz : rz z0) (hw : rw_ w0) (hft : z0 35 3 ≤ z0 35 4) : wc (d + 3) 18 [.ref 35] (mk z0 w0 (pq x y tx it mt tt ct)) (poI S_18 z0 w0 (E_18  z0 w0 x y tx it mt tt ct)) := by
  have hst : st_ S_18 z0 w0 z0 w0 := st_rf hz hw
  have hz30 := rd_35_3 hz
  have hz31 := rd_35_4 hz
  have key : ∀ N : Nat, (∀ (x1 : Int) , 0 ≤ x1 ∧ x1 ≤ 1600 → 22 * (1600 - x1) + 19 < (N : Int) → wp_ (d + 2) 18 2 (some .boolean) (2, [(0, .ref 35), (1, .int (Int32.ofInt x1))], [], mk z0 w0 (pq x y tx it mt tt ct)) (poI S_18 z0 w0 (E_18  z0 w0 x y tx it mt tt ct))) := by
    intro N
    induction N with
    | zero =>
      intro x1 
      intros; exfalso; omega
    | succ N ih =>
      have ih0 := ih; clear ih
      intro x1 hx1 hM
      refine r_ld (pc' := 3) rfl rfl rfl rfl ?_
      refine r_ld (pc' := 4) rfl rfl rfl rfl ?_
      have hb32 := rd_35_4 hz
      have hb33 := rd_35_3 hz
      refine r_cVI (pc' := 7) rfl rfl rfl rfl rfl sh_35 (m_16 (d := d + 1)  hst.1 hst.2.1 ) (fun v34 z35 w36 p37 h38 hs39 hE40 => ?_)
      obtain ⟨rfl, rfl, rfl, hE40⟩ := hE40
      refine r_ige (pc' := 10) rfl rfl ⟨by omega, by omega⟩ ⟨by omega, by omega⟩ (fun hc42 => ?_) (fun hc42 => ?_)
      · skip
        refine r_c0 (pc' := 37) rfl rfl ?_
        exact r_rz rfl (by omega) (po_I hst ⟨by decide, by decide⟩ ⟨rfl, rfl, rfl, by omega, by omega⟩)
      · skip
        refine r_ld (pc' := 11) rfl rfl rfl rfl ?_
        refine r_ld (pc' := 12) rfl rfl rfl rfl ?_
        refine r_c0 (pc' := 13) rfl rfl ?_
        refine r_cVI (pc' := 16) rfl rfl rfl rfl rfl sh_35 (m_19 (d := d) x1 1 hst.1 hst.2.1 ⟨by omega, by omega⟩ ⟨by omega, by omega⟩ (by first | omega | assumption) (by first | omega | assumption)) (fun v43 z44 w45 p46 h47 hs48 hE49 => ?_)
        obtain ⟨rfl, rfl, rfl, hE49⟩ := hE49
        refine r_zne (pc' := 19) rfl rfl ⟨by omega, by omega⟩ (fun hc51 => ?_) (fun hc51 => ?_)
        · skip
          refine r_c0 (pc' := 29) rfl rfl ?_
          exact r_rz rfl (by omega) (po_I hst ⟨by decide, by decide⟩ ⟨rfl, rfl, rfl, by omega, by omega⟩)
        · skip
          refine r_ld (pc' := 20) rfl rfl rfl rfl ?_
          refine r_ld (pc' := 21) rfl rfl rfl rfl ?_
          refine r_c0 (pc' := 22) rfl rfl ?_
          refine r_cVI (pc' := 25) rfl rfl rfl rfl rfl sh_35 (m_19 (d := d) x1 ((-1)) hst.1 hst.2.1 ⟨by omega, by omega⟩ ⟨by omega, by omega⟩ (by first | omega | assumption) (by first | omega | assumption)) (fun v52 z53 w54 p55 h56 hs57 hE58 => ?_)
          obtain ⟨rfl, rfl, rfl, hE58⟩ := hE58
          refine r_zeq (pc' := 28) rfl rfl ⟨by omega, by omega⟩ (fun hc60 => ?_) (fun hc60 => ?_)
          · skip
            refine r_inc (pc' := 33) (lv' := [(0, _)]) rfl rfl rfl rfl rfl ?_
            refine r_go rfl ?_
            exact w_lv (sub_c rfl (sub_c rfl sub_n)) rfl (ih0 (x1 + 1) ⟨by omega, by omega⟩ (by omega))
          · skip
            refine r_c0 (pc' := 29) rfl rfl ?_
            exact r_rz rfl (by omega) (po_I hst ⟨by decide, by decide⟩ ⟨rfl, rfl, rfl, by omega, by omega⟩)
  refine w_m rfl rfl ?_
  refine r_c0 (pc' := 1) rfl rfl ?_
  refine r_st (pc' := 2) (lv' := [(1, _), (0, _)]) rfl rfl rfl rfl ?_
  exact w_lv (sub_c rfl (sub_c rfl sub_n)) rfl ((key ((22 * (1600 - 0) + 19 : Int).toNat + 1)) 0 ⟨by omega, by omega⟩ (by omega))
/-- Reader readToken -/
abbrev S_46  : mS := [(3, 3, 6, 6), (3, 3, 8, 8), (3, 3, 7, 7), (3, 3, 9, 9), (3, 3, 10, 10)]
abbrev E_46 (t : Nat) (z0 w0 : mZ) (x y mt tt ct : Option Nat) : mZ → mZ → mP → Prop := fun z w p => p = (pq x y (some 2) (some t) mt tt ct) ∧ ((z 3 7 = 2 → 0 ≤ z 3 9 ∧ z 3 9 ≤ 9999))
theorem m_46 {d : Nat} {z0 w0 : mZ} {x y mt tt ct : Option Nat} (t : Nat) (hz : rz z0) (hw : rw_ w0) (ht : isT t) (hkn : (z0 3 7 = 2 → 0 ≤ z0 3 9 ∧ z0 3 9 ≤ 9999)) : wc (d + 3) 46 [.ref 3] (mk z0 w0 (pq x y (some 2) (some t) mt tt ct)) (poV S_46 z0 w0 (E_46 t z0 w0 x y mt tt ct)) := by
  have hst : st_ S_46 z0 w0 z0 w0 := st_rf hz hw
  have hz113 := rd_3_3 hz
  have hz114 := rd_3_7 hz
  have hz115 := rd_3_9 hz
  have key : ∀ N : Nat, (∀ (x1 : Int) (z w : mZ), 0 ≤ x1 ∧ x1 ≤ 1600 → st_ S_46 z0 w0 z w → w 3 10 = w0 3 10 → z 3 7 = z0 3 7 → z 3 8 = z0 3 8 → z 3 9 = z0 3 9 → 75 * (1600 - x1) + 72 < (N : Int) → wp_ (d + 2) 46 2 none (2, [(0, .ref 3), (1, .int (Int32.ofInt x1))], [], mk z w (pq x y (some 2) (some t) mt tt ct)) (poV S_46 z0 w0 (E_46 t z0 w0 x y mt tt ct))) ∧ (∀ (x1 : Int) (z w : mZ), 0 ≤ x1 ∧ x1 ≤ 1599 → st_ S_46 z0 w0 z w → w 3 10 = w0 3 10 → z 3 7 = z0 3 7 → z 3 8 = z0 3 8 → z 3 9 = z0 3 9 → (z 3 6 < z0 3 3) → 75 * (1600 - x1) + 57 < (N : Int) → wp_ (d + 2) 46 2 none (35, [(0, .ref 3), (1, .int (Int32.ofInt x1))], [], mk z w (pq x y (some 2) (some t) mt tt ct)) (poV S_46 z0 w0 (E_46 t z0 w0 x y mt tt ct))) ∧ (∀ (z w : mZ), st_ S_46 z0 w0 z w → w 3 10 = w0 3 10 → z 3 7 = z0 3 7 → z 3 8 = z0 3 8 → z 3 9 = z0 3 9 → 49 < (N : Int) → wp_ (d + 2) 46 2 none (51, [(0, .ref 3)], [], mk z w (pq x y (some 2) (some t) mt tt ct)) (poV S_46 z0 w0 (E_46 t z0 w0 x y mt tt ct))) := by
    intro N
    induction N with
    | zero =>
      refine ⟨?_, ?_, ?_⟩
      · intro x1 z w
        intros; exfalso; omega
      · intro x1 z w
        intros; exfalso; omega
      · intro  z w
        intros; exfalso; omega
    | succ N ih =>
      obtain ⟨ih0, ih1, ih2⟩ := ih
      refine ⟨?_, ?_, ?_⟩
      · intro x1 z w hx1 hst un_w_3_10 un_z_3_7 un_z_3_8 un_z_3_9 hM
        refine r_ld (pc' := 3) rfl rfl rfl rfl ?_
        refine r_cs (pc' := 6) rfl (by decide) rfl ?_
        refine r_ige (pc' := 9) rfl rfl ⟨by omega, by omega⟩ ⟨by decide, by decide⟩ (fun hc116 => ?_) (fun hc116 => ?_)
        · skip
          have hb117 := rd_3_10 hw
          have hb118 := rd_3_7 hz
          have hb119 := rd_3_8 hz
          have hb120 := rd_3_9 hz
          exact w_lv (sub_c rfl sub_n) rfl (ih2 z w hst (un_w_3_10) (un_z_3_7) (un_z_3_8) (un_z_3_9) (by omega))
        · skip
          refine r_ld (pc' := 10) rfl rfl rfl rfl ?_
          refine r_ld (pc' := 11) rfl rfl rfl rfl ?_
          have hb121 := rd_3_6 hst.1
          refine r_gi (pc' := 14) rfl rfl sh_3 rfl rfl ?_
          have hb122 := rd_3_3 hz
          have hf123 : z 3 3 = z0 3 3 := (hst.2.2.1 _ _ (notS_c (by omega) (notS_c (by omega) (notS_c (by omega) (notS_c (by omega) (notS_c (by omega) notS_n))))))
          refine r_cVI (pc' := 17) rfl rfl rfl rfl rfl sh_3 (m_43 (d := d + 1) t (z 3 6) hst.1 hst.2.1 ⟨by omega, by omega⟩ ht) (fun v124 z125 w126 p127 h128 hs129 hE130 => ?_)
          obtain ⟨rfl, rfl, rfl, hE130⟩ := hE130
          refine r_cb (pc' := 19) rfl (by decide) rfl ?_
          refine r_ieq (pc' := 22) rfl rfl ⟨by omega, by omega⟩ ⟨by decide, by decide⟩ (fun hc132 => ?_) (fun hc132 => ?_)
          · skip
            have hb133 := rd_3_10 hw
            have hb134 := rd_3_7 hz
            have hb135 := rd_3_8 hz
            have hb136 := rd_3_9 hz
            exact w_lv (sub_c rfl (sub_c rfl sub_n)) rfl (ih1 x1 z w ⟨by omega, by omega⟩ hst (un_w_3_10) (un_z_3_7) (un_z_3_8) (un_z_3_9) (by first | omega | assumption) (by omega))
          · skip
            refine r_ld (pc' := 23) rfl rfl rfl rfl ?_
            refine r_ld (pc' := 24) rfl rfl rfl rfl ?_
            refine r_gi (pc' := 27) rfl rfl sh_3 rfl rfl ?_
            have hf137 : z 3 3 = z0 3 3 := (hst.2.2.1 _ _ (notS_c (by omega) (notS_c (by omega) (notS_c (by omega) (notS_c (by omega) (notS_c (by omega) notS_n))))))
            refine r_cVI (pc' := 30) rfl rfl rfl rfl rfl sh_3 (m_43 (d := d + 1) t (z 3 6) hst.1 hst.2.1 ⟨by omega, by omega⟩ ht) (fun v138 z139 w140 p141 h142 hs143 hE144 => ?_)
            obtain ⟨rfl, rfl, rfl, hE144⟩ := hE144
            refine r_cb (pc' := 32) rfl (by decide) rfl ?_
            refine r_ine (pc' := 35) rfl rfl ⟨by omega, by omega⟩ ⟨by decide, by decide⟩ (fun hc146 => ?_) (fun hc146 => ?_)
            · skip
              have hb147 := rd_3_10 hw
              have hb148 := rd_3_7 hz
              have hb149 := rd_3_8 hz
              have hb150 := rd_3_9 hz
              exact w_lv (sub_c rfl sub_n) rfl (ih2 z w hst (un_w_3_10) (un_z_3_7) (un_z_3_8) (un_z_3_9) (by omega))
            · skip
              have hb151 := rd_3_10 hw
              have hb152 := rd_3_7 hz
              have hb153 := rd_3_8 hz
              have hb154 := rd_3_9 hz
              exact w_lv (sub_c rfl (sub_c rfl sub_n)) rfl (ih1 x1 z w ⟨by omega, by omega⟩ hst (un_w_3_10) (un_z_3_7) (un_z_3_8) (un_z_3_9) (by first | omega | assumption) (by omega))
      · intro x1 z w hx1 hst un_w_3_10 un_z_3_7 un_z_3_8 un_z_3_9 as1 hM
        refine r_ld (pc' := 36) rfl rfl rfl rfl ?_
        refine r_al (pc' := 37) rfl rfl rfl rfl ?_
        have hb155 := rd_3_6 hst.1
        refine r_gi (pc' := 40) rfl rfl sh_3 rfl rfl ?_
        refine r_c0 (pc' := 41) rfl rfl ?_
        refine r_add (pc' := 42) rfl rfl ?_
        refine r_pi (pc' := 45) rfl rfl sh_3 rfl rfl hst (inS_0 (by omega) (by omega) (by omega) (by omega)) (wr_3_6 ⟨by omega, by omega⟩) (fun z156 hq157 hs158 => ?_)
        refine r_inc (pc' := 48) (lv' := [(0, _)]) rfl rfl rfl rfl rfl ?_
        refine r_go rfl ?_
        have hb159 := rd_3_10 hw
        have hb160 := rd_3_7 hz
        have hb161 := rd_3_8 hz
        have hb162 := rd_3_9 hz
        exact w_lv (sub_c rfl (sub_c rfl sub_n)) rfl (ih0 (x1 + 1) z156 w ⟨by omega, by omega⟩ hs158 (un_w_3_10) ((((congrFun (congrFun hq157 _) _).trans (mu_ne (by omega))).trans un_z_3_7)) ((((congrFun (congrFun hq157 _) _).trans (mu_ne (by omega))).trans un_z_3_8)) ((((congrFun (congrFun hq157 _) _).trans (mu_ne (by omega))).trans un_z_3_9)) (by omega))
      · intro  z w hst un_w_3_10 un_z_3_7 un_z_3_8 un_z_3_9 hM
        refine r_ld (pc' := 52) rfl rfl rfl rfl ?_
        refine r_ld (pc' := 53) rfl rfl rfl rfl ?_
        have hb163 := rd_3_6 hst.1
        refine r_gi (pc' := 56) rfl rfl sh_3 rfl rfl ?_
        refine r_pi (pc' := 59) rfl rfl sh_3 rfl rfl hst (inS_s (inS_0 (by omega) (by omega) (by omega) (by omega))) (wr_3_8 ⟨by omega, by omega⟩) (fun z164 hq165 hs166 => ?_)
        refine r_ld (pc' := 60) rfl rfl rfl rfl ?_
        refine r_ld (pc' := 61) rfl rfl rfl rfl ?_
        refine r_gi (pc' := 64) rfl rfl sh_3 rfl ((congrFun (congrFun hq165 _) _).trans (mu_ne (by omega))) ?_
        have hb167 := rd_3_3 hz
        have hf168 : z164 3 3 = z0 3 3 := (((congrFun (congrFun hq165 _) _).trans (mu_ne (by omega))).trans (hst.2.2.1 _ _ (notS_c (by omega) (notS_c (by omega) (notS_c (by omega) (notS_c (by omega) (notS_c (by omega) notS_n)))))))
        refine r_cVI (pc' := 67) rfl rfl rfl rfl rfl sh_3 (m_43 (d := d + 1) t (z 3 6) hs166.1 hs166.2.1 ⟨by omega, by omega⟩ ht) (fun v169 z170 w171 p172 h173 hs174 hE175 => ?_)
        obtain ⟨rfl, rfl, rfl, hE175⟩ := hE175
        refine r_st (pc' := 68) (lv' := [(1, _), (0, _)]) rfl rfl rfl rfl ?_
        refine r_ld (pc' := 69) rfl rfl rfl rfl ?_
        refine r_gi (pc' := 72) rfl rfl sh_3 rfl ((congrFun (congrFun hq165 _) _).trans (mu_ne (by omega))) ?_
        refine r_ld (pc' := 73) rfl rfl rfl rfl ?_
        refine r_gi (pc' := 76) rfl rfl sh_3 rfl (((congrFun (congrFun hq165 _) _).trans (mu_ne (by omega))).trans (hst.2.2.1 _ _ (notS_c (by omega) (notS_c (by omega) (notS_c (by omega) (notS_c (by omega) (notS_c (by omega) notS_n))))))) ?_
        refine r_ilt (pc' := 79) rfl rfl ⟨by omega, by omega⟩ ⟨by omega, by omega⟩ (fun hc177 => ?_) (fun hc177 => ?_)
        · skip
          refine r_ld (pc' := 88) rfl rfl rfl rfl ?_
          refine r_cSI (pc' := 91) rfl rfl rfl rfl rfl (m_44 (d := d + 1) v169 hs166.1 hs166.2.1 ⟨by omega, by omega⟩) (fun v178 z179 w180 p181 h182 hs183 hE184 => ?_)
          obtain ⟨rfl, rfl, rfl, hE184⟩ := hE184
          refine r_zeq (pc' := 94) rfl rfl ⟨by omega, by omega⟩ (fun hc186 => ?_) (fun hc186 => ?_)
          · skip
            refine r_ld (pc' := 102) rfl rfl rfl rfl ?_
            refine r_cSI (pc' := 105) rfl rfl rfl rfl rfl (m_45 (d := d + 1) v169 hs166.1 hs166.2.1 ⟨by omega, by omega⟩) (fun v187 z188 w189 p190 h191 hs192 hE193 => ?_)
            obtain ⟨rfl, rfl, rfl, hE193⟩ := hE193
            refine r_zeq (pc' := 108) rfl rfl ⟨by omega, by omega⟩ (fun hc195 => ?_) (fun hc195 => ?_)
            · skip
              refine r_ld (pc' := 116) rfl rfl rfl rfl ?_
              refine r_al (pc' := 117) rfl rfl rfl rfl ?_
              refine r_gi (pc' := 120) rfl rfl sh_3 rfl ((congrFun (congrFun hq165 _) _).trans (mu_ne (by omega))) ?_
              refine r_c0 (pc' := 121) rfl rfl ?_
              refine r_add (pc' := 122) rfl rfl ?_
              refine r_pi (pc' := 125) rfl rfl sh_3 rfl rfl hs166 (inS_0 (by omega) (by omega) (by omega) (by omega)) (wr_3_6 ⟨by omega, by omega⟩) (fun z196 hq197 hs198 => ?_)
              refine r_ld (pc' := 126) rfl rfl rfl rfl ?_
              refine r_ld (pc' := 127) rfl rfl rfl rfl ?_
              refine r_cb (pc' := 129) rfl (by decide) rfl ?_
              refine r_ine (pc' := 132) rfl rfl ⟨by omega, by omega⟩ ⟨by decide, by decide⟩ (fun hc199 => ?_) (fun hc199 => ?_)
              · skip
                refine r_ld (pc' := 137) rfl rfl rfl rfl ?_
                refine r_cb (pc' := 139) rfl (by decide) rfl ?_
                refine r_ine (pc' := 142) rfl rfl ⟨by omega, by omega⟩ ⟨by decide, by decide⟩ (fun hc200 => ?_) (fun hc200 => ?_)
                · skip
                  refine r_c0 (pc' := 147) rfl rfl ?_
                  refine r_pi (pc' := 150) rfl rfl sh_3 rfl rfl hs198 (inS_s (inS_s (inS_0 (by omega) (by omega) (by omega) (by omega)))) (wr_3_7 ⟨by omega, by omega⟩) (fun z201 hq202 hs203 => ?_)
                  have hf204 : z201 3 7 = 5 := ((congrFun (congrFun hq202 _) _).trans mu_eq)
                  have hb205 := rd_3_9 hz
                  have hf206 : z201 3 9 = z0 3 9 := (((congrFun (congrFun hq202 _) _).trans (mu_ne (by omega))).trans (((congrFun (congrFun hq197 _) _).trans (mu_ne (by omega))).trans (((congrFun (congrFun hq165 _) _).trans (mu_ne (by omega))).trans un_z_3_9)))
                  exact r_ret rfl (po_V hs203 ⟨rfl, (by first | omega | assumption | (simp only [hf204, hf206]; assumption))⟩)
                · skip
                  refine r_c0 (pc' := 143) rfl rfl ?_
                  refine r_go rfl ?_
                  refine r_pi (pc' := 150) rfl rfl sh_3 rfl rfl hs198 (inS_s (inS_s (inS_0 (by omega) (by omega) (by omega) (by omega)))) (wr_3_7 ⟨by omega, by omega⟩) (fun z207 hq208 hs209 => ?_)
                  have hf210 : z207 3 7 = 4 := ((congrFun (congrFun hq208 _) _).trans mu_eq)
                  have hb211 := rd_3_9 hz
                  have hf212 : z207 3 9 = z0 3 9 := (((congrFun (congrFun hq208 _) _).trans (mu_ne (by omega))).trans (((congrFun (congrFun hq197 _) _).trans (mu_ne (by omega))).trans (((congrFun (congrFun hq165 _) _).trans (mu_ne (by omega))).trans un_z_3_9)))
                  exact r_ret rfl (po_V hs209 ⟨rfl, (by first | omega | assumption | (simp only [hf210, hf212]; assumption))⟩)
              · skip
                refine r_c0 (pc' := 133) rfl rfl ?_
                refine r_go rfl ?_
                refine r_pi (pc' := 150) rfl rfl sh_3 rfl rfl hs198 (inS_s (inS_s (inS_0 (by omega) (by omega) (by omega) (by omega)))) (wr_3_7 ⟨by omega, by omega⟩) (fun z213 hq214 hs215 => ?_)
                have hf216 : z213 3 7 = 3 := ((congrFun (congrFun hq214 _) _).trans mu_eq)
                have hb217 := rd_3_9 hz
                have hf218 : z213 3 9 = z0 3 9 := (((congrFun (congrFun hq214 _) _).trans (mu_ne (by omega))).trans (((congrFun (congrFun hq197 _) _).trans (mu_ne (by omega))).trans (((congrFun (congrFun hq165 _) _).trans (mu_ne (by omega))).trans un_z_3_9)))
                exact r_ret rfl (po_V hs215 ⟨rfl, (by first | omega | assumption | (simp only [hf216, hf218]; assumption))⟩)
            · skip
              refine r_ld (pc' := 109) rfl rfl rfl rfl ?_
              have hf219 : z164 3 6 = z 3 6 := ((congrFun (congrFun hq165 _) _).trans (mu_ne (by omega)))
              have hf220 : z164 3 8 = z 3 6 := ((congrFun (congrFun hq165 _) _).trans mu_eq)
              refine r_cVV (pc' := 112) rfl rfl rfl rfl rfl sh_3 (m_49 (d := d) t hs166.1 hs166.2.1 ht (by first | omega | assumption | (simp only [hf219, hf220]; assumption))) (fun z222 w223 p224 hs226 hE227 => ?_)
              have hs228 := st_tr hs166 hs226 (sub_B rfl)
              obtain ⟨rfl, hE227⟩ := hE227
              refine r_go rfl ?_
              have hb229 := rd_3_7 hs228.1
              have hb230 := rd_3_9 hs228.1
              exact r_ret rfl (po_V hs228 ⟨rfl, (by first | omega | assumption)⟩)
          · skip
            refine r_ld (pc' := 95) rfl rfl rfl rfl ?_
            refine r_cVV (pc' := 98) rfl rfl rfl rfl rfl sh_3 (m_47 (d := d) t hs166.1 hs166.2.1 ht) (fun z232 w233 p234 hs236 hE237 => ?_)
            have hs238 := st_tr hs166 hs236 (sub_B rfl)
            obtain ⟨rfl, hE237⟩ := hE237
            refine r_go rfl ?_
            have hb239 := rd_3_7 hs238.1
            have hb240 := rd_3_9 hz
            have hf241 : z232 3 9 = z0 3 9 := ((hs236.2.2.1 _ _ (notS_c (by omega) (notS_c (by omega) (notS_c (by omega) notS_n)))).trans (((congrFun (congrFun hq165 _) _).trans (mu_ne (by omega))).trans un_z_3_9))
            exact r_ret rfl (po_V hs238 ⟨rfl, (by first | omega | assumption | (simp only [hf241]; assumption))⟩)
        · skip
          refine r_ld (pc' := 80) rfl rfl rfl rfl ?_
          refine r_c0 (pc' := 81) rfl rfl ?_
          refine r_pi (pc' := 84) rfl rfl sh_3 rfl rfl hs166 (inS_s (inS_s (inS_0 (by omega) (by omega) (by omega) (by omega)))) (wr_3_7 ⟨by omega, by omega⟩) (fun z242 hq243 hs244 => ?_)
          refine r_go rfl ?_
          have hf245 : z242 3 7 = 0 := ((congrFun (congrFun hq243 _) _).trans mu_eq)
          have hb246 := rd_3_9 hz
          have hf247 : z242 3 9 = z0 3 9 := (((congrFun (congrFun hq243 _) _).trans (mu_ne (by omega))).trans (((congrFun (congrFun hq165 _) _).trans (mu_ne (by omega))).trans un_z_3_9))
          exact r_ret rfl (po_V hs244 ⟨rfl, (by first | omega | assumption | (simp only [hf245, hf247]; assumption))⟩)
  refine w_m rfl rfl ?_
  refine r_c0 (pc' := 1) rfl rfl ?_
  refine r_st (pc' := 2) (lv' := [(1, _), (0, _)]) rfl rfl rfl rfl ?_
  have hb248 := rd_3_10 hw
  have hb249 := rd_3_7 hz
  have hb250 := rd_3_8 hz
  have hb251 := rd_3_9 hz
  exact w_lv (sub_c rfl (sub_c rfl sub_n)) rfl ((key ((75 * (1600 - 0) + 72 : Int).toNat + 1)).1 0 z0 w0 ⟨by omega, by omega⟩ hst (rfl) (rfl) (rfl) (rfl) (by omega))
/-- Table coefficient -/
abbrev S_69  : mS := [(123, 140, 0, 17), (142, 142, 0, 18), (141, 141, 0, 17), (102, 102, 4, 4)]
abbrev E_69 (a1 : Int) (z0 w0 : mZ) (x y tx it mt tt ct : Option Nat) : Int → mZ → mZ → mP → Prop := fun v z w p => p = (pq x y tx it mt tt ct) ∧ (-2147483648) ≤ v ∧ v ≤ 2147483647
theorem m_69 {d : Nat} {z0 w0 : mZ} {x y tx it mt tt ct : Option Nat} (a1 : Int) (hz : rz z0) (hw : rw_ w0) (ha1 : 0 ≤ a1 ∧ a1 ≤ 18) : wc (d + 3) 69 [.ref 102, .int (Int32.ofInt a1)] (mk z0 w0 (pq x y tx it mt tt ct)) (poI S_69 z0 w0 (E_69 a1 z0 w0 x y tx it mt tt ct)) := by
  have hst : st_ S_69 z0 w0 z0 w0 := st_rf hz hw
  refine w_m rfl rfl ?_
  refine r_ld (pc' := 1) rfl rfl rfl rfl ?_
  have hb22 := rd_102_4 hz
  refine r_gi (pc' := 4) rfl rfl sh_102 rfl rfl ?_
  refine r_zne (pc' := 7) rfl rfl ⟨by omega, by omega⟩ (fun hc23 => ?_) (fun hc23 => ?_)
  · skip
    refine r_ld (pc' := 17) rfl rfl rfl rfl ?_
    refine r_gr (b := 142) (pc' := 20) rfl rfl sh_102 rfl pp_102_8 ?_
    refine r_ld (pc' := 21) rfl rfl rfl rfl ?_
    have hb24 := rd_142 hw (i := a1.toNat) (by omega)
    refine r_la (pc' := 22) rfl rfl sh_142 rfl (by omega) (by omega) rfl ?_
    refine r_l2i (pc' := 23) rfl rfl ?_
    refine w_hxi (fun v25 h26 h27 => ?_)
    exact r_ri rfl (po_I hst ⟨by omega, by omega⟩ ⟨rfl, by omega, by omega⟩)
  · skip
    refine r_ld (pc' := 8) rfl rfl rfl rfl ?_
    refine r_cVV (pc' := 11) rfl rfl rfl rfl rfl sh_102 (m_70 (d := d)  hst.1 hst.2.1 ) (fun z29 w30 p31 hs33 hE34 => ?_)
    have hs35 := st_tr hst hs33 (sub_B rfl)
    obtain rfl := hE34
    refine r_ld (pc' := 12) rfl rfl rfl rfl ?_
    refine r_c0 (pc' := 13) rfl rfl ?_
    refine r_pi (pc' := 16) rfl rfl sh_102 rfl (fit_b (by omega)) hs35 (inS_s (inS_s (inS_s (inS_0 (by omega) (by omega) (by omega) (by omega))))) (wr_102_4 ⟨by omega, by omega⟩) (fun z36 hq37 hs38 => ?_)
    refine r_ld (pc' := 17) rfl rfl rfl rfl ?_
    refine r_gr (b := 142) (pc' := 20) rfl rfl sh_102 rfl pp_102_8 ?_
    refine r_ld (pc' := 21) rfl rfl rfl rfl ?_
    have hb39 := rd_142 hs35.2.1 (i := a1.toNat) (by omega)
    refine r_la (pc' := 22) rfl rfl sh_142 rfl (by omega) (by omega) rfl ?_
    refine r_l2i (pc' := 23) rfl rfl ?_
    refine w_hxi (fun v40 h41 h42 => ?_)
    exact r_ri rfl (po_I hs38 ⟨by omega, by omega⟩ ⟨rfl, by omega, by omega⟩)
/-- Told glue -/
abbrev S_76 (t : Nat) : mS := [(t, t, 1, 1), (t + 3, t + 3, 0, 35), (t, t, 2, 2), (t + 2, t + 2, 0, 35)]
abbrev E_76 (t : Nat) (z0 w0 : mZ) (x y tx it mt tt ct : Option Nat) : Int → mZ → mZ → mP → Prop := fun v z w p => p = (pq x y tx it mt tt ct) ∧ 0 ≤ v ∧ v ≤ 1 ∧ ((v = 1 → WT (z t 0) (z t 1) (z (t + 1)) (z (t + 2)) (z (t + 5))))
theorem m_76 {d : Nat} {z0 w0 : mZ} {x y tx it mt tt ct : Option Nat} (t : Nat) (hz : rz z0) (hw : rw_ w0) (ht : isT t) (hpi : PI (z0 (t + 1)) (z0 (t + 4)) (z0 (t + 5)) (z0 (t + 6)) (3 * z0 t 0)) : wc (d + 3) 76 [.ref t] (mk z0 w0 (pq x y tx it mt tt ct)) (poI (S_76 t) z0 w0 (E_76 t z0 w0 x y tx it mt tt ct)) := by
  have hst : st_ (S_76 t) z0 w0 z0 w0 := st_rf hz hw
  have hz53 := rd_T_0 ht hz
  have key : ∀ N : Nat, (∀ (x1 x2 : Int) (z w : mZ), 0 ≤ x1 ∧ x1 ≤ 18 → 0 ≤ x2 ∧ x2 ≤ 18 → st_ (S_76 t) z0 w0 z w → z t 1 = z0 t 1 → z t 2 = z0 t 2 → (∀ e : Nat, (e : Int) < x2 → z0 (t + 4) e = 2 ∧ z (t + 2) (z0 (t + 5) e).toNat = z0 (t + 6) e ∧ z (t + 2) (z0 (t + 6) e).toNat = z0 (t + 5) e) → (z0 t 0 % 2 = 0 ∧ x1 = z0 t 0 / 2 * 3) → 63 * (18 - x2) + 46 < (N : Int) → wp_ (d + 2) 76 3 (some .boolean) (22, [(0, .ref t), (1, .int (Int32.ofInt x1)), (2, .int (Int32.ofInt x2))], [], mk z w (pq x y tx it mt tt ct)) (poI (S_76 t) z0 w0 (E_76 t z0 w0 x y tx it mt tt ct))) := by
    intro N
    induction N with
    | zero =>
      intro x1 x2 z w
      intros; exfalso; omega
    | succ N ih =>
      have ih0 := ih; clear ih
      intro x1 x2 z w hx1 hx2 hst un_z_t_1 un_z_t_2 as1 as2 hM
      refine r_ld (pc' := 23) rfl rfl rfl rfl ?_
      refine r_ld (pc' := 24) rfl rfl rfl rfl ?_
      refine r_ige (pc' := 27) rfl rfl ⟨by omega, by omega⟩ ⟨by omega, by omega⟩ (fun hc54 => ?_) (fun hc54 => ?_)
      · skip
        refine r_ld (pc' := 80) rfl rfl rfl rfl ?_
        refine r_ld (pc' := 81) rfl rfl rfl rfl ?_
        refine r_pi (pc' := 84) rfl rfl (sh_T ht) rfl rfl hst (inS_0 (by omega) (by omega) (by omega) (by omega)) (wr_T_1 ht ⟨by omega, by omega⟩) (fun z55 hq56 hs57 => ?_)
        refine r_ld (pc' := 85) rfl rfl rfl rfl ?_
        refine r_cVI (pc' := 88) rfl rfl rfl rfl rfl (sh_T ht) (m_77 (d := d + 1) t hs57.1 hs57.2.1 ht) (fun v58 z59 w60 p61 h62 hs63 hE64 => ?_)
        obtain ⟨rfl, rfl, rfl, hE64⟩ := hE64
        refine r_zne (pc' := 91) rfl rfl ⟨by omega, by omega⟩ (fun hc66 => ?_) (fun hc66 => ?_)
        · skip
          refine r_ld (pc' := 94) rfl rfl rfl rfl ?_
          refine r_cVV (pc' := 97) rfl rfl rfl rfl rfl (sh_T ht) (m_78 (d := d) t hs57.1 hs57.2.1 ht) (fun z68 w69 p70 hs72 hE73 => ?_)
          have hs74 := st_tr hs57 hs72 (subS_c (fun _ _ _ _ _ _ => inS_s (inS_0 (by omega) (by omega) (by omega) (by omega))) (subS_c (fun _ _ _ _ _ _ => inS_s (inS_s (inS_0 (by omega) (by omega) (by omega) (by omega)))) subS_n))
          obtain rfl := hE73
          refine r_c0 (pc' := 98) rfl rfl ?_
          have hb75 := rd_T_0 ht hz
          have hf76 : z68 t 0 = z0 t 0 := ((hs72.2.2.1 _ _ (notS_c (by omega) (notS_c (by omega) notS_n))).trans (((congrFun (congrFun hq56 _) _).trans (mu_ne (by omega))).trans (hst.2.2.1 _ _ (notS_c (by omega) (notS_c (by omega) (notS_c (by omega) (notS_c (by omega) notS_n)))))))
          have hf77 : z68 t 1 = x1 := ((hs72.2.2.1 _ _ (notS_c (by omega) (notS_c (by omega) notS_n))).trans ((congrFun (congrFun hq56 _) _).trans mu_eq))
          have hF78 : z68 (t + 1) = z0 (t + 1) := ((funext fun _ => hs72.2.2.1 _ _ (notS_c (by omega) (notS_c (by omega) notS_n))).trans (((congrFun hq56 _).trans (mu_fn (by omega))).trans (funext fun _ => hst.2.2.1 _ _ (notS_c (by omega) (notS_c (by omega) (notS_c (by omega) (notS_c (by omega) notS_n)))))))
          have hF79 : z68 (t + 2) = z (t + 2) := ((funext fun _ => hs72.2.2.1 _ _ (notS_c (by omega) (notS_c (by omega) notS_n))).trans ((congrFun hq56 _).trans (mu_fn (by omega))))
          have hF80 : z68 (t + 5) = z0 (t + 5) := ((funext fun _ => hs72.2.2.1 _ _ (notS_c (by omega) (notS_c (by omega) notS_n))).trans (((congrFun hq56 _).trans (mu_fn (by omega))).trans (funext fun _ => hst.2.2.1 _ _ (notS_c (by omega) (notS_c (by omega) (notS_c (by omega) (notS_c (by omega) notS_n)))))))
          exact r_rz rfl (by omega) (po_I hs74 ⟨by decide, by decide⟩ ⟨rfl, by omega, by omega, (by first | (intro h; exfalso; omega) | (intro _; have q := WT_of (m := z0 t 0) (T := z0 (t + 1)) (tt := z0 (t + 4)) (fs := z0 (t + 5)) (ss := z0 (t + 6)) (o := z (t + 2)) (by omega) (by omega) (by omega) (fun s hs => by have := rd_T1 ht hz (i := s) (by omega); omega) hpi (fun e he => (as1 e (by omega)).1) (fun e he => (as1 e (by omega)).2); simp only [hF78, hF79, hF80, hf76, hf77]; rw [as2.2]; exact q))⟩)
        · skip
          refine r_c0 (pc' := 92) rfl rfl ?_
          have hb81 := rd_T_0 ht hz
          have hf82 : z55 t 0 = z0 t 0 := (((congrFun (congrFun hq56 _) _).trans (mu_ne (by omega))).trans (hst.2.2.1 _ _ (notS_c (by omega) (notS_c (by omega) (notS_c (by omega) (notS_c (by omega) notS_n))))))
          have hf83 : z55 t 1 = x1 := ((congrFun (congrFun hq56 _) _).trans mu_eq)
          have hF84 : z55 (t + 1) = z0 (t + 1) := (((congrFun hq56 _).trans (mu_fn (by omega))).trans (funext fun _ => hst.2.2.1 _ _ (notS_c (by omega) (notS_c (by omega) (notS_c (by omega) (notS_c (by omega) notS_n))))))
          have hF85 : z55 (t + 2) = z (t + 2) := ((congrFun hq56 _).trans (mu_fn (by omega)))
          have hF86 : z55 (t + 5) = z0 (t + 5) := (((congrFun hq56 _).trans (mu_fn (by omega))).trans (funext fun _ => hst.2.2.1 _ _ (notS_c (by omega) (notS_c (by omega) (notS_c (by omega) (notS_c (by omega) notS_n))))))
          exact r_rz rfl (by omega) (po_I hs57 ⟨by decide, by decide⟩ ⟨rfl, by omega, by omega, (by first | (intro h; exfalso; omega) | (intro _; have q := WT_of (m := z0 t 0) (T := z0 (t + 1)) (tt := z0 (t + 4)) (fs := z0 (t + 5)) (ss := z0 (t + 6)) (o := z (t + 2)) (by omega) (by omega) (by omega) (fun s hs => by have := rd_T1 ht hz (i := s) (by omega); omega) hpi (fun e he => (as1 e (by omega)).1) (fun e he => (as1 e (by omega)).2); simp only [hF84, hF85, hF86, hf82, hf83]; rw [as2.2]; exact q))⟩)
      · skip
        refine r_ld (pc' := 28) rfl rfl rfl rfl ?_
        refine r_gr (b := t + 4) (pc' := 31) rfl rfl (sh_T ht) rfl (pp_T_8 ht) ?_
        refine r_ld (pc' := 32) rfl rfl rfl rfl ?_
        have hb87 := rd_T4 ht hz (i := x2.toNat) (by omega)
        refine r_ia (pc' := 33) rfl rfl (sh_T4 ht) rfl (by omega) (by omega) (hst.2.2.1 _ _ (notS_c (by omega) (notS_c (by omega) (notS_c (by omega) (notS_c (by omega) notS_n))))) ?_
        refine r_c0 (pc' := 34) rfl rfl ?_
        refine r_ieq (pc' := 37) rfl rfl ⟨by omega, by omega⟩ ⟨by decide, by decide⟩ (fun hc88 => ?_) (fun hc88 => ?_)
        · skip
          have hfs := (hpi.2 x2.toNat (by omega)).2.2.2.2 (by omega)
          refine r_ld (pc' := 40) rfl rfl rfl rfl ?_
          refine r_gr (b := t + 2) (pc' := 43) rfl rfl (sh_T ht) rfl (pp_T_6 ht) ?_
          refine r_ld (pc' := 44) rfl rfl rfl rfl ?_
          refine r_gr (b := t + 5) (pc' := 47) rfl rfl (sh_T ht) rfl (pp_T_9 ht) ?_
          refine r_ld (pc' := 48) rfl rfl rfl rfl ?_
          have hb89 := rd_T5 ht hz (i := x2.toNat) (by omega)
          refine r_ia (pc' := 49) rfl rfl (sh_T5 ht) rfl (by omega) (by omega) (hst.2.2.1 _ _ (notS_c (by omega) (notS_c (by omega) (notS_c (by omega) (notS_c (by omega) notS_n))))) ?_
          refine r_ld (pc' := 50) rfl rfl rfl rfl ?_
          refine r_gr (b := t + 6) (pc' := 53) rfl rfl (sh_T ht) rfl (pp_T_10 ht) ?_
          refine r_ld (pc' := 54) rfl rfl rfl rfl ?_
          have hb90 := rd_T6 ht hz (i := x2.toNat) (by omega)
          refine r_ia (pc' := 55) rfl rfl (sh_T6 ht) rfl (by omega) (by omega) (hst.2.2.1 _ _ (notS_c (by omega) (notS_c (by omega) (notS_c (by omega) (notS_c (by omega) notS_n))))) ?_
          refine r_is (pc' := 56) rfl rfl (sh_T2 ht) rfl (by omega) (by omega) hst (inS_s (inS_s (inS_s (inS_0 (by omega) (by omega) (by omega) (by omega))))) (wr_T2 ht ⟨by omega, by omega⟩) (fun z91 hq92 hs93 => ?_)
          refine r_ld (pc' := 57) rfl rfl rfl rfl ?_
          refine r_gr (b := t + 2) (pc' := 60) rfl rfl (sh_T ht) rfl (pp_T_6 ht) ?_
          refine r_ld (pc' := 61) rfl rfl rfl rfl ?_
          refine r_gr (b := t + 6) (pc' := 64) rfl rfl (sh_T ht) rfl (pp_T_10 ht) ?_
          refine r_ld (pc' := 65) rfl rfl rfl rfl ?_
          refine r_ia (pc' := 66) rfl rfl (sh_T6 ht) rfl (by omega) (by omega) (((congrFun (congrFun hq92 _) _).trans (mu_ne (by omega))).trans (hst.2.2.1 _ _ (notS_c (by omega) (notS_c (by omega) (notS_c (by omega) (notS_c (by omega) notS_n)))))) ?_
          refine r_ld (pc' := 67) rfl rfl rfl rfl ?_
          refine r_gr (b := t + 5) (pc' := 70) rfl rfl (sh_T ht) rfl (pp_T_9 ht) ?_
          refine r_ld (pc' := 71) rfl rfl rfl rfl ?_
          refine r_ia (pc' := 72) rfl rfl (sh_T5 ht) rfl (by omega) (by omega) (((congrFun (congrFun hq92 _) _).trans (mu_ne (by omega))).trans (hst.2.2.1 _ _ (notS_c (by omega) (notS_c (by omega) (notS_c (by omega) (notS_c (by omega) notS_n)))))) ?_
          refine r_is (pc' := 73) rfl rfl (sh_T2 ht) rfl (by omega) (by omega) hs93 (inS_s (inS_s (inS_s (inS_0 (by omega) (by omega) (by omega) (by omega))))) (wr_T2 ht ⟨by omega, by omega⟩) (fun z94 hq95 hs96 => ?_)
          refine r_inc (pc' := 76) (lv' := [(0, _), (1, _)]) rfl rfl rfl rfl rfl ?_
          refine r_go rfl ?_
          have hb97 := rd_T_1 ht hz
          have hb98 := rd_T_2 ht hz
          exact w_lv (sub_c rfl (sub_c rfl (sub_c rfl sub_n))) rfl (ih0 x1 (x2 + 1) z94 w ⟨by omega, by omega⟩ ⟨by omega, by omega⟩ hs96 ((((congrFun (congrFun hq95 _) _).trans (mu_ne (by omega))).trans (((congrFun (congrFun hq92 _) _).trans (mu_ne (by omega))).trans un_z_t_1))) ((((congrFun (congrFun hq95 _) _).trans (mu_ne (by omega))).trans (((congrFun (congrFun hq92 _) _).trans (mu_ne (by omega))).trans un_z_t_2))) (by first | (intro e he; exfalso; omega) | (subst hq92 hq95; exact gl_s hpi (by omega) (by omega) (by omega) as1 (fun s h1 h2 => by (simp only [mu]; (repeat' split) <;> first | omega | (simp_all; done) | (simp_all; omega))) (by (simp only [mu]; (repeat' split) <;> first | omega | (simp_all; done) | (simp_all; omega))) (by (simp only [mu]; (repeat' split) <;> first | omega | (simp_all; done) | (simp_all; omega))))) (by first | omega | assumption) (by omega))
        · skip
          refine r_c0 (pc' := 38) rfl rfl ?_
          have hb99 := rd_T_0 ht hz
          have hf100 : z t 0 = z0 t 0 := (hst.2.2.1 _ _ (notS_c (by omega) (notS_c (by omega) (notS_c (by omega) (notS_c (by omega) notS_n)))))
          have hb101 := rd_T_1 ht hz
          have hf102 : z t 1 = z0 t 1 := un_z_t_1
          have hF103 : z (t + 1) = z0 (t + 1) := (funext fun _ => hst.2.2.1 _ _ (notS_c (by omega) (notS_c (by omega) (notS_c (by omega) (notS_c (by omega) notS_n)))))
          have hF104 : z (t + 5) = z0 (t + 5) := (funext fun _ => hst.2.2.1 _ _ (notS_c (by omega) (notS_c (by omega) (notS_c (by omega) (notS_c (by omega) notS_n)))))
          exact r_rz rfl (by omega) (po_I hst ⟨by decide, by decide⟩ ⟨rfl, by omega, by omega, (by first | (intro h; exfalso; omega) | (intro _; have q := WT_of (m := z0 t 0) (T := z0 (t + 1)) (tt := z0 (t + 4)) (fs := z0 (t + 5)) (ss := z0 (t + 6)) (o := z (t + 2)) (by omega) (by omega) (by omega) (fun s hs => by have := rd_T1 ht hz (i := s) (by omega); omega) hpi (fun e he => (as1 e (by omega)).1) (fun e he => (as1 e (by omega)).2); simp only [hF103, hF104, hf100, hf102]; rw [as2.2]; exact q))⟩)
  refine w_m rfl rfl ?_
  refine r_ld (pc' := 1) rfl rfl rfl rfl ?_
  have hb105 := rd_T_0 ht hz
  refine r_gi (pc' := 4) rfl rfl (sh_T ht) rfl rfl ?_
  refine r_c0 (pc' := 5) rfl rfl ?_
  refine r_rm (pc' := 6) (v := (z0 t 0) % 2) rfl rfl ⟨by omega, by omega⟩ ⟨by decide, by decide⟩ (by decide) (tmod_n (by omega)) ?_
  refine r_zeq (pc' := 9) rfl rfl ⟨by omega, by omega⟩ (fun hc106 => ?_) (fun hc106 => ?_)
  · skip
    refine r_ld (pc' := 12) rfl rfl rfl rfl ?_
    refine r_gi (pc' := 15) rfl rfl (sh_T ht) rfl rfl ?_
    refine r_c0 (pc' := 16) rfl rfl ?_
    refine r_dv (pc' := 17) (v := (z0 t 0) / 2) rfl rfl ⟨by omega, by omega⟩ ⟨by decide, by decide⟩ (by decide) (tdiv_n (by omega)) ?_
    refine r_c0 (pc' := 18) rfl rfl ?_
    refine r_mul (pc' := 19) rfl rfl ?_
    refine r_st (pc' := 20) (lv' := [(1, _), (0, _)]) rfl rfl rfl rfl ?_
    refine r_c0 (pc' := 21) rfl rfl ?_
    refine r_st (pc' := 22) (lv' := [(2, _), (1, _), (0, _)]) rfl rfl rfl rfl ?_
    have hb107 := rd_T_1 ht hz
    have hb108 := rd_T_2 ht hz
    exact w_lv (sub_c rfl (sub_c rfl (sub_c rfl sub_n))) rfl ((key ((63 * (18 - 0) + 46 : Int).toNat + 1)) (((z0 t 0) / 2) * 3) 0 z0 w0 ⟨by omega, by omega⟩ ⟨by omega, by omega⟩ hst (rfl) (rfl) (by first | (intro e he; exfalso; omega) | (skip; exact gl_s hpi (by omega) (by omega) (by omega) as1 (fun s h1 h2 => by (simp only [mu]; (repeat' split) <;> first | omega | (simp_all; done) | (simp_all; omega))) (by (simp only [mu]; (repeat' split) <;> first | omega | (simp_all; done) | (simp_all; omega))) (by (simp only [mu]; (repeat' split) <;> first | omega | (simp_all; done) | (simp_all; omega))))) (by first | omega | assumption) (by omega))
  · skip
    refine r_c0 (pc' := 10) rfl rfl ?_
    have hb109 := rd_T_1 ht hz
    exact r_rz rfl (by omega) (po_I hst ⟨by decide, by decide⟩ ⟨rfl, by omega, by omega, (by first | (intro h; exfalso; omega) | (intro _; have q := WT_of (m := z0 t 0) (T := z0 (t + 1)) (tt := z0 (t + 4)) (fs := z0 (t + 5)) (ss := z0 (t + 6)) (o := z (t + 2)) (by omega) (by omega) (by omega) (fun s hs => by have := rd_T1 ht hz (i := s) (by omega); omega) hpi (fun e he => (as1 e (by omega)).1) (fun e he => (as1 e (by omega)).2); simp only [id]; rw [as2.2]; exact q))⟩)
/-- Tracer edgeAt -/
abbrev S_97  : mS := [(4, 4, 9, 9), (4, 4, 10, 10), (4, 4, 11, 11), (4, 4, 12, 12), (4, 4, 13, 13)]
abbrev E_97 (t : Nat) (a1 : Int) (z0 w0 : mZ) (x y tx it mt ct : Option Nat) : Int → mZ → mZ → mP → Prop := fun v z w p => p = (pq x y tx it mt (some t) ct) ∧ (-1) ≤ v ∧ v ≤ 17
theorem m_97 {d : Nat} {z0 w0 : mZ} {x y tx it mt ct : Option Nat} (t : Nat) (a1 : Int) (hz : rz z0) (hw : rw_ w0) (ha1 : (-2147483648) ≤ a1 ∧ a1 ≤ 2147483647) (ht : isT t) : wc (d + 3) 97 [.ref 4, .int (Int32.ofInt a1)] (mk z0 w0 (pq x y tx it mt (some t) ct)) (poI S_97 z0 w0 (E_97 t a1 z0 w0 x y tx it mt ct)) := by
  have hst : st_ S_97 z0 w0 z0 w0 := st_rf hz hw
  have key : ∀ N : Nat, (∀ (x2 : Int) (z w : mZ), 0 ≤ x2 ∧ x2 ≤ 17999 → 0 ≤ a1 ∧ a1 ≤ 17999 → 1 ≤ z0 4 8 ∧ z0 4 8 ≤ 18000 → st_ S_97 z0 w0 z w → 32 * (17999 - x2) + 20 < (N : Int) → wp_ (d + 2) 97 3 (some .int) (23, [(0, .ref 4), (1, .int (Int32.ofInt a1)), (2, .int (Int32.ofInt x2))], [], mk z w (pq x y tx it mt (some t) ct)) (poI S_97 z0 w0 (E_97 t a1 z0 w0 x y tx it mt ct))) := by
    intro N
    induction N with
    | zero =>
      intro x2 z w
      intros; exfalso; omega
    | succ N ih =>
      have ih0 := ih; clear ih
      intro x2 z w hx2 hpa1 hz0_0 hst hM
      refine r_ld (pc' := 24) rfl rfl rfl rfl ?_
      refine r_ld (pc' := 25) rfl rfl rfl rfl ?_
      refine r_ige (pc' := 28) rfl rfl ⟨by omega, by omega⟩ ⟨by omega, by omega⟩ (fun hc33 => ?_) (fun hc33 => ?_)
      · skip
        refine r_ld (pc' := 48) rfl rfl rfl rfl ?_
        refine r_gr (b := t) (pc' := 51) rfl rfl sh_4 rfl pp_4_7 ?_
        refine r_gr (b := t + 1) (pc' := 54) rfl rfl (sh_T ht) rfl (pp_T_5 ht) ?_
        refine r_ld (pc' := 55) rfl rfl rfl rfl ?_
        have hb34 := rd_4_9 hst.1
        refine r_gi (pc' := 58) rfl rfl sh_4 rfl rfl ?_
        have hb35 := rd_T1 ht hz (i := (z 4 9).toNat) (by omega)
        refine r_ia (pc' := 59) rfl rfl (sh_T1 ht) rfl (by omega) (by omega) (hst.2.2.1 _ _ (notS_c (by omega) (notS_c (by omega) (notS_c (by omega) (notS_c (by omega) (notS_c (by omega) notS_n)))))) ?_
        exact r_ri rfl (po_I hst ⟨by omega, by omega⟩ ⟨rfl, by omega, by omega⟩)
      · skip
        refine r_ld (pc' := 29) rfl rfl rfl rfl ?_
        refine r_cVV (pc' := 32) rfl rfl rfl rfl rfl sh_4 (m_91 (d := d) t hst.1 hst.2.1 ht) (fun z37 w38 p39 hs41 hE42 => ?_)
        have hs43 := st_tr hst hs41 (sub_B rfl)
        obtain rfl := hE42
        refine r_ld (pc' := 33) rfl rfl rfl rfl ?_
        refine r_cVI (pc' := 36) rfl rfl rfl rfl rfl sh_4 (m_89 (d := d + 1)  hs43.1 hs43.2.1 ) (fun v44 z45 w46 p47 h48 hs49 hE50 => ?_)
        obtain ⟨rfl, rfl, rfl, hE50⟩ := hE50
        refine r_zeq (pc' := 39) rfl rfl ⟨by omega, by omega⟩ (fun hc52 => ?_) (fun hc52 => ?_)
        · skip
          refine r_inc (pc' := 44) (lv' := [(0, _), (1, _)]) rfl rfl rfl rfl rfl ?_
          refine r_go rfl ?_
          exact w_lv (sub_c rfl (sub_c rfl (sub_c rfl sub_n))) rfl (ih0 (x2 + 1) z37 w38 ⟨by omega, by omega⟩ ⟨by omega, by omega⟩ ⟨by omega, by omega⟩ hs43 (by omega))
        · skip
          refine r_c0 (pc' := 40) rfl rfl ?_
          exact r_ri rfl (po_I hs43 ⟨by decide, by decide⟩ ⟨rfl, by omega, by omega⟩)
  refine w_m rfl rfl ?_
  refine r_ld (pc' := 1) rfl rfl rfl rfl ?_
  refine r_zlt (pc' := 4) rfl rfl ⟨by omega, by omega⟩ (fun hc53 => ?_) (fun hc53 => ?_)
  · skip
    refine r_c0 (pc' := 20) rfl rfl ?_
    exact r_ri rfl (po_I hst ⟨by decide, by decide⟩ ⟨rfl, by omega, by omega⟩)
  · skip
    refine r_ld (pc' := 5) rfl rfl rfl rfl ?_
    refine r_ld (pc' := 6) rfl rfl rfl rfl ?_
    have hb54 := rd_4_8 hz
    refine r_gi (pc' := 9) rfl rfl sh_4 rfl rfl ?_
    refine r_ige (pc' := 12) rfl rfl ⟨by omega, by omega⟩ ⟨by omega, by omega⟩ (fun hc55 => ?_) (fun hc55 => ?_)
    · skip
      refine r_c0 (pc' := 20) rfl rfl ?_
      exact r_ri rfl (po_I hst ⟨by decide, by decide⟩ ⟨rfl, by omega, by omega⟩)
    · skip
      refine r_ld (pc' := 13) rfl rfl rfl rfl ?_
      refine r_cVI (pc' := 16) rfl rfl rfl rfl rfl sh_4 (m_88 (d := d) t hst.1 hst.2.1 ht) (fun v56 z57 w58 p59 h60 hs61 hE62 => ?_)
      have hs63 := st_tr hst hs61 (sub_B rfl)
      obtain ⟨rfl, hE62⟩ := hE62
      refine r_zne (pc' := 19) rfl rfl ⟨by omega, by omega⟩ (fun hc64 => ?_) (fun hc64 => ?_)
      · skip
        refine r_c0 (pc' := 22) rfl rfl ?_
        refine r_st (pc' := 23) (lv' := [(2, _), (0, _), (1, _)]) rfl rfl rfl rfl ?_
        exact w_lv (sub_c rfl (sub_c rfl (sub_c rfl sub_n))) rfl ((key ((32 * (17999 - 0) + 20 : Int).toNat + 1)) 0 z57 w58 ⟨by omega, by omega⟩ ⟨by omega, by omega⟩ ⟨by omega, by omega⟩ hs63 (by omega))
      · skip
        refine r_c0 (pc' := 20) rfl rfl ?_
        exact r_ri rfl (po_I hs63 ⟨by decide, by decide⟩ ⟨rfl, by omega, by omega⟩)
/-- Tracer traceInto -/
abbrev S_98  : mS := [(4, 4, 9, 9), (4, 4, 10, 10), (4, 4, 11, 11), (4, 4, 12, 12), (38, 38, 0, 1599), (4, 4, 13, 13)]
abbrev E_98 (t : Nat) (z0 w0 : mZ) (x y tx it mt ct : Option Nat) : Int → mZ → mZ → mP → Prop := fun v z w p => p = (pq x y tx it mt (some t) ct) ∧ 0 ≤ v ∧ v ≤ 1600
theorem m_98 {d : Nat} {z0 w0 : mZ} {x y tx it mt ct : Option Nat} (t : Nat) (hz : rz z0) (hw : rw_ w0) (ht : isT t) : wc (d + 3) 98 [.ref 4, .ref 38] (mk z0 w0 (pq x y tx it mt (some t) ct)) (poI S_98 z0 w0 (E_98 t z0 w0 x y tx it mt ct)) := by
  have hst : st_ S_98 z0 w0 z0 w0 := st_rf hz hw
  have key : ∀ N : Nat, (∀ (x2 x3 : Int) (z w : mZ), 0 ≤ x2 ∧ x2 ≤ 1600 → 0 ≤ x3 ∧ x3 ≤ 18000 → st_ S_98 z0 w0 z w → 37 * (1600 - x2) + 27 < (N : Int) → wp_ (d + 2) 98 4 (some .int) (13, [(0, .ref 4), (1, .ref 38), (2, .int (Int32.ofInt x2)), (3, .int (Int32.ofInt x3))], [], mk z w (pq x y tx it mt (some t) ct)) (poI S_98 z0 w0 (E_98 t z0 w0 x y tx it mt ct))) := by
    intro N
    induction N with
    | zero =>
      intro x2 x3 z w
      intros; exfalso; omega
    | succ N ih =>
      have ih0 := ih; clear ih
      intro x2 x3 z w hx2 hx3 hst hM
      refine r_ld (pc' := 14) rfl rfl rfl rfl ?_
      refine r_ld (pc' := 15) rfl rfl rfl rfl ?_
      have hb35 := rd_4_8 hz
      refine r_gi (pc' := 18) rfl rfl sh_4 rfl (hst.2.2.1 _ _ (notS_c (by omega) (notS_c (by omega) (notS_c (by omega) (notS_c (by omega) (notS_c (by omega) (notS_c (by omega) notS_n))))))) ?_
      refine r_ige (pc' := 21) rfl rfl ⟨by omega, by omega⟩ ⟨by omega, by omega⟩ (fun hc36 => ?_) (fun hc36 => ?_)
      · skip
        refine r_ld (pc' := 66) rfl rfl rfl rfl ?_
        exact r_ri rfl (po_I hst ⟨by omega, by omega⟩ ⟨rfl, by omega, by omega⟩)
      · skip
        refine r_ld (pc' := 22) rfl rfl rfl rfl ?_
        refine r_ld (pc' := 23) rfl rfl rfl rfl ?_
        refine r_len (pc' := 24) rfl rfl sh_38 (by decide) ?_
        refine r_ige (pc' := 27) rfl rfl ⟨by omega, by omega⟩ ⟨by decide, by decide⟩ (fun hc37 => ?_) (fun hc37 => ?_)
        · skip
          refine r_ld (pc' := 66) rfl rfl rfl rfl ?_
          exact r_ri rfl (po_I hst ⟨by omega, by omega⟩ ⟨rfl, by omega, by omega⟩)
        · skip
          refine r_ld (pc' := 28) rfl rfl rfl rfl ?_
          refine r_ld (pc' := 29) rfl rfl rfl rfl ?_
          refine r_ld (pc' := 30) rfl rfl rfl rfl ?_
          refine r_gr (b := t) (pc' := 33) rfl rfl sh_4 rfl pp_4_7 ?_
          refine r_gr (b := t + 1) (pc' := 36) rfl rfl (sh_T ht) rfl (pp_T_5 ht) ?_
          refine r_ld (pc' := 37) rfl rfl rfl rfl ?_
          have hb38 := rd_4_9 hst.1
          refine r_gi (pc' := 40) rfl rfl sh_4 rfl rfl ?_
          have hb39 := rd_T1 ht hz (i := (z 4 9).toNat) (by omega)
          refine r_ia (pc' := 41) rfl rfl (sh_T1 ht) rfl (by omega) (by omega) (hst.2.2.1 _ _ (notS_c (by omega) (notS_c (by omega) (notS_c (by omega) (notS_c (by omega) (notS_c (by omega) (notS_c (by omega) notS_n))))))) ?_
          refine r_is (pc' := 42) rfl rfl sh_38 rfl (by omega) (by omega) hst (inS_s (inS_s (inS_s (inS_s (inS_0 (by omega) (by omega) (by omega) (by omega)))))) (wr_38 ⟨by omega, by omega⟩) (fun z40 hq41 hs42 => ?_)
          refine r_inc (pc' := 45) (lv' := [(0, _), (1, _), (3, _)]) rfl rfl rfl rfl rfl ?_
          refine r_ld (pc' := 46) rfl rfl rfl rfl ?_
          refine r_cVV (pc' := 49) rfl rfl rfl rfl rfl sh_4 (m_91 (d := d) t hs42.1 hs42.2.1 ht) (fun z44 w45 p46 hs48 hE49 => ?_)
          have hs50 := st_tr hs42 hs48 (sub_B rfl)
          obtain rfl := hE49
          refine r_ld (pc' := 50) rfl rfl rfl rfl ?_
          refine r_cVI (pc' := 53) rfl rfl rfl rfl rfl sh_4 (m_89 (d := d + 1)  hs50.1 hs50.2.1 ) (fun v51 z52 w53 p54 h55 hs56 hE57 => ?_)
          obtain ⟨rfl, rfl, rfl, hE57⟩ := hE57
          refine r_zeq (pc' := 56) rfl rfl ⟨by omega, by omega⟩ (fun hc59 => ?_) (fun hc59 => ?_)
          · skip
            refine r_inc (pc' := 62) (lv' := [(2, _), (0, _), (1, _)]) rfl rfl rfl rfl rfl ?_
            refine r_go rfl ?_
            exact w_lv (sub_c rfl (sub_c rfl (sub_c rfl (sub_c rfl sub_n)))) rfl (ih0 (x2 + 1) (x3 + 1) z44 w45 ⟨by omega, by omega⟩ ⟨by omega, by omega⟩ hs50 (by omega))
          · skip
            refine r_go rfl ?_
            refine r_ld (pc' := 66) rfl rfl rfl rfl ?_
            exact r_ri rfl (po_I hs50 ⟨by omega, by omega⟩ ⟨rfl, by omega, by omega⟩)
  refine w_m rfl rfl ?_
  refine r_ld (pc' := 1) rfl rfl rfl rfl ?_
  refine r_cVI (pc' := 4) rfl rfl rfl rfl rfl sh_4 (m_88 (d := d) t hst.1 hst.2.1 ht) (fun v60 z61 w62 p63 h64 hs65 hE66 => ?_)
  have hs67 := st_tr hst hs65 (sub_B rfl)
  obtain ⟨rfl, hE66⟩ := hE66
  refine r_zne (pc' := 7) rfl rfl ⟨by omega, by omega⟩ (fun hc68 => ?_) (fun hc68 => ?_)
  · skip
    refine r_c0 (pc' := 10) rfl rfl ?_
    refine r_st (pc' := 11) (lv' := [(2, _), (0, _), (1, _)]) rfl rfl rfl rfl ?_
    refine r_c0 (pc' := 12) rfl rfl ?_
    refine r_st (pc' := 13) (lv' := [(3, _), (2, _), (0, _), (1, _)]) rfl rfl rfl rfl ?_
    exact w_lv (sub_c rfl (sub_c rfl (sub_c rfl (sub_c rfl sub_n)))) rfl ((key ((37 * (1600 - 0) + 27 : Int).toNat + 1)) 0 0 z61 w62 ⟨by omega, by omega⟩ ⟨by omega, by omega⟩ hs67 (by omega))
  · skip
    refine r_c0 (pc' := 8) rfl rfl ?_
    exact r_ri rfl (po_I hs67 ⟨by decide, by decide⟩ ⟨rfl, by omega, by omega⟩)
/-- Tracer flowInto -/
abbrev S_100  : mS := [(8, 8, 0, 35), (4, 4, 9, 9), (4, 4, 10, 10), (4, 4, 11, 11), (4, 4, 12, 12), (4, 4, 13, 13)]
abbrev E_100 (t : Nat) (z0 w0 : mZ) (x y tx it mt ct : Option Nat) : mZ → mZ → mP → Prop := fun z w p => p = (pq x y tx it mt (some t) ct)
theorem m_100 {d : Nat} {z0 w0 : mZ} {x y tx it mt ct : Option Nat} (t : Nat) (hz : rz z0) (hw : rw_ w0) (ht : isT t) : wc (d + 3) 100 [.ref 4, .ref 8] (mk z0 w0 (pq x y tx it mt (some t) ct)) (poV S_100 z0 w0 (E_100 t z0 w0 x y tx it mt ct)) := by
  have hst : st_ S_100 z0 w0 z0 w0 := st_rf hz hw
  have key : ∀ N : Nat, (∀ (x2 : Int) (z w : mZ), 0 ≤ x2 ∧ x2 ≤ 36 → st_ S_100 z0 w0 z w → z 4 9 = z0 4 9 → z 4 10 = z0 4 10 → z 4 11 = z0 4 11 → z 4 12 = z0 4 12 → z 4 13 = z0 4 13 → 50 * (36 - x2) + 900147 < (N : Int) → wp_ (d + 2) 100 3 none (2, [(0, .ref 4), (1, .ref 8), (2, .int (Int32.ofInt x2))], [], mk z w (pq x y tx it mt (some t) ct)) (poV S_100 z0 w0 (E_100 t z0 w0 x y tx it mt ct))) ∧ (∀ (x2 : Int) (z w : mZ), 0 ≤ x2 ∧ x2 ≤ 18000 → st_ S_100 z0 w0 z w → 50 * (18000 - x2) + 32 < (N : Int) → wp_ (d + 2) 100 3 none (28, [(0, .ref 4), (1, .ref 8), (2, .int (Int32.ofInt x2))], [], mk z w (pq x y tx it mt (some t) ct)) (poV S_100 z0 w0 (E_100 t z0 w0 x y tx it mt ct))) := by
    intro N
    induction N with
    | zero =>
      refine ⟨?_, ?_⟩
      · intro x2 z w
        intros; exfalso; omega
      · intro x2 z w
        intros; exfalso; omega
    | succ N ih =>
      obtain ⟨ih0, ih1⟩ := ih
      refine ⟨?_, ?_⟩
      · intro x2 z w hx2 hst un_z_4_9 un_z_4_10 un_z_4_11 un_z_4_12 un_z_4_13 hM
        refine r_ld (pc' := 3) rfl rfl rfl rfl ?_
        refine r_cb (pc' := 5) rfl (by decide) rfl ?_
        refine r_ige (pc' := 8) rfl rfl ⟨by omega, by omega⟩ ⟨by decide, by decide⟩ (fun hc49 => ?_) (fun hc49 => ?_)
        · skip
          refine r_ld (pc' := 19) rfl rfl rfl rfl ?_
          refine r_cVI (pc' := 22) rfl rfl rfl rfl rfl sh_4 (m_88 (d := d) t hst.1 hst.2.1 ht) (fun v50 z51 w52 p53 h54 hs55 hE56 => ?_)
          have hs57 := st_tr hst hs55 (sub_B rfl)
          obtain ⟨rfl, hE56⟩ := hE56
          refine r_zne (pc' := 25) rfl rfl ⟨by omega, by omega⟩ (fun hc58 => ?_) (fun hc58 => ?_)
          · skip
            refine r_c0 (pc' := 27) rfl rfl ?_
            refine r_st (pc' := 28) (lv' := [(2, _), (0, _), (1, _)]) rfl rfl rfl rfl ?_
            exact w_lv (sub_c rfl (sub_c rfl (sub_c rfl sub_n))) rfl (ih1 0 z51 w52 ⟨by omega, by omega⟩ hs57 (by omega))
          · skip
            exact r_ret rfl (po_V hs57 rfl)
        · skip
          refine r_ld (pc' := 9) rfl rfl rfl rfl ?_
          refine r_ld (pc' := 10) rfl rfl rfl rfl ?_
          refine r_c0 (pc' := 11) rfl rfl ?_
          refine r_is (pc' := 12) rfl rfl sh_8 rfl (by omega) (by omega) hst (inS_0 (by omega) (by omega) (by omega) (by omega)) (wr_8 ⟨by omega, by omega⟩) (fun z59 hq60 hs61 => ?_)
          refine r_inc (pc' := 15) (lv' := [(0, _), (1, _)]) rfl rfl rfl rfl rfl ?_
          refine r_go rfl ?_
          have hb62 := rd_4_9 hz
          have hb63 := rd_4_10 hz
          have hb64 := rd_4_11 hz
          have hb65 := rd_4_12 hz
          have hb66 := rd_4_13 hz
          exact w_lv (sub_c rfl (sub_c rfl (sub_c rfl sub_n))) rfl (ih0 (x2 + 1) z59 w ⟨by omega, by omega⟩ hs61 ((((congrFun (congrFun hq60 _) _).trans (mu_ne (by omega))).trans un_z_4_9)) ((((congrFun (congrFun hq60 _) _).trans (mu_ne (by omega))).trans un_z_4_10)) ((((congrFun (congrFun hq60 _) _).trans (mu_ne (by omega))).trans un_z_4_11)) ((((congrFun (congrFun hq60 _) _).trans (mu_ne (by omega))).trans un_z_4_12)) ((((congrFun (congrFun hq60 _) _).trans (mu_ne (by omega))).trans un_z_4_13)) (by omega))
      · intro x2 z w hx2 hst hM
        refine r_ld (pc' := 29) rfl rfl rfl rfl ?_
        refine r_ld (pc' := 30) rfl rfl rfl rfl ?_
        have hb67 := rd_4_8 hz
        refine r_gi (pc' := 33) rfl rfl sh_4 rfl (hst.2.2.1 _ _ (notS_c (by omega) (notS_c (by omega) (notS_c (by omega) (notS_c (by omega) (notS_c (by omega) (notS_c (by omega) notS_n))))))) ?_
        refine r_ige (pc' := 36) rfl rfl ⟨by omega, by omega⟩ ⟨by omega, by omega⟩ (fun hc68 => ?_) (fun hc68 => ?_)
        · skip
          exact r_ret rfl (po_V hst rfl)
        · skip
          refine r_ld (pc' := 37) rfl rfl rfl rfl ?_
          refine r_ld (pc' := 38) rfl rfl rfl rfl ?_
          have hb69 := rd_4_9 hst.1
          refine r_gi (pc' := 41) rfl rfl sh_4 rfl rfl ?_
          refine r_al (pc' := 42) rfl rfl rfl rfl ?_
          have hb70 := rd_8 hst.1 (i := (z 4 9).toNat) (by omega)
          refine r_ia (pc' := 43) rfl rfl sh_8 rfl (by omega) (by omega) rfl ?_
          refine r_c0 (pc' := 44) rfl rfl ?_
          refine r_add (pc' := 45) rfl rfl ?_
          refine w_hxi (fun v71 h72 h73 => ?_)
          refine r_is (pc' := 46) rfl rfl sh_8 rfl (by omega) (by omega) hst (inS_0 (by omega) (by omega) (by omega) (by omega)) (wr_8 ⟨by omega, by omega⟩) (fun z74 hq75 hs76 => ?_)
          refine r_ld (pc' := 47) rfl rfl rfl rfl ?_
          refine r_ld (pc' := 48) rfl rfl rfl rfl ?_
          refine r_gr (b := t) (pc' := 51) rfl rfl sh_4 rfl pp_4_7 ?_
          refine r_gr (b := t + 2) (pc' := 54) rfl rfl (sh_T ht) rfl (pp_T_6 ht) ?_
          refine r_ld (pc' := 55) rfl rfl rfl rfl ?_
          refine r_gi (pc' := 58) rfl rfl sh_4 rfl ((congrFun (congrFun hq75 _) _).trans (mu_ne (by omega))) ?_
          have hb77 := rd_T2 ht hz (i := (z 4 9).toNat) (by omega)
          refine r_ia (pc' := 59) rfl rfl (sh_T2 ht) rfl (by omega) (by omega) (((congrFun (congrFun hq75 _) _).trans (mu_ne (by omega))).trans (hst.2.2.1 _ _ (notS_c (by omega) (notS_c (by omega) (notS_c (by omega) (notS_c (by omega) (notS_c (by omega) (notS_c (by omega) notS_n)))))))) ?_
          refine r_al (pc' := 60) rfl rfl rfl rfl ?_
          have hb78 := rd_8 hs76.1 (i := (z0 (t + 2) (z 4 9).toNat).toNat) (by omega)
          refine r_ia (pc' := 61) rfl rfl sh_8 rfl (by omega) (by omega) rfl ?_
          refine r_c0 (pc' := 62) rfl rfl ?_
          refine r_sub (pc' := 63) rfl rfl ?_
          refine w_hxi (fun v79 h80 h81 => ?_)
          refine r_is (pc' := 64) rfl rfl sh_8 rfl (by omega) (by omega) hs76 (inS_0 (by omega) (by omega) (by omega) (by omega)) (wr_8 ⟨by omega, by omega⟩) (fun z82 hq83 hs84 => ?_)
          refine r_ld (pc' := 65) rfl rfl rfl rfl ?_
          refine r_cVV (pc' := 68) rfl rfl rfl rfl rfl sh_4 (m_91 (d := d) t hs84.1 hs84.2.1 ht) (fun z86 w87 p88 hs90 hE91 => ?_)
          have hs92 := st_tr hs84 hs90 (sub_B rfl)
          obtain rfl := hE91
          refine r_ld (pc' := 69) rfl rfl rfl rfl ?_
          refine r_cVI (pc' := 72) rfl rfl rfl rfl rfl sh_4 (m_89 (d := d + 1)  hs92.1 hs92.2.1 ) (fun v93 z94 w95 p96 h97 hs98 hE99 => ?_)
          obtain ⟨rfl, rfl, rfl, hE99⟩ := hE99
          refine r_zeq (pc' := 75) rfl rfl ⟨by omega, by omega⟩ (fun hc101 => ?_) (fun hc101 => ?_)
          · skip
            refine r_inc (pc' := 79) (lv' := [(0, _), (1, _)]) rfl rfl rfl rfl rfl ?_
            refine r_go rfl ?_
            exact w_lv (sub_c rfl (sub_c rfl (sub_c rfl sub_n))) rfl (ih1 (x2 + 1) z86 w87 ⟨by omega, by omega⟩ hs92 (by omega))
          · skip
            exact r_ret rfl (po_V hs92 rfl)
  refine w_m rfl rfl ?_
  refine r_c0 (pc' := 1) rfl rfl ?_
  refine r_st (pc' := 2) (lv' := [(2, _), (0, _), (1, _)]) rfl rfl rfl rfl ?_
  have hb102 := rd_4_9 hz
  have hb103 := rd_4_10 hz
  have hb104 := rd_4_11 hz
  have hb105 := rd_4_12 hz
  have hb106 := rd_4_13 hz
  exact w_lv (sub_c rfl (sub_c rfl (sub_c rfl sub_n))) rfl ((key ((50 * (36 - 0) + 900147 : Int).toNat + 1)).1 0 z0 w0 ⟨by omega, by omega⟩ hst (rfl) (rfl) (rfl) (rfl) (rfl) (by omega))
/-- Tracer flowInto -/
abbrev S_100o  : mS := [(9, 9, 0, 35), (4, 4, 9, 9), (4, 4, 10, 10), (4, 4, 11, 11), (4, 4, 12, 12), (4, 4, 13, 13)]
abbrev E_100o (t : Nat) (z0 w0 : mZ) (x y tx it mt ct : Option Nat) : mZ → mZ → mP → Prop := fun z w p => p = (pq x y tx it mt (some t) ct)
theorem m_100o {d : Nat} {z0 w0 : mZ} {x y tx it mt ct : Option Nat} (t : Nat) (hz : rz z0) (hw : rw_ w0) (ht : isT t) : wc (d + 3) 100 [.ref 4, .ref 9] (mk z0 w0 (pq x y tx it mt (some t) ct)) (poV S_100o z0 w0 (E_100o t z0 w0 x y tx it mt ct)) := by
  have hst : st_ S_100o z0 w0 z0 w0 := st_rf hz hw
  have key : ∀ N : Nat, (∀ (x2 : Int) (z w : mZ), 0 ≤ x2 ∧ x2 ≤ 36 → st_ S_100o z0 w0 z w → z 4 9 = z0 4 9 → z 4 10 = z0 4 10 → z 4 11 = z0 4 11 → z 4 12 = z0 4 12 → z 4 13 = z0 4 13 → 50 * (36 - x2) + 900147 < (N : Int) → wp_ (d + 2) 100 3 none (2, [(0, .ref 4), (1, .ref 9), (2, .int (Int32.ofInt x2))], [], mk z w (pq x y tx it mt (some t) ct)) (poV S_100o z0 w0 (E_100o t z0 w0 x y tx it mt ct))) ∧ (∀ (x2 : Int) (z w : mZ), 0 ≤ x2 ∧ x2 ≤ 18000 → st_ S_100o z0 w0 z w → 50 * (18000 - x2) + 32 < (N : Int) → wp_ (d + 2) 100 3 none (28, [(0, .ref 4), (1, .ref 9), (2, .int (Int32.ofInt x2))], [], mk z w (pq x y tx it mt (some t) ct)) (poV S_100o z0 w0 (E_100o t z0 w0 x y tx it mt ct))) := by
    intro N
    induction N with
    | zero =>
      refine ⟨?_, ?_⟩
      · intro x2 z w
        intros; exfalso; omega
      · intro x2 z w
        intros; exfalso; omega
    | succ N ih =>
      obtain ⟨ih0, ih1⟩ := ih
      refine ⟨?_, ?_⟩
      · intro x2 z w hx2 hst un_z_4_9 un_z_4_10 un_z_4_11 un_z_4_12 un_z_4_13 hM
        refine r_ld (pc' := 3) rfl rfl rfl rfl ?_
        refine r_cb (pc' := 5) rfl (by decide) rfl ?_
        refine r_ige (pc' := 8) rfl rfl ⟨by omega, by omega⟩ ⟨by decide, by decide⟩ (fun hc49 => ?_) (fun hc49 => ?_)
        · skip
          refine r_ld (pc' := 19) rfl rfl rfl rfl ?_
          refine r_cVI (pc' := 22) rfl rfl rfl rfl rfl sh_4 (m_88 (d := d) t hst.1 hst.2.1 ht) (fun v50 z51 w52 p53 h54 hs55 hE56 => ?_)
          have hs57 := st_tr hst hs55 (sub_B rfl)
          obtain ⟨rfl, hE56⟩ := hE56
          refine r_zne (pc' := 25) rfl rfl ⟨by omega, by omega⟩ (fun hc58 => ?_) (fun hc58 => ?_)
          · skip
            refine r_c0 (pc' := 27) rfl rfl ?_
            refine r_st (pc' := 28) (lv' := [(2, _), (0, _), (1, _)]) rfl rfl rfl rfl ?_
            exact w_lv (sub_c rfl (sub_c rfl (sub_c rfl sub_n))) rfl (ih1 0 z51 w52 ⟨by omega, by omega⟩ hs57 (by omega))
          · skip
            exact r_ret rfl (po_V hs57 rfl)
        · skip
          refine r_ld (pc' := 9) rfl rfl rfl rfl ?_
          refine r_ld (pc' := 10) rfl rfl rfl rfl ?_
          refine r_c0 (pc' := 11) rfl rfl ?_
          refine r_is (pc' := 12) rfl rfl sh_9 rfl (by omega) (by omega) hst (inS_0 (by omega) (by omega) (by omega) (by omega)) (wr_9 ⟨by omega, by omega⟩) (fun z59 hq60 hs61 => ?_)
          refine r_inc (pc' := 15) (lv' := [(0, _), (1, _)]) rfl rfl rfl rfl rfl ?_
          refine r_go rfl ?_
          have hb62 := rd_4_9 hz
          have hb63 := rd_4_10 hz
          have hb64 := rd_4_11 hz
          have hb65 := rd_4_12 hz
          have hb66 := rd_4_13 hz
          exact w_lv (sub_c rfl (sub_c rfl (sub_c rfl sub_n))) rfl (ih0 (x2 + 1) z59 w ⟨by omega, by omega⟩ hs61 ((((congrFun (congrFun hq60 _) _).trans (mu_ne (by omega))).trans un_z_4_9)) ((((congrFun (congrFun hq60 _) _).trans (mu_ne (by omega))).trans un_z_4_10)) ((((congrFun (congrFun hq60 _) _).trans (mu_ne (by omega))).trans un_z_4_11)) ((((congrFun (congrFun hq60 _) _).trans (mu_ne (by omega))).trans un_z_4_12)) ((((congrFun (congrFun hq60 _) _).trans (mu_ne (by omega))).trans un_z_4_13)) (by omega))
      · intro x2 z w hx2 hst hM
        refine r_ld (pc' := 29) rfl rfl rfl rfl ?_
        refine r_ld (pc' := 30) rfl rfl rfl rfl ?_
        have hb67 := rd_4_8 hz
        refine r_gi (pc' := 33) rfl rfl sh_4 rfl (hst.2.2.1 _ _ (notS_c (by omega) (notS_c (by omega) (notS_c (by omega) (notS_c (by omega) (notS_c (by omega) (notS_c (by omega) notS_n))))))) ?_
        refine r_ige (pc' := 36) rfl rfl ⟨by omega, by omega⟩ ⟨by omega, by omega⟩ (fun hc68 => ?_) (fun hc68 => ?_)
        · skip
          exact r_ret rfl (po_V hst rfl)
        · skip
          refine r_ld (pc' := 37) rfl rfl rfl rfl ?_
          refine r_ld (pc' := 38) rfl rfl rfl rfl ?_
          have hb69 := rd_4_9 hst.1
          refine r_gi (pc' := 41) rfl rfl sh_4 rfl rfl ?_
          refine r_al (pc' := 42) rfl rfl rfl rfl ?_
          have hb70 := rd_9 hst.1 (i := (z 4 9).toNat) (by omega)
          refine r_ia (pc' := 43) rfl rfl sh_9 rfl (by omega) (by omega) rfl ?_
          refine r_c0 (pc' := 44) rfl rfl ?_
          refine r_add (pc' := 45) rfl rfl ?_
          refine w_hxi (fun v71 h72 h73 => ?_)
          refine r_is (pc' := 46) rfl rfl sh_9 rfl (by omega) (by omega) hst (inS_0 (by omega) (by omega) (by omega) (by omega)) (wr_9 ⟨by omega, by omega⟩) (fun z74 hq75 hs76 => ?_)
          refine r_ld (pc' := 47) rfl rfl rfl rfl ?_
          refine r_ld (pc' := 48) rfl rfl rfl rfl ?_
          refine r_gr (b := t) (pc' := 51) rfl rfl sh_4 rfl pp_4_7 ?_
          refine r_gr (b := t + 2) (pc' := 54) rfl rfl (sh_T ht) rfl (pp_T_6 ht) ?_
          refine r_ld (pc' := 55) rfl rfl rfl rfl ?_
          refine r_gi (pc' := 58) rfl rfl sh_4 rfl ((congrFun (congrFun hq75 _) _).trans (mu_ne (by omega))) ?_
          have hb77 := rd_T2 ht hz (i := (z 4 9).toNat) (by omega)
          refine r_ia (pc' := 59) rfl rfl (sh_T2 ht) rfl (by omega) (by omega) (((congrFun (congrFun hq75 _) _).trans (mu_ne (by omega))).trans (hst.2.2.1 _ _ (notS_c (by omega) (notS_c (by omega) (notS_c (by omega) (notS_c (by omega) (notS_c (by omega) (notS_c (by omega) notS_n)))))))) ?_
          refine r_al (pc' := 60) rfl rfl rfl rfl ?_
          have hb78 := rd_9 hs76.1 (i := (z0 (t + 2) (z 4 9).toNat).toNat) (by omega)
          refine r_ia (pc' := 61) rfl rfl sh_9 rfl (by omega) (by omega) rfl ?_
          refine r_c0 (pc' := 62) rfl rfl ?_
          refine r_sub (pc' := 63) rfl rfl ?_
          refine w_hxi (fun v79 h80 h81 => ?_)
          refine r_is (pc' := 64) rfl rfl sh_9 rfl (by omega) (by omega) hs76 (inS_0 (by omega) (by omega) (by omega) (by omega)) (wr_9 ⟨by omega, by omega⟩) (fun z82 hq83 hs84 => ?_)
          refine r_ld (pc' := 65) rfl rfl rfl rfl ?_
          refine r_cVV (pc' := 68) rfl rfl rfl rfl rfl sh_4 (m_91 (d := d) t hs84.1 hs84.2.1 ht) (fun z86 w87 p88 hs90 hE91 => ?_)
          have hs92 := st_tr hs84 hs90 (sub_B rfl)
          obtain rfl := hE91
          refine r_ld (pc' := 69) rfl rfl rfl rfl ?_
          refine r_cVI (pc' := 72) rfl rfl rfl rfl rfl sh_4 (m_89 (d := d + 1)  hs92.1 hs92.2.1 ) (fun v93 z94 w95 p96 h97 hs98 hE99 => ?_)
          obtain ⟨rfl, rfl, rfl, hE99⟩ := hE99
          refine r_zeq (pc' := 75) rfl rfl ⟨by omega, by omega⟩ (fun hc101 => ?_) (fun hc101 => ?_)
          · skip
            refine r_inc (pc' := 79) (lv' := [(0, _), (1, _)]) rfl rfl rfl rfl rfl ?_
            refine r_go rfl ?_
            exact w_lv (sub_c rfl (sub_c rfl (sub_c rfl sub_n))) rfl (ih1 (x2 + 1) z86 w87 ⟨by omega, by omega⟩ hs92 (by omega))
          · skip
            exact r_ret rfl (po_V hs92 rfl)
  refine w_m rfl rfl ?_
  refine r_c0 (pc' := 1) rfl rfl ?_
  refine r_st (pc' := 2) (lv' := [(2, _), (0, _), (1, _)]) rfl rfl rfl rfl ?_
  have hb102 := rd_4_9 hz
  have hb103 := rd_4_10 hz
  have hb104 := rd_4_11 hz
  have hb105 := rd_4_12 hz
  have hb106 := rd_4_13 hz
  exact w_lv (sub_c rfl (sub_c rfl (sub_c rfl sub_n))) rfl ((key ((50 * (36 - 0) + 900147 : Int).toNat + 1)).1 0 z0 w0 ⟨by omega, by omega⟩ hst (rfl) (rfl) (rfl) (rfl) (rfl) (by omega))
/-- Reader readEdge -/
abbrev S_37 (t : Nat) : mS := [(t + 1, t + 1, 0, 35), (t + 6, t + 6, 0, 17), (t + 4, t + 4, 0, 17), (t + 5, t + 5, 0, 17), (3, 3, 6, 6), (3, 3, 8, 8), (3, 3, 7, 7), (3, 3, 9, 9), (3, 3, 10, 10), (3, 3, 0, 0), (3, 3, 1, 1)]
abbrev E_37 (t : Nat) (a1 : Int) (z0 w0 : mZ) (x y mt tt ct : Option Nat) : Int → mZ → mZ → mP → Prop := fun v z w p => p = (pq x y (some 2) (some t) mt tt ct) ∧ 0 ≤ v ∧ v ≤ 1 ∧ ((z 3 7 = 2 → 0 ≤ z 3 9 ∧ z 3 9 ≤ 9999) ∧ (v = 0 → z 3 0 ≠ 0) ∧ (v = 1 → z 3 0 = z0 3 0) ∧ (v = 1 → PI (z (t + 1)) (z (t + 4)) (z (t + 5)) (z (t + 6)) (a1 + 1)))
theorem m_37 {d : Nat} {z0 w0 : mZ} {x y mt tt ct : Option Nat} (t : Nat) (a1 : Int) (hz : rz z0) (hw : rw_ w0) (ha1 : 0 ≤ a1 ∧ a1 ≤ 35) (ht : isT t) (hkn : (z0 3 7 = 2 → 0 ≤ z0 3 9 ∧ z0 3 9 ≤ 9999)) (hpi : PI (z0 (t + 1)) (z0 (t + 4)) (z0 (t + 5)) (z0 (t + 6)) a1) : wc (d + 4) 37 [.ref 3, .int (Int32.ofInt a1)] (mk z0 w0 (pq x y (some 2) (some t) mt tt ct)) (poI (S_37 t) z0 w0 (E_37 t a1 z0 w0 x y mt tt ct)) := by
  have hst : st_ (S_37 t) z0 w0 z0 w0 := st_rf hz hw
  have hz81 := rd_3_0 hz
  have hz82 := rd_3_7 hz
  have hz83 := rd_3_9 hz
  refine w_m rfl rfl ?_
  refine r_ld (pc' := 1) rfl rfl rfl rfl ?_
  have hb84 := rd_3_7 hz
  refine r_gi (pc' := 4) rfl rfl sh_3 rfl rfl ?_
  refine r_c0 (pc' := 5) rfl rfl ?_
  refine r_ieq (pc' := 8) rfl rfl ⟨by omega, by omega⟩ ⟨by decide, by decide⟩ (fun hc85 => ?_) (fun hc85 => ?_)
  · skip
    refine r_ld (pc' := 14) rfl rfl rfl rfl ?_
    have hb86 := rd_3_9 hz
    refine r_gi (pc' := 17) rfl rfl sh_3 rfl rfl ?_
    refine r_cb (pc' := 19) rfl (by decide) rfl ?_
    refine r_ilt (pc' := 22) rfl rfl ⟨by omega, by omega⟩ ⟨by decide, by decide⟩ (fun hc87 => ?_) (fun hc87 => ?_)
    · skip
      refine r_ld (pc' := 34) rfl rfl rfl rfl ?_
      refine r_gr (b := t) (pc' := 37) rfl rfl sh_3 rfl pp_3_4 ?_
      refine r_gr (b := t + 4) (pc' := 40) rfl rfl (sh_T ht) rfl (pp_T_8 ht) ?_
      refine r_ld (pc' := 41) rfl rfl rfl rfl ?_
      refine r_gi (pc' := 44) rfl rfl sh_3 rfl rfl ?_
      have hb88 := rd_T4 ht hz (i := (z0 3 9).toNat) (by omega)
      refine r_ia (pc' := 45) rfl rfl (sh_T4 ht) rfl (by omega) (by omega) rfl ?_
      refine r_c0 (pc' := 46) rfl rfl ?_
      refine r_ilt (pc' := 49) rfl rfl ⟨by omega, by omega⟩ ⟨by decide, by decide⟩ (fun hc89 => ?_) (fun hc89 => ?_)
      · skip
        refine r_ld (pc' := 61) rfl rfl rfl rfl ?_
        refine r_gr (b := t) (pc' := 64) rfl rfl sh_3 rfl pp_3_4 ?_
        refine r_ld (pc' := 65) rfl rfl rfl rfl ?_
        refine r_ld (pc' := 66) rfl rfl rfl rfl ?_
        refine r_gi (pc' := 69) rfl rfl sh_3 rfl rfl ?_
        refine r_cVV (pc' := 72) rfl rfl rfl rfl rfl (sh_T ht) (m_75 (d := d + 2) t a1 (z0 3 9) hst.1 hst.2.1 ⟨by omega, by omega⟩ ⟨by omega, by omega⟩ ht (by first | omega | assumption) (by first | omega | assumption)) (fun z91 w92 p93 hs95 hE96 => ?_)
        have hs97 := st_tr hst hs95 (subS_c (fun _ _ _ _ _ _ => inS_0 (by omega) (by omega) (by omega) (by omega)) (subS_c (fun _ _ _ _ _ _ => inS_s (inS_0 (by omega) (by omega) (by omega) (by omega))) (subS_c (fun _ _ _ _ _ _ => inS_s (inS_s (inS_0 (by omega) (by omega) (by omega) (by omega)))) (subS_c (fun _ _ _ _ _ _ => inS_s (inS_s (inS_s (inS_0 (by omega) (by omega) (by omega) (by omega))))) subS_n))))
        obtain ⟨rfl, hE96⟩ := hE96
        refine r_ld (pc' := 73) rfl rfl rfl rfl ?_
        have hf98 : z91 3 7 = z0 3 7 := (hs95.2.2.1 _ _ (notS_c (by omega) (notS_c (by omega) (notS_c (by omega) (notS_c (by omega) notS_n)))))
        have hf99 : z91 3 9 = z0 3 9 := (hs95.2.2.1 _ _ (notS_c (by omega) (notS_c (by omega) (notS_c (by omega) (notS_c (by omega) notS_n)))))
        refine r_cVV (pc' := 76) rfl rfl rfl rfl rfl sh_3 (m_46 (d := d) t hs97.1 hs97.2.1 ht (by first | omega | assumption | (simp only [hf98, hf99]; assumption))) (fun z101 w102 p103 hs105 hE106 => ?_)
        have hs107 := st_tr hs97 hs105 (subS_c (fun _ _ _ _ _ _ => inS_s (inS_s (inS_s (inS_s (inS_0 (by omega) (by omega) (by omega) (by omega)))))) (subS_c (fun _ _ _ _ _ _ => inS_s (inS_s (inS_s (inS_s (inS_s (inS_0 (by omega) (by omega) (by omega) (by omega))))))) (subS_c (fun _ _ _ _ _ _ => inS_s (inS_s (inS_s (inS_s (inS_s (inS_s (inS_0 (by omega) (by omega) (by omega) (by omega)))))))) (subS_c (fun _ _ _ _ _ _ => inS_s (inS_s (inS_s (inS_s (inS_s (inS_s (inS_s (inS_0 (by omega) (by omega) (by omega) (by omega))))))))) (subS_c (fun _ _ _ _ _ _ => inS_s (inS_s (inS_s (inS_s (inS_s (inS_s (inS_s (inS_s (inS_0 (by omega) (by omega) (by omega) (by omega)))))))))) subS_n)))))
        obtain ⟨rfl, hE106⟩ := hE106
        refine r_c0 (pc' := 77) rfl rfl ?_
        have hb108 := rd_3_7 hs107.1
        have hb109 := rd_3_9 hs107.1
        have hb110 := rd_3_0 hz
        have hf111 : z101 3 0 = z0 3 0 := ((hs105.2.2.1 _ _ (notS_c (by omega) (notS_c (by omega) (notS_c (by omega) (notS_c (by omega) (notS_c (by omega) notS_n)))))).trans (hs95.2.2.1 _ _ (notS_c (by omega) (notS_c (by omega) (notS_c (by omega) (notS_c (by omega) notS_n))))))
        have hF112 : z101 (t + 1) = z91 (t + 1) := (funext fun _ => hs105.2.2.1 _ _ (notS_c (by omega) (notS_c (by omega) (notS_c (by omega) (notS_c (by omega) (notS_c (by omega) notS_n))))))
        have hF113 : z101 (t + 4) = z91 (t + 4) := (funext fun _ => hs105.2.2.1 _ _ (notS_c (by omega) (notS_c (by omega) (notS_c (by omega) (notS_c (by omega) (notS_c (by omega) notS_n))))))
        have hF114 : z101 (t + 5) = z91 (t + 5) := (funext fun _ => hs105.2.2.1 _ _ (notS_c (by omega) (notS_c (by omega) (notS_c (by omega) (notS_c (by omega) (notS_c (by omega) notS_n))))))
        have hF115 : z101 (t + 6) = z91 (t + 6) := (funext fun _ => hs105.2.2.1 _ _ (notS_c (by omega) (notS_c (by omega) (notS_c (by omega) (notS_c (by omega) (notS_c (by omega) notS_n))))))
        exact r_rz rfl (by omega) (po_I hs107 ⟨by decide, by decide⟩ ⟨rfl, by omega, by omega, (by refine ⟨by omega, by omega, by omega, ?_⟩; first | (intro h; exfalso; omega) | (intro _; simp only [hF112, hF113, hF114, hF115, hf111]; assumption))⟩)
      · skip
        refine r_ld (pc' := 50) rfl rfl rfl rfl ?_
        refine r_c0 (pc' := 51) rfl rfl ?_
        refine r_ld (pc' := 52) rfl rfl rfl rfl ?_
        have hb116 := rd_3_8 hz
        refine r_gi (pc' := 55) rfl rfl sh_3 rfl rfl ?_
        refine r_cVV (pc' := 58) rfl rfl rfl rfl rfl sh_3 (m_33 (d := d + 2) 3 (z0 3 8) hst.1 hst.2.1 ⟨by omega, by omega⟩ ⟨by omega, by omega⟩) (fun z118 w119 p120 hs122 hE123 => ?_)
        have hs124 := st_tr hst hs122 (subS_c (fun _ _ _ _ _ _ => inS_s (inS_s (inS_s (inS_s (inS_s (inS_s (inS_s (inS_s (inS_s (inS_0 (by omega) (by omega) (by omega) (by omega))))))))))) (subS_c (fun _ _ _ _ _ _ => inS_s (inS_s (inS_s (inS_s (inS_s (inS_s (inS_s (inS_s (inS_s (inS_s (inS_0 (by omega) (by omega) (by omega) (by omega)))))))))))) subS_n))
        obtain ⟨rfl, hE123⟩ := hE123
        refine r_c0 (pc' := 59) rfl rfl ?_
        have hf125 : z118 3 7 = z0 3 7 := (hs122.2.2.1 _ _ (notS_c (by omega) (notS_c (by omega) notS_n)))
        have hf126 : z118 3 9 = z0 3 9 := (hs122.2.2.1 _ _ (notS_c (by omega) (notS_c (by omega) notS_n)))
        have hb127 := rd_3_0 hs124.1
        have hF128 : z118 (t + 1) = z0 (t + 1) := (funext fun _ => hs122.2.2.1 _ _ (notS_c (by omega) (notS_c (by omega) notS_n)))
        have hF129 : z118 (t + 4) = z0 (t + 4) := (funext fun _ => hs122.2.2.1 _ _ (notS_c (by omega) (notS_c (by omega) notS_n)))
        have hF130 : z118 (t + 5) = z0 (t + 5) := (funext fun _ => hs122.2.2.1 _ _ (notS_c (by omega) (notS_c (by omega) notS_n)))
        have hF131 : z118 (t + 6) = z0 (t + 6) := (funext fun _ => hs122.2.2.1 _ _ (notS_c (by omega) (notS_c (by omega) notS_n)))
        exact r_rz rfl (by omega) (po_I hs124 ⟨by decide, by decide⟩ ⟨rfl, by omega, by omega, (by refine ⟨by omega, by omega, by omega, ?_⟩; first | (intro h; exfalso; omega) | (intro _; simp only [hF128, hF129, hF130, hF131, hf125, hf126]; assumption))⟩)
    · skip
      refine r_ld (pc' := 23) rfl rfl rfl rfl ?_
      refine r_c0 (pc' := 24) rfl rfl ?_
      refine r_ld (pc' := 25) rfl rfl rfl rfl ?_
      have hb132 := rd_3_8 hz
      refine r_gi (pc' := 28) rfl rfl sh_3 rfl rfl ?_
      refine r_cVV (pc' := 31) rfl rfl rfl rfl rfl sh_3 (m_33 (d := d + 2) 4 (z0 3 8) hst.1 hst.2.1 ⟨by omega, by omega⟩ ⟨by omega, by omega⟩) (fun z134 w135 p136 hs138 hE139 => ?_)
      have hs140 := st_tr hst hs138 (subS_c (fun _ _ _ _ _ _ => inS_s (inS_s (inS_s (inS_s (inS_s (inS_s (inS_s (inS_s (inS_s (inS_0 (by omega) (by omega) (by omega) (by omega))))))))))) (subS_c (fun _ _ _ _ _ _ => inS_s (inS_s (inS_s (inS_s (inS_s (inS_s (inS_s (inS_s (inS_s (inS_s (inS_0 (by omega) (by omega) (by omega) (by omega)))))))))))) subS_n))
      obtain ⟨rfl, hE139⟩ := hE139
      refine r_c0 (pc' := 32) rfl rfl ?_
      have hf141 : z134 3 7 = z0 3 7 := (hs138.2.2.1 _ _ (notS_c (by omega) (notS_c (by omega) notS_n)))
      have hf142 : z134 3 9 = z0 3 9 := (hs138.2.2.1 _ _ (notS_c (by omega) (notS_c (by omega) notS_n)))
      have hb143 := rd_3_0 hs140.1
      have hF144 : z134 (t + 1) = z0 (t + 1) := (funext fun _ => hs138.2.2.1 _ _ (notS_c (by omega) (notS_c (by omega) notS_n)))
      have hF145 : z134 (t + 4) = z0 (t + 4) := (funext fun _ => hs138.2.2.1 _ _ (notS_c (by omega) (notS_c (by omega) notS_n)))
      have hF146 : z134 (t + 5) = z0 (t + 5) := (funext fun _ => hs138.2.2.1 _ _ (notS_c (by omega) (notS_c (by omega) notS_n)))
      have hF147 : z134 (t + 6) = z0 (t + 6) := (funext fun _ => hs138.2.2.1 _ _ (notS_c (by omega) (notS_c (by omega) notS_n)))
      exact r_rz rfl (by omega) (po_I hs140 ⟨by decide, by decide⟩ ⟨rfl, by omega, by omega, (by refine ⟨by omega, by omega, by omega, ?_⟩; first | (intro h; exfalso; omega) | (intro _; simp only [hF144, hF145, hF146, hF147, hf141, hf142]; assumption))⟩)
  · skip
    refine r_ld (pc' := 9) rfl rfl rfl rfl ?_
    refine r_cVI (pc' := 12) rfl rfl rfl rfl rfl sh_3 (m_34 (d := d + 1)  hst.1 hst.2.1 ) (fun v148 z149 w150 p151 h152 hs153 hE154 => ?_)
    have hs155 := st_tr hst hs153 (subS_c (fun _ _ _ _ _ _ => inS_s (inS_s (inS_s (inS_s (inS_s (inS_s (inS_s (inS_s (inS_s (inS_0 (by omega) (by omega) (by omega) (by omega))))))))))) (subS_c (fun _ _ _ _ _ _ => inS_s (inS_s (inS_s (inS_s (inS_s (inS_s (inS_s (inS_s (inS_s (inS_s (inS_0 (by omega) (by omega) (by omega) (by omega)))))))))))) subS_n))
    obtain ⟨rfl, hE154⟩ := hE154
    have hf156 : z149 3 7 = z0 3 7 := (hs153.2.2.1 _ _ (notS_c (by omega) (notS_c (by omega) notS_n)))
    have hb157 := rd_3_9 hz
    have hf158 : z149 3 9 = z0 3 9 := (hs153.2.2.1 _ _ (notS_c (by omega) (notS_c (by omega) notS_n)))
    have hb159 := rd_3_0 hs155.1
    have hF160 : z149 (t + 1) = z0 (t + 1) := (funext fun _ => hs153.2.2.1 _ _ (notS_c (by omega) (notS_c (by omega) notS_n)))
    have hF161 : z149 (t + 4) = z0 (t + 4) := (funext fun _ => hs153.2.2.1 _ _ (notS_c (by omega) (notS_c (by omega) notS_n)))
    have hF162 : z149 (t + 5) = z0 (t + 5) := (funext fun _ => hs153.2.2.1 _ _ (notS_c (by omega) (notS_c (by omega) notS_n)))
    have hF163 : z149 (t + 6) = z0 (t + 6) := (funext fun _ => hs153.2.2.1 _ _ (notS_c (by omega) (notS_c (by omega) notS_n)))
    exact r_rz rfl (by omega) (po_I hs155 ⟨by omega, by omega⟩ ⟨rfl, by omega, by omega, (by refine ⟨by omega, by omega, by omega, ?_⟩; first | (intro h; exfalso; omega) | (intro _; simp only [hF160, hF161, hF162, hF163, hf156, hf158]; assumption))⟩)
/-- Reader readTwist -/
abbrev S_40 (t : Nat) : mS := [(3, 3, 6, 6), (3, 3, 8, 8), (3, 3, 7, 7), (3, 3, 9, 9), (3, 3, 10, 10), (3, 3, 0, 0), (3, 3, 1, 1), (t + 20, t + 25, 0, 7), (t + 27, t + 32, 0, 7)]
abbrev E_40 (t : Nat) (a1 : Int) (a2 : Int) (z0 w0 : mZ) (x y mt tt ct : Option Nat) : Int → mZ → mZ → mP → Prop := fun v z w p => p = (pq x y (some 2) (some t) mt tt ct) ∧ 0 ≤ v ∧ v ≤ 1 ∧ ((z 3 7 = 2 → 0 ≤ z 3 9 ∧ z 3 9 ≤ 9999) ∧ (v = 1 → a2 ≤ 7))
theorem m_40 {d : Nat} {z0 w0 : mZ} {x y mt tt ct : Option Nat} (t : Nat) (a1 : Int) (a2 : Int) (hz : rz z0) (hw : rw_ w0) (ha1 : 0 ≤ a1 ∧ a1 ≤ 5) (ha2 : 0 ≤ a2 ∧ a2 ≤ 8) (ht : isT t) (hkn : (z0 3 7 = 2 → 0 ≤ z0 3 9 ∧ z0 3 9 ≤ 9999)) : wc (d + 4) 40 [.ref 3, .int (Int32.ofInt a1), .int (Int32.ofInt a2)] (mk z0 w0 (pq x y (some 2) (some t) mt tt ct)) (poI (S_40 t) z0 w0 (E_40 t a1 a2 z0 w0 x y mt tt ct)) := by
  have hst : st_ (S_40 t) z0 w0 z0 w0 := st_rf hz hw
  have hz127 := rd_3_7 hz
  have hz128 := rd_3_9 hz
  have key : ∀ N : Nat, (∀ (z w : mZ), st_ (S_40 t) z0 w0 z w → w 3 10 = w0 3 10 → z 3 0 = z0 3 0 → z 3 1 = z0 3 1 → z 3 6 = z0 3 6 → z 3 7 = z0 3 7 → z 3 8 = z0 3 8 → z 3 9 = z0 3 9 → ((z 3 7 = 2 → 0 ≤ z 3 9 ∧ z 3 9 ≤ 9999)) → 2 < (N : Int) → wp_ (d + 3) 40 6 (some .boolean) (14, [(0, .ref 3)], [], mk z w (pq x y (some 2) (some t) mt tt ct)) (poI (S_40 t) z0 w0 (E_40 t a1 a2 z0 w0 x y mt tt ct))) ∧ (∀ (x3 x4 x5 : Int) (z w : mZ), 0 ≤ x3 ∧ x3 ≤ 7 → 0 ≤ x4 ∧ x4 ≤ 1600 → 0 ≤ x5 ∧ x5 ≤ 1 → 0 ≤ a2 ∧ a2 ≤ 7 → 1 ≤ z0 3 7 ∧ z0 3 7 ≤ 1 → st_ (S_40 t) z0 w0 z w → z 3 0 = z0 3 0 → z 3 1 = z0 3 1 → ((z 3 7 = 2 → 0 ≤ z 3 9 ∧ z 3 9 ≤ 9999)) → 49 < (N : Int) → wp_ (d + 3) 40 6 (some .boolean) (81, [(0, .ref 3), (1, .int (Int32.ofInt a1)), (2, .int (Int32.ofInt a2)), (3, .int (Int32.ofInt x3)), (4, .int (Int32.ofInt x4)), (5, .int (Int32.ofInt x5))], [], mk z w (pq x y (some 2) (some t) mt tt ct)) (poI (S_40 t) z0 w0 (E_40 t a1 a2 z0 w0 x y mt tt ct))) ∧ (∀ (x4 : Int) (z w : mZ), 0 ≤ x4 ∧ x4 ≤ 1600 → 0 ≤ a2 ∧ a2 ≤ 7 → 1 ≤ z0 3 7 ∧ z0 3 7 ≤ 1 → st_ (S_40 t) z0 w0 z w → z 3 0 = z0 3 0 → z 3 1 = z0 3 1 → ((z 3 7 = 2 → 0 ≤ z 3 9 ∧ z 3 9 ≤ 9999)) → 8 < (N : Int) → wp_ (d + 3) 40 6 (some .boolean) (110, [(0, .ref 3), (4, .int (Int32.ofInt x4))], [], mk z w (pq x y (some 2) (some t) mt tt ct)) (poI (S_40 t) z0 w0 (E_40 t a1 a2 z0 w0 x y mt tt ct))) := by
    intro N
    induction N with
    | zero =>
      refine ⟨?_, ?_, ?_⟩
      · intro  z w
        intros; exfalso; omega
      · intro x3 x4 x5 z w
        intros; exfalso; omega
      · intro x4 z w
        intros; exfalso; omega
    | succ N ih =>
      obtain ⟨ih0, ih1, ih2⟩ := ih
      refine ⟨?_, ?_, ?_⟩
      · intro  z w hst un_w_3_10 un_z_3_0 un_z_3_1 un_z_3_6 un_z_3_7 un_z_3_8 un_z_3_9 as1 hM
        refine r_ld (pc' := 15) rfl rfl rfl rfl ?_
        refine r_cVI (pc' := 18) rfl rfl rfl rfl rfl sh_3 (m_34 (d := d + 1)  hst.1 hst.2.1 ) (fun v129 z130 w131 p132 h133 hs134 hE135 => ?_)
        have hs136 := st_tr hst hs134 (subS_c (fun _ _ _ _ _ _ => inS_s (inS_s (inS_s (inS_s (inS_s (inS_0 (by omega) (by omega) (by omega) (by omega))))))) (subS_c (fun _ _ _ _ _ _ => inS_s (inS_s (inS_s (inS_s (inS_s (inS_s (inS_0 (by omega) (by omega) (by omega) (by omega)))))))) subS_n))
        obtain ⟨rfl, hE135⟩ := hE135
        have hb137 := rd_3_7 hz
        have hf138 : z130 3 7 = z0 3 7 := ((hs134.2.2.1 _ _ (notS_c (by omega) (notS_c (by omega) notS_n))).trans un_z_3_7)
        have hb139 := rd_3_9 hz
        have hf140 : z130 3 9 = z0 3 9 := ((hs134.2.2.1 _ _ (notS_c (by omega) (notS_c (by omega) notS_n))).trans un_z_3_9)
        exact r_rz rfl (by omega) (po_I hs136 ⟨by omega, by omega⟩ ⟨rfl, by omega, by omega, (by first | omega | assumption | (simp only [hf138, hf140]; assumption))⟩)
      · intro x3 x4 x5 z w hx3 hx4 hx5 hpa2 hz0_0 hst un_z_3_0 un_z_3_1 as1 hM
        refine r_ld (pc' := 82) rfl rfl rfl rfl ?_
        have hb141 := rd_3_7 hst.1
        refine r_gi (pc' := 85) rfl rfl sh_3 rfl rfl ?_
        refine r_c0 (pc' := 86) rfl rfl ?_
        refine r_ieq (pc' := 89) rfl rfl ⟨by omega, by omega⟩ ⟨by decide, by decide⟩ (fun hc142 => ?_) (fun hc142 => ?_)
        · skip
          refine r_ld (pc' := 95) rfl rfl rfl rfl ?_
          have hb143 := rd_3_9 hst.1
          refine r_gi (pc' := 98) rfl rfl sh_3 rfl rfl ?_
          refine r_zeq (pc' := 101) rfl rfl ⟨by omega, by omega⟩ (fun hc144 => ?_) (fun hc144 => ?_)
          · skip
            have hb145 := rd_3_0 hz
            have hb146 := rd_3_1 hz
            exact w_lv (sub_c rfl (sub_c rfl sub_n)) rfl (ih2 x4 z w ⟨by omega, by omega⟩ ⟨by omega, by omega⟩ ⟨by omega, by omega⟩ hst (un_z_3_0) (un_z_3_1) (by first | omega | assumption) (by omega))
          · skip
            refine r_ld (pc' := 102) rfl rfl rfl rfl ?_
            refine r_gi (pc' := 105) rfl rfl sh_3 rfl rfl ?_
            refine r_cb (pc' := 107) rfl (by decide) rfl ?_
            refine r_ile (pc' := 110) rfl rfl ⟨by omega, by omega⟩ ⟨by decide, by decide⟩ (fun hc147 => ?_) (fun hc147 => ?_)
            · skip
              refine r_ld (pc' := 120) rfl rfl rfl rfl ?_
              refine r_gr (b := t) (pc' := 123) rfl rfl sh_3 rfl pp_3_4 ?_
              refine r_gr (b := t + 19) (pc' := 126) rfl rfl (sh_T ht) rfl (pp_T_15 ht) ?_
              refine r_ld (pc' := 127) rfl rfl rfl rfl ?_
              refine r_aa (b := t + 20 + a1.toNat) (pc' := 128) rfl rfl (sh_T19 ht) (Or.inr (Or.inl rfl)) rfl (by omega) (by omega) (pa_T19 ht (by omega)) ?_
              refine r_ld (pc' := 129) rfl rfl rfl rfl ?_
              refine r_ld (pc' := 130) rfl rfl rfl rfl ?_
              refine r_is (pc' := 131) rfl rfl (sh_T20 ht (by omega)) rfl (by omega) (by omega) hst (inS_s (inS_s (inS_s (inS_s (inS_s (inS_s (inS_s (inS_0 (by omega) (by omega) (by omega) (by omega))))))))) (wr_T20 ht (k := a1.toNat) (by omega) ⟨by omega, by omega⟩) (fun z148 hq149 hs150 => ?_)
              refine r_ld (pc' := 132) rfl rfl rfl rfl ?_
              refine r_gr (b := t) (pc' := 135) rfl rfl sh_3 rfl pp_3_4 ?_
              refine r_gr (b := t + 26) (pc' := 138) rfl rfl (sh_T ht) rfl (pp_T_16 ht) ?_
              refine r_ld (pc' := 139) rfl rfl rfl rfl ?_
              refine r_aa (b := t + 27 + a1.toNat) (pc' := 140) rfl rfl (sh_T26 ht) (Or.inr (Or.inl rfl)) rfl (by omega) (by omega) (pa_T26 ht (by omega)) ?_
              refine r_ld (pc' := 141) rfl rfl rfl rfl ?_
              refine r_ld (pc' := 143) rfl rfl rfl rfl ?_
              refine r_zeq (pc' := 146) rfl rfl ⟨by omega, by omega⟩ (fun hc151 => ?_) (fun hc151 => ?_)
              · skip
                refine r_ld (pc' := 155) rfl rfl rfl rfl ?_
                refine r_gi (pc' := 158) rfl rfl sh_3 rfl ((congrFun (congrFun hq149 _) _).trans (mu_ne (by omega))) ?_
                refine r_is (pc' := 159) rfl rfl (sh_T27 ht (by omega)) rfl (by omega) (by omega) hs150 (inS_s (inS_s (inS_s (inS_s (inS_s (inS_s (inS_s (inS_s (inS_0 (by omega) (by omega) (by omega) (by omega)))))))))) (wr_T27 ht (k := a1.toNat) (by omega) ⟨by omega, by omega⟩) (fun z152 hq153 hs154 => ?_)
                refine r_ld (pc' := 160) rfl rfl rfl rfl ?_
                have hf155 : z152 3 7 = z 3 7 := (((congrFun (congrFun hq153 _) _).trans (mu_ne (by omega))).trans ((congrFun (congrFun hq149 _) _).trans (mu_ne (by omega))))
                have hf156 : z152 3 9 = z 3 9 := (((congrFun (congrFun hq153 _) _).trans (mu_ne (by omega))).trans ((congrFun (congrFun hq149 _) _).trans (mu_ne (by omega))))
                refine r_cVV (pc' := 163) rfl rfl rfl rfl rfl sh_3 (m_46 (d := d) t hs154.1 hs154.2.1 ht (by first | omega | assumption | (simp only [hf155, hf156]; assumption))) (fun z158 w159 p160 hs162 hE163 => ?_)
                have hs164 := st_tr hs154 hs162 (subS_c (fun _ _ _ _ _ _ => inS_0 (by omega) (by omega) (by omega) (by omega)) (subS_c (fun _ _ _ _ _ _ => inS_s (inS_0 (by omega) (by omega) (by omega) (by omega))) (subS_c (fun _ _ _ _ _ _ => inS_s (inS_s (inS_0 (by omega) (by omega) (by omega) (by omega)))) (subS_c (fun _ _ _ _ _ _ => inS_s (inS_s (inS_s (inS_0 (by omega) (by omega) (by omega) (by omega))))) (subS_c (fun _ _ _ _ _ _ => inS_s (inS_s (inS_s (inS_s (inS_0 (by omega) (by omega) (by omega) (by omega)))))) subS_n)))))
                obtain ⟨rfl, hE163⟩ := hE163
                refine r_c0 (pc' := 164) rfl rfl ?_
                have hb165 := rd_3_7 hs164.1
                have hb166 := rd_3_9 hs164.1
                exact r_rz rfl (by omega) (po_I hs164 ⟨by decide, by decide⟩ ⟨rfl, by omega, by omega, (by first | omega | assumption)⟩)
              · skip
                refine r_ld (pc' := 147) rfl rfl rfl rfl ?_
                refine r_gi (pc' := 150) rfl rfl sh_3 rfl ((congrFun (congrFun hq149 _) _).trans (mu_ne (by omega))) ?_
                refine r_neg (pc' := 151) rfl rfl ?_
                refine w_hxi (fun v167 h168 h169 => ?_)
                refine r_go rfl ?_
                refine r_is (pc' := 159) rfl rfl (sh_T27 ht (by omega)) rfl (by omega) (by omega) hs150 (inS_s (inS_s (inS_s (inS_s (inS_s (inS_s (inS_s (inS_s (inS_0 (by omega) (by omega) (by omega) (by omega)))))))))) (wr_T27 ht (k := a1.toNat) (by omega) ⟨by omega, by omega⟩) (fun z170 hq171 hs172 => ?_)
                refine r_ld (pc' := 160) rfl rfl rfl rfl ?_
                have hf173 : z170 3 7 = z 3 7 := (((congrFun (congrFun hq171 _) _).trans (mu_ne (by omega))).trans ((congrFun (congrFun hq149 _) _).trans (mu_ne (by omega))))
                have hf174 : z170 3 9 = z 3 9 := (((congrFun (congrFun hq171 _) _).trans (mu_ne (by omega))).trans ((congrFun (congrFun hq149 _) _).trans (mu_ne (by omega))))
                refine r_cVV (pc' := 163) rfl rfl rfl rfl rfl sh_3 (m_46 (d := d) t hs172.1 hs172.2.1 ht (by first | omega | assumption | (simp only [hf173, hf174]; assumption))) (fun z176 w177 p178 hs180 hE181 => ?_)
                have hs182 := st_tr hs172 hs180 (subS_c (fun _ _ _ _ _ _ => inS_0 (by omega) (by omega) (by omega) (by omega)) (subS_c (fun _ _ _ _ _ _ => inS_s (inS_0 (by omega) (by omega) (by omega) (by omega))) (subS_c (fun _ _ _ _ _ _ => inS_s (inS_s (inS_0 (by omega) (by omega) (by omega) (by omega)))) (subS_c (fun _ _ _ _ _ _ => inS_s (inS_s (inS_s (inS_0 (by omega) (by omega) (by omega) (by omega))))) (subS_c (fun _ _ _ _ _ _ => inS_s (inS_s (inS_s (inS_s (inS_0 (by omega) (by omega) (by omega) (by omega)))))) subS_n)))))
                obtain ⟨rfl, hE181⟩ := hE181
                refine r_c0 (pc' := 164) rfl rfl ?_
                have hb183 := rd_3_7 hs182.1
                have hb184 := rd_3_9 hs182.1
                exact r_rz rfl (by omega) (po_I hs182 ⟨by decide, by decide⟩ ⟨rfl, by omega, by omega, (by first | omega | assumption)⟩)
            · skip
              have hb185 := rd_3_0 hz
              have hb186 := rd_3_1 hz
              exact w_lv (sub_c rfl (sub_c rfl sub_n)) rfl (ih2 x4 z w ⟨by omega, by omega⟩ ⟨by omega, by omega⟩ ⟨by omega, by omega⟩ hst (un_z_3_0) (un_z_3_1) (by first | omega | assumption) (by omega))
        · skip
          refine r_ld (pc' := 90) rfl rfl rfl rfl ?_
          refine r_cVI (pc' := 93) rfl rfl rfl rfl rfl sh_3 (m_34 (d := d + 1)  hst.1 hst.2.1 ) (fun v187 z188 w189 p190 h191 hs192 hE193 => ?_)
          have hs194 := st_tr hst hs192 (subS_c (fun _ _ _ _ _ _ => inS_s (inS_s (inS_s (inS_s (inS_s (inS_0 (by omega) (by omega) (by omega) (by omega))))))) (subS_c (fun _ _ _ _ _ _ => inS_s (inS_s (inS_s (inS_s (inS_s (inS_s (inS_0 (by omega) (by omega) (by omega) (by omega)))))))) subS_n))
          obtain ⟨rfl, hE193⟩ := hE193
          have hf195 : z188 3 7 = z 3 7 := (hs192.2.2.1 _ _ (notS_c (by omega) (notS_c (by omega) notS_n)))
          have hb196 := rd_3_9 hst.1
          have hf197 : z188 3 9 = z 3 9 := (hs192.2.2.1 _ _ (notS_c (by omega) (notS_c (by omega) notS_n)))
          exact r_rz rfl (by omega) (po_I hs194 ⟨by omega, by omega⟩ ⟨rfl, by omega, by omega, (by first | omega | assumption | (simp only [hf195, hf197]; assumption))⟩)
      · intro x4 z w hx4 hpa2 hz0_0 hst un_z_3_0 un_z_3_1 as1 hM
        refine r_ld (pc' := 111) rfl rfl rfl rfl ?_
        refine r_c0 (pc' := 112) rfl rfl ?_
        refine r_ld (pc' := 114) rfl rfl rfl rfl ?_
        refine r_cVV (pc' := 117) rfl rfl rfl rfl rfl sh_3 (m_33 (d := d + 2) 4 x4 hst.1 hst.2.1 ⟨by omega, by omega⟩ ⟨by omega, by omega⟩) (fun z199 w200 p201 hs203 hE204 => ?_)
        have hs205 := st_tr hst hs203 (subS_c (fun _ _ _ _ _ _ => inS_s (inS_s (inS_s (inS_s (inS_s (inS_0 (by omega) (by omega) (by omega) (by omega))))))) (subS_c (fun _ _ _ _ _ _ => inS_s (inS_s (inS_s (inS_s (inS_s (inS_s (inS_0 (by omega) (by omega) (by omega) (by omega)))))))) subS_n))
        obtain ⟨rfl, hE204⟩ := hE204
        refine r_c0 (pc' := 118) rfl rfl ?_
        have hb206 := rd_3_7 hst.1
        have hf207 : z199 3 7 = z 3 7 := (hs203.2.2.1 _ _ (notS_c (by omega) (notS_c (by omega) notS_n)))
        have hb208 := rd_3_9 hst.1
        have hf209 : z199 3 9 = z 3 9 := (hs203.2.2.1 _ _ (notS_c (by omega) (notS_c (by omega) notS_n)))
        exact r_rz rfl (by omega) (po_I hs205 ⟨by decide, by decide⟩ ⟨rfl, by omega, by omega, (by first | omega | assumption | (simp only [hf207, hf209]; assumption))⟩)
  refine w_m rfl rfl ?_
  refine r_ld (pc' := 1) rfl rfl rfl rfl ?_
  have hb210 := rd_3_7 hz
  refine r_gi (pc' := 4) rfl rfl sh_3 rfl rfl ?_
  refine r_c0 (pc' := 5) rfl rfl ?_
  refine r_ine (pc' := 8) rfl rfl ⟨by omega, by omega⟩ ⟨by decide, by decide⟩ (fun hc211 => ?_) (fun hc211 => ?_)
  · skip
    have hb212 := rd_3_9 hz
    have hb213 := rd_3_10 hw
    have hb214 := rd_3_0 hz
    have hb215 := rd_3_1 hz
    have hb216 := rd_3_6 hz
    have hb217 := rd_3_8 hz
    exact w_lv (sub_c rfl sub_n) rfl ((key ((2 : Int).toNat + 1)).1 z0 w0 hst (rfl) (rfl) (rfl) (rfl) (rfl) (rfl) (rfl) (by first | omega | assumption) (by omega))
  · skip
    refine r_ld (pc' := 9) rfl rfl rfl rfl ?_
    refine r_cb (pc' := 11) rfl (by decide) rfl ?_
    refine r_ilt (pc' := 14) rfl rfl ⟨by omega, by omega⟩ ⟨by decide, by decide⟩ (fun hc218 => ?_) (fun hc218 => ?_)
    · skip
      refine r_ld (pc' := 20) rfl rfl rfl rfl ?_
      refine r_gr (b := t) (pc' := 23) rfl rfl sh_3 rfl pp_3_4 ?_
      refine r_ld (pc' := 24) rfl rfl rfl rfl ?_
      have hb219 := rd_3_10 hw
      refine r_gl (pc' := 27) rfl rfl sh_3 rfl rfl ?_
      have hb220 := rd_T_3 ht hz
      refine r_cVI (pc' := 30) rfl rfl rfl rfl rfl (sh_T ht) (m_82 (d := d + 1) t (w0 3 10) hst.1 hst.2.1 ⟨by omega, by omega⟩ ht) (fun v221 z222 w223 p224 h225 hs226 hE227 => ?_)
      obtain ⟨rfl, rfl, rfl, hE227⟩ := hE227
      refine r_st (pc' := 31) (lv' := [(3, _), (0, _), (1, _), (2, _)]) rfl rfl rfl rfl ?_
      refine r_ld (pc' := 32) rfl rfl rfl rfl ?_
      refine r_c0 (pc' := 33) rfl rfl ?_
      refine r_ine (pc' := 36) rfl rfl ⟨by omega, by omega⟩ ⟨by decide, by decide⟩ (fun hc229 => ?_) (fun hc229 => ?_)
      · skip
        refine r_ld (pc' := 48) rfl rfl rfl rfl ?_
        have hb230 := rd_3_9 hz
        refine r_cVV (pc' := 51) rfl rfl rfl rfl rfl sh_3 (m_46 (d := d) t hst.1 hst.2.1 ht (by first | omega | assumption)) (fun z232 w233 p234 hs236 hE237 => ?_)
        have hs238 := st_tr hst hs236 (subS_c (fun _ _ _ _ _ _ => inS_0 (by omega) (by omega) (by omega) (by omega)) (subS_c (fun _ _ _ _ _ _ => inS_s (inS_0 (by omega) (by omega) (by omega) (by omega))) (subS_c (fun _ _ _ _ _ _ => inS_s (inS_s (inS_0 (by omega) (by omega) (by omega) (by omega)))) (subS_c (fun _ _ _ _ _ _ => inS_s (inS_s (inS_s (inS_0 (by omega) (by omega) (by omega) (by omega))))) (subS_c (fun _ _ _ _ _ _ => inS_s (inS_s (inS_s (inS_s (inS_0 (by omega) (by omega) (by omega) (by omega)))))) subS_n)))))
        obtain ⟨rfl, hE237⟩ := hE237
        refine r_ld (pc' := 52) rfl rfl rfl rfl ?_
        have hb239 := rd_3_8 hs238.1
        refine r_gi (pc' := 55) rfl rfl sh_3 rfl rfl ?_
        refine r_st (pc' := 57) (lv' := [(4, _), (3, _), (0, _), (1, _), (2, _)]) rfl rfl rfl rfl ?_
        refine r_ld (pc' := 58) rfl rfl rfl rfl ?_
        have hb240 := rd_3_7 hs238.1
        refine r_gi (pc' := 61) rfl rfl sh_3 rfl rfl ?_
        refine r_c0 (pc' := 62) rfl rfl ?_
        refine r_ine (pc' := 65) rfl rfl ⟨by omega, by omega⟩ ⟨by decide, by decide⟩ (fun hc241 => ?_) (fun hc241 => ?_)
        · skip
          refine r_c0 (pc' := 70) rfl rfl ?_
          refine r_st (pc' := 72) (lv' := [(5, _), (4, _), (3, _), (0, _), (1, _), (2, _)]) rfl rfl rfl rfl ?_
          refine r_ld (pc' := 74) rfl rfl rfl rfl ?_
          refine r_zeq (pc' := 77) rfl rfl ⟨by decide, by decide⟩ (fun hc242 => ?_) (fun hc242 => ?_)
          · skip
            have hb243 := rd_3_9 hs238.1
            have hb244 := rd_3_0 hz
            have hb245 := rd_3_1 hz
            exact w_lv (sub_c rfl (sub_c rfl (sub_c rfl (sub_c rfl (sub_c rfl (sub_c rfl sub_n)))))) rfl ((key ((49 : Int).toNat + 1)).2.1 v221 (z232 3 8) 0 z232 w233 ⟨by omega, by omega⟩ ⟨by omega, by omega⟩ ⟨by omega, by omega⟩ ⟨by omega, by omega⟩ ⟨by omega, by omega⟩ hs238 ((hs236.2.2.1 _ _ (notS_c (by omega) (notS_c (by omega) (notS_c (by omega) (notS_c (by omega) (notS_c (by omega) notS_n))))))) ((hs236.2.2.1 _ _ (notS_c (by omega) (notS_c (by omega) (notS_c (by omega) (notS_c (by omega) (notS_c (by omega) notS_n))))))) (by first | omega | assumption) (by omega))
          · exfalso; omega
        · skip
          refine r_c0 (pc' := 66) rfl rfl ?_
          refine r_go rfl ?_
          refine r_st (pc' := 72) (lv' := [(5, _), (4, _), (3, _), (0, _), (1, _), (2, _)]) rfl rfl rfl rfl ?_
          refine r_ld (pc' := 74) rfl rfl rfl rfl ?_
          refine r_zeq (pc' := 77) rfl rfl ⟨by decide, by decide⟩ (fun hc246 => ?_) (fun hc246 => ?_)
          · exfalso; omega
          · skip
            refine r_ld (pc' := 78) rfl rfl rfl rfl ?_
            have hb247 := rd_3_9 hs238.1
            refine r_cVV (pc' := 81) rfl rfl rfl rfl rfl sh_3 (m_46 (d := d) t hs238.1 hs238.2.1 ht (by first | omega | assumption)) (fun z249 w250 p251 hs253 hE254 => ?_)
            have hs255 := st_tr hs238 hs253 (subS_c (fun _ _ _ _ _ _ => inS_0 (by omega) (by omega) (by omega) (by omega)) (subS_c (fun _ _ _ _ _ _ => inS_s (inS_0 (by omega) (by omega) (by omega) (by omega))) (subS_c (fun _ _ _ _ _ _ => inS_s (inS_s (inS_0 (by omega) (by omega) (by omega) (by omega)))) (subS_c (fun _ _ _ _ _ _ => inS_s (inS_s (inS_s (inS_0 (by omega) (by omega) (by omega) (by omega))))) (subS_c (fun _ _ _ _ _ _ => inS_s (inS_s (inS_s (inS_s (inS_0 (by omega) (by omega) (by omega) (by omega)))))) subS_n)))))
            obtain ⟨rfl, hE254⟩ := hE254
            have hb256 := rd_3_7 hs255.1
            have hb257 := rd_3_9 hs255.1
            have hb258 := rd_3_0 hz
            have hb259 := rd_3_1 hz
            exact w_lv (sub_c rfl (sub_c rfl (sub_c rfl (sub_c rfl (sub_c rfl (sub_c rfl sub_n)))))) rfl ((key ((49 : Int).toNat + 1)).2.1 v221 (z232 3 8) 1 z249 w250 ⟨by omega, by omega⟩ ⟨by omega, by omega⟩ ⟨by omega, by omega⟩ ⟨by omega, by omega⟩ ⟨by omega, by omega⟩ hs255 (((hs253.2.2.1 _ _ (notS_c (by omega) (notS_c (by omega) (notS_c (by omega) (notS_c (by omega) (notS_c (by omega) notS_n)))))).trans (hs236.2.2.1 _ _ (notS_c (by omega) (notS_c (by omega) (notS_c (by omega) (notS_c (by omega) (notS_c (by omega) notS_n)))))))) (((hs253.2.2.1 _ _ (notS_c (by omega) (notS_c (by omega) (notS_c (by omega) (notS_c (by omega) (notS_c (by omega) notS_n)))))).trans (hs236.2.2.1 _ _ (notS_c (by omega) (notS_c (by omega) (notS_c (by omega) (notS_c (by omega) (notS_c (by omega) notS_n)))))))) (by first | omega | assumption) (by omega))
      · skip
        refine r_ld (pc' := 37) rfl rfl rfl rfl ?_
        refine r_c0 (pc' := 38) rfl rfl ?_
        refine r_ld (pc' := 39) rfl rfl rfl rfl ?_
        have hb260 := rd_3_8 hz
        refine r_gi (pc' := 42) rfl rfl sh_3 rfl rfl ?_
        refine r_cVV (pc' := 45) rfl rfl rfl rfl rfl sh_3 (m_33 (d := d + 2) 5 (z0 3 8) hst.1 hst.2.1 ⟨by omega, by omega⟩ ⟨by omega, by omega⟩) (fun z262 w263 p264 hs266 hE267 => ?_)
        have hs268 := st_tr hst hs266 (subS_c (fun _ _ _ _ _ _ => inS_s (inS_s (inS_s (inS_s (inS_s (inS_0 (by omega) (by omega) (by omega) (by omega))))))) (subS_c (fun _ _ _ _ _ _ => inS_s (inS_s (inS_s (inS_s (inS_s (inS_s (inS_0 (by omega) (by omega) (by omega) (by omega)))))))) subS_n))
        obtain ⟨rfl, hE267⟩ := hE267
        refine r_c0 (pc' := 46) rfl rfl ?_
        have hf269 : z262 3 7 = z0 3 7 := (hs266.2.2.1 _ _ (notS_c (by omega) (notS_c (by omega) notS_n)))
        have hb270 := rd_3_9 hz
        have hf271 : z262 3 9 = z0 3 9 := (hs266.2.2.1 _ _ (notS_c (by omega) (notS_c (by omega) notS_n)))
        exact r_rz rfl (by omega) (po_I hs268 ⟨by decide, by decide⟩ ⟨rfl, by omega, by omega, (by first | omega | assumption | (simp only [hf269, hf271]; assumption))⟩)
    · skip
      have hb272 := rd_3_9 hz
      have hb273 := rd_3_10 hw
      have hb274 := rd_3_0 hz
      have hb275 := rd_3_1 hz
      have hb276 := rd_3_6 hz
      have hb277 := rd_3_8 hz
      exact w_lv (sub_c rfl sub_n) rfl ((key ((2 : Int).toNat + 1)).1 z0 w0 hst (rfl) (rfl) (rfl) (rfl) (rfl) (rfl) (rfl) (by first | omega | assumption) (by omega))
/-- Reader passNewName -/
abbrev S_41  : mS := [(3, 3, 6, 6), (3, 3, 8, 8), (3, 3, 7, 7), (3, 3, 9, 9), (3, 3, 10, 10), (3, 3, 0, 0), (3, 3, 1, 1)]
abbrev E_41 (t : Nat) (a1 : Int) (z0 w0 : mZ) (x y mt tt ct : Option Nat) : Int → mZ → mZ → mP → Prop := fun v z w p => p = (pq x y (some 2) (some t) mt tt ct) ∧ 0 ≤ v ∧ v ≤ 1 ∧ ((z 3 7 = 2 → 0 ≤ z 3 9 ∧ z 3 9 ≤ 9999) ∧ (v = 0 → z 3 0 ≠ 0) ∧ (v = 1 → z 3 0 = z0 3 0))
theorem m_41 {d : Nat} {z0 w0 : mZ} {x y mt tt ct : Option Nat} (t : Nat) (a1 : Int) (hz : rz z0) (hw : rw_ w0) (ha1 : (-2147483648) ≤ a1 ∧ a1 ≤ 2147483647) (ht : isT t) (hkn : (z0 3 7 = 2 → 0 ≤ z0 3 9 ∧ z0 3 9 ≤ 9999)) : wc (d + 4) 41 [.ref 3, .int (Int32.ofInt a1)] (mk z0 w0 (pq x y (some 2) (some t) mt tt ct)) (poI S_41 z0 w0 (E_41 t a1 z0 w0 x y mt tt ct)) := by
  have hst : st_ S_41 z0 w0 z0 w0 := st_rf hz hw
  have hz42 := rd_3_0 hz
  have hz43 := rd_3_7 hz
  have hz44 := rd_3_9 hz
  refine w_m rfl rfl ?_
  refine r_ld (pc' := 1) rfl rfl rfl rfl ?_
  have hb45 := rd_3_7 hz
  refine r_gi (pc' := 4) rfl rfl sh_3 rfl rfl ?_
  refine r_c0 (pc' := 5) rfl rfl ?_
  refine r_ieq (pc' := 8) rfl rfl ⟨by omega, by omega⟩ ⟨by decide, by decide⟩ (fun hc46 => ?_) (fun hc46 => ?_)
  · skip
    refine r_ld (pc' := 14) rfl rfl rfl rfl ?_
    refine r_c0 (pc' := 15) rfl rfl ?_
    refine r_ieq (pc' := 18) rfl rfl ⟨by omega, by omega⟩ ⟨by decide, by decide⟩ (fun hc47 => ?_) (fun hc47 => ?_)
    · skip
      refine r_ld (pc' := 30) rfl rfl rfl rfl ?_
      have hb48 := rd_3_9 hz
      refine r_cVV (pc' := 33) rfl rfl rfl rfl rfl sh_3 (m_46 (d := d) t hst.1 hst.2.1 ht (by first | omega | assumption)) (fun z50 w51 p52 hs54 hE55 => ?_)
      have hs56 := st_tr hst hs54 (sub_B rfl)
      obtain ⟨rfl, hE55⟩ := hE55
      refine r_c0 (pc' := 34) rfl rfl ?_
      have hb57 := rd_3_7 hs56.1
      have hb58 := rd_3_9 hs56.1
      have hb59 := rd_3_0 hz
      have hf60 : z50 3 0 = z0 3 0 := (hs54.2.2.1 _ _ (notS_c (by omega) (notS_c (by omega) (notS_c (by omega) (notS_c (by omega) (notS_c (by omega) notS_n))))))
      exact r_rz rfl (by omega) (po_I hs56 ⟨by decide, by decide⟩ ⟨rfl, by omega, by omega, (by first | omega | assumption | (simp only [hf60]; assumption))⟩)
    · skip
      refine r_ld (pc' := 19) rfl rfl rfl rfl ?_
      refine r_c0 (pc' := 20) rfl rfl ?_
      refine r_ld (pc' := 21) rfl rfl rfl rfl ?_
      have hb61 := rd_3_8 hz
      refine r_gi (pc' := 24) rfl rfl sh_3 rfl rfl ?_
      refine r_cVV (pc' := 27) rfl rfl rfl rfl rfl sh_3 (m_33 (d := d + 2) 3 (z0 3 8) hst.1 hst.2.1 ⟨by omega, by omega⟩ ⟨by omega, by omega⟩) (fun z63 w64 p65 hs67 hE68 => ?_)
      have hs69 := st_tr hst hs67 (sub_B rfl)
      obtain ⟨rfl, hE68⟩ := hE68
      refine r_c0 (pc' := 28) rfl rfl ?_
      have hf70 : z63 3 7 = z0 3 7 := (hs67.2.2.1 _ _ (notS_c (by omega) (notS_c (by omega) notS_n)))
      have hb71 := rd_3_9 hz
      have hf72 : z63 3 9 = z0 3 9 := (hs67.2.2.1 _ _ (notS_c (by omega) (notS_c (by omega) notS_n)))
      have hb73 := rd_3_0 hs69.1
      exact r_rz rfl (by omega) (po_I hs69 ⟨by decide, by decide⟩ ⟨rfl, by omega, by omega, (by first | omega | assumption | (simp only [hf70, hf72]; assumption))⟩)
  · skip
    refine r_ld (pc' := 9) rfl rfl rfl rfl ?_
    refine r_cVI (pc' := 12) rfl rfl rfl rfl rfl sh_3 (m_34 (d := d + 1)  hst.1 hst.2.1 ) (fun v74 z75 w76 p77 h78 hs79 hE80 => ?_)
    have hs81 := st_tr hst hs79 (sub_B rfl)
    obtain ⟨rfl, hE80⟩ := hE80
    have hf82 : z75 3 7 = z0 3 7 := (hs79.2.2.1 _ _ (notS_c (by omega) (notS_c (by omega) notS_n)))
    have hb83 := rd_3_9 hz
    have hf84 : z75 3 9 = z0 3 9 := (hs79.2.2.1 _ _ (notS_c (by omega) (notS_c (by omega) notS_n)))
    have hb85 := rd_3_0 hs81.1
    exact r_rz rfl (by omega) (po_I hs81 ⟨by omega, by omega⟩ ⟨rfl, by omega, by omega, (by first | omega | assumption | (simp only [hf82, hf84]; assumption))⟩)
/-- Reader pass -/
abbrev S_42  : mS := [(3, 3, 6, 6), (3, 3, 8, 8), (3, 3, 7, 7), (3, 3, 9, 9), (3, 3, 10, 10), (3, 3, 0, 0), (3, 3, 1, 1)]
abbrev E_42 (t : Nat) (a1 : Int) (z0 w0 : mZ) (x y mt tt ct : Option Nat) : Int → mZ → mZ → mP → Prop := fun v z w p => p = (pq x y (some 2) (some t) mt tt ct) ∧ 0 ≤ v ∧ v ≤ 1 ∧ ((z 3 7 = 2 → 0 ≤ z 3 9 ∧ z 3 9 ≤ 9999) ∧ (v = 0 → z 3 0 ≠ 0) ∧ (v = 1 → z 3 0 = z0 3 0))
theorem m_42 {d : Nat} {z0 w0 : mZ} {x y mt tt ct : Option Nat} (t : Nat) (a1 : Int) (hz : rz z0) (hw : rw_ w0) (ha1 : (-2147483648) ≤ a1 ∧ a1 ≤ 2147483647) (ht : isT t) (hkn : (z0 3 7 = 2 → 0 ≤ z0 3 9 ∧ z0 3 9 ≤ 9999)) : wc (d + 4) 42 [.ref 3, .int (Int32.ofInt a1)] (mk z0 w0 (pq x y (some 2) (some t) mt tt ct)) (poI S_42 z0 w0 (E_42 t a1 z0 w0 x y mt tt ct)) := by
  have hst : st_ S_42 z0 w0 z0 w0 := st_rf hz hw
  have hz28 := rd_3_0 hz
  have hz29 := rd_3_7 hz
  have hz30 := rd_3_9 hz
  refine w_m rfl rfl ?_
  refine r_ld (pc' := 1) rfl rfl rfl rfl ?_
  have hb31 := rd_3_7 hz
  refine r_gi (pc' := 4) rfl rfl sh_3 rfl rfl ?_
  refine r_ld (pc' := 5) rfl rfl rfl rfl ?_
  refine r_ieq (pc' := 8) rfl rfl ⟨by omega, by omega⟩ ⟨by omega, by omega⟩ (fun hc32 => ?_) (fun hc32 => ?_)
  · skip
    refine r_ld (pc' := 14) rfl rfl rfl rfl ?_
    have hb33 := rd_3_9 hz
    refine r_cVV (pc' := 17) rfl rfl rfl rfl rfl sh_3 (m_46 (d := d) t hst.1 hst.2.1 ht (by first | omega | assumption)) (fun z35 w36 p37 hs39 hE40 => ?_)
    have hs41 := st_tr hst hs39 (sub_B rfl)
    obtain ⟨rfl, hE40⟩ := hE40
    refine r_c0 (pc' := 18) rfl rfl ?_
    have hb42 := rd_3_7 hs41.1
    have hb43 := rd_3_9 hs41.1
    have hb44 := rd_3_0 hz
    have hf45 : z35 3 0 = z0 3 0 := (hs39.2.2.1 _ _ (notS_c (by omega) (notS_c (by omega) (notS_c (by omega) (notS_c (by omega) (notS_c (by omega) notS_n))))))
    exact r_rz rfl (by omega) (po_I hs41 ⟨by decide, by decide⟩ ⟨rfl, by omega, by omega, (by first | omega | assumption | (simp only [hf45]; assumption))⟩)
  · skip
    refine r_ld (pc' := 9) rfl rfl rfl rfl ?_
    refine r_cVI (pc' := 12) rfl rfl rfl rfl rfl sh_3 (m_34 (d := d + 1)  hst.1 hst.2.1 ) (fun v46 z47 w48 p49 h50 hs51 hE52 => ?_)
    have hs53 := st_tr hst hs51 (sub_B rfl)
    obtain ⟨rfl, hE52⟩ := hE52
    have hf54 : z47 3 7 = z0 3 7 := (hs51.2.2.1 _ _ (notS_c (by omega) (notS_c (by omega) notS_n)))
    have hb55 := rd_3_9 hz
    have hf56 : z47 3 9 = z0 3 9 := (hs51.2.2.1 _ _ (notS_c (by omega) (notS_c (by omega) notS_n)))
    have hb57 := rd_3_0 hs53.1
    exact r_rz rfl (by omega) (po_I hs53 ⟨by omega, by omega⟩ ⟨rfl, by omega, by omega, (by first | omega | assumption | (simp only [hf54, hf56]; assumption))⟩)

/-! methods, printed by wip/tools/vcg.py -/
/-- Shortener findSides -/
abbrev S_55v  : mS := [(13, 13, 0, 17), (14, 14, 0, 17)]
abbrev E_55v (t : Nat) (z0 w0 : mZ) (x y tx it mt tt ct : Option Nat) : mZ → mZ → mP → Prop := fun z w p => p = (pq x y tx it mt tt ct) ∧ (SD (z0 t 0) (z0 t 1) (z0 12) (z 13) (z 14))
theorem m_55v {d : Nat} {z0 w0 : mZ} {x y tx it mt tt ct : Option Nat} (t : Nat) (hz : rz z0) (hw : rw_ w0) (ht : isT t) (hly : LY (z0 t 0) (z0 t 1) (z0 12)) (hsl : z0 11 4 = 3 * z0 t 0 ∧ z0 11 5 = z0 t 1) : wc (d + 1) 55 [.ref 11] (mk z0 w0 (pq x y tx it mt tt ct)) (poV S_55v z0 w0 (E_55v t z0 w0 x y tx it mt tt ct)) := by
  have hst : st_ S_55v z0 w0 z0 w0 := st_rf hz hw
  have htb : 159 ≤ t ∧ t ≤ 192 := by have := ht; unfold isT at this; omega
  have hz17 := rd_11_4 hz
  have hz18 := rd_11_5 hz
  have hz19 := rd_T_0 ht hz
  have hz20 := rd_T_1 ht hz
  have hzt0 := rd_T_0 ht hz
  have hzt1 := rd_T_1 ht hz
  have key : ∀ N : Nat, (∀ (x1 : Int) (z w : mZ), 0 ≤ x1 ∧ x1 ≤ 18 → st_ S_55v z0 w0 z w → (∀ e : Nat, (e : Int) < x1 → z 13 e = -1) → 44 * (18 - x1) + 1713 < (N : Int) → wp_ (d) 55 3 none (2, [(0, .ref 11), (1, .int (Int32.ofInt x1))], [], mk z w (pq x y tx it mt tt ct)) (poV S_55v z0 w0 (E_55v t z0 w0 x y tx it mt tt ct))) ∧ (∀ (x1 : Int) (z w : mZ), 0 ≤ x1 ∧ x1 ≤ 36 → st_ S_55v z0 w0 z w → (FS (z0 t 1) (z0 12) (z 13) (z 14) x1) → (x1 ≤ z0 11 4) → 44 * (36 - x1) + 28 < (N : Int) → wp_ (d) 55 3 none (25, [(0, .ref 11), (1, .int (Int32.ofInt x1))], [], mk z w (pq x y tx it mt tt ct)) (poV S_55v z0 w0 (E_55v t z0 w0 x y tx it mt tt ct))) := by
    intro N
    induction N with
    | zero =>
      refine ⟨?_, ?_⟩
      · intro x1 z w
        intros; exfalso; omega
      · intro x1 z w
        intros; exfalso; omega
    | succ N ih =>
      obtain ⟨ih0, ih1⟩ := ih
      refine ⟨?_, ?_⟩
      · intro x1 z w  hx1 hst as1 hM
        refine r_ld (pc' := 3) rfl rfl rfl rfl ?_
        refine r_ld (pc' := 4) rfl rfl rfl rfl ?_
        have hb21 := rd_11_5 hz
        refine r_gi (pc' := 7) rfl rfl sh_11 rfl (hst.2.2.1 _ _ (notS_c (by omega) (notS_c (by omega) notS_n))) ?_
        refine r_ige (pc' := 10) rfl rfl ⟨by omega, by omega⟩ ⟨by omega, by omega⟩ (fun hc22 => ?_) (fun hc22 => ?_)
        · skip
          refine r_c0 (pc' := 24) rfl rfl ?_
          refine r_st (pc' := 25) (lv' := [(1, _), (0, _)]) rfl rfl rfl rfl ?_
          exact w_lv (sub_c rfl (sub_c rfl sub_n)) rfl (ih1 0 z w ⟨by omega, by omega⟩ hst (by first | exact FS_0 (fun e he => as1 e (by omega)) | exact FS_lo as1 (by omega) (e0 := (z0 12 x1.toNat).toNat) (by omega) (by assumption) (fun j hj => by rw [hqa]; exact mu_ne (by omega)) (by rw [hqa]; exact mu_eq) (fun j => by rw [hqa]; exact mu_ne (by omega)) | exact FS_hi hly as1 (by omega) (by omega) (e0 := (z0 12 x1.toNat).toNat) (by omega) (by assumption) (fun j hj => by rw [hqb]; exact mu_ne (by omega)) (by rw [hqb]; exact mu_eq) (fun j => by rw [hqb]; exact mu_ne (by omega))) (by first | omega | assumption) (by omega))
        · skip
          refine r_ld (pc' := 11) rfl rfl rfl rfl ?_
          refine r_gr (b := 13) (pc' := 14) rfl rfl sh_11 rfl pp_11_1 ?_
          refine r_ld (pc' := 15) rfl rfl rfl rfl ?_
          refine r_c0 (pc' := 16) rfl rfl ?_
          refine r_is (pc' := 17) rfl rfl sh_13 rfl (by omega) (by omega) hst (inS_0 (by omega) (by omega) (by omega) (by omega)) (wr_13 ⟨by omega, by omega⟩) (fun z23 hq24 hs25 => ?_)
          have hqm := hq24
          refine r_inc (pc' := 20) (lv' := [(0, _)]) rfl rfl rfl rfl rfl ?_
          refine r_go rfl ?_
          exact w_lv (sub_c rfl (sub_c rfl sub_n)) rfl (ih0 (x1 + 1) z23 w ⟨by omega, by omega⟩ hs25 (by first | (intro e he; exfalso; omega) | (intro e he; rw [hqm]; by_cases c : e = x1.toNat; (subst c; exact mu_eq); (rw [mu_ne (by omega)]; exact as1 e (by omega)))) (by omega))
      · intro x1 z w  hx1 hst as1 as2 hM
        refine r_ld (pc' := 26) rfl rfl rfl rfl ?_
        refine r_ld (pc' := 27) rfl rfl rfl rfl ?_
        have hb26 := rd_11_4 hz
        refine r_gi (pc' := 30) rfl rfl sh_11 rfl (hst.2.2.1 _ _ (notS_c (by omega) (notS_c (by omega) notS_n))) ?_
        refine r_ige (pc' := 33) rfl rfl ⟨by omega, by omega⟩ ⟨by omega, by omega⟩ (fun hc27 => ?_) (fun hc27 => ?_)
        · skip
          exact r_ret rfl (po_V hst ⟨rfl, (by exact FS_end hly as1 (by omega))⟩)
        · skip
          refine r_ld (pc' := 34) rfl rfl rfl rfl ?_
          refine r_gr (b := 12) (pc' := 37) rfl rfl sh_11 rfl pp_11_0 ?_
          refine r_ld (pc' := 38) rfl rfl rfl rfl ?_
          have hb28 := rd_12 hz (i := x1.toNat) (by omega)
          refine r_ia (pc' := 39) rfl rfl sh_12 rfl (by omega) (by omega) (hst.2.2.1 _ _ (notS_c (by omega) (notS_c (by omega) notS_n))) ?_
          refine r_st (pc' := 40) (lv' := [(2, _), (0, _), (1, _)]) rfl rfl rfl rfl ?_
          refine r_ld (pc' := 41) rfl rfl rfl rfl ?_
          refine r_gr (b := 13) (pc' := 44) rfl rfl sh_11 rfl pp_11_1 ?_
          refine r_ld (pc' := 45) rfl rfl rfl rfl ?_
          have hb29 := rd_13 hst.1 (i := (z0 12 x1.toNat).toNat) (by omega)
          refine r_ia (pc' := 46) rfl rfl sh_13 rfl (by omega) (by omega) rfl ?_
          refine r_c0 (pc' := 47) rfl rfl ?_
          refine r_ine (pc' := 50) rfl rfl ⟨by omega, by omega⟩ ⟨by decide, by decide⟩ (fun hc30 => ?_) (fun hc30 => ?_)
          · skip
            refine r_ld (pc' := 61) rfl rfl rfl rfl ?_
            refine r_gr (b := 14) (pc' := 64) rfl rfl sh_11 rfl pp_11_2 ?_
            refine r_ld (pc' := 65) rfl rfl rfl rfl ?_
            refine r_ld (pc' := 66) rfl rfl rfl rfl ?_
            refine r_is (pc' := 67) rfl rfl sh_14 rfl (by omega) (by omega) hst (inS_s (inS_0 (by omega) (by omega) (by omega) (by omega))) (wr_14 ⟨by omega, by omega⟩) (fun z31 hq32 hs33 => ?_)
            have hqb := hq32
            refine r_inc (pc' := 70) (lv' := [(2, _), (0, _)]) rfl rfl rfl rfl rfl ?_
            refine r_go rfl ?_
            have hF34 : z31 13 = z 13 := ((congrFun hq32 _).trans (mu_fn (by omega)))
            exact w_lv (sub_c rfl (sub_c rfl sub_n)) rfl (ih1 (x1 + 1) z31 w ⟨by omega, by omega⟩ hs33 (by first | exact FS_0 (fun e he => as1 e (by omega)) | exact FS_lo as1 (by omega) (e0 := (z0 12 x1.toNat).toNat) (by omega) (by assumption) (fun j hj => by rw [hqa]; exact mu_ne (by omega)) (by rw [hqa]; exact mu_eq) (fun j => by rw [hqa]; exact mu_ne (by omega)) | exact FS_hi hly as1 (by omega) (by omega) (e0 := (z0 12 x1.toNat).toNat) (by omega) (by assumption) (fun j hj => by rw [hqb]; exact mu_ne (by omega)) (by rw [hqb]; exact mu_eq) (fun j => by rw [hqb]; exact mu_ne (by omega))) (by first | omega | assumption | (simp only [hF34]; assumption)) (by omega))
          · skip
            refine r_ld (pc' := 51) rfl rfl rfl rfl ?_
            refine r_gr (b := 13) (pc' := 54) rfl rfl sh_11 rfl pp_11_1 ?_
            refine r_ld (pc' := 55) rfl rfl rfl rfl ?_
            refine r_ld (pc' := 56) rfl rfl rfl rfl ?_
            refine r_is (pc' := 57) rfl rfl sh_13 rfl (by omega) (by omega) hst (inS_0 (by omega) (by omega) (by omega) (by omega)) (wr_13 ⟨by omega, by omega⟩) (fun z35 hq36 hs37 => ?_)
            have hqa := hq36
            refine r_go rfl ?_
            refine r_inc (pc' := 70) (lv' := [(2, _), (0, _)]) rfl rfl rfl rfl rfl ?_
            refine r_go rfl ?_
            have hF38 : z35 14 = z 14 := ((congrFun hq36 _).trans (mu_fn (by omega)))
            exact w_lv (sub_c rfl (sub_c rfl sub_n)) rfl (ih1 (x1 + 1) z35 w ⟨by omega, by omega⟩ hs37 (by first | exact FS_0 (fun e he => as1 e (by omega)) | exact FS_lo as1 (by omega) (e0 := (z0 12 x1.toNat).toNat) (by omega) (by assumption) (fun j hj => by rw [hqa]; exact mu_ne (by omega)) (by rw [hqa]; exact mu_eq) (fun j => by rw [hqa]; exact mu_ne (by omega)) | exact FS_hi hly as1 (by omega) (by omega) (e0 := (z0 12 x1.toNat).toNat) (by omega) (by assumption) (fun j hj => by rw [hqb]; exact mu_ne (by omega)) (by rw [hqb]; exact mu_eq) (fun j => by rw [hqb]; exact mu_ne (by omega))) (by first | omega | assumption | (simp only [hF38]; assumption)) (by omega))
  refine w_m rfl rfl ?_
  refine r_c0 (pc' := 1) rfl rfl ?_
  refine r_st (pc' := 2) (lv' := [(1, _), (0, _)]) rfl rfl rfl rfl ?_
  exact w_lv (sub_c rfl (sub_c rfl sub_n)) rfl ((key ((44 * (18 - 0) + 1713 : Int).toNat + 1)).1 0 z0 w0 ⟨by omega, by omega⟩ hst (by first | (intro e he; exfalso; omega) | (intro e he; rw [hqm]; by_cases c : e = x1.toNat; (subst c; exact mu_eq); (rw [mu_ne (by omega)]; exact as1 e (by omega)))) (by omega))
/-- Shortener isShort -/
abbrev S_56v  : mS := []
abbrev E_56v (t : Nat) (z0 w0 : mZ) (x y tx it mt tt ct : Option Nat) : Int → mZ → mZ → mP → Prop := fun v z w p => p = (pq x y tx it mt tt ct) ∧ z0 = z ∧ w0 = w ∧ 0 ≤ v ∧ v ≤ 1 ∧ ((v = 1 → (∀ e : Nat, (e : Int) < z0 t 1 → w0 15 e ≤ 1) ∧ sm (w0 15) (z0 t 1).toNat = 2))
theorem m_56v {d : Nat} {z0 w0 : mZ} {x y tx it mt tt ct : Option Nat} (t : Nat) (hz : rz z0) (hw : rw_ w0) (ht : isT t) (hsl : z0 11 4 = 3 * z0 t 0 ∧ z0 11 5 = z0 t 1) (hn0 : ∀ e : Nat, e < 18 → 0 ≤ w0 15 e ∧ w0 15 e ≤ 1782) : wc (d + 1) 56 [.ref 11] (mk z0 w0 (pq x y tx it mt tt ct)) (poI S_56v z0 w0 (E_56v t z0 w0 x y tx it mt tt ct)) := by
  have hst : st_ S_56v z0 w0 z0 w0 := st_rf hz hw
  have htb : 159 ≤ t ∧ t ≤ 192 := by have := ht; unfold isT at this; omega
  have hz12 := rd_11_4 hz
  have hz13 := rd_11_5 hz
  have hz14 := rd_T_0 ht hz
  have hz15 := rd_T_1 ht hz
  have hzt0 := rd_T_0 ht hz
  have hzt1 := rd_T_1 ht hz
  have key : ∀ N : Nat, (∀ (x1 x2 : Int) , 0 ≤ x1 ∧ x1 ≤ 18 → 0 ≤ x2 ∧ x2 ≤ 18 → (x1 = sm (w0 15) x2.toNat ∧ x1 ≤ x2) → (∀ e : Nat, (e : Int) < x2 → w0 15 e ≤ 1) → (x2 ≤ z0 11 5) → 34 * (18 - x2) + 29 < (N : Int) → wp_ (d) 56 3 (some .boolean) (4, [(0, .ref 11), (1, .int (Int32.ofInt x1)), (2, .int (Int32.ofInt x2))], [], mk z0 w0 (pq x y tx it mt tt ct)) (poI S_56v z0 w0 (E_56v t z0 w0 x y tx it mt tt ct))) := by
    intro N
    induction N with
    | zero =>
      intro x1 x2 
      intros; exfalso; omega
    | succ N ih =>
      have ih0 := ih; clear ih
      intro x1 x2  hx1 hx2 as1 as2 as3 hM
      refine r_ld (pc' := 5) rfl rfl rfl rfl ?_
      refine r_ld (pc' := 6) rfl rfl rfl rfl ?_
      have hb16 := rd_11_5 hz
      refine r_gi (pc' := 9) rfl rfl sh_11 rfl rfl ?_
      refine r_ige (pc' := 12) rfl rfl ⟨by omega, by omega⟩ ⟨by omega, by omega⟩ (fun hc17 => ?_) (fun hc17 => ?_)
      · skip
        refine r_ld (pc' := 42) rfl rfl rfl rfl ?_
        refine r_c0 (pc' := 43) rfl rfl ?_
        refine r_ine (pc' := 46) rfl rfl ⟨by omega, by omega⟩ ⟨by decide, by decide⟩ (fun hc18 => ?_) (fun hc18 => ?_)
        · skip
          refine r_c0 (pc' := 51) rfl rfl ?_
          exact r_rz rfl (by omega) (po_I hst ⟨by decide, by decide⟩ ⟨rfl, rfl, rfl, by omega, by omega, (by first | (intro h; exfalso; omega) | (intro _; exact ⟨fun e he => as2 e (by omega), by rw [show (z0 t 1).toNat = x2.toNat by omega]; omega⟩))⟩)
        · skip
          refine r_c0 (pc' := 47) rfl rfl ?_
          refine r_go rfl ?_
          exact r_rz rfl (by omega) (po_I hst ⟨by decide, by decide⟩ ⟨rfl, rfl, rfl, by omega, by omega, (by first | (intro h; exfalso; omega) | (intro _; exact ⟨fun e he => as2 e (by omega), by rw [show (z0 t 1).toNat = x2.toNat by omega]; omega⟩))⟩)
      · skip
        have hge := hn0 x2.toNat (by omega)
        refine r_ld (pc' := 13) rfl rfl rfl rfl ?_
        refine r_gr (b := 15) (pc' := 16) rfl rfl sh_11 rfl pp_11_3 ?_
        refine r_ld (pc' := 17) rfl rfl rfl rfl ?_
        have hb19 := rd_15 hw (i := x2.toNat) (by omega)
        refine r_la (pc' := 18) rfl rfl sh_15 rfl (by omega) (by omega) rfl ?_
        refine r_lc1 (pc' := 19) rfl rfl ?_
        refine r_lle (pc' := 23) rfl rfl rfl ⟨by omega, by omega⟩ ⟨by decide, by decide⟩ (fun hc20 => ?_) (fun hc20 => ?_)
        · skip
          refine r_ld (pc' := 26) rfl rfl rfl rfl ?_
          refine r_ld (pc' := 27) rfl rfl rfl rfl ?_
          refine r_gr (b := 15) (pc' := 30) rfl rfl sh_11 rfl pp_11_3 ?_
          refine r_ld (pc' := 31) rfl rfl rfl rfl ?_
          refine r_la (pc' := 32) rfl rfl sh_15 rfl (by omega) (by omega) rfl ?_
          refine r_l2i (pc' := 33) rfl rfl ?_
          refine w_hxi (fun v21 h22 h23 => ?_)
          refine r_add (pc' := 34) rfl rfl ?_
          refine w_hxi (fun v24 h25 h26 => ?_)
          refine r_st (pc' := 35) (lv' := [(1, _), (0, _), (2, _)]) rfl rfl rfl rfl ?_
          refine r_inc (pc' := 38) (lv' := [(1, _), (0, _)]) rfl rfl rfl rfl rfl ?_
          refine r_go rfl ?_
          exact w_lv (sub_c rfl (sub_c rfl (sub_c rfl sub_n))) rfl (ih0 v24 (x2 + 1) ⟨by omega, by omega⟩ ⟨by omega, by omega⟩ (by first | exact ⟨rfl, by omega⟩ | (refine ⟨?_, by omega⟩; rw [show (x2 + 1).toNat = x2.toNat + 1 by omega, sm_s]; omega)) (by first | (intro e he; exfalso; omega) | (intro e he; by_cases c : e = x2.toNat; (subst c; omega); exact as2 e (by omega))) (by first | omega | assumption) (by omega))
        · skip
          refine r_c0 (pc' := 24) rfl rfl ?_
          exact r_rz rfl (by omega) (po_I hst ⟨by decide, by decide⟩ ⟨rfl, rfl, rfl, by omega, by omega, (by first | (intro h; exfalso; omega) | (intro _; exact ⟨fun e he => as2 e (by omega), by rw [show (z0 t 1).toNat = x2.toNat by omega]; omega⟩))⟩)
  refine w_m rfl rfl ?_
  refine r_c0 (pc' := 1) rfl rfl ?_
  refine r_st (pc' := 2) (lv' := [(1, _), (0, _)]) rfl rfl rfl rfl ?_
  refine r_c0 (pc' := 3) rfl rfl ?_
  refine r_st (pc' := 4) (lv' := [(2, _), (1, _), (0, _)]) rfl rfl rfl rfl ?_
  exact w_lv (sub_c rfl (sub_c rfl (sub_c rfl sub_n))) rfl ((key ((34 * (18 - 0) + 29 : Int).toNat + 1)) 0 0 ⟨by omega, by omega⟩ ⟨by omega, by omega⟩ (by first | exact ⟨rfl, by omega⟩ | (refine ⟨?_, by omega⟩; rw [show (x2 + 1).toNat = x2.toNat + 1 by omega, sm_s]; omega)) (by first | (intro e he; exfalso; omega) | (intro e he; by_cases c : e = x2.toNat; (subst c; omega); exact as2 e (by omega))) (by first | omega | assumption) (by omega))
/-- Shortener lookRound -/
abbrev S_58v  : mS := [(11, 11, 6, 6), (11, 11, 7, 7), (11, 11, 8, 8), (11, 11, 9, 9), (11, 11, 10, 10)]
abbrev E_58v (t : Nat) (a1 : Int) (z0 w0 : mZ) (x y tx it mt tt ct : Option Nat) : mZ → mZ → mP → Prop := fun z w p => p = (pq x y tx it mt tt ct) ∧ (LRq z0 z w0 w a1.toNat)
theorem m_58v {d : Nat} {z0 w0 : mZ} {x y tx it mt tt ct : Option Nat} (t : Nat) (a1 : Int) (hz : rz z0) (hw : rw_ w0) (ha1 : 0 ≤ a1 ∧ a1 ≤ 17) (ht : isT t) (hsd : SD (z0 t 0) (z0 t 1) (z0 12) (z0 13) (z0 14)) (hlt : a1 < z0 t 1) (hn0 : ∀ e : Nat, e < 18 → 0 ≤ w0 15 e ∧ w0 15 e ≤ 1782) : wc (d + 2) 58 [.ref 11, .int (Int32.ofInt a1)] (mk z0 w0 (pq x y tx it mt tt ct)) (poV S_58v z0 w0 (E_58v t a1 z0 w0 x y tx it mt tt ct)) := by
  have hst : st_ S_58v z0 w0 z0 w0 := st_rf hz hw
  have htb : 159 ≤ t ∧ t ≤ 192 := by have := ht; unfold isT at this; omega
  have hz81 := rd_T_0 ht hz
  have hz82 := rd_T_1 ht hz
  have hzt0 := rd_T_0 ht hz
  have hzt1 := rd_T_1 ht hz
  have hs1 := hsd a1.toNat (by omega)
  have hna := hn0 a1.toNat (by omega)
  refine w_m rfl rfl ?_
  refine r_ld (pc' := 1) rfl rfl rfl rfl ?_
  refine r_ld (pc' := 2) rfl rfl rfl rfl ?_
  refine r_gr (b := 12) (pc' := 5) rfl rfl sh_11 rfl pp_11_0 ?_
  refine r_ld (pc' := 6) rfl rfl rfl rfl ?_
  refine r_gr (b := 13) (pc' := 9) rfl rfl sh_11 rfl pp_11_1 ?_
  refine r_ld (pc' := 10) rfl rfl rfl rfl ?_
  have hb83 := rd_13 hz (i := a1.toNat) (by omega)
  refine r_ia (pc' := 11) rfl rfl sh_13 rfl (by omega) (by omega) rfl ?_
  refine r_cSI (pc' := 14) rfl rfl rfl rfl rfl (m_143 (d := d) (z0 13 a1.toNat) hst.1 hst.2.1 ⟨by omega, by omega⟩) (fun v84 z85 w86 p87 h88 hs89 hE90 => ?_)
  obtain ⟨rfl, rfl, rfl, hE90⟩ := hE90
  have hb11 : v84.toNat = bh (z0 13 a1.toNat).toNat := by have := bh_cases (z0 13 a1.toNat).toNat; omega
  have hr11 := rd_12 hz (i := v84.toNat) (by omega)
  have hn11 := hn0 (z0 12 v84.toNat).toNat (by omega)
  have hb92 := rd_12 hz (i := v84.toNat) (by omega)
  refine r_ia (pc' := 15) rfl rfl sh_12 rfl (by omega) (by omega) rfl ?_
  refine r_pi (pc' := 18) rfl rfl sh_11 rfl rfl hst (inS_0 (by omega) (by omega) (by omega) (by omega)) (wr_11_6 ⟨by omega, by omega⟩) (fun z93 hq94 hs95 => ?_)
  refine r_ld (pc' := 19) rfl rfl rfl rfl ?_
  refine r_ld (pc' := 20) rfl rfl rfl rfl ?_
  refine r_gr (b := 12) (pc' := 23) rfl rfl sh_11 rfl pp_11_0 ?_
  refine r_ld (pc' := 24) rfl rfl rfl rfl ?_
  refine r_gr (b := 13) (pc' := 27) rfl rfl sh_11 rfl pp_11_1 ?_
  refine r_ld (pc' := 28) rfl rfl rfl rfl ?_
  refine r_ia (pc' := 29) rfl rfl sh_13 rfl (by omega) (by omega) ((congrFun (congrFun hq94 _) _).trans (mu_ne (by omega))) ?_
  refine r_cSI (pc' := 32) rfl rfl rfl rfl rfl (m_144 (d := d) (z0 13 a1.toNat) hs95.1 hs95.2.1 ⟨by omega, by omega⟩) (fun v96 z97 w98 p99 h100 hs101 hE102 => ?_)
  obtain ⟨rfl, rfl, rfl, hE102⟩ := hE102
  have hb29 : v96.toNat = ah (z0 13 a1.toNat).toNat := by have := ah_cases (z0 13 a1.toNat).toNat; omega
  have hr29 := rd_12 hz (i := v96.toNat) (by omega)
  have hn29 := hn0 (z0 12 v96.toNat).toNat (by omega)
  have hb104 := rd_12 hz (i := v96.toNat) (by omega)
  refine r_ia (pc' := 33) rfl rfl sh_12 rfl (by omega) (by omega) ((congrFun (congrFun hq94 _) _).trans (mu_ne (by omega))) ?_
  refine r_pi (pc' := 36) rfl rfl sh_11 rfl rfl hs95 (inS_s (inS_0 (by omega) (by omega) (by omega) (by omega))) (wr_11_7 ⟨by omega, by omega⟩) (fun z105 hq106 hs107 => ?_)
  refine r_ld (pc' := 37) rfl rfl rfl rfl ?_
  refine r_ld (pc' := 38) rfl rfl rfl rfl ?_
  refine r_gr (b := 12) (pc' := 41) rfl rfl sh_11 rfl pp_11_0 ?_
  refine r_ld (pc' := 42) rfl rfl rfl rfl ?_
  refine r_gr (b := 14) (pc' := 45) rfl rfl sh_11 rfl pp_11_2 ?_
  refine r_ld (pc' := 46) rfl rfl rfl rfl ?_
  have hb108 := rd_14 hz (i := a1.toNat) (by omega)
  refine r_ia (pc' := 47) rfl rfl sh_14 rfl (by omega) (by omega) (((congrFun (congrFun hq106 _) _).trans (mu_ne (by omega))).trans ((congrFun (congrFun hq94 _) _).trans (mu_ne (by omega)))) ?_
  refine r_cSI (pc' := 50) rfl rfl rfl rfl rfl (m_143 (d := d) (z0 14 a1.toNat) hs107.1 hs107.2.1 ⟨by omega, by omega⟩) (fun v109 z110 w111 p112 h113 hs114 hE115 => ?_)
  obtain ⟨rfl, rfl, rfl, hE115⟩ := hE115
  have hb47 : v109.toNat = bh (z0 14 a1.toNat).toNat := by have := bh_cases (z0 14 a1.toNat).toNat; omega
  have hr47 := rd_12 hz (i := v109.toNat) (by omega)
  have hn47 := hn0 (z0 12 v109.toNat).toNat (by omega)
  have hb117 := rd_12 hz (i := v109.toNat) (by omega)
  refine r_ia (pc' := 51) rfl rfl sh_12 rfl (by omega) (by omega) (((congrFun (congrFun hq106 _) _).trans (mu_ne (by omega))).trans ((congrFun (congrFun hq94 _) _).trans (mu_ne (by omega)))) ?_
  refine r_pi (pc' := 54) rfl rfl sh_11 rfl rfl hs107 (inS_s (inS_s (inS_0 (by omega) (by omega) (by omega) (by omega)))) (wr_11_8 ⟨by omega, by omega⟩) (fun z118 hq119 hs120 => ?_)
  refine r_ld (pc' := 55) rfl rfl rfl rfl ?_
  refine r_ld (pc' := 56) rfl rfl rfl rfl ?_
  refine r_gr (b := 12) (pc' := 59) rfl rfl sh_11 rfl pp_11_0 ?_
  refine r_ld (pc' := 60) rfl rfl rfl rfl ?_
  refine r_gr (b := 14) (pc' := 63) rfl rfl sh_11 rfl pp_11_2 ?_
  refine r_ld (pc' := 64) rfl rfl rfl rfl ?_
  refine r_ia (pc' := 65) rfl rfl sh_14 rfl (by omega) (by omega) (((congrFun (congrFun hq119 _) _).trans (mu_ne (by omega))).trans (((congrFun (congrFun hq106 _) _).trans (mu_ne (by omega))).trans ((congrFun (congrFun hq94 _) _).trans (mu_ne (by omega))))) ?_
  refine r_cSI (pc' := 68) rfl rfl rfl rfl rfl (m_144 (d := d) (z0 14 a1.toNat) hs120.1 hs120.2.1 ⟨by omega, by omega⟩) (fun v121 z122 w123 p124 h125 hs126 hE127 => ?_)
  obtain ⟨rfl, rfl, rfl, hE127⟩ := hE127
  have hb65 : v121.toNat = ah (z0 14 a1.toNat).toNat := by have := ah_cases (z0 14 a1.toNat).toNat; omega
  have hr65 := rd_12 hz (i := v121.toNat) (by omega)
  have hn65 := hn0 (z0 12 v121.toNat).toNat (by omega)
  have hb129 := rd_12 hz (i := v121.toNat) (by omega)
  refine r_ia (pc' := 69) rfl rfl sh_12 rfl (by omega) (by omega) (((congrFun (congrFun hq119 _) _).trans (mu_ne (by omega))).trans (((congrFun (congrFun hq106 _) _).trans (mu_ne (by omega))).trans ((congrFun (congrFun hq94 _) _).trans (mu_ne (by omega))))) ?_
  refine r_pi (pc' := 72) rfl rfl sh_11 rfl rfl hs120 (inS_s (inS_s (inS_s (inS_0 (by omega) (by omega) (by omega) (by omega))))) (wr_11_9 ⟨by omega, by omega⟩) (fun z130 hq131 hs132 => ?_)
  refine r_ld (pc' := 73) rfl rfl rfl rfl ?_
  refine r_ld (pc' := 74) rfl rfl rfl rfl ?_
  refine r_gr (b := 15) (pc' := 77) rfl rfl sh_11 rfl pp_11_3 ?_
  refine r_ld (pc' := 78) rfl rfl rfl rfl ?_
  refine r_gi (pc' := 81) rfl rfl sh_11 rfl (((congrFun (congrFun hq131 _) _).trans (mu_ne (by omega))).trans (((congrFun (congrFun hq119 _) _).trans (mu_ne (by omega))).trans (((congrFun (congrFun hq106 _) _).trans (mu_ne (by omega))).trans ((congrFun (congrFun hq94 _) _).trans mu_eq)))) ?_
  have hb133 := rd_15 hw (i := (z0 12 v84.toNat).toNat) (by omega)
  refine r_la (pc' := 82) rfl rfl sh_15 rfl (by omega) (by omega) rfl ?_
  refine r_ld (pc' := 83) rfl rfl rfl rfl ?_
  refine r_gr (b := 15) (pc' := 86) rfl rfl sh_11 rfl pp_11_3 ?_
  refine r_ld (pc' := 87) rfl rfl rfl rfl ?_
  refine r_gi (pc' := 90) rfl rfl sh_11 rfl (((congrFun (congrFun hq131 _) _).trans (mu_ne (by omega))).trans ((congrFun (congrFun hq119 _) _).trans mu_eq)) ?_
  have hb134 := rd_15 hw (i := (z0 12 v109.toNat).toNat) (by omega)
  refine r_la (pc' := 91) rfl rfl sh_15 rfl (by omega) (by omega) rfl ?_
  refine r_ladd (pc' := 92) rfl rfl ?_
  refine w_hxl (fun v135 h136 h137 => ?_)
  refine r_ld (pc' := 93) rfl rfl rfl rfl ?_
  refine r_gr (b := 15) (pc' := 96) rfl rfl sh_11 rfl pp_11_3 ?_
  refine r_ld (pc' := 97) rfl rfl rfl rfl ?_
  refine r_gi (pc' := 100) rfl rfl sh_11 rfl (((congrFun (congrFun hq131 _) _).trans (mu_ne (by omega))).trans (((congrFun (congrFun hq119 _) _).trans (mu_ne (by omega))).trans ((congrFun (congrFun hq106 _) _).trans mu_eq))) ?_
  have hb138 := rd_15 hw (i := (z0 12 v96.toNat).toNat) (by omega)
  refine r_la (pc' := 101) rfl rfl sh_15 rfl (by omega) (by omega) rfl ?_
  refine r_ld (pc' := 102) rfl rfl rfl rfl ?_
  refine r_gr (b := 15) (pc' := 105) rfl rfl sh_11 rfl pp_11_3 ?_
  refine r_ld (pc' := 106) rfl rfl rfl rfl ?_
  refine r_gi (pc' := 109) rfl rfl sh_11 rfl ((congrFun (congrFun hq131 _) _).trans mu_eq) ?_
  have hb139 := rd_15 hw (i := (z0 12 v121.toNat).toNat) (by omega)
  refine r_la (pc' := 110) rfl rfl sh_15 rfl (by omega) (by omega) rfl ?_
  refine r_ladd (pc' := 111) rfl rfl ?_
  refine w_hxl (fun v140 h141 h142 => ?_)
  refine r_cSL (pc' := 114) rfl rfl rfl rfl rfl (m_262 (d := d) v135 v140 hs132.1 hs132.2.1 ⟨by omega, by omega⟩ ⟨by omega, by omega⟩) (fun v143 z144 w145 p146 h147 hs148 hE149 => ?_)
  obtain ⟨rfl, rfl, rfl, hE149⟩ := hE149
  refine r_ld (pc' := 115) rfl rfl rfl rfl ?_
  refine r_gr (b := 15) (pc' := 118) rfl rfl sh_11 rfl pp_11_3 ?_
  refine r_ld (pc' := 119) rfl rfl rfl rfl ?_
  have hb151 := rd_15 hw (i := a1.toNat) (by omega)
  refine r_la (pc' := 120) rfl rfl sh_15 rfl (by omega) (by omega) rfl ?_
  refine r_lsub (pc' := 121) rfl rfl ?_
  refine w_hxl (fun v152 h153 h154 => ?_)
  refine r_pl (pc' := 124) rfl rfl sh_11 rfl rfl hs132 (inS_s (inS_s (inS_s (inS_s (inS_0 (by omega) (by omega) (by omega) (by omega)))))) (wr_11_10 ⟨by omega, by omega⟩) (fun w155 hq156 hs157 => ?_)
  have hf158 : z130 11 6 = z0 12 v84.toNat := (((congrFun (congrFun hq131 _) _).trans (mu_ne (by omega))).trans (((congrFun (congrFun hq119 _) _).trans (mu_ne (by omega))).trans (((congrFun (congrFun hq106 _) _).trans (mu_ne (by omega))).trans ((congrFun (congrFun hq94 _) _).trans mu_eq))))
  have hf159 : z130 11 7 = z0 12 v96.toNat := (((congrFun (congrFun hq131 _) _).trans (mu_ne (by omega))).trans (((congrFun (congrFun hq119 _) _).trans (mu_ne (by omega))).trans ((congrFun (congrFun hq106 _) _).trans mu_eq)))
  have hf160 : z130 11 8 = z0 12 v109.toNat := (((congrFun (congrFun hq131 _) _).trans (mu_ne (by omega))).trans ((congrFun (congrFun hq119 _) _).trans mu_eq))
  have hf161 : z130 11 9 = z0 12 v121.toNat := ((congrFun (congrFun hq131 _) _).trans mu_eq)
  have hf162 : w155 11 10 = v152 := ((congrFun (congrFun hq156 _) _).trans mu_eq)
  exact r_ret rfl (po_V hs157 ⟨rfl, (by unfold LRq; refine ⟨by rw [← hb11]; omega, by rw [← hb29]; omega, by rw [← hb47]; omega, by rw [← hb65]; omega, ?_⟩; simp only [hf158, hf159, hf160, hf161, hf162]; omega)⟩)
/-- Shortener turnEdge -/
abbrev S_59v  : mS := [(15, 15, 0, 17), (12, 12, 0, 35), (13, 13, 0, 17), (14, 14, 0, 17)]
abbrev E_59v (t : Nat) (a1 : Int) (z0 w0 : mZ) (x y tx it mt tt ct : Option Nat) : mZ → mZ → mP → Prop := fun z w p => p = (pq x y tx it mt tt ct) ∧ (FLP (z0 t 0).toNat (vT (z0 12)) (vT (z 12)) a1.toNat (z0 11 6).toNat (z0 11 7).toNat (z0 11 8).toNat (z0 11 9).toNat (z0 13 a1.toNat).toNat (z0 14 a1.toNat).toNat (z0 13 a1.toNat).toNat (z0 14 a1.toNat).toNat ∧ w 15 = fl a1.toNat (z0 11 6).toNat (z0 11 7).toNat (z0 11 8).toNat (z0 11 9).toNat (w0 15) ∧ SD (z0 t 0) (z0 t 1) (z 12) (z 13) (z 14) ∧ LY (z0 t 0) (z0 t 1) (z 12))
theorem m_59v {d : Nat} {z0 w0 : mZ} {x y tx it mt tt ct : Option Nat} (t : Nat) (a1 : Int) (hz : rz z0) (hw : rw_ w0) (ha1 : 0 ≤ a1 ∧ a1 ≤ 17) (ht : isT t) (hly : LY (z0 t 0) (z0 t 1) (z0 12)) (hsl : z0 11 4 = 3 * z0 t 0 ∧ z0 11 5 = z0 t 1) (hsd : SD (z0 t 0) (z0 t 1) (z0 12) (z0 13) (z0 14)) (hlt : a1 < z0 t 1) (hne : z0 13 a1.toNat / 3 ≠ z0 14 a1.toNat / 3) (hlr : LRq z0 z0 w0 w0 a1.toNat) : wc (d + 2) 59 [.ref 11, .int (Int32.ofInt a1)] (mk z0 w0 (pq x y tx it mt tt ct)) (poV S_59v z0 w0 (E_59v t a1 z0 w0 x y tx it mt tt ct)) := by
  have hst : st_ S_59v z0 w0 z0 w0 := st_rf hz hw
  have htb : 159 ≤ t ∧ t ≤ 192 := by have := ht; unfold isT at this; omega
  have hz72 := rd_11_4 hz
  have hz73 := rd_11_5 hz
  have hz74 := rd_11_6 hz
  have hz75 := rd_11_7 hz
  have hz76 := rd_11_8 hz
  have hz77 := rd_11_9 hz
  have hz78 := rd_T_0 ht hz
  have hz79 := rd_T_1 ht hz
  have hzt0 := rd_T_0 ht hz
  have hzt1 := rd_T_1 ht hz
  have hs1 := hsd a1.toNat (by omega)
  refine w_m rfl rfl ?_
  refine r_ld (pc' := 1) rfl rfl rfl rfl ?_
  refine r_gr (b := 15) (pc' := 4) rfl rfl sh_11 rfl pp_11_3 ?_
  refine r_ld (pc' := 5) rfl rfl rfl rfl ?_
  refine r_ld (pc' := 6) rfl rfl rfl rfl ?_
  have hb80 := rd_11_10 hw
  refine r_gl (pc' := 9) rfl rfl sh_11 rfl rfl ?_
  refine r_ls (pc' := 10) rfl rfl sh_15 rfl (by omega) (by omega) hst (inS_0 (by omega) (by omega) (by omega) (by omega)) (wr_15 ⟨by omega, by omega⟩) (fun w81 hq82 hs83 => ?_)
  have hqw := hq82
  refine r_ld (pc' := 11) rfl rfl rfl rfl ?_
  refine r_gr (b := 12) (pc' := 14) rfl rfl sh_11 rfl pp_11_0 ?_
  refine r_ld (pc' := 15) rfl rfl rfl rfl ?_
  refine r_gr (b := 13) (pc' := 18) rfl rfl sh_11 rfl pp_11_1 ?_
  refine r_ld (pc' := 19) rfl rfl rfl rfl ?_
  have hb84 := rd_13 hz (i := a1.toNat) (by omega)
  refine r_ia (pc' := 20) rfl rfl sh_13 rfl (by omega) (by omega) rfl ?_
  refine r_cSI (pc' := 23) rfl rfl rfl rfl rfl (m_143 (d := d) (z0 13 a1.toNat) hs83.1 hs83.2.1 ⟨by omega, by omega⟩) (fun v85 z86 w87 p88 h89 hs90 hE91 => ?_)
  obtain ⟨rfl, rfl, rfl, hE91⟩ := hE91
  have hb20 : v85.toNat = bh (z0 13 a1.toNat).toNat := by have := bh_cases (z0 13 a1.toNat).toNat; omega
  refine r_ld (pc' := 24) rfl rfl rfl rfl ?_
  have hb93 := rd_11_7 hz
  refine r_gi (pc' := 27) rfl rfl sh_11 rfl rfl ?_
  refine r_is (pc' := 28) rfl rfl sh_12 rfl (by omega) (by omega) hs83 (inS_s (inS_0 (by omega) (by omega) (by omega) (by omega))) (wr_12 ⟨by omega, by omega⟩) (fun z94 hq95 hs96 => ?_)
  have hq27 := hq95
  refine r_ld (pc' := 29) rfl rfl rfl rfl ?_
  refine r_gr (b := 12) (pc' := 32) rfl rfl sh_11 rfl pp_11_0 ?_
  refine r_ld (pc' := 33) rfl rfl rfl rfl ?_
  refine r_gr (b := 13) (pc' := 36) rfl rfl sh_11 rfl pp_11_1 ?_
  refine r_ld (pc' := 37) rfl rfl rfl rfl ?_
  refine r_ia (pc' := 38) rfl rfl sh_13 rfl (by omega) (by omega) ((congrFun (congrFun hq95 _) _).trans (mu_ne (by omega))) ?_
  refine r_cSI (pc' := 41) rfl rfl rfl rfl rfl (m_144 (d := d) (z0 13 a1.toNat) hs96.1 hs96.2.1 ⟨by omega, by omega⟩) (fun v97 z98 w99 p100 h101 hs102 hE103 => ?_)
  obtain ⟨rfl, rfl, rfl, hE103⟩ := hE103
  have hb38 : v97.toNat = ah (z0 13 a1.toNat).toNat := by have := ah_cases (z0 13 a1.toNat).toNat; omega
  refine r_ld (pc' := 42) rfl rfl rfl rfl ?_
  have hb105 := rd_11_8 hz
  refine r_gi (pc' := 45) rfl rfl sh_11 rfl ((congrFun (congrFun hq95 _) _).trans (mu_ne (by omega))) ?_
  refine r_is (pc' := 46) rfl rfl sh_12 rfl (by omega) (by omega) hs96 (inS_s (inS_0 (by omega) (by omega) (by omega) (by omega))) (wr_12 ⟨by omega, by omega⟩) (fun z106 hq107 hs108 => ?_)
  have hq45 := hq107
  refine r_ld (pc' := 47) rfl rfl rfl rfl ?_
  refine r_gr (b := 12) (pc' := 50) rfl rfl sh_11 rfl pp_11_0 ?_
  refine r_ld (pc' := 51) rfl rfl rfl rfl ?_
  refine r_gr (b := 14) (pc' := 54) rfl rfl sh_11 rfl pp_11_2 ?_
  refine r_ld (pc' := 55) rfl rfl rfl rfl ?_
  have hb109 := rd_14 hz (i := a1.toNat) (by omega)
  refine r_ia (pc' := 56) rfl rfl sh_14 rfl (by omega) (by omega) (((congrFun (congrFun hq107 _) _).trans (mu_ne (by omega))).trans ((congrFun (congrFun hq95 _) _).trans (mu_ne (by omega)))) ?_
  refine r_cSI (pc' := 59) rfl rfl rfl rfl rfl (m_143 (d := d) (z0 14 a1.toNat) hs108.1 hs108.2.1 ⟨by omega, by omega⟩) (fun v110 z111 w112 p113 h114 hs115 hE116 => ?_)
  obtain ⟨rfl, rfl, rfl, hE116⟩ := hE116
  have hb56 : v110.toNat = bh (z0 14 a1.toNat).toNat := by have := bh_cases (z0 14 a1.toNat).toNat; omega
  refine r_ld (pc' := 60) rfl rfl rfl rfl ?_
  have hb118 := rd_11_9 hz
  refine r_gi (pc' := 63) rfl rfl sh_11 rfl (((congrFun (congrFun hq107 _) _).trans (mu_ne (by omega))).trans ((congrFun (congrFun hq95 _) _).trans (mu_ne (by omega)))) ?_
  refine r_is (pc' := 64) rfl rfl sh_12 rfl (by omega) (by omega) hs108 (inS_s (inS_0 (by omega) (by omega) (by omega) (by omega))) (wr_12 ⟨by omega, by omega⟩) (fun z119 hq120 hs121 => ?_)
  have hq63 := hq120
  refine r_ld (pc' := 65) rfl rfl rfl rfl ?_
  refine r_gr (b := 12) (pc' := 68) rfl rfl sh_11 rfl pp_11_0 ?_
  refine r_ld (pc' := 69) rfl rfl rfl rfl ?_
  refine r_gr (b := 14) (pc' := 72) rfl rfl sh_11 rfl pp_11_2 ?_
  refine r_ld (pc' := 73) rfl rfl rfl rfl ?_
  refine r_ia (pc' := 74) rfl rfl sh_14 rfl (by omega) (by omega) (((congrFun (congrFun hq120 _) _).trans (mu_ne (by omega))).trans (((congrFun (congrFun hq107 _) _).trans (mu_ne (by omega))).trans ((congrFun (congrFun hq95 _) _).trans (mu_ne (by omega))))) ?_
  refine r_cSI (pc' := 77) rfl rfl rfl rfl rfl (m_144 (d := d) (z0 14 a1.toNat) hs121.1 hs121.2.1 ⟨by omega, by omega⟩) (fun v122 z123 w124 p125 h126 hs127 hE128 => ?_)
  obtain ⟨rfl, rfl, rfl, hE128⟩ := hE128
  have hb74 : v122.toNat = ah (z0 14 a1.toNat).toNat := by have := ah_cases (z0 14 a1.toNat).toNat; omega
  refine r_ld (pc' := 78) rfl rfl rfl rfl ?_
  have hb130 := rd_11_6 hz
  refine r_gi (pc' := 81) rfl rfl sh_11 rfl (((congrFun (congrFun hq120 _) _).trans (mu_ne (by omega))).trans (((congrFun (congrFun hq107 _) _).trans (mu_ne (by omega))).trans ((congrFun (congrFun hq95 _) _).trans (mu_ne (by omega))))) ?_
  refine r_is (pc' := 82) rfl rfl sh_12 rfl (by omega) (by omega) hs121 (inS_s (inS_0 (by omega) (by omega) (by omega) (by omega))) (wr_12 ⟨by omega, by omega⟩) (fun z131 hq132 hs133 => ?_)
  have hq81 := hq132
  refine r_ld (pc' := 83) rfl rfl rfl rfl ?_
  have gt0 : z131 t 0 = z0 t 0 := hs133.2.2.1 _ _ (notS_c (by omega) (notS_c (by omega) (notS_c (by omega) (notS_c (by omega) (notS_n)))))
  have gt1 : z131 t 1 = z0 t 1 := hs133.2.2.1 _ _ (notS_c (by omega) (notS_c (by omega) (notS_c (by omega) (notS_c (by omega) (notS_n)))))
  have hfl : FLP (z0 t 0).toNat (vT (z0 12)) (vT (z131 12)) a1.toNat (z0 11 6).toNat (z0 11 7).toNat (z0 11 8).toNat (z0 11 9).toNat (z0 13 a1.toNat).toNat (z0 14 a1.toNat).toNat (z0 13 a1.toNat).toNat (z0 14 a1.toNat).toNat := FLP_of (by omega) (fun s hs => (hly.2.2.2.1 s hs).1) hsd (by omega) hne hb20 hb38 hb56 hb74 hlr.1 hlr.2.1 hlr.2.2.1 hlr.2.2.2.1 (fun s => by rw [hq81, mu_sf, hq63, mu_sf, hq45, mu_sf, hq27, mu_sf])
  have hly2 : LY (z0 t 0) (z0 t 1) (z131 12) := LY_fl hly hfl (fun s hs => by have := rd_12 hs133.1 (i := s) (by omega); omega)
  have hb134 := rd_T_0 ht hz
  have hf135 : z131 t 0 = z0 t 0 := (((congrFun (congrFun hq132 _) _).trans (mu_ne (by omega))).trans (((congrFun (congrFun hq120 _) _).trans (mu_ne (by omega))).trans (((congrFun (congrFun hq107 _) _).trans (mu_ne (by omega))).trans ((congrFun (congrFun hq95 _) _).trans (mu_ne (by omega))))))
  have hb136 := rd_T_1 ht hz
  have hf137 : z131 t 1 = z0 t 1 := (((congrFun (congrFun hq132 _) _).trans (mu_ne (by omega))).trans (((congrFun (congrFun hq120 _) _).trans (mu_ne (by omega))).trans (((congrFun (congrFun hq107 _) _).trans (mu_ne (by omega))).trans ((congrFun (congrFun hq95 _) _).trans (mu_ne (by omega))))))
  have hb138 := rd_11_4 hz
  have hf139 : z131 11 4 = z0 11 4 := (((congrFun (congrFun hq132 _) _).trans (mu_ne (by omega))).trans (((congrFun (congrFun hq120 _) _).trans (mu_ne (by omega))).trans (((congrFun (congrFun hq107 _) _).trans (mu_ne (by omega))).trans ((congrFun (congrFun hq95 _) _).trans (mu_ne (by omega))))))
  have hb140 := rd_11_5 hz
  have hf141 : z131 11 5 = z0 11 5 := (((congrFun (congrFun hq132 _) _).trans (mu_ne (by omega))).trans (((congrFun (congrFun hq120 _) _).trans (mu_ne (by omega))).trans (((congrFun (congrFun hq107 _) _).trans (mu_ne (by omega))).trans ((congrFun (congrFun hq95 _) _).trans (mu_ne (by omega))))))
  refine r_cVV (pc' := 86) rfl rfl rfl rfl rfl sh_11 (m_55v (d := d) t hs133.1 hs133.2.1 ht (by rw [gt0, gt1]; exact hly2) (by first | omega | assumption | (simp only [hf135, hf137, hf139, hf141]; assumption))) (fun z143 w144 p145 hs147 hE148 => ?_)
  have hs149 := st_tr hs133 hs147 (sub_B rfl)
  obtain ⟨rfl, hE148⟩ := hE148
  have hsd2 := hE148
  rw [gt0, gt1] at hsd2
  have hF150 : z143 12 = z131 12 := (funext fun _ => hs147.2.2.1 _ _ (notS_c (by omega) (notS_c (by omega) notS_n)))
  exact r_ret rfl (po_V hs149 ⟨rfl, (by refine ⟨?_, ?_, ?_, ?_⟩; (simp only [hF150]; exact hfl); (funext j; rw [show w144 15 j = w81 15 j from (hs147.2.2.2 _ _ (notS_c (by omega) (notS_c (by omega) notS_n))), hqw, mu_sf]; unfold fl; rw [hlr.2.2.2.2]); (simp only [hF150]; exact hsd2); (simp only [hF150]; exact hly2))⟩)
/-- Shortener findNeighbours -/
abbrev S_60v (rk : Nat) : mS := [(17 + 2 * rk, 17 + 2 * rk, 2, 2), (17 + 2 * rk, 17 + 2 * rk, 5, 5), (17 + 2 * rk, 17 + 2 * rk, 4, 4), (17 + 2 * rk, 17 + 2 * rk, 3, 3)]
abbrev E_60v (t : Nat) (rk : Nat) (z0 w0 : mZ) (x y tx it mt tt ct : Option Nat) : mZ → mZ → mP → Prop := fun z w p => p = (pq x y tx it mt tt ct) ∧ (((∃ u v, u < 3 * (z0 t 0).toNat ∧ v < 3 * (z0 t 0).toNat ∧ u ≠ v ∧ CO (vT (z0 12)) (w0 15) u ∧ CO (vT (z0 12)) (w0 15) v) → ∃ u v, u < 3 * (z0 t 0).toNat ∧ v < 3 * (z0 t 0).toNat ∧ u ≠ v ∧ CO (vT (z0 12)) (w0 15) u ∧ CO (vT (z0 12)) (w0 15) v ∧ z (17 + 2 * rk) 2 = z0 12 u ∧ z (17 + 2 * rk) 3 = z0 12 v ∧ z (17 + 2 * rk) 4 = z0 12 (ah u) ∧ z (17 + 2 * rk) 5 = z0 12 (bh u)))
theorem m_60v {d : Nat} {z0 w0 : mZ} {x y tx it mt tt ct : Option Nat} (t : Nat) (rk : Nat) (hz : rz z0) (hw : rw_ w0) (hrk : rk < 8) (ht : isT t) (hsl : z0 11 4 = 3 * z0 t 0 ∧ z0 11 5 = z0 t 1) : wc (d + 2) 60 [.ref 11, .ref (17 + 2 * rk)] (mk z0 w0 (pq x y tx it mt tt ct)) (poV (S_60v rk) z0 w0 (E_60v t rk z0 w0 x y tx it mt tt ct)) := by
  have hst : st_ (S_60v rk) z0 w0 z0 w0 := st_rf hz hw
  have htb : 159 ≤ t ∧ t ≤ 192 := by have := ht; unfold isT at this; omega
  have hz45 := rd_11_4 hz
  have hz46 := rd_11_5 hz
  have hz47 := rd_T_0 ht hz
  have hz48 := rd_T_1 ht hz
  have hzt0 := rd_T_0 ht hz
  have hzt1 := rd_T_1 ht hz
  have key : ∀ N : Nat, (∀ (x2 x3 : Int) (z w : mZ), 0 ≤ x2 ∧ x2 ≤ 1 → 0 ≤ x3 ∧ x3 ≤ 36 → st_ (S_60v rk) z0 w0 z w → (NBC (z0 t 0) (z0 12) (w0 15) x2 x3 (z (17 + 2 * rk) 2) (z (17 + 2 * rk) 3) (z (17 + 2 * rk) 4) (z (17 + 2 * rk) 5)) → (x3 ≤ z0 11 4) → 70 * (36 - x3) + 65 < (N : Int) → wp_ (d + 1) 60 6 none (4, [(0, .ref 11), (1, .ref (17 + 2 * rk)), (2, .int (Int32.ofInt x2)), (3, .int (Int32.ofInt x3))], [], mk z w (pq x y tx it mt tt ct)) (poV (S_60v rk) z0 w0 (E_60v t rk z0 w0 x y tx it mt tt ct))) := by
    intro N
    induction N with
    | zero =>
      intro x2 x3 z w
      intros; exfalso; omega
    | succ N ih =>
      have ih0 := ih; clear ih
      intro x2 x3 z w  hx2 hx3 hst as1 as2 hM
      refine r_ld (pc' := 5) rfl rfl rfl rfl ?_
      refine r_ld (pc' := 6) rfl rfl rfl rfl ?_
      have hb49 := rd_11_4 hz
      refine r_gi (pc' := 9) rfl rfl sh_11 rfl (hst.2.2.1 _ _ (notS_c (by omega) (notS_c (by omega) (notS_c (by omega) (notS_c (by omega) notS_n))))) ?_
      refine r_ige (pc' := 12) rfl rfl ⟨by omega, by omega⟩ ⟨by omega, by omega⟩ (fun hc50 => ?_) (fun hc50 => ?_)
      · skip
        have hb51 := rd_R_2 (k := rk) (by omega) hst.1
        have hb52 := rd_R_3 (k := rk) (by omega) hst.1
        have hb53 := rd_R_4 (k := rk) (by omega) hst.1
        have hb54 := rd_R_5 (k := rk) (by omega) hst.1
        exact r_ret rfl (po_V hst ⟨rfl, (by exact NBC_e as1 (by omega) (by omega) (by omega))⟩)
      · skip
        refine r_ld (pc' := 13) rfl rfl rfl rfl ?_
        refine r_gr (b := 12) (pc' := 16) rfl rfl sh_11 rfl pp_11_0 ?_
        refine r_ld (pc' := 17) rfl rfl rfl rfl ?_
        refine r_cSI (pc' := 20) rfl rfl rfl rfl rfl (m_143 (d := d) x3 hst.1 hst.2.1 ⟨by omega, by omega⟩) (fun v55 z56 w57 p58 h59 hs60 hE61 => ?_)
        obtain ⟨rfl, rfl, rfl, hE61⟩ := hE61
        have hb17 : v55.toNat = bh x3.toNat := by have := bh_cases x3.toNat; omega
        have hb63 := rd_12 hz (i := v55.toNat) (by omega)
        refine r_ia (pc' := 21) rfl rfl sh_12 rfl (by omega) (by omega) (hst.2.2.1 _ _ (notS_c (by omega) (notS_c (by omega) (notS_c (by omega) (notS_c (by omega) notS_n))))) ?_
        refine r_st (pc' := 23) (lv' := [(4, _), (0, _), (1, _), (2, _), (3, _)]) rfl rfl rfl rfl ?_
        refine r_ld (pc' := 24) rfl rfl rfl rfl ?_
        refine r_gr (b := 12) (pc' := 27) rfl rfl sh_11 rfl pp_11_0 ?_
        refine r_ld (pc' := 28) rfl rfl rfl rfl ?_
        refine r_cSI (pc' := 31) rfl rfl rfl rfl rfl (m_144 (d := d) x3 hst.1 hst.2.1 ⟨by omega, by omega⟩) (fun v64 z65 w66 p67 h68 hs69 hE70 => ?_)
        obtain ⟨rfl, rfl, rfl, hE70⟩ := hE70
        have hb28 : v64.toNat = ah x3.toNat := by have := ah_cases x3.toNat; omega
        have hco : CO (vT (z0 12)) (w0 15) x3.toNat ↔ (w0 15 (z0 12 x3.toNat).toNat = 0 ∧ w0 15 (z0 12 (bh x3.toNat)).toNat = 1 ∧ w0 15 (z0 12 (ah x3.toNat)).toNat = 1) := Iff.rfl
        rw [← hb17, ← hb28] at hco
        have hb72 := rd_12 hz (i := v64.toNat) (by omega)
        refine r_ia (pc' := 32) rfl rfl sh_12 rfl (by omega) (by omega) (hst.2.2.1 _ _ (notS_c (by omega) (notS_c (by omega) (notS_c (by omega) (notS_c (by omega) notS_n))))) ?_
        refine r_st (pc' := 34) (lv' := [(5, _), (4, _), (0, _), (1, _), (2, _), (3, _)]) rfl rfl rfl rfl ?_
        refine r_ld (pc' := 35) rfl rfl rfl rfl ?_
        refine r_gr (b := 15) (pc' := 38) rfl rfl sh_11 rfl pp_11_3 ?_
        refine r_ld (pc' := 39) rfl rfl rfl rfl ?_
        refine r_gr (b := 12) (pc' := 42) rfl rfl sh_11 rfl pp_11_0 ?_
        refine r_ld (pc' := 43) rfl rfl rfl rfl ?_
        have hb73 := rd_12 hz (i := x3.toNat) (by omega)
        refine r_ia (pc' := 44) rfl rfl sh_12 rfl (by omega) (by omega) (hst.2.2.1 _ _ (notS_c (by omega) (notS_c (by omega) (notS_c (by omega) (notS_c (by omega) notS_n))))) ?_
        have hb74 := rd_15 hw (i := (z0 12 x3.toNat).toNat) (by omega)
        refine r_la (pc' := 45) rfl rfl sh_15 rfl (by omega) (by omega) (hst.2.2.2 _ _ (notS_c (by omega) (notS_c (by omega) (notS_c (by omega) (notS_c (by omega) notS_n))))) ?_
        refine r_lc0 (pc' := 46) rfl rfl ?_
        refine r_lne (pc' := 50) rfl rfl rfl ⟨by omega, by omega⟩ ⟨by decide, by decide⟩ (fun hc75 => ?_) (fun hc75 => ?_)
        · skip
          refine r_inc (pc' := 118) (lv' := [(5, _), (4, _), (0, _), (1, _), (2, _)]) rfl rfl rfl rfl rfl ?_
          refine r_go rfl ?_
          have hb76 := rd_R_2 (k := rk) (by omega) hst.1
          have hb77 := rd_R_3 (k := rk) (by omega) hst.1
          have hb78 := rd_R_4 (k := rk) (by omega) hst.1
          have hb79 := rd_R_5 (k := rk) (by omega) hst.1
          exact w_lv (sub_c rfl (sub_c rfl (sub_c rfl (sub_c rfl sub_n)))) rfl (ih0 x2 (x3 + 1) z w ⟨by omega, by omega⟩ ⟨by omega, by omega⟩ hst (by first | exact NBC_0 | exact NBC_n as1 (by omega) (fun q => by have := hco.mp q; omega) | (have hx2 : x2 = 1 := by omega); (subst hx2; simp only []; exact NBC_b as1 (by omega) (hco.mpr ⟨by omega, by omega, by omega⟩) rfl) | (have hx2 : x2 = 0 := by omega); (subst hx2; simp only []; exact NBC_a as1 (by omega) (hco.mpr ⟨by omega, by omega, by omega⟩) rfl (by rw [hb17]) (by rw [hb28]))) (by first | omega | assumption) (by omega))
        · skip
          refine r_ld (pc' := 51) rfl rfl rfl rfl ?_
          refine r_gr (b := 15) (pc' := 54) rfl rfl sh_11 rfl pp_11_3 ?_
          refine r_ld (pc' := 56) rfl rfl rfl rfl ?_
          have hb80 := rd_15 hw (i := (z0 12 v55.toNat).toNat) (by omega)
          refine r_la (pc' := 57) rfl rfl sh_15 rfl (by omega) (by omega) (hst.2.2.2 _ _ (notS_c (by omega) (notS_c (by omega) (notS_c (by omega) (notS_c (by omega) notS_n))))) ?_
          refine r_lc1 (pc' := 58) rfl rfl ?_
          refine r_lne (pc' := 62) rfl rfl rfl ⟨by omega, by omega⟩ ⟨by decide, by decide⟩ (fun hc81 => ?_) (fun hc81 => ?_)
          · skip
            refine r_inc (pc' := 118) (lv' := [(5, _), (4, _), (0, _), (1, _), (2, _)]) rfl rfl rfl rfl rfl ?_
            refine r_go rfl ?_
            have hb82 := rd_R_2 (k := rk) (by omega) hst.1
            have hb83 := rd_R_3 (k := rk) (by omega) hst.1
            have hb84 := rd_R_4 (k := rk) (by omega) hst.1
            have hb85 := rd_R_5 (k := rk) (by omega) hst.1
            exact w_lv (sub_c rfl (sub_c rfl (sub_c rfl (sub_c rfl sub_n)))) rfl (ih0 x2 (x3 + 1) z w ⟨by omega, by omega⟩ ⟨by omega, by omega⟩ hst (by first | exact NBC_0 | exact NBC_n as1 (by omega) (fun q => by have := hco.mp q; omega) | (have hx2 : x2 = 1 := by omega); (subst hx2; simp only []; exact NBC_b as1 (by omega) (hco.mpr ⟨by omega, by omega, by omega⟩) rfl) | (have hx2 : x2 = 0 := by omega); (subst hx2; simp only []; exact NBC_a as1 (by omega) (hco.mpr ⟨by omega, by omega, by omega⟩) rfl (by rw [hb17]) (by rw [hb28]))) (by first | omega | assumption) (by omega))
          · skip
            refine r_ld (pc' := 63) rfl rfl rfl rfl ?_
            refine r_gr (b := 15) (pc' := 66) rfl rfl sh_11 rfl pp_11_3 ?_
            refine r_ld (pc' := 68) rfl rfl rfl rfl ?_
            have hb86 := rd_15 hw (i := (z0 12 v64.toNat).toNat) (by omega)
            refine r_la (pc' := 69) rfl rfl sh_15 rfl (by omega) (by omega) (hst.2.2.2 _ _ (notS_c (by omega) (notS_c (by omega) (notS_c (by omega) (notS_c (by omega) notS_n))))) ?_
            refine r_lc1 (pc' := 70) rfl rfl ?_
            refine r_lne (pc' := 74) rfl rfl rfl ⟨by omega, by omega⟩ ⟨by decide, by decide⟩ (fun hc87 => ?_) (fun hc87 => ?_)
            · skip
              refine r_inc (pc' := 118) (lv' := [(5, _), (4, _), (0, _), (1, _), (2, _)]) rfl rfl rfl rfl rfl ?_
              refine r_go rfl ?_
              have hb88 := rd_R_2 (k := rk) (by omega) hst.1
              have hb89 := rd_R_3 (k := rk) (by omega) hst.1
              have hb90 := rd_R_4 (k := rk) (by omega) hst.1
              have hb91 := rd_R_5 (k := rk) (by omega) hst.1
              exact w_lv (sub_c rfl (sub_c rfl (sub_c rfl (sub_c rfl sub_n)))) rfl (ih0 x2 (x3 + 1) z w ⟨by omega, by omega⟩ ⟨by omega, by omega⟩ hst (by first | exact NBC_0 | exact NBC_n as1 (by omega) (fun q => by have := hco.mp q; omega) | (have hx2 : x2 = 1 := by omega); (subst hx2; simp only []; exact NBC_b as1 (by omega) (hco.mpr ⟨by omega, by omega, by omega⟩) rfl) | (have hx2 : x2 = 0 := by omega); (subst hx2; simp only []; exact NBC_a as1 (by omega) (hco.mpr ⟨by omega, by omega, by omega⟩) rfl (by rw [hb17]) (by rw [hb28]))) (by first | omega | assumption) (by omega))
            · skip
              refine r_ld (pc' := 75) rfl rfl rfl rfl ?_
              refine r_zeq (pc' := 78) rfl rfl ⟨by omega, by omega⟩ (fun hc92 => ?_) (fun hc92 => ?_)
              · skip
                refine r_ld (pc' := 92) rfl rfl rfl rfl ?_
                refine r_ld (pc' := 93) rfl rfl rfl rfl ?_
                refine r_gr (b := 12) (pc' := 96) rfl rfl sh_11 rfl pp_11_0 ?_
                refine r_ld (pc' := 97) rfl rfl rfl rfl ?_
                refine r_ia (pc' := 98) rfl rfl sh_12 rfl (by omega) (by omega) (hst.2.2.1 _ _ (notS_c (by omega) (notS_c (by omega) (notS_c (by omega) (notS_c (by omega) notS_n))))) ?_
                refine r_pi (pc' := 101) rfl rfl (sh_R (k := rk) (by omega)) rfl rfl hst (inS_0 (by omega) (by omega) (by omega) (by omega)) (wr_R_2 (k := rk) (by omega) ⟨by omega, by omega⟩) (fun z93 hq94 hs95 => ?_)
                refine r_ld (pc' := 102) rfl rfl rfl rfl ?_
                refine r_ld (pc' := 104) rfl rfl rfl rfl ?_
                refine r_pi (pc' := 107) rfl rfl (sh_R (k := rk) (by omega)) rfl rfl hs95 (inS_s (inS_0 (by omega) (by omega) (by omega) (by omega))) (wr_R_5 (k := rk) (by omega) ⟨by omega, by omega⟩) (fun z96 hq97 hs98 => ?_)
                refine r_ld (pc' := 108) rfl rfl rfl rfl ?_
                refine r_ld (pc' := 110) rfl rfl rfl rfl ?_
                refine r_pi (pc' := 113) rfl rfl (sh_R (k := rk) (by omega)) rfl rfl hs98 (inS_s (inS_s (inS_0 (by omega) (by omega) (by omega) (by omega)))) (wr_R_4 (k := rk) (by omega) ⟨by omega, by omega⟩) (fun z99 hq100 hs101 => ?_)
                refine r_c0 (pc' := 114) rfl rfl ?_
                refine r_st (pc' := 115) (lv' := [(2, _), (5, _), (4, _), (0, _), (1, _), (3, _)]) rfl rfl rfl rfl ?_
                refine r_inc (pc' := 118) (lv' := [(2, _), (5, _), (4, _), (0, _), (1, _)]) rfl rfl rfl rfl rfl ?_
                refine r_go rfl ?_
                have hf102 : z99 (17 + 2 * rk) 2 = z0 12 x3.toNat := (((congrFun (congrFun hq100 _) _).trans (mu_ne (by omega))).trans (((congrFun (congrFun hq97 _) _).trans (mu_ne (by omega))).trans ((congrFun (congrFun hq94 _) _).trans mu_eq)))
                have hb103 := rd_R_3 (k := rk) (by omega) hst.1
                have hf104 : z99 (17 + 2 * rk) 3 = z (17 + 2 * rk) 3 := (((congrFun (congrFun hq100 _) _).trans (mu_ne (by omega))).trans (((congrFun (congrFun hq97 _) _).trans (mu_ne (by omega))).trans ((congrFun (congrFun hq94 _) _).trans (mu_ne (by omega)))))
                have hf105 : z99 (17 + 2 * rk) 4 = z0 12 v64.toNat := ((congrFun (congrFun hq100 _) _).trans mu_eq)
                have hf106 : z99 (17 + 2 * rk) 5 = z0 12 v55.toNat := (((congrFun (congrFun hq100 _) _).trans (mu_ne (by omega))).trans ((congrFun (congrFun hq97 _) _).trans mu_eq))
                exact w_lv (sub_c rfl (sub_c rfl (sub_c rfl (sub_c rfl sub_n)))) rfl (ih0 1 (x3 + 1) z99 w ⟨by omega, by omega⟩ ⟨by omega, by omega⟩ hs101 (by first | exact NBC_0 | exact NBC_n as1 (by omega) (fun q => by have := hco.mp q; omega) | (have hx2 : x2 = 1 := by omega); (subst hx2; simp only [hf102, hf104, hf105, hf106]; exact NBC_b as1 (by omega) (hco.mpr ⟨by omega, by omega, by omega⟩) rfl) | (have hx2 : x2 = 0 := by omega); (subst hx2; simp only [hf102, hf104, hf105, hf106]; exact NBC_a as1 (by omega) (hco.mpr ⟨by omega, by omega, by omega⟩) rfl (by rw [hb17]) (by rw [hb28]))) (by first | omega | assumption | (simp only [hf102, hf104, hf105, hf106]; assumption)) (by omega))
              · skip
                refine r_ld (pc' := 79) rfl rfl rfl rfl ?_
                refine r_ld (pc' := 80) rfl rfl rfl rfl ?_
                refine r_gr (b := 12) (pc' := 83) rfl rfl sh_11 rfl pp_11_0 ?_
                refine r_ld (pc' := 84) rfl rfl rfl rfl ?_
                refine r_ia (pc' := 85) rfl rfl sh_12 rfl (by omega) (by omega) (hst.2.2.1 _ _ (notS_c (by omega) (notS_c (by omega) (notS_c (by omega) (notS_c (by omega) notS_n))))) ?_
                refine r_pi (pc' := 88) rfl rfl (sh_R (k := rk) (by omega)) rfl rfl hst (inS_s (inS_s (inS_s (inS_0 (by omega) (by omega) (by omega) (by omega))))) (wr_R_3 (k := rk) (by omega) ⟨by omega, by omega⟩) (fun z107 hq108 hs109 => ?_)
                refine r_go rfl ?_
                refine r_inc (pc' := 118) (lv' := [(5, _), (4, _), (0, _), (1, _), (2, _)]) rfl rfl rfl rfl rfl ?_
                refine r_go rfl ?_
                have hb110 := rd_R_2 (k := rk) (by omega) hst.1
                have hf111 : z107 (17 + 2 * rk) 2 = z (17 + 2 * rk) 2 := ((congrFun (congrFun hq108 _) _).trans (mu_ne (by omega)))
                have hf112 : z107 (17 + 2 * rk) 3 = z0 12 x3.toNat := ((congrFun (congrFun hq108 _) _).trans mu_eq)
                have hb113 := rd_R_4 (k := rk) (by omega) hst.1
                have hf114 : z107 (17 + 2 * rk) 4 = z (17 + 2 * rk) 4 := ((congrFun (congrFun hq108 _) _).trans (mu_ne (by omega)))
                have hb115 := rd_R_5 (k := rk) (by omega) hst.1
                have hf116 : z107 (17 + 2 * rk) 5 = z (17 + 2 * rk) 5 := ((congrFun (congrFun hq108 _) _).trans (mu_ne (by omega)))
                exact w_lv (sub_c rfl (sub_c rfl (sub_c rfl (sub_c rfl sub_n)))) rfl (ih0 x2 (x3 + 1) z107 w ⟨by omega, by omega⟩ ⟨by omega, by omega⟩ hs109 (by first | exact NBC_0 | exact NBC_n as1 (by omega) (fun q => by have := hco.mp q; omega) | (have hx2 : x2 = 1 := by omega); (subst hx2; simp only [hf111, hf112, hf114, hf116]; exact NBC_b as1 (by omega) (hco.mpr ⟨by omega, by omega, by omega⟩) rfl) | (have hx2 : x2 = 0 := by omega); (subst hx2; simp only [hf111, hf112, hf114, hf116]; exact NBC_a as1 (by omega) (hco.mpr ⟨by omega, by omega, by omega⟩) rfl (by rw [hb17]) (by rw [hb28]))) (by first | omega | assumption | (simp only [hf111, hf112, hf114, hf116]; assumption)) (by omega))
  refine w_m rfl rfl ?_
  refine r_c0 (pc' := 1) rfl rfl ?_
  refine r_st (pc' := 2) (lv' := [(2, _), (0, _), (1, _)]) rfl rfl rfl rfl ?_
  refine r_c0 (pc' := 3) rfl rfl ?_
  refine r_st (pc' := 4) (lv' := [(3, _), (2, _), (0, _), (1, _)]) rfl rfl rfl rfl ?_
  have hb117 := rd_R_2 (k := rk) (by omega) hz
  have hb118 := rd_R_3 (k := rk) (by omega) hz
  have hb119 := rd_R_4 (k := rk) (by omega) hz
  have hb120 := rd_R_5 (k := rk) (by omega) hz
  exact w_lv (sub_c rfl (sub_c rfl (sub_c rfl (sub_c rfl sub_n)))) rfl ((key ((70 * (36 - 0) + 65 : Int).toNat + 1)) 0 0 z0 w0 ⟨by omega, by omega⟩ ⟨by omega, by omega⟩ hst (by first | exact NBC_0 | exact NBC_n as1 (by omega) (fun q => by have := hco.mp q; omega) | (have hx2 : x2 = 1 := by omega); (subst hx2; simp only []; exact NBC_b as1 (by omega) (hco.mpr ⟨by omega, by omega, by omega⟩) rfl) | (have hx2 : x2 = 0 := by omega); (subst hx2; simp only []; exact NBC_a as1 (by omega) (hco.mpr ⟨by omega, by omega, by omega⟩) rfl (by rw [hb17]) (by rw [hb28]))) (by first | omega | assumption) (by omega))
/-- Shortener firstToFlip -/
abbrev S_57v  : mS := [(11, 11, 6, 6), (11, 11, 7, 7), (11, 11, 8, 8), (11, 11, 9, 9), (11, 11, 10, 10)]
abbrev E_57v (t : Nat) (z0 w0 : mZ) (x y tx it mt tt ct : Option Nat) : Int → mZ → mZ → mP → Prop := fun v z w p => p = (pq x y tx it mt tt ct) ∧ (-1) ≤ v ∧ v ≤ 17 ∧ (v = -1 ∨ (0 ≤ v ∧ v < z0 t 1 ∧ z0 13 v.toNat / 3 ≠ z0 14 v.toNat / 3 ∧ LRq z0 z w0 w v.toNat ∧ w 11 10 < w0 15 v.toNat))
theorem m_57v {d : Nat} {z0 w0 : mZ} {x y tx it mt tt ct : Option Nat} (t : Nat) (hz : rz z0) (hw : rw_ w0) (ht : isT t) (hsd : SD (z0 t 0) (z0 t 1) (z0 12) (z0 13) (z0 14)) (hsl : z0 11 4 = 3 * z0 t 0 ∧ z0 11 5 = z0 t 1) (hn0 : ∀ e : Nat, e < 18 → 0 ≤ w0 15 e ∧ w0 15 e ≤ 1782) : wc (d + 3) 57 [.ref 11] (mk z0 w0 (pq x y tx it mt tt ct)) (poI S_57v z0 w0 (E_57v t z0 w0 x y tx it mt tt ct)) := by
  have hst : st_ S_57v z0 w0 z0 w0 := st_rf hz hw
  have htb : 159 ≤ t ∧ t ≤ 192 := by have := ht; unfold isT at this; omega
  have hz28 := rd_11_4 hz
  have hz29 := rd_11_5 hz
  have hz30 := rd_T_0 ht hz
  have hz31 := rd_T_1 ht hz
  have hzt0 := rd_T_0 ht hz
  have hzt1 := rd_T_1 ht hz
  have key : ∀ N : Nat, (∀ (x1 : Int) (z w : mZ), 0 ≤ x1 ∧ x1 ≤ 18 → st_ S_57v z0 w0 z w → 36 * (18 - x1) + 33 < (N : Int) → wp_ (d + 2) 57 2 (some .int) (2, [(0, .ref 11), (1, .int (Int32.ofInt x1))], [], mk z w (pq x y tx it mt tt ct)) (poI S_57v z0 w0 (E_57v t z0 w0 x y tx it mt tt ct))) := by
    intro N
    induction N with
    | zero =>
      intro x1 z w
      intros; exfalso; omega
    | succ N ih =>
      have ih0 := ih; clear ih
      intro x1 z w  hx1 hst hM
      have e12 : z 12 = z0 12 := funext fun i => hst.2.2.1 _ _ (notS_c (by omega) (notS_c (by omega) (notS_c (by omega) (notS_c (by omega) (notS_c (by omega) (notS_n))))))
      have e13 : z 13 = z0 13 := funext fun i => hst.2.2.1 _ _ (notS_c (by omega) (notS_c (by omega) (notS_c (by omega) (notS_c (by omega) (notS_c (by omega) (notS_n))))))
      have e14 : z 14 = z0 14 := funext fun i => hst.2.2.1 _ _ (notS_c (by omega) (notS_c (by omega) (notS_c (by omega) (notS_c (by omega) (notS_c (by omega) (notS_n))))))
      have e15 : w 15 = w0 15 := funext fun i => hst.2.2.2 _ _ (notS_c (by omega) (notS_c (by omega) (notS_c (by omega) (notS_c (by omega) (notS_c (by omega) (notS_n))))))
      have gt0 : z t 0 = z0 t 0 := hst.2.2.1 _ _ (notS_c (by omega) (notS_c (by omega) (notS_c (by omega) (notS_c (by omega) (notS_c (by omega) (notS_n))))))
      have gt1 : z t 1 = z0 t 1 := hst.2.2.1 _ _ (notS_c (by omega) (notS_c (by omega) (notS_c (by omega) (notS_c (by omega) (notS_c (by omega) (notS_n))))))
      refine r_ld (pc' := 3) rfl rfl rfl rfl ?_
      refine r_ld (pc' := 4) rfl rfl rfl rfl ?_
      have hb32 := rd_11_5 hz
      refine r_gi (pc' := 7) rfl rfl sh_11 rfl (hst.2.2.1 _ _ (notS_c (by omega) (notS_c (by omega) (notS_c (by omega) (notS_c (by omega) (notS_c (by omega) notS_n)))))) ?_
      refine r_ige (pc' := 10) rfl rfl ⟨by omega, by omega⟩ ⟨by omega, by omega⟩ (fun hc33 => ?_) (fun hc33 => ?_)
      · skip
        refine r_c0 (pc' := 57) rfl rfl ?_
        have hb34 := rd_11_10 hst.2.1
        exact r_ri rfl (po_I hst ⟨by decide, by decide⟩ ⟨rfl, by omega, by omega, (by first | (left; omega) | exact Or.inr ⟨by omega, by omega, by omega, hlr, by omega⟩)⟩)
      · skip
        refine r_ld (pc' := 11) rfl rfl rfl rfl ?_
        refine r_gr (b := 13) (pc' := 14) rfl rfl sh_11 rfl pp_11_1 ?_
        refine r_ld (pc' := 15) rfl rfl rfl rfl ?_
        have hb35 := rd_13 hz (i := x1.toNat) (by omega)
        refine r_ia (pc' := 16) rfl rfl sh_13 rfl (by omega) (by omega) (hst.2.2.1 _ _ (notS_c (by omega) (notS_c (by omega) (notS_c (by omega) (notS_c (by omega) (notS_c (by omega) notS_n)))))) ?_
        refine r_c0 (pc' := 17) rfl rfl ?_
        refine r_dvg (pc' := 18) rfl rfl ⟨by omega, by omega⟩ ⟨by decide, by decide⟩ (by decide) (fun v36 h37 h38 => ?_)
        refine r_ld (pc' := 19) rfl rfl rfl rfl ?_
        refine r_gr (b := 14) (pc' := 22) rfl rfl sh_11 rfl pp_11_2 ?_
        refine r_ld (pc' := 23) rfl rfl rfl rfl ?_
        have hb39 := rd_14 hz (i := x1.toNat) (by omega)
        refine r_ia (pc' := 24) rfl rfl sh_14 rfl (by omega) (by omega) (hst.2.2.1 _ _ (notS_c (by omega) (notS_c (by omega) (notS_c (by omega) (notS_c (by omega) (notS_c (by omega) notS_n)))))) ?_
        refine r_c0 (pc' := 25) rfl rfl ?_
        refine r_dv (pc' := 26) (v := (z0 14 x1.toNat) / 3) rfl rfl ⟨by omega, by omega⟩ ⟨by decide, by decide⟩ (by decide) (tdiv_n (by omega)) ?_
        refine r_ieq (pc' := 29) rfl rfl ⟨by omega, by omega⟩ ⟨by omega, by omega⟩ (fun hc40 => ?_) (fun hc40 => ?_)
        · skip
          refine r_inc (pc' := 53) (lv' := [(0, _)]) rfl rfl rfl rfl rfl ?_
          refine r_go rfl ?_
          exact w_lv (sub_c rfl (sub_c rfl sub_n)) rfl (ih0 (x1 + 1) z w ⟨by omega, by omega⟩ hst (by omega))
        · skip
          refine r_ld (pc' := 30) rfl rfl rfl rfl ?_
          refine r_ld (pc' := 31) rfl rfl rfl rfl ?_
          have hb41 := rd_T_0 ht hz
          have hf42 : z t 0 = z0 t 0 := (hst.2.2.1 _ _ (notS_c (by omega) (notS_c (by omega) (notS_c (by omega) (notS_c (by omega) (notS_c (by omega) notS_n))))))
          have hb43 := rd_T_1 ht hz
          have hf44 : z t 1 = z0 t 1 := (hst.2.2.1 _ _ (notS_c (by omega) (notS_c (by omega) (notS_c (by omega) (notS_c (by omega) (notS_c (by omega) notS_n))))))
          have hF45 : z 12 = z0 12 := (funext fun _ => hst.2.2.1 _ _ (notS_c (by omega) (notS_c (by omega) (notS_c (by omega) (notS_c (by omega) (notS_c (by omega) notS_n))))))
          have hF46 : z 13 = z0 13 := (funext fun _ => hst.2.2.1 _ _ (notS_c (by omega) (notS_c (by omega) (notS_c (by omega) (notS_c (by omega) (notS_c (by omega) notS_n))))))
          have hF47 : z 14 = z0 14 := (funext fun _ => hst.2.2.1 _ _ (notS_c (by omega) (notS_c (by omega) (notS_c (by omega) (notS_c (by omega) (notS_c (by omega) notS_n))))))
          refine r_cVV (pc' := 34) rfl rfl rfl rfl rfl sh_11 (m_58v (d := d) t x1 hst.1 hst.2.1 ⟨by omega, by omega⟩ ht (by rw [gt0, gt1, e12, e13, e14]; exact hsd) (by first | omega | assumption | (simp only [hF45, hF46, hF47, hf42, hf44]; assumption)) (by rw [e15]; exact hn0)) (fun z49 w50 p51 hs53 hE54 => ?_)
          have hs55 := st_tr hst hs53 (sub_B rfl)
          obtain ⟨rfl, hE54⟩ := hE54
          have hlr := hE54
          unfold LRq at hlr
          rw [e12, e13, e14, e15] at hlr
          refine r_ld (pc' := 35) rfl rfl rfl rfl ?_
          have hb56 := rd_11_10 hs55.2.1
          refine r_gl (pc' := 38) rfl rfl sh_11 rfl rfl ?_
          refine r_ld (pc' := 39) rfl rfl rfl rfl ?_
          refine r_gr (b := 15) (pc' := 42) rfl rfl sh_11 rfl pp_11_3 ?_
          refine r_ld (pc' := 43) rfl rfl rfl rfl ?_
          have hb57 := rd_15 hw (i := x1.toNat) (by omega)
          refine r_la (pc' := 44) rfl rfl sh_15 rfl (by omega) (by omega) ((hs53.2.2.2 _ _ (notS_c (by omega) (notS_c (by omega) (notS_c (by omega) (notS_c (by omega) (notS_c (by omega) notS_n)))))).trans (hst.2.2.2 _ _ (notS_c (by omega) (notS_c (by omega) (notS_c (by omega) (notS_c (by omega) (notS_c (by omega) notS_n))))))) ?_
          refine r_lge (pc' := 48) rfl rfl rfl ⟨by omega, by omega⟩ ⟨by omega, by omega⟩ (fun hc58 => ?_) (fun hc58 => ?_)
          · skip
            refine r_inc (pc' := 53) (lv' := [(0, _)]) rfl rfl rfl rfl rfl ?_
            refine r_go rfl ?_
            exact w_lv (sub_c rfl (sub_c rfl sub_n)) rfl (ih0 (x1 + 1) z49 w50 ⟨by omega, by omega⟩ hs55 (by omega))
          · skip
            refine r_ld (pc' := 49) rfl rfl rfl rfl ?_
            exact r_ri rfl (po_I hs55 ⟨by omega, by omega⟩ ⟨rfl, by omega, by omega, (by first | (left; omega) | exact Or.inr ⟨by omega, by omega, by omega, hlr, by omega⟩)⟩)
  refine w_m rfl rfl ?_
  refine r_c0 (pc' := 1) rfl rfl ?_
  refine r_st (pc' := 2) (lv' := [(1, _), (0, _)]) rfl rfl rfl rfl ?_
  exact w_lv (sub_c rfl (sub_c rfl sub_n)) rfl ((key ((36 * (18 - 0) + 33 : Int).toNat + 1)) 0 z0 w0 ⟨by omega, by omega⟩ hst (by omega))
/-- Shortener shorten -/
abbrev S_54 (rk : Nat) : mS := [(11, 11, 6, 6), (11, 11, 7, 7), (11, 11, 8, 8), (11, 11, 9, 9), (11, 11, 10, 10), (18 + 2 * rk, 18 + 2 * rk, 0, 1781), (17 + 2 * rk, 17 + 2 * rk, 1, 1), (15, 15, 0, 17), (12, 12, 0, 35), (13, 13, 0, 17), (14, 14, 0, 17), (17 + 2 * rk, 17 + 2 * rk, 0, 0), (17 + 2 * rk, 17 + 2 * rk, 2, 2), (17 + 2 * rk, 17 + 2 * rk, 5, 5), (17 + 2 * rk, 17 + 2 * rk, 4, 4), (17 + 2 * rk, 17 + 2 * rk, 3, 3)]
abbrev E_54 (t : Nat) (rk : Nat) (z0 w0 : mZ) (x y tx it mt tt ct : Option Nat) : mZ → mZ → mP → Prop := fun z w p => p = (pq x y tx it mt tt ct) ∧ (GRt z0 z t rk)
theorem m_54 {d : Nat} {z0 w0 : mZ} {x y tx it mt tt ct : Option Nat} (t : Nat) (rk : Nat) (hz : rz z0) (hw : rw_ w0) (hrk : rk < 8) (ht : isT t) (hsl : z0 11 4 = 3 * z0 t 0 ∧ z0 11 5 = z0 t 1) (hsh : SHI (z0 t 0) (z0 t 1) (z0 (t + 1)) (z0 12) (w0 15) (cfR (z0 (18 + 2 * rk))) 0) (hsd : SD (z0 t 0) (z0 t 1) (z0 12) (z0 13) (z0 14)) (hrc : z0 (17 + 2 * rk) 1 = 0) : wc (d + 4) 54 [.ref 11, .ref (17 + 2 * rk)] (mk z0 w0 (pq x y tx it mt tt ct)) (poV (S_54 rk) z0 w0 (E_54 t rk z0 w0 x y tx it mt tt ct)) := by
  have hst : st_ (S_54 rk) z0 w0 z0 w0 := st_rf hz hw
  have htb : 159 ≤ t ∧ t ≤ 192 := by have := ht; unfold isT at this; omega
  have hz109 := rd_11_4 hz
  have hz110 := rd_11_5 hz
  have hz111 := rd_T_0 ht hz
  have hz112 := rd_T_1 ht hz
  have hzt0 := rd_T_0 ht hz
  have hzt1 := rd_T_1 ht hz
  have key : ∀ N : Nat, (∀ (x2 : Int) (z w : mZ), 0 ≤ x2 ∧ x2 ≤ 1782 → st_ (S_54 rk) z0 w0 z w → (SHI (z0 t 0) (z0 t 1) (z0 (t + 1)) (z 12) (w 15) (cfR (z (18 + 2 * rk))) x2) → (SD (z0 t 0) (z0 t 1) (z 12) (z 13) (z 14)) → (z (17 + 2 * rk) 1 = x2) → 62 * (1782 - x2) + 59 < (N : Int) → wp_ (d + 3) 54 4 none (2, [(0, .ref 11), (1, .ref (17 + 2 * rk)), (2, .int (Int32.ofInt x2))], [], mk z w (pq x y tx it mt tt ct)) (poV (S_54 rk) z0 w0 (E_54 t rk z0 w0 x y tx it mt tt ct))) ∧ (∀ (z w : mZ), st_ (S_54 rk) z0 w0 z w → (SHI (z0 t 0) (z0 t 1) (z0 (t + 1)) (z 12) (w 15) (cfR (z (18 + 2 * rk))) (z (17 + 2 * rk) 1)) → ((∀ e : Nat, (e : Int) < z0 t 1 → w 15 e ≤ 1) ∧ sm (w 15) (z0 t 1).toNat = 2) → 6 < (N : Int) → wp_ (d + 3) 54 4 none (94, [(0, .ref 11), (1, .ref (17 + 2 * rk))], [], mk z w (pq x y tx it mt tt ct)) (poV (S_54 rk) z0 w0 (E_54 t rk z0 w0 x y tx it mt tt ct))) := by
    intro N
    induction N with
    | zero =>
      refine ⟨?_, ?_⟩
      · intro x2 z w
        intros; exfalso; omega
      · intro  z w
        intros; exfalso; omega
    | succ N ih =>
      obtain ⟨ih0, ih1⟩ := ih
      refine ⟨?_, ?_⟩
      · intro x2 z w  hx2 hst as1 as2 as3 hM
        have gt0 : z t 0 = z0 t 0 := hst.2.2.1 _ _ (notS_c (by omega) (notS_c (by omega) (notS_c (by omega) (notS_c (by omega) (notS_c (by omega) (notS_c (by omega) (notS_c (by omega) (notS_c (by omega) (notS_c (by omega) (notS_c (by omega) (notS_c (by omega) (notS_c (by omega) (notS_c (by omega) (notS_c (by omega) (notS_c (by omega) (notS_c (by omega) (notS_n)))))))))))))))))
        have gt1 : z t 1 = z0 t 1 := hst.2.2.1 _ _ (notS_c (by omega) (notS_c (by omega) (notS_c (by omega) (notS_c (by omega) (notS_c (by omega) (notS_c (by omega) (notS_c (by omega) (notS_c (by omega) (notS_c (by omega) (notS_c (by omega) (notS_c (by omega) (notS_c (by omega) (notS_c (by omega) (notS_c (by omega) (notS_c (by omega) (notS_c (by omega) (notS_n)))))))))))))))))
        have g114 : z 11 4 = z0 11 4 := hst.2.2.1 _ _ (notS_c (by omega) (notS_c (by omega) (notS_c (by omega) (notS_c (by omega) (notS_c (by omega) (notS_c (by omega) (notS_c (by omega) (notS_c (by omega) (notS_c (by omega) (notS_c (by omega) (notS_c (by omega) (notS_c (by omega) (notS_c (by omega) (notS_c (by omega) (notS_c (by omega) (notS_c (by omega) (notS_n)))))))))))))))))
        have g115 : z 11 5 = z0 11 5 := hst.2.2.1 _ _ (notS_c (by omega) (notS_c (by omega) (notS_c (by omega) (notS_c (by omega) (notS_c (by omega) (notS_c (by omega) (notS_c (by omega) (notS_c (by omega) (notS_c (by omega) (notS_c (by omega) (notS_c (by omega) (notS_c (by omega) (notS_c (by omega) (notS_c (by omega) (notS_c (by omega) (notS_c (by omega) (notS_n)))))))))))))))))
        have hnb := SHI_b as1
        refine r_ld (pc' := 3) rfl rfl rfl rfl ?_
        refine r_cs (pc' := 6) rfl (by decide) rfl ?_
        refine r_ige (pc' := 9) rfl rfl ⟨by omega, by omega⟩ ⟨by decide, by decide⟩ (fun hc113 => ?_) (fun hc113 => ?_)
        · skip
          have hb114 := rd_R_1 (k := rk) (by omega) hst.1
          exact w_lv (sub_c rfl (sub_c rfl sub_n)) rfl (ih1 z w hst (by first | exact (SHI_max as1 (by omega)).elim | (rw [as3]; exact as1)) (by first | exact his (by omega) | exact (SHI_max as1 (by omega)).elim) (by omega))
        · skip
          refine r_ld (pc' := 10) rfl rfl rfl rfl ?_
          have hb115 := rd_11_4 hz
          have hf116 : z 11 4 = z0 11 4 := (hst.2.2.1 _ _ (notS_c (by omega) (notS_c (by omega) (notS_c (by omega) (notS_c (by omega) (notS_c (by omega) (notS_c (by omega) (notS_c (by omega) (notS_c (by omega) (notS_c (by omega) (notS_c (by omega) (notS_c (by omega) (notS_c (by omega) (notS_c (by omega) (notS_c (by omega) (notS_c (by omega) (notS_c (by omega) notS_n)))))))))))))))))
          have hb117 := rd_T_0 ht hz
          have hf118 : z t 0 = z0 t 0 := (hst.2.2.1 _ _ (notS_c (by omega) (notS_c (by omega) (notS_c (by omega) (notS_c (by omega) (notS_c (by omega) (notS_c (by omega) (notS_c (by omega) (notS_c (by omega) (notS_c (by omega) (notS_c (by omega) (notS_c (by omega) (notS_c (by omega) (notS_c (by omega) (notS_c (by omega) (notS_c (by omega) (notS_c (by omega) notS_n)))))))))))))))))
          have hb119 := rd_11_5 hz
          have hf120 : z 11 5 = z0 11 5 := (hst.2.2.1 _ _ (notS_c (by omega) (notS_c (by omega) (notS_c (by omega) (notS_c (by omega) (notS_c (by omega) (notS_c (by omega) (notS_c (by omega) (notS_c (by omega) (notS_c (by omega) (notS_c (by omega) (notS_c (by omega) (notS_c (by omega) (notS_c (by omega) (notS_c (by omega) (notS_c (by omega) (notS_c (by omega) notS_n)))))))))))))))))
          have hb121 := rd_T_1 ht hz
          have hf122 : z t 1 = z0 t 1 := (hst.2.2.1 _ _ (notS_c (by omega) (notS_c (by omega) (notS_c (by omega) (notS_c (by omega) (notS_c (by omega) (notS_c (by omega) (notS_c (by omega) (notS_c (by omega) (notS_c (by omega) (notS_c (by omega) (notS_c (by omega) (notS_c (by omega) (notS_c (by omega) (notS_c (by omega) (notS_c (by omega) (notS_c (by omega) notS_n)))))))))))))))))
          refine r_cVI (pc' := 13) rfl rfl rfl rfl rfl sh_11 (m_56v (d := d + 2) t hst.1 hst.2.1 ht (by first | omega | assumption | (simp only [hf116, hf118, hf120, hf122]; assumption)) (by exact hnb)) (fun v123 z124 w125 p126 h127 hs128 hE129 => ?_)
          obtain ⟨rfl, rfl, rfl, hE129⟩ := hE129
          have his := hE129.2.2
          rw [gt1] at his
          refine r_zne (pc' := 16) rfl rfl ⟨by omega, by omega⟩ (fun hc131 => ?_) (fun hc131 => ?_)
          · skip
            have hb132 := rd_R_1 (k := rk) (by omega) hst.1
            exact w_lv (sub_c rfl (sub_c rfl sub_n)) rfl (ih1 z w hst (by first | exact (SHI_max as1 (by omega)).elim | (rw [as3]; exact as1)) (by first | exact his (by omega) | exact (SHI_max as1 (by omega)).elim) (by omega))
          · skip
            refine r_ld (pc' := 17) rfl rfl rfl rfl ?_
            have hf133 : z t 0 = z0 t 0 := (hst.2.2.1 _ _ (notS_c (by omega) (notS_c (by omega) (notS_c (by omega) (notS_c (by omega) (notS_c (by omega) (notS_c (by omega) (notS_c (by omega) (notS_c (by omega) (notS_c (by omega) (notS_c (by omega) (notS_c (by omega) (notS_c (by omega) (notS_c (by omega) (notS_c (by omega) (notS_c (by omega) (notS_c (by omega) notS_n)))))))))))))))))
            have hf134 : z t 1 = z0 t 1 := (hst.2.2.1 _ _ (notS_c (by omega) (notS_c (by omega) (notS_c (by omega) (notS_c (by omega) (notS_c (by omega) (notS_c (by omega) (notS_c (by omega) (notS_c (by omega) (notS_c (by omega) (notS_c (by omega) (notS_c (by omega) (notS_c (by omega) (notS_c (by omega) (notS_c (by omega) (notS_c (by omega) (notS_c (by omega) notS_n)))))))))))))))))
            have hf135 : z 11 4 = z0 11 4 := (hst.2.2.1 _ _ (notS_c (by omega) (notS_c (by omega) (notS_c (by omega) (notS_c (by omega) (notS_c (by omega) (notS_c (by omega) (notS_c (by omega) (notS_c (by omega) (notS_c (by omega) (notS_c (by omega) (notS_c (by omega) (notS_c (by omega) (notS_c (by omega) (notS_c (by omega) (notS_c (by omega) (notS_c (by omega) notS_n)))))))))))))))))
            have hf136 : z 11 5 = z0 11 5 := (hst.2.2.1 _ _ (notS_c (by omega) (notS_c (by omega) (notS_c (by omega) (notS_c (by omega) (notS_c (by omega) (notS_c (by omega) (notS_c (by omega) (notS_c (by omega) (notS_c (by omega) (notS_c (by omega) (notS_c (by omega) (notS_c (by omega) (notS_c (by omega) (notS_c (by omega) (notS_c (by omega) (notS_c (by omega) notS_n)))))))))))))))))
            refine r_cVI (pc' := 20) rfl rfl rfl rfl rfl sh_11 (m_57v (d := d) t hst.1 hst.2.1 ht (by rw [gt0, gt1]; exact as2) (by first | omega | assumption | (simp only [hf133, hf134, hf135, hf136]; assumption)) (by exact hnb)) (fun v137 z138 w139 p140 h141 hs142 hE143 => ?_)
            have hs144 := st_tr hst hs142 (subS_c (fun _ _ _ _ _ _ => inS_0 (by omega) (by omega) (by omega) (by omega)) (subS_c (fun _ _ _ _ _ _ => inS_s (inS_0 (by omega) (by omega) (by omega) (by omega))) (subS_c (fun _ _ _ _ _ _ => inS_s (inS_s (inS_0 (by omega) (by omega) (by omega) (by omega)))) (subS_c (fun _ _ _ _ _ _ => inS_s (inS_s (inS_s (inS_0 (by omega) (by omega) (by omega) (by omega))))) (subS_c (fun _ _ _ _ _ _ => inS_s (inS_s (inS_s (inS_s (inS_0 (by omega) (by omega) (by omega) (by omega)))))) subS_n)))))
            obtain ⟨rfl, hE143⟩ := hE143
            have hff := hE143.2.2
            rw [gt1] at hff
            refine r_st (pc' := 21) (lv' := [(3, _), (0, _), (1, _), (2, _)]) rfl rfl rfl rfl ?_
            refine r_ld (pc' := 22) rfl rfl rfl rfl ?_
            refine r_c0 (pc' := 23) rfl rfl ?_
            refine r_ine (pc' := 26) rfl rfl ⟨by omega, by omega⟩ ⟨by decide, by decide⟩ (fun hc145 => ?_) (fun hc145 => ?_)
            · skip
              obtain ⟨f0, f1, f2, f3, f4⟩ := hff.resolve_left (by omega)
              have hff0 : ∀ i, z138 (18 + 2 * rk) i = z (18 + 2 * rk) i := fun i => (hs142.2.2.1 _ _ (notS_c (by omega) (notS_c (by omega) (notS_c (by omega) (notS_c (by omega) (notS_c (by omega) notS_n))))))
              have hz6 := rd_11_6 hs144.1
              have hz7 := rd_11_7 hs144.1
              have hz8 := rd_11_8 hs144.1
              have hz9 := rd_11_9 hs144.1
              refine r_ld (pc' := 33) rfl rfl rfl rfl ?_
              refine r_gr (b := 18 + 2 * rk) (pc' := 36) rfl rfl (sh_R (k := rk) (by omega)) rfl (pp_R (k := rk) (by omega)) ?_
              refine r_ld (pc' := 37) rfl rfl rfl rfl ?_
              have hb146 := rd_R_1 (k := rk) (by omega) hst.1
              refine r_gi (pc' := 40) rfl rfl (sh_R (k := rk) (by omega)) rfl (hs142.2.2.1 _ _ (notS_c (by omega) (notS_c (by omega) (notS_c (by omega) (notS_c (by omega) (notS_c (by omega) notS_n)))))) ?_
              refine r_ld (pc' := 41) rfl rfl rfl rfl ?_
              refine r_ld (pc' := 42) rfl rfl rfl rfl ?_
              have hb147 := rd_11_6 hs144.1
              refine r_gi (pc' := 45) rfl rfl sh_11 rfl rfl ?_
              refine r_c0 (pc' := 46) rfl rfl ?_
              refine r_shl (s := 5) (pc' := 47) rfl rfl (by decide) ?_
              refine r_or 5 (pc' := 48) rfl rfl (by omega) (by omega) (by omega) (by omega) (by omega) ?_
              refine r_ld (pc' := 49) rfl rfl rfl rfl ?_
              have hb148 := rd_11_7 hs144.1
              refine r_gi (pc' := 52) rfl rfl sh_11 rfl rfl ?_
              refine r_cb (pc' := 54) rfl (by decide) rfl ?_
              refine r_shl (s := 10) (pc' := 55) rfl rfl (by decide) ?_
              refine r_or 10 (pc' := 56) rfl rfl (by omega) (by omega) (by omega) (by omega) (by omega) ?_
              refine r_ld (pc' := 57) rfl rfl rfl rfl ?_
              have hb149 := rd_11_8 hs144.1
              refine r_gi (pc' := 60) rfl rfl sh_11 rfl rfl ?_
              refine r_cb (pc' := 62) rfl (by decide) rfl ?_
              refine r_shl (s := 15) (pc' := 63) rfl rfl (by decide) ?_
              refine r_or 15 (pc' := 64) rfl rfl (by omega) (by omega) (by omega) (by omega) (by omega) ?_
              refine r_ld (pc' := 65) rfl rfl rfl rfl ?_
              have hb150 := rd_11_9 hs144.1
              refine r_gi (pc' := 68) rfl rfl sh_11 rfl rfl ?_
              refine r_cb (pc' := 70) rfl (by decide) rfl ?_
              refine r_shl (s := 20) (pc' := 71) rfl rfl (by decide) ?_
              refine r_or 20 (pc' := 72) rfl rfl (by omega) (by omega) (by omega) (by omega) (by omega) ?_
              refine r_is (pc' := 73) rfl rfl (sh_RF (k := rk) (by omega)) rfl (by omega) (by omega) hs144 (inS_s (inS_s (inS_s (inS_s (inS_s (inS_0 (by omega) (by omega) (by omega) (by omega))))))) (wr_RF (k := rk) (by omega) (by unfold ok_f; omega)) (fun z151 hq152 hs153 => ?_)
              have hq72 := hq152
              refine r_ld (pc' := 74) rfl rfl rfl rfl ?_
              refine r_al (pc' := 75) rfl rfl rfl rfl ?_
              refine r_gi (pc' := 78) rfl rfl (sh_R (k := rk) (by omega)) rfl (((congrFun (congrFun hq152 _) _).trans (mu_ne (by omega))).trans (hs142.2.2.1 _ _ (notS_c (by omega) (notS_c (by omega) (notS_c (by omega) (notS_c (by omega) (notS_c (by omega) notS_n))))))) ?_
              refine r_c0 (pc' := 79) rfl rfl ?_
              refine r_add (pc' := 80) rfl rfl ?_
              refine r_pi (pc' := 83) rfl rfl (sh_R (k := rk) (by omega)) rfl rfl hs153 (inS_s (inS_s (inS_s (inS_s (inS_s (inS_s (inS_0 (by omega) (by omega) (by omega) (by omega)))))))) (wr_R_1 (k := rk) (by omega) ⟨by omega, by omega⟩) (fun z154 hq155 hs156 => ?_)
              refine r_ld (pc' := 84) rfl rfl rfl rfl ?_
              refine r_ld (pc' := 85) rfl rfl rfl rfl ?_
              have c12 : z154 12 = z 12 := funext fun i => (((congrFun (congrFun hq155 _) _).trans (mu_ne (by omega))).trans (((congrFun (congrFun hq152 _) _).trans (mu_ne (by omega))).trans (hs142.2.2.1 _ _ (notS_c (by omega) (notS_c (by omega) (notS_c (by omega) (notS_c (by omega) (notS_c (by omega) notS_n))))))))
              have c13 : z154 13 = z 13 := funext fun i => (((congrFun (congrFun hq155 _) _).trans (mu_ne (by omega))).trans (((congrFun (congrFun hq152 _) _).trans (mu_ne (by omega))).trans (hs142.2.2.1 _ _ (notS_c (by omega) (notS_c (by omega) (notS_c (by omega) (notS_c (by omega) (notS_c (by omega) notS_n))))))))
              have c14 : z154 14 = z 14 := funext fun i => (((congrFun (congrFun hq155 _) _).trans (mu_ne (by omega))).trans (((congrFun (congrFun hq152 _) _).trans (mu_ne (by omega))).trans (hs142.2.2.1 _ _ (notS_c (by omega) (notS_c (by omega) (notS_c (by omega) (notS_c (by omega) (notS_c (by omega) notS_n))))))))
              have c15 : w139 15 = w 15 := funext fun i => (hs142.2.2.2 _ _ (notS_c (by omega) (notS_c (by omega) (notS_c (by omega) (notS_c (by omega) (notS_c (by omega) notS_n))))))
              have c16 : z154 11 6 = z138 11 6 := (((congrFun (congrFun hq155 _) _).trans (mu_ne (by omega))).trans ((congrFun (congrFun hq152 _) _).trans (mu_ne (by omega))))
              have c17 : z154 11 7 = z138 11 7 := (((congrFun (congrFun hq155 _) _).trans (mu_ne (by omega))).trans ((congrFun (congrFun hq152 _) _).trans (mu_ne (by omega))))
              have c18 : z154 11 8 = z138 11 8 := (((congrFun (congrFun hq155 _) _).trans (mu_ne (by omega))).trans ((congrFun (congrFun hq152 _) _).trans (mu_ne (by omega))))
              have c19 : z154 11 9 = z138 11 9 := (((congrFun (congrFun hq155 _) _).trans (mu_ne (by omega))).trans ((congrFun (congrFun hq152 _) _).trans (mu_ne (by omega))))
              have c110 : w139 11 10 = w139 11 10 := rfl
              have ct0 : z154 t 0 = z0 t 0 := hs156.2.2.1 _ _ (notS_c (by omega) (notS_c (by omega) (notS_c (by omega) (notS_c (by omega) (notS_c (by omega) (notS_c (by omega) (notS_c (by omega) (notS_c (by omega) (notS_c (by omega) (notS_c (by omega) (notS_c (by omega) (notS_c (by omega) (notS_c (by omega) (notS_c (by omega) (notS_c (by omega) (notS_c (by omega) (notS_n)))))))))))))))))
              have ct1 : z154 t 1 = z0 t 1 := hs156.2.2.1 _ _ (notS_c (by omega) (notS_c (by omega) (notS_c (by omega) (notS_c (by omega) (notS_c (by omega) (notS_c (by omega) (notS_c (by omega) (notS_c (by omega) (notS_c (by omega) (notS_c (by omega) (notS_c (by omega) (notS_c (by omega) (notS_c (by omega) (notS_c (by omega) (notS_c (by omega) (notS_c (by omega) (notS_n)))))))))))))))))
              have hlr0 : LRq z154 z154 w139 w139 v137.toNat := by unfold LRq at f3 ⊢; rw [c12, c13, c14, c15, c16, c17, c18, c19, c110]; exact f3
              have hf157 : z154 t 0 = z0 t 0 := (((congrFun (congrFun hq155 _) _).trans (mu_ne (by omega))).trans (((congrFun (congrFun hq152 _) _).trans (mu_ne (by omega))).trans ((hs142.2.2.1 _ _ (notS_c (by omega) (notS_c (by omega) (notS_c (by omega) (notS_c (by omega) (notS_c (by omega) notS_n)))))).trans (hst.2.2.1 _ _ (notS_c (by omega) (notS_c (by omega) (notS_c (by omega) (notS_c (by omega) (notS_c (by omega) (notS_c (by omega) (notS_c (by omega) (notS_c (by omega) (notS_c (by omega) (notS_c (by omega) (notS_c (by omega) (notS_c (by omega) (notS_c (by omega) (notS_c (by omega) (notS_c (by omega) (notS_c (by omega) notS_n))))))))))))))))))))
              have hf158 : z154 t 1 = z0 t 1 := (((congrFun (congrFun hq155 _) _).trans (mu_ne (by omega))).trans (((congrFun (congrFun hq152 _) _).trans (mu_ne (by omega))).trans ((hs142.2.2.1 _ _ (notS_c (by omega) (notS_c (by omega) (notS_c (by omega) (notS_c (by omega) (notS_c (by omega) notS_n)))))).trans (hst.2.2.1 _ _ (notS_c (by omega) (notS_c (by omega) (notS_c (by omega) (notS_c (by omega) (notS_c (by omega) (notS_c (by omega) (notS_c (by omega) (notS_c (by omega) (notS_c (by omega) (notS_c (by omega) (notS_c (by omega) (notS_c (by omega) (notS_c (by omega) (notS_c (by omega) (notS_c (by omega) (notS_c (by omega) notS_n))))))))))))))))))))
              have hf159 : z154 11 4 = z0 11 4 := (((congrFun (congrFun hq155 _) _).trans (mu_ne (by omega))).trans (((congrFun (congrFun hq152 _) _).trans (mu_ne (by omega))).trans ((hs142.2.2.1 _ _ (notS_c (by omega) (notS_c (by omega) (notS_c (by omega) (notS_c (by omega) (notS_c (by omega) notS_n)))))).trans (hst.2.2.1 _ _ (notS_c (by omega) (notS_c (by omega) (notS_c (by omega) (notS_c (by omega) (notS_c (by omega) (notS_c (by omega) (notS_c (by omega) (notS_c (by omega) (notS_c (by omega) (notS_c (by omega) (notS_c (by omega) (notS_c (by omega) (notS_c (by omega) (notS_c (by omega) (notS_c (by omega) (notS_c (by omega) notS_n))))))))))))))))))))
              have hf160 : z154 11 5 = z0 11 5 := (((congrFun (congrFun hq155 _) _).trans (mu_ne (by omega))).trans (((congrFun (congrFun hq152 _) _).trans (mu_ne (by omega))).trans ((hs142.2.2.1 _ _ (notS_c (by omega) (notS_c (by omega) (notS_c (by omega) (notS_c (by omega) (notS_c (by omega) notS_n)))))).trans (hst.2.2.1 _ _ (notS_c (by omega) (notS_c (by omega) (notS_c (by omega) (notS_c (by omega) (notS_c (by omega) (notS_c (by omega) (notS_c (by omega) (notS_c (by omega) (notS_c (by omega) (notS_c (by omega) (notS_c (by omega) (notS_c (by omega) (notS_c (by omega) (notS_c (by omega) (notS_c (by omega) (notS_c (by omega) notS_n))))))))))))))))))))
              have hf161 : z154 11 6 = z138 11 6 := (((congrFun (congrFun hq155 _) _).trans (mu_ne (by omega))).trans ((congrFun (congrFun hq152 _) _).trans (mu_ne (by omega))))
              have hf162 : z154 11 7 = z138 11 7 := (((congrFun (congrFun hq155 _) _).trans (mu_ne (by omega))).trans ((congrFun (congrFun hq152 _) _).trans (mu_ne (by omega))))
              have hf163 : z154 11 8 = z138 11 8 := (((congrFun (congrFun hq155 _) _).trans (mu_ne (by omega))).trans ((congrFun (congrFun hq152 _) _).trans (mu_ne (by omega))))
              have hf164 : z154 11 9 = z138 11 9 := (((congrFun (congrFun hq155 _) _).trans (mu_ne (by omega))).trans ((congrFun (congrFun hq152 _) _).trans (mu_ne (by omega))))
              have hF165 : z154 12 = z 12 := (((congrFun hq155 _).trans (mu_fn (by omega))).trans (((congrFun hq152 _).trans (mu_fn (by omega))).trans (funext fun _ => hs142.2.2.1 _ _ (notS_c (by omega) (notS_c (by omega) (notS_c (by omega) (notS_c (by omega) (notS_c (by omega) notS_n))))))))
              have hF166 : z154 13 = z 13 := (((congrFun hq155 _).trans (mu_fn (by omega))).trans (((congrFun hq152 _).trans (mu_fn (by omega))).trans (funext fun _ => hs142.2.2.1 _ _ (notS_c (by omega) (notS_c (by omega) (notS_c (by omega) (notS_c (by omega) (notS_c (by omega) notS_n))))))))
              have hF167 : z154 14 = z 14 := (((congrFun hq155 _).trans (mu_fn (by omega))).trans (((congrFun hq152 _).trans (mu_fn (by omega))).trans (funext fun _ => hs142.2.2.1 _ _ (notS_c (by omega) (notS_c (by omega) (notS_c (by omega) (notS_c (by omega) (notS_c (by omega) notS_n))))))))
              have hF168 : w139 15 = w 15 := (funext fun _ => hs142.2.2.2 _ _ (notS_c (by omega) (notS_c (by omega) (notS_c (by omega) (notS_c (by omega) (notS_c (by omega) notS_n))))))
              refine r_cVV (pc' := 88) rfl rfl rfl rfl rfl sh_11 (m_59v (d := d + 1) t v137 hs156.1 hs156.2.1 ⟨by omega, by omega⟩ ht (by rw [ct0, ct1, c12]; exact as1.1) (by first | omega | assumption | (simp only [hF165, hF166, hF167, hF168, hf157, hf158, hf159, hf160, hf161, hf162, hf163, hf164]; assumption)) (by rw [ct0, ct1, c12, c13, c14]; exact as2) (by first | omega | assumption | (simp only [hF165, hF166, hF167, hF168, hf157, hf158, hf159, hf160, hf161, hf162, hf163, hf164]; assumption)) (by rw [c13, c14]; exact f2) (by exact hlr0)) (fun z170 w171 p172 hs174 hE175 => ?_)
              have hs176 := st_tr hs156 hs174 (subS_c (fun _ _ _ _ _ _ => inS_s (inS_s (inS_s (inS_s (inS_s (inS_s (inS_s (inS_0 (by omega) (by omega) (by omega) (by omega))))))))) (subS_c (fun _ _ _ _ _ _ => inS_s (inS_s (inS_s (inS_s (inS_s (inS_s (inS_s (inS_s (inS_0 (by omega) (by omega) (by omega) (by omega)))))))))) (subS_c (fun _ _ _ _ _ _ => inS_s (inS_s (inS_s (inS_s (inS_s (inS_s (inS_s (inS_s (inS_s (inS_0 (by omega) (by omega) (by omega) (by omega))))))))))) (subS_c (fun _ _ _ _ _ _ => inS_s (inS_s (inS_s (inS_s (inS_s (inS_s (inS_s (inS_s (inS_s (inS_s (inS_0 (by omega) (by omega) (by omega) (by omega)))))))))))) subS_n))))
              obtain ⟨rfl, hE175⟩ := hE175
              have hte := hE175
              rw [ct0, ct1, c12, c13, c14, c15, c16, c17, c18, c19] at hte
              refine r_inc (pc' := 91) (lv' := [(3, _), (0, _), (1, _)]) rfl rfl rfl rfl rfl ?_
              refine r_go rfl ?_
              have hf177 : z170 (17 + 2 * rk) 1 = (z (17 + 2 * rk) 1) + 1 := ((hs174.2.2.1 _ _ (notS_c (by omega) (notS_c (by omega) (notS_c (by omega) (notS_c (by omega) notS_n))))).trans ((congrFun (congrFun hq155 _) _).trans mu_eq))
              have hF178 : z170 (18 + 2 * rk) = z151 (18 + 2 * rk) := ((funext fun _ => hs174.2.2.1 _ _ (notS_c (by omega) (notS_c (by omega) (notS_c (by omega) (notS_c (by omega) notS_n))))).trans ((congrFun hq155 _).trans (mu_fn (by omega))))
              exact w_lv (sub_c rfl (sub_c rfl (sub_c rfl sub_n))) rfl (ih0 (x2 + 1) z170 w171 ⟨by omega, by omega⟩ hs176 (by first | exact hsh | (have hrow : z170 (18 + 2 * rk) = z151 (18 + 2 * rk) := funext fun i => ((hs174.2.2.1 _ _ (notS_c (by omega) (notS_c (by omega) (notS_c (by omega) (notS_c (by omega) notS_n))))).trans ((congrFun (congrFun hq155 _) _).trans (mu_ne (by omega))))); (have hcf := cf_dec (f := z170 (18 + 2 * rk)) (i := x2.toNat) (e := v137) (x := z138 11 6) (y := z138 11 7) (z := z138 11 8) (w := z138 11 9) (by rw [hrow, hq72, ← as3]; exact mu_eq) (by omega) (by omega) (by omega) (by omega) (by omega)); exact (SHI_s as1 hte.1 (fun s hs => by have := rd_12 hs176.1 (i := s) (by omega); omega) hte.2.1 (by rw [hte.2.1, fl_e]; have := f3.2.2.2.2; omega) hcf.1 hcf.2.1 hcf.2.2.1 hcf.2.2.2.1 hcf.2.2.2.2 (fun i j hi hj => by unfold cfR; rw [hrow, hq72, mu_ne (by omega), hff0])).2) (by first | exact hsd | exact hte.2.2.1) (by first | omega | assumption | (simp only [hF178, hf177]; assumption)) (by omega))
            · skip
              refine r_ld (pc' := 27) rfl rfl rfl rfl ?_
              refine r_c0 (pc' := 28) rfl rfl ?_
              refine r_pi (pc' := 31) rfl rfl (sh_R (k := rk) (by omega)) rfl rfl hs144 (inS_s (inS_s (inS_s (inS_s (inS_s (inS_s (inS_s (inS_s (inS_s (inS_s (inS_s (inS_0 (by omega) (by omega) (by omega) (by omega))))))))))))) (wr_R_0 (k := rk) (by omega) ⟨by omega, by omega⟩) (fun z179 hq180 hs181 => ?_)
              have hf182 : z179 (17 + 2 * rk) 0 = 1 := ((congrFun (congrFun hq180 _) _).trans mu_eq)
              have hb183 := rd_R_1 (k := rk) (by omega) hst.1
              have hf184 : z179 (17 + 2 * rk) 1 = z (17 + 2 * rk) 1 := (((congrFun (congrFun hq180 _) _).trans (mu_ne (by omega))).trans (hs142.2.2.1 _ _ (notS_c (by omega) (notS_c (by omega) (notS_c (by omega) (notS_c (by omega) (notS_c (by omega) notS_n)))))))
              have hb185 := rd_R_2 (k := rk) (by omega) hst.1
              have hf186 : z179 (17 + 2 * rk) 2 = z (17 + 2 * rk) 2 := (((congrFun (congrFun hq180 _) _).trans (mu_ne (by omega))).trans (hs142.2.2.1 _ _ (notS_c (by omega) (notS_c (by omega) (notS_c (by omega) (notS_c (by omega) (notS_c (by omega) notS_n)))))))
              have hb187 := rd_R_3 (k := rk) (by omega) hst.1
              have hf188 : z179 (17 + 2 * rk) 3 = z (17 + 2 * rk) 3 := (((congrFun (congrFun hq180 _) _).trans (mu_ne (by omega))).trans (hs142.2.2.1 _ _ (notS_c (by omega) (notS_c (by omega) (notS_c (by omega) (notS_c (by omega) (notS_c (by omega) notS_n)))))))
              have hb189 := rd_R_4 (k := rk) (by omega) hst.1
              have hf190 : z179 (17 + 2 * rk) 4 = z (17 + 2 * rk) 4 := (((congrFun (congrFun hq180 _) _).trans (mu_ne (by omega))).trans (hs142.2.2.1 _ _ (notS_c (by omega) (notS_c (by omega) (notS_c (by omega) (notS_c (by omega) (notS_c (by omega) notS_n)))))))
              have hb191 := rd_R_5 (k := rk) (by omega) hst.1
              have hf192 : z179 (17 + 2 * rk) 5 = z (17 + 2 * rk) 5 := (((congrFun (congrFun hq180 _) _).trans (mu_ne (by omega))).trans (hs142.2.2.1 _ _ (notS_c (by omega) (notS_c (by omega) (notS_c (by omega) (notS_c (by omega) (notS_c (by omega) notS_n)))))))
              have hF193 : z179 (18 + 2 * rk) = z (18 + 2 * rk) := (((congrFun hq180 _).trans (mu_fn (by omega))).trans (funext fun _ => hs142.2.2.1 _ _ (notS_c (by omega) (notS_c (by omega) (notS_c (by omega) (notS_c (by omega) (notS_c (by omega) notS_n)))))))
              exact r_ret rfl (po_V hs181 ⟨rfl, (by unfold GRt; simp only [hF193, hf182, hf184, hf186, hf188, hf190, hf192]; first | (intro h; exfalso; omega) | (intro _; rw [k6, k7, k8, k9]; exact hgr))⟩)
      · intro  z w  hst as1 as2 hM
        have gt0 : z t 0 = z0 t 0 := hst.2.2.1 _ _ (notS_c (by omega) (notS_c (by omega) (notS_c (by omega) (notS_c (by omega) (notS_c (by omega) (notS_c (by omega) (notS_c (by omega) (notS_c (by omega) (notS_c (by omega) (notS_c (by omega) (notS_c (by omega) (notS_c (by omega) (notS_c (by omega) (notS_c (by omega) (notS_c (by omega) (notS_c (by omega) (notS_n)))))))))))))))))
        have gt1 : z t 1 = z0 t 1 := hst.2.2.1 _ _ (notS_c (by omega) (notS_c (by omega) (notS_c (by omega) (notS_c (by omega) (notS_c (by omega) (notS_c (by omega) (notS_c (by omega) (notS_c (by omega) (notS_c (by omega) (notS_c (by omega) (notS_c (by omega) (notS_c (by omega) (notS_c (by omega) (notS_c (by omega) (notS_c (by omega) (notS_c (by omega) (notS_n)))))))))))))))))
        have g114 : z 11 4 = z0 11 4 := hst.2.2.1 _ _ (notS_c (by omega) (notS_c (by omega) (notS_c (by omega) (notS_c (by omega) (notS_c (by omega) (notS_c (by omega) (notS_c (by omega) (notS_c (by omega) (notS_c (by omega) (notS_c (by omega) (notS_c (by omega) (notS_c (by omega) (notS_c (by omega) (notS_c (by omega) (notS_c (by omega) (notS_c (by omega) (notS_n)))))))))))))))))
        have g115 : z 11 5 = z0 11 5 := hst.2.2.1 _ _ (notS_c (by omega) (notS_c (by omega) (notS_c (by omega) (notS_c (by omega) (notS_c (by omega) (notS_c (by omega) (notS_c (by omega) (notS_c (by omega) (notS_c (by omega) (notS_c (by omega) (notS_c (by omega) (notS_c (by omega) (notS_c (by omega) (notS_c (by omega) (notS_c (by omega) (notS_c (by omega) (notS_n)))))))))))))))))
        have h2co := SHI_two as1 as2.1 as2.2
        refine r_ld (pc' := 95) rfl rfl rfl rfl ?_
        refine r_ld (pc' := 96) rfl rfl rfl rfl ?_
        have hb194 := rd_11_4 hz
        have hf195 : z 11 4 = z0 11 4 := (hst.2.2.1 _ _ (notS_c (by omega) (notS_c (by omega) (notS_c (by omega) (notS_c (by omega) (notS_c (by omega) (notS_c (by omega) (notS_c (by omega) (notS_c (by omega) (notS_c (by omega) (notS_c (by omega) (notS_c (by omega) (notS_c (by omega) (notS_c (by omega) (notS_c (by omega) (notS_c (by omega) (notS_c (by omega) notS_n)))))))))))))))))
        have hb196 := rd_T_0 ht hz
        have hf197 : z t 0 = z0 t 0 := (hst.2.2.1 _ _ (notS_c (by omega) (notS_c (by omega) (notS_c (by omega) (notS_c (by omega) (notS_c (by omega) (notS_c (by omega) (notS_c (by omega) (notS_c (by omega) (notS_c (by omega) (notS_c (by omega) (notS_c (by omega) (notS_c (by omega) (notS_c (by omega) (notS_c (by omega) (notS_c (by omega) (notS_c (by omega) notS_n)))))))))))))))))
        have hb198 := rd_11_5 hz
        have hf199 : z 11 5 = z0 11 5 := (hst.2.2.1 _ _ (notS_c (by omega) (notS_c (by omega) (notS_c (by omega) (notS_c (by omega) (notS_c (by omega) (notS_c (by omega) (notS_c (by omega) (notS_c (by omega) (notS_c (by omega) (notS_c (by omega) (notS_c (by omega) (notS_c (by omega) (notS_c (by omega) (notS_c (by omega) (notS_c (by omega) (notS_c (by omega) notS_n)))))))))))))))))
        have hb200 := rd_T_1 ht hz
        have hf201 : z t 1 = z0 t 1 := (hst.2.2.1 _ _ (notS_c (by omega) (notS_c (by omega) (notS_c (by omega) (notS_c (by omega) (notS_c (by omega) (notS_c (by omega) (notS_c (by omega) (notS_c (by omega) (notS_c (by omega) (notS_c (by omega) (notS_c (by omega) (notS_c (by omega) (notS_c (by omega) (notS_c (by omega) (notS_c (by omega) (notS_c (by omega) notS_n)))))))))))))))))
        refine r_cVV (pc' := 99) rfl rfl rfl rfl rfl sh_11 (m_60v (d := d + 1) t rk hst.1 hst.2.1 (by first | omega | assumption | (simp only [hf195, hf197, hf199, hf201]; assumption)) ht (by first | omega | assumption | (simp only [hf195, hf197, hf199, hf201]; assumption))) (fun z203 w204 p205 hs207 hE208 => ?_)
        have hs209 := st_tr hst hs207 (subS_c (fun _ _ _ _ _ _ => inS_s (inS_s (inS_s (inS_s (inS_s (inS_s (inS_s (inS_s (inS_s (inS_s (inS_s (inS_s (inS_0 (by omega) (by omega) (by omega) (by omega)))))))))))))) (subS_c (fun _ _ _ _ _ _ => inS_s (inS_s (inS_s (inS_s (inS_s (inS_s (inS_s (inS_s (inS_s (inS_s (inS_s (inS_s (inS_s (inS_0 (by omega) (by omega) (by omega) (by omega))))))))))))))) (subS_c (fun _ _ _ _ _ _ => inS_s (inS_s (inS_s (inS_s (inS_s (inS_s (inS_s (inS_s (inS_s (inS_s (inS_s (inS_s (inS_s (inS_s (inS_0 (by omega) (by omega) (by omega) (by omega)))))))))))))))) (subS_c (fun _ _ _ _ _ _ => inS_s (inS_s (inS_s (inS_s (inS_s (inS_s (inS_s (inS_s (inS_s (inS_s (inS_s (inS_s (inS_s (inS_s (inS_s (inS_0 (by omega) (by omega) (by omega) (by omega))))))))))))))))) subS_n))))
        obtain ⟨rfl, hE208⟩ := hE208
        have hnn := hE208
        rw [gt0] at hnn
        obtain ⟨u, v, k1, k2, k3, k4, k5, k6, k7, k8, k9⟩ := hnn h2co
        have hgr := SHI_gr as1 as2.1 as2.2 k1 k2 k3 k4 k5
        refine r_ld (pc' := 100) rfl rfl rfl rfl ?_
        refine r_c0 (pc' := 101) rfl rfl ?_
        refine r_pi (pc' := 104) rfl rfl (sh_R (k := rk) (by omega)) rfl rfl hs209 (inS_s (inS_s (inS_s (inS_s (inS_s (inS_s (inS_s (inS_s (inS_s (inS_s (inS_s (inS_0 (by omega) (by omega) (by omega) (by omega))))))))))))) (wr_R_0 (k := rk) (by omega) ⟨by omega, by omega⟩) (fun z210 hq211 hs212 => ?_)
        have hf213 : z210 (17 + 2 * rk) 0 = 2 := ((congrFun (congrFun hq211 _) _).trans mu_eq)
        have hb214 := rd_R_1 (k := rk) (by omega) hst.1
        have hf215 : z210 (17 + 2 * rk) 1 = z (17 + 2 * rk) 1 := (((congrFun (congrFun hq211 _) _).trans (mu_ne (by omega))).trans (hs207.2.2.1 _ _ (notS_c (by omega) (notS_c (by omega) (notS_c (by omega) (notS_c (by omega) notS_n))))))
        have hb216 := rd_R_2 (k := rk) (by omega) hs209.1
        have hf217 : z210 (17 + 2 * rk) 2 = z203 (17 + 2 * rk) 2 := ((congrFun (congrFun hq211 _) _).trans (mu_ne (by omega)))
        have hb218 := rd_R_3 (k := rk) (by omega) hs209.1
        have hf219 : z210 (17 + 2 * rk) 3 = z203 (17 + 2 * rk) 3 := ((congrFun (congrFun hq211 _) _).trans (mu_ne (by omega)))
        have hb220 := rd_R_4 (k := rk) (by omega) hs209.1
        have hf221 : z210 (17 + 2 * rk) 4 = z203 (17 + 2 * rk) 4 := ((congrFun (congrFun hq211 _) _).trans (mu_ne (by omega)))
        have hb222 := rd_R_5 (k := rk) (by omega) hs209.1
        have hf223 : z210 (17 + 2 * rk) 5 = z203 (17 + 2 * rk) 5 := ((congrFun (congrFun hq211 _) _).trans (mu_ne (by omega)))
        have hF224 : z210 (18 + 2 * rk) = z (18 + 2 * rk) := (((congrFun hq211 _).trans (mu_fn (by omega))).trans (funext fun _ => hs207.2.2.1 _ _ (notS_c (by omega) (notS_c (by omega) (notS_c (by omega) (notS_c (by omega) notS_n))))))
        exact r_ret rfl (po_V hs212 ⟨rfl, (by unfold GRt; simp only [hF224, hf213, hf215, hf217, hf219, hf221, hf223]; first | (intro h; exfalso; omega) | (intro _; rw [k6, k7, k8, k9]; exact hgr))⟩)
  refine w_m rfl rfl ?_
  refine r_c0 (pc' := 1) rfl rfl ?_
  refine r_st (pc' := 2) (lv' := [(2, _), (0, _), (1, _)]) rfl rfl rfl rfl ?_
  have hb225 := rd_R_1 (k := rk) (by omega) hz
  exact w_lv (sub_c rfl (sub_c rfl (sub_c rfl sub_n))) rfl ((key ((62 * (1782 - 0) + 59 : Int).toNat + 1)).1 0 z0 w0 ⟨by omega, by omega⟩ hst (by first | exact hsh | (have hrow : z0 (18 + 2 * rk) = NOMARK (18 + 2 * rk) := funext fun i => NOMARK); (have hcf := cf_dec (f := z0 (18 + 2 * rk)) (i := x2.toNat) (e := NOV) (x := NOMARK 11 6) (y := NOMARK 11 7) (z := NOMARK 11 8) (w := NOMARK 11 9) (by rw [hrow, hq72, ← as3]; exact mu_eq) (by omega) (by omega) (by omega) (by omega) (by omega)); exact (SHI_s as1 hte.1 (fun s hs => by have := rd_12 hst.1 (i := s) (by omega); omega) hte.2.1 (by rw [hte.2.1, fl_e]; have := f3.2.2.2.2; omega) hcf.1 hcf.2.1 hcf.2.2.1 hcf.2.2.2.1 hcf.2.2.2.2 (fun i j hi hj => by unfold cfR; rw [hrow, hq72, mu_ne (by omega), hff0])).2) (by first | exact hsd | exact hte.2.2.1) (by first | omega | assumption) (by omega))
/-- Shortener pave -/
abbrev S_53 (rk : Nat) : mS := [(17 + 2 * rk, 17 + 2 * rk, 1, 1), (17 + 2 * rk, 17 + 2 * rk, 0, 0), (4, 4, 8, 8), (7, 7, 0, 17), (6, 6, 0, 17), (4, 4, 0, 0), (4, 4, 1, 1), (5, 5, 0, 281), (4, 4, 9, 9), (4, 4, 10, 10), (4, 4, 11, 11), (4, 4, 12, 12), (4, 4, 13, 13), (11, 11, 4, 4), (11, 11, 5, 5), (15, 15, 0, 17), (13, 13, 0, 17), (14, 14, 0, 17), (11, 11, 6, 6), (11, 11, 7, 7), (11, 11, 8, 8), (11, 11, 9, 9), (11, 11, 10, 10), (18 + 2 * rk, 18 + 2 * rk, 0, 1781), (12, 12, 0, 35), (17 + 2 * rk, 17 + 2 * rk, 2, 2), (17 + 2 * rk, 17 + 2 * rk, 5, 5), (17 + 2 * rk, 17 + 2 * rk, 4, 4), (17 + 2 * rk, 17 + 2 * rk, 3, 3)]
abbrev E_53 (t : Nat) (a2 : Int) (rk : Nat) (z0 w0 : mZ) (x y tx it mt tt ct : Option Nat) : mZ → mZ → mP → Prop := fun z w p => p = (pq x y tx it mt (some t) ct) ∧ (GRt z0 z t rk)
theorem m_53 {d : Nat} {z0 w0 : mZ} {x y tx it mt tt ct : Option Nat} (t : Nat) (a2 : Int) (rk : Nat) (hz : rz z0) (hw : rw_ w0) (ha2 : 0 ≤ a2 ∧ a2 ≤ 7) (hrk : rk < 8) (ht : isT t) (hwt : WTt z0 t) (hft : FTt z0 t (w0 (t + 8 + a2.toNat))) : wc (d + 5) 53 [.ref 11, .ref t, .int (Int32.ofInt a2), .ref 4, .ref (17 + 2 * rk)] (mk z0 w0 (pq x y tx it mt tt ct)) (poV (S_53 rk) z0 w0 (E_53 t a2 rk z0 w0 x y tx it mt tt ct)) := by
  have hst : st_ (S_53 rk) z0 w0 z0 w0 := st_rf hz hw
  have htb : 159 ≤ t ∧ t ≤ 192 := by have := ht; unfold isT at this; omega
  have hz97 := rd_T_0 ht hz
  have hz98 := rd_T_1 ht hz
  have hzt0 := rd_T_0 ht hz
  have hzt1 := rd_T_1 ht hz
  have key : ∀ N : Nat, (∀ (x5 : Int) (z w : mZ), 0 ≤ x5 ∧ x5 ≤ 36 → st_ (S_53 rk) z0 w0 z w → w 11 10 = w0 11 10 → z 11 6 = z0 11 6 → z 11 7 = z0 11 7 → z 11 8 = z0 11 8 → z 11 9 = z0 11 9 → (∀ s : Nat, (s : Int) < x5 → z 12 s = z0 (t + 1) s) → (z 11 4 = 3 * z0 t 0 ∧ z 11 5 = z0 t 1 ∧ z (17 + 2 * rk) 1 = 0) → (CN (z0 t 0).toNat (vT (z0 (t + 1))) (oF (z0 (t + 1)) (z0 (t + 5))) (w0 (t + 8 + a2.toNat)) ∧ ∃ e : Nat, (e : Int) < z0 t 1 ∧ 0 < w0 (t + 8 + a2.toNat) e) → 60 * (36 - x5) + 26 < (N : Int) → wp_ (d + 4) 53 6 none (60, [(0, .ref 11), (1, .ref t), (2, .int (Int32.ofInt a2)), (4, .ref (17 + 2 * rk)), (5, .int (Int32.ofInt x5))], [], mk z w (pq x y tx it mt (some t) ct)) (poV (S_53 rk) z0 w0 (E_53 t a2 rk z0 w0 x y tx it mt tt ct))) := by
    intro N
    induction N with
    | zero =>
      intro x5 z w
      intros; exfalso; omega
    | succ N ih =>
      have ih0 := ih; clear ih
      intro x5 z w  hx5 hst un_w_11_10 un_z_11_6 un_z_11_7 un_z_11_8 un_z_11_9 as1 as2 as3 hM
      have gt0 : z t 0 = z0 t 0 := hst.2.2.1 _ _ (notS_c (by omega) (notS_c (by omega) (notS_c (by omega) (notS_c (by omega) (notS_c (by omega) (notS_c (by omega) (notS_c (by omega) (notS_c (by omega) (notS_c (by omega) (notS_c (by omega) (notS_c (by omega) (notS_c (by omega) (notS_c (by omega) (notS_c (by omega) (notS_c (by omega) (notS_c (by omega) (notS_c (by omega) (notS_c (by omega) (notS_c (by omega) (notS_c (by omega) (notS_c (by omega) (notS_c (by omega) (notS_c (by omega) (notS_c (by omega) (notS_c (by omega) (notS_c (by omega) (notS_c (by omega) (notS_c (by omega) (notS_c (by omega) (notS_n))))))))))))))))))))))))))))))
      have gt1 : z t 1 = z0 t 1 := hst.2.2.1 _ _ (notS_c (by omega) (notS_c (by omega) (notS_c (by omega) (notS_c (by omega) (notS_c (by omega) (notS_c (by omega) (notS_c (by omega) (notS_c (by omega) (notS_c (by omega) (notS_c (by omega) (notS_c (by omega) (notS_c (by omega) (notS_c (by omega) (notS_c (by omega) (notS_c (by omega) (notS_c (by omega) (notS_c (by omega) (notS_c (by omega) (notS_c (by omega) (notS_c (by omega) (notS_c (by omega) (notS_c (by omega) (notS_c (by omega) (notS_c (by omega) (notS_c (by omega) (notS_c (by omega) (notS_c (by omega) (notS_c (by omega) (notS_c (by omega) (notS_n))))))))))))))))))))))))))))))
      have gw : w (t + 8 + a2.toNat) = (w0 (t + 8 + a2.toNat)) := funext fun i => hst.2.2.2 _ _ (notS_c (by omega) (notS_c (by omega) (notS_c (by omega) (notS_c (by omega) (notS_c (by omega) (notS_c (by omega) (notS_c (by omega) (notS_c (by omega) (notS_c (by omega) (notS_c (by omega) (notS_c (by omega) (notS_c (by omega) (notS_c (by omega) (notS_c (by omega) (notS_c (by omega) (notS_c (by omega) (notS_c (by omega) (notS_c (by omega) (notS_c (by omega) (notS_c (by omega) (notS_c (by omega) (notS_c (by omega) (notS_c (by omega) (notS_c (by omega) (notS_c (by omega) (notS_c (by omega) (notS_c (by omega) (notS_c (by omega) (notS_c (by omega) (notS_n))))))))))))))))))))))))))))))
      refine r_ld (pc' := 62) rfl rfl rfl rfl ?_
      refine r_ld (pc' := 63) rfl rfl rfl rfl ?_
      have hb99 := rd_11_4 hst.1
      refine r_gi (pc' := 66) rfl rfl sh_11 rfl rfl ?_
      refine r_ige (pc' := 69) rfl rfl ⟨by omega, by omega⟩ ⟨by omega, by omega⟩ (fun hc100 => ?_) (fun hc100 => ?_)
      · skip
        refine r_ld (pc' := 90) rfl rfl rfl rfl ?_
        refine r_gr (b := t + 7) (pc' := 93) rfl rfl (sh_T ht) rfl (pp_T_11 ht) ?_
        refine r_ld (pc' := 94) rfl rfl rfl rfl ?_
        refine r_aa (b := t + 8 + a2.toNat) (pc' := 95) rfl rfl (sh_T7 ht) (Or.inl rfl) rfl (by omega) (by omega) (pa_T7 ht (by omega)) ?_
        refine r_ld (pc' := 96) rfl rfl rfl rfl ?_
        refine r_gr (b := 15) (pc' := 99) rfl rfl sh_11 rfl pp_11_3 ?_
        refine r_cSV (pc' := 102) rfl rfl rfl rfl rfl (m_140 (d := d + 3) (t + 8 + a2.toNat) 15 hst.1 hst.2.1 (by first | omega | assumption) (lr_T8 ht (k := a2.toNat) (by omega) ) (by first | omega | assumption) lr_15 (by first | omega | assumption) wrr_15) (fun z102 w103 p104 hs106 hE107 => ?_)
        have hs108 := st_tr hst hs106 (subS_c (fun _ _ _ _ _ _ => inS_s (inS_s (inS_s (inS_s (inS_s (inS_s (inS_s (inS_s (inS_s (inS_s (inS_s (inS_s (inS_s (inS_s (inS_s (inS_0 (by omega) (by omega) (by omega) (by omega))))))))))))))))) subS_n)
        obtain ⟨rfl, hE107⟩ := hE107
        have hcp := hE107
        refine r_ld (pc' := 103) rfl rfl rfl rfl ?_
        have c12 : z102 12 = z 12 := funext fun i => (hs106.2.2.1 _ _ (notS_c (by omega) notS_n))
        have ct0 : z102 t 0 = z0 t 0 := hs108.2.2.1 _ _ (notS_c (by omega) (notS_c (by omega) (notS_c (by omega) (notS_c (by omega) (notS_c (by omega) (notS_c (by omega) (notS_c (by omega) (notS_c (by omega) (notS_c (by omega) (notS_c (by omega) (notS_c (by omega) (notS_c (by omega) (notS_c (by omega) (notS_c (by omega) (notS_c (by omega) (notS_c (by omega) (notS_c (by omega) (notS_c (by omega) (notS_c (by omega) (notS_c (by omega) (notS_c (by omega) (notS_c (by omega) (notS_c (by omega) (notS_c (by omega) (notS_c (by omega) (notS_c (by omega) (notS_c (by omega) (notS_c (by omega) (notS_c (by omega) (notS_n))))))))))))))))))))))))))))))
        have ct1 : z102 t 1 = z0 t 1 := hs108.2.2.1 _ _ (notS_c (by omega) (notS_c (by omega) (notS_c (by omega) (notS_c (by omega) (notS_c (by omega) (notS_c (by omega) (notS_c (by omega) (notS_c (by omega) (notS_c (by omega) (notS_c (by omega) (notS_c (by omega) (notS_c (by omega) (notS_c (by omega) (notS_c (by omega) (notS_c (by omega) (notS_c (by omega) (notS_c (by omega) (notS_c (by omega) (notS_c (by omega) (notS_c (by omega) (notS_c (by omega) (notS_c (by omega) (notS_c (by omega) (notS_c (by omega) (notS_c (by omega) (notS_c (by omega) (notS_c (by omega) (notS_c (by omega) (notS_c (by omega) (notS_n))))))))))))))))))))))))))))))
        have hT : ∀ s : Nat, (s : Int) < 3 * z0 t 0 → z102 12 s = z0 (t + 1) s := fun s hs => by rw [c12]; exact as1 s (by omega)
        have h15 : ∀ j : Nat, j < 18 → w0 (t + 8 + a2.toNat) j = w103 15 j := fun j hj => by rw [hcp j hj, gw]
        have hb109 := rd_T_0 ht hz
        have hf110 : z102 t 0 = z0 t 0 := ((hs106.2.2.1 _ _ (notS_c (by omega) notS_n)).trans (hst.2.2.1 _ _ (notS_c (by omega) (notS_c (by omega) (notS_c (by omega) (notS_c (by omega) (notS_c (by omega) (notS_c (by omega) (notS_c (by omega) (notS_c (by omega) (notS_c (by omega) (notS_c (by omega) (notS_c (by omega) (notS_c (by omega) (notS_c (by omega) (notS_c (by omega) (notS_c (by omega) (notS_c (by omega) (notS_c (by omega) (notS_c (by omega) (notS_c (by omega) (notS_c (by omega) (notS_c (by omega) (notS_c (by omega) (notS_c (by omega) (notS_c (by omega) (notS_c (by omega) (notS_c (by omega) (notS_c (by omega) (notS_c (by omega) (notS_c (by omega) notS_n)))))))))))))))))))))))))))))))
        have hb111 := rd_T_1 ht hz
        have hf112 : z102 t 1 = z0 t 1 := ((hs106.2.2.1 _ _ (notS_c (by omega) notS_n)).trans (hst.2.2.1 _ _ (notS_c (by omega) (notS_c (by omega) (notS_c (by omega) (notS_c (by omega) (notS_c (by omega) (notS_c (by omega) (notS_c (by omega) (notS_c (by omega) (notS_c (by omega) (notS_c (by omega) (notS_c (by omega) (notS_c (by omega) (notS_c (by omega) (notS_c (by omega) (notS_c (by omega) (notS_c (by omega) (notS_c (by omega) (notS_c (by omega) (notS_c (by omega) (notS_c (by omega) (notS_c (by omega) (notS_c (by omega) (notS_c (by omega) (notS_c (by omega) (notS_c (by omega) (notS_c (by omega) (notS_c (by omega) (notS_c (by omega) (notS_c (by omega) notS_n)))))))))))))))))))))))))))))))
        have hf113 : z102 11 4 = z 11 4 := (hs106.2.2.1 _ _ (notS_c (by omega) notS_n))
        have hb114 := rd_11_5 hst.1
        have hf115 : z102 11 5 = z 11 5 := (hs106.2.2.1 _ _ (notS_c (by omega) notS_n))
        have hF116 : z102 12 = z 12 := (funext fun _ => hs106.2.2.1 _ _ (notS_c (by omega) notS_n))
        refine r_cVV (pc' := 106) rfl rfl rfl rfl rfl sh_11 (m_55v (d := d + 3) t hs108.1 hs108.2.1 ht (by rw [ct0, ct1]; exact LY_cg (WT.ly hwt) hT) (by first | omega | assumption | (simp only [hF116, hf110, hf112, hf113, hf115]; assumption))) (fun z118 w119 p120 hs122 hE123 => ?_)
        have hs124 := st_tr hs108 hs122 (subS_c (fun _ _ _ _ _ _ => inS_s (inS_s (inS_s (inS_s (inS_s (inS_s (inS_s (inS_s (inS_s (inS_s (inS_s (inS_s (inS_s (inS_s (inS_s (inS_s (inS_0 (by omega) (by omega) (by omega) (by omega)))))))))))))))))) (subS_c (fun _ _ _ _ _ _ => inS_s (inS_s (inS_s (inS_s (inS_s (inS_s (inS_s (inS_s (inS_s (inS_s (inS_s (inS_s (inS_s (inS_s (inS_s (inS_s (inS_s (inS_0 (by omega) (by omega) (by omega) (by omega))))))))))))))))))) subS_n))
        obtain ⟨rfl, hE123⟩ := hE123
        have hsd2 := hE123
        rw [ct0, ct1] at hsd2
        refine r_ld (pc' := 107) rfl rfl rfl rfl ?_
        refine r_ld (pc' := 109) rfl rfl rfl rfl ?_
        have d12 : z118 12 = z102 12 := funext fun i => (hs122.2.2.1 _ _ (notS_c (by omega) (notS_c (by omega) notS_n)))
        have d15 : w119 15 = w103 15 := funext fun i => (hs122.2.2.2 _ _ (notS_c (by omega) (notS_c (by omega) notS_n)))
        have dt0 : z118 t 0 = z0 t 0 := hs124.2.2.1 _ _ (notS_c (by omega) (notS_c (by omega) (notS_c (by omega) (notS_c (by omega) (notS_c (by omega) (notS_c (by omega) (notS_c (by omega) (notS_c (by omega) (notS_c (by omega) (notS_c (by omega) (notS_c (by omega) (notS_c (by omega) (notS_c (by omega) (notS_c (by omega) (notS_c (by omega) (notS_c (by omega) (notS_c (by omega) (notS_c (by omega) (notS_c (by omega) (notS_c (by omega) (notS_c (by omega) (notS_c (by omega) (notS_c (by omega) (notS_c (by omega) (notS_c (by omega) (notS_c (by omega) (notS_c (by omega) (notS_c (by omega) (notS_c (by omega) (notS_n))))))))))))))))))))))))))))))
        have dt1 : z118 t 1 = z0 t 1 := hs124.2.2.1 _ _ (notS_c (by omega) (notS_c (by omega) (notS_c (by omega) (notS_c (by omega) (notS_c (by omega) (notS_c (by omega) (notS_c (by omega) (notS_c (by omega) (notS_c (by omega) (notS_c (by omega) (notS_c (by omega) (notS_c (by omega) (notS_c (by omega) (notS_c (by omega) (notS_c (by omega) (notS_c (by omega) (notS_c (by omega) (notS_c (by omega) (notS_c (by omega) (notS_c (by omega) (notS_c (by omega) (notS_c (by omega) (notS_c (by omega) (notS_c (by omega) (notS_c (by omega) (notS_c (by omega) (notS_c (by omega) (notS_c (by omega) (notS_c (by omega) (notS_n))))))))))))))))))))))))))))))
        have dT1 : z118 (t + 1) = z0 (t + 1) := funext fun i => hs124.2.2.1 _ _ (notS_c (by omega) (notS_c (by omega) (notS_c (by omega) (notS_c (by omega) (notS_c (by omega) (notS_c (by omega) (notS_c (by omega) (notS_c (by omega) (notS_c (by omega) (notS_c (by omega) (notS_c (by omega) (notS_c (by omega) (notS_c (by omega) (notS_c (by omega) (notS_c (by omega) (notS_c (by omega) (notS_c (by omega) (notS_c (by omega) (notS_c (by omega) (notS_c (by omega) (notS_c (by omega) (notS_c (by omega) (notS_c (by omega) (notS_c (by omega) (notS_c (by omega) (notS_c (by omega) (notS_c (by omega) (notS_c (by omega) (notS_c (by omega) (notS_n))))))))))))))))))))))))))))))
        have hf125 : z118 11 4 = z 11 4 := ((hs122.2.2.1 _ _ (notS_c (by omega) (notS_c (by omega) notS_n))).trans (hs106.2.2.1 _ _ (notS_c (by omega) notS_n)))
        have hf126 : z118 t 0 = z0 t 0 := ((hs122.2.2.1 _ _ (notS_c (by omega) (notS_c (by omega) notS_n))).trans ((hs106.2.2.1 _ _ (notS_c (by omega) notS_n)).trans (hst.2.2.1 _ _ (notS_c (by omega) (notS_c (by omega) (notS_c (by omega) (notS_c (by omega) (notS_c (by omega) (notS_c (by omega) (notS_c (by omega) (notS_c (by omega) (notS_c (by omega) (notS_c (by omega) (notS_c (by omega) (notS_c (by omega) (notS_c (by omega) (notS_c (by omega) (notS_c (by omega) (notS_c (by omega) (notS_c (by omega) (notS_c (by omega) (notS_c (by omega) (notS_c (by omega) (notS_c (by omega) (notS_c (by omega) (notS_c (by omega) (notS_c (by omega) (notS_c (by omega) (notS_c (by omega) (notS_c (by omega) (notS_c (by omega) (notS_c (by omega) notS_n))))))))))))))))))))))))))))))))
        have hf127 : z118 11 5 = z 11 5 := ((hs122.2.2.1 _ _ (notS_c (by omega) (notS_c (by omega) notS_n))).trans (hs106.2.2.1 _ _ (notS_c (by omega) notS_n)))
        have hf128 : z118 t 1 = z0 t 1 := ((hs122.2.2.1 _ _ (notS_c (by omega) (notS_c (by omega) notS_n))).trans ((hs106.2.2.1 _ _ (notS_c (by omega) notS_n)).trans (hst.2.2.1 _ _ (notS_c (by omega) (notS_c (by omega) (notS_c (by omega) (notS_c (by omega) (notS_c (by omega) (notS_c (by omega) (notS_c (by omega) (notS_c (by omega) (notS_c (by omega) (notS_c (by omega) (notS_c (by omega) (notS_c (by omega) (notS_c (by omega) (notS_c (by omega) (notS_c (by omega) (notS_c (by omega) (notS_c (by omega) (notS_c (by omega) (notS_c (by omega) (notS_c (by omega) (notS_c (by omega) (notS_c (by omega) (notS_c (by omega) (notS_c (by omega) (notS_c (by omega) (notS_c (by omega) (notS_c (by omega) (notS_c (by omega) (notS_c (by omega) notS_n))))))))))))))))))))))))))))))))
        have hb129 := rd_R_1 (k := rk) (by omega) hst.1
        have hf130 : z118 (17 + 2 * rk) 1 = z (17 + 2 * rk) 1 := ((hs122.2.2.1 _ _ (notS_c (by omega) (notS_c (by omega) notS_n))).trans (hs106.2.2.1 _ _ (notS_c (by omega) notS_n)))
        have hF131 : z118 (t + 1) = z0 (t + 1) := ((funext fun _ => hs122.2.2.1 _ _ (notS_c (by omega) (notS_c (by omega) notS_n))).trans ((funext fun _ => hs106.2.2.1 _ _ (notS_c (by omega) notS_n)).trans (funext fun _ => hst.2.2.1 _ _ (notS_c (by omega) (notS_c (by omega) (notS_c (by omega) (notS_c (by omega) (notS_c (by omega) (notS_c (by omega) (notS_c (by omega) (notS_c (by omega) (notS_c (by omega) (notS_c (by omega) (notS_c (by omega) (notS_c (by omega) (notS_c (by omega) (notS_c (by omega) (notS_c (by omega) (notS_c (by omega) (notS_c (by omega) (notS_c (by omega) (notS_c (by omega) (notS_c (by omega) (notS_c (by omega) (notS_c (by omega) (notS_c (by omega) (notS_c (by omega) (notS_c (by omega) (notS_c (by omega) (notS_c (by omega) (notS_c (by omega) (notS_c (by omega) notS_n))))))))))))))))))))))))))))))))
        have hF132 : z118 12 = z 12 := ((funext fun _ => hs122.2.2.1 _ _ (notS_c (by omega) (notS_c (by omega) notS_n))).trans (funext fun _ => hs106.2.2.1 _ _ (notS_c (by omega) notS_n)))
        have hF133 : w119 15 = w103 15 := (funext fun _ => hs122.2.2.2 _ _ (notS_c (by omega) (notS_c (by omega) notS_n)))
        have hF134 : z118 (18 + 2 * rk) = z (18 + 2 * rk) := ((funext fun _ => hs122.2.2.1 _ _ (notS_c (by omega) (notS_c (by omega) notS_n))).trans (funext fun _ => hs106.2.2.1 _ _ (notS_c (by omega) notS_n)))
        refine r_cVV (pc' := 112) rfl rfl rfl rfl rfl sh_11 (m_54 (d := d) t rk hs124.1 hs124.2.1 (by first | omega | assumption | (simp only [hF131, hF132, hF133, hF134, hf125, hf126, hf127, hf128, hf130]; assumption)) ht (by first | omega | assumption | (simp only [hF131, hF132, hF133, hF134, hf125, hf126, hf127, hf128, hf130]; assumption)) (by rw [dt0, dt1, dT1, d12, d15]; exact SHI_0 hwt (FT_cg (WT.lt hwt) h15 hft) (CN_cg (WT.lt hwt) (fun j hj => (h15 j hj).symm) as3.1) (by obtain ⟨e, k1, k2⟩ := as3.2; exact ⟨e, k1, by rw [← h15 e (by omega)]; exact k2⟩) (sm_99 (fun j hj => by rw [← h15 j hj]; exact (rd_T8 ht (k := a2.toNat) (by omega) hw (i := j) hj).2)) hT) (by rw [dt0, dt1, d12]; exact hsd2) (by first | omega | assumption | (simp only [hF131, hF132, hF133, hF134, hf125, hf126, hf127, hf128, hf130]; assumption))) (fun z136 w137 p138 hs140 hE141 => ?_)
        have hs142 := st_tr hs124 hs140 (subS_c (fun _ _ _ _ _ _ => inS_s (inS_s (inS_s (inS_s (inS_s (inS_s (inS_s (inS_s (inS_s (inS_s (inS_s (inS_s (inS_s (inS_s (inS_s (inS_s (inS_s (inS_s (inS_0 (by omega) (by omega) (by omega) (by omega)))))))))))))))))))) (subS_c (fun _ _ _ _ _ _ => inS_s (inS_s (inS_s (inS_s (inS_s (inS_s (inS_s (inS_s (inS_s (inS_s (inS_s (inS_s (inS_s (inS_s (inS_s (inS_s (inS_s (inS_s (inS_s (inS_0 (by omega) (by omega) (by omega) (by omega))))))))))))))))))))) (subS_c (fun _ _ _ _ _ _ => inS_s (inS_s (inS_s (inS_s (inS_s (inS_s (inS_s (inS_s (inS_s (inS_s (inS_s (inS_s (inS_s (inS_s (inS_s (inS_s (inS_s (inS_s (inS_s (inS_s (inS_0 (by omega) (by omega) (by omega) (by omega)))))))))))))))))))))) (subS_c (fun _ _ _ _ _ _ => inS_s (inS_s (inS_s (inS_s (inS_s (inS_s (inS_s (inS_s (inS_s (inS_s (inS_s (inS_s (inS_s (inS_s (inS_s (inS_s (inS_s (inS_s (inS_s (inS_s (inS_s (inS_0 (by omega) (by omega) (by omega) (by omega))))))))))))))))))))))) (subS_c (fun _ _ _ _ _ _ => inS_s (inS_s (inS_s (inS_s (inS_s (inS_s (inS_s (inS_s (inS_s (inS_s (inS_s (inS_s (inS_s (inS_s (inS_s (inS_s (inS_s (inS_s (inS_s (inS_s (inS_s (inS_s (inS_0 (by omega) (by omega) (by omega) (by omega)))))))))))))))))))))))) (subS_c (fun _ _ _ _ _ _ => inS_s (inS_s (inS_s (inS_s (inS_s (inS_s (inS_s (inS_s (inS_s (inS_s (inS_s (inS_s (inS_s (inS_s (inS_s (inS_s (inS_s (inS_s (inS_s (inS_s (inS_s (inS_s (inS_s (inS_0 (by omega) (by omega) (by omega) (by omega))))))))))))))))))))))))) (subS_c (fun _ _ _ _ _ _ => inS_0 (by omega) (by omega) (by omega) (by omega)) (subS_c (fun _ _ _ _ _ _ => inS_s (inS_s (inS_s (inS_s (inS_s (inS_s (inS_s (inS_s (inS_s (inS_s (inS_s (inS_s (inS_s (inS_s (inS_s (inS_0 (by omega) (by omega) (by omega) (by omega))))))))))))))))) (subS_c (fun _ _ _ _ _ _ => inS_s (inS_s (inS_s (inS_s (inS_s (inS_s (inS_s (inS_s (inS_s (inS_s (inS_s (inS_s (inS_s (inS_s (inS_s (inS_s (inS_s (inS_s (inS_s (inS_s (inS_s (inS_s (inS_s (inS_s (inS_0 (by omega) (by omega) (by omega) (by omega)))))))))))))))))))))))))) (subS_c (fun _ _ _ _ _ _ => inS_s (inS_s (inS_s (inS_s (inS_s (inS_s (inS_s (inS_s (inS_s (inS_s (inS_s (inS_s (inS_s (inS_s (inS_s (inS_s (inS_0 (by omega) (by omega) (by omega) (by omega)))))))))))))))))) (subS_c (fun _ _ _ _ _ _ => inS_s (inS_s (inS_s (inS_s (inS_s (inS_s (inS_s (inS_s (inS_s (inS_s (inS_s (inS_s (inS_s (inS_s (inS_s (inS_s (inS_s (inS_0 (by omega) (by omega) (by omega) (by omega))))))))))))))))))) (subS_c (fun _ _ _ _ _ _ => inS_s (inS_0 (by omega) (by omega) (by omega) (by omega))) (subS_c (fun _ _ _ _ _ _ => inS_s (inS_s (inS_s (inS_s (inS_s (inS_s (inS_s (inS_s (inS_s (inS_s (inS_s (inS_s (inS_s (inS_s (inS_s (inS_s (inS_s (inS_s (inS_s (inS_s (inS_s (inS_s (inS_s (inS_s (inS_s (inS_0 (by omega) (by omega) (by omega) (by omega))))))))))))))))))))))))))) (subS_c (fun _ _ _ _ _ _ => inS_s (inS_s (inS_s (inS_s (inS_s (inS_s (inS_s (inS_s (inS_s (inS_s (inS_s (inS_s (inS_s (inS_s (inS_s (inS_s (inS_s (inS_s (inS_s (inS_s (inS_s (inS_s (inS_s (inS_s (inS_s (inS_s (inS_0 (by omega) (by omega) (by omega) (by omega)))))))))))))))))))))))))))) (subS_c (fun _ _ _ _ _ _ => inS_s (inS_s (inS_s (inS_s (inS_s (inS_s (inS_s (inS_s (inS_s (inS_s (inS_s (inS_s (inS_s (inS_s (inS_s (inS_s (inS_s (inS_s (inS_s (inS_s (inS_s (inS_s (inS_s (inS_s (inS_s (inS_s (inS_s (inS_0 (by omega) (by omega) (by omega) (by omega))))))))))))))))))))))))))))) (subS_c (fun _ _ _ _ _ _ => inS_s (inS_s (inS_s (inS_s (inS_s (inS_s (inS_s (inS_s (inS_s (inS_s (inS_s (inS_s (inS_s (inS_s (inS_s (inS_s (inS_s (inS_s (inS_s (inS_s (inS_s (inS_s (inS_s (inS_s (inS_s (inS_s (inS_s (inS_s (inS_0 (by omega) (by omega) (by omega) (by omega)))))))))))))))))))))))))))))) subS_n))))))))))))))))
        obtain ⟨rfl, hE141⟩ := hE141
        have hgr := hE141
        have hb143 := rd_R_0 (k := rk) (by omega) hs142.1
        exact r_ret rfl (po_V hs142 ⟨rfl, (by first | (unfold GRt; intro h; exfalso; omega) | exact GRt_cg hgr dt0 dT1 (fun i _ => rfl) rfl)⟩)
      · skip
        refine r_ld (pc' := 70) rfl rfl rfl rfl ?_
        refine r_gr (b := 12) (pc' := 73) rfl rfl sh_11 rfl pp_11_0 ?_
        refine r_ld (pc' := 75) rfl rfl rfl rfl ?_
        refine r_ld (pc' := 76) rfl rfl rfl rfl ?_
        refine r_gr (b := t + 1) (pc' := 79) rfl rfl (sh_T ht) rfl (pp_T_5 ht) ?_
        refine r_ld (pc' := 81) rfl rfl rfl rfl ?_
        have hb144 := rd_T1 ht hz (i := x5.toNat) (by omega)
        refine r_ia (pc' := 82) rfl rfl (sh_T1 ht) rfl (by omega) (by omega) (hst.2.2.1 _ _ (notS_c (by omega) (notS_c (by omega) (notS_c (by omega) (notS_c (by omega) (notS_c (by omega) (notS_c (by omega) (notS_c (by omega) (notS_c (by omega) (notS_c (by omega) (notS_c (by omega) (notS_c (by omega) (notS_c (by omega) (notS_c (by omega) (notS_c (by omega) (notS_c (by omega) (notS_c (by omega) (notS_c (by omega) (notS_c (by omega) (notS_c (by omega) (notS_c (by omega) (notS_c (by omega) (notS_c (by omega) (notS_c (by omega) (notS_c (by omega) (notS_c (by omega) (notS_c (by omega) (notS_c (by omega) (notS_c (by omega) (notS_c (by omega) notS_n)))))))))))))))))))))))))))))) ?_
        refine r_is (pc' := 83) rfl rfl sh_12 rfl (by omega) (by omega) hst (inS_s (inS_s (inS_s (inS_s (inS_s (inS_s (inS_s (inS_s (inS_s (inS_s (inS_s (inS_s (inS_s (inS_s (inS_s (inS_s (inS_s (inS_s (inS_s (inS_s (inS_s (inS_s (inS_s (inS_s (inS_0 (by omega) (by omega) (by omega) (by omega)))))))))))))))))))))))))) (wr_12 ⟨by omega, by omega⟩) (fun z145 hq146 hs147 => ?_)
        have hqm := hq146
        refine r_inc (pc' := 86) (lv' := [(0, _), (1, _), (2, _), (4, _)]) rfl rfl rfl rfl rfl ?_
        refine r_go rfl ?_
        have hf148 : z145 11 4 = z 11 4 := ((congrFun (congrFun hq146 _) _).trans (mu_ne (by omega)))
        have hb149 := rd_11_5 hst.1
        have hf150 : z145 11 5 = z 11 5 := ((congrFun (congrFun hq146 _) _).trans (mu_ne (by omega)))
        have hb151 := rd_R_1 (k := rk) (by omega) hst.1
        have hf152 : z145 (17 + 2 * rk) 1 = z (17 + 2 * rk) 1 := ((congrFun (congrFun hq146 _) _).trans (mu_ne (by omega)))
        have hb153 := rd_11_10 hw
        have hb154 := rd_11_6 hz
        have hb155 := rd_11_7 hz
        have hb156 := rd_11_8 hz
        have hb157 := rd_11_9 hz
        exact w_lv (sub_c rfl (sub_c rfl (sub_c rfl (sub_c rfl (sub_c rfl sub_n))))) rfl (ih0 (x5 + 1) z145 w ⟨by omega, by omega⟩ hs147 (un_w_11_10) ((((congrFun (congrFun hq146 _) _).trans (mu_ne (by omega))).trans un_z_11_6)) ((((congrFun (congrFun hq146 _) _).trans (mu_ne (by omega))).trans un_z_11_7)) ((((congrFun (congrFun hq146 _) _).trans (mu_ne (by omega))).trans un_z_11_8)) ((((congrFun (congrFun hq146 _) _).trans (mu_ne (by omega))).trans un_z_11_9)) (by first | (intro e he; exfalso; omega) | (intro s hs; rw [hqm]; by_cases c : s = x5.toNat; (subst c; exact mu_eq); (rw [mu_ne (by omega)]; exact as1 s (by omega)))) (by first | omega | assumption | (simp only [hf148, hf150, hf152]; assumption)) (by first | exact as3 | exact ⟨CN_cg (WT.lt hwt) (fun j hj => (hl7 j hj).symm) hc1.1, by obtain ⟨e, k1, k2⟩ := hc1.2; exact ⟨e, k1, by rw [← hl7 e (by omega)]; exact k2⟩⟩) (by omega))
  refine w_m rfl rfl ?_
  refine r_ld (pc' := 2) rfl rfl rfl rfl ?_
  refine r_c0 (pc' := 3) rfl rfl ?_
  refine r_pi (pc' := 6) rfl rfl (sh_R (k := rk) (by omega)) rfl rfl hst (inS_0 (by omega) (by omega) (by omega) (by omega)) (wr_R_1 (k := rk) (by omega) ⟨by omega, by omega⟩) (fun z158 hq159 hs160 => ?_)
  refine r_ld (pc' := 8) rfl rfl rfl rfl ?_
  refine r_c0 (pc' := 9) rfl rfl ?_
  refine r_pi (pc' := 12) rfl rfl (sh_R (k := rk) (by omega)) rfl rfl hs160 (inS_s (inS_0 (by omega) (by omega) (by omega) (by omega))) (wr_R_0 (k := rk) (by omega) ⟨by omega, by omega⟩) (fun z161 hq162 hs163 => ?_)
  refine r_ld (pc' := 13) rfl rfl rfl rfl ?_
  refine r_ld (pc' := 14) rfl rfl rfl rfl ?_
  refine r_ld (pc' := 15) rfl rfl rfl rfl ?_
  refine r_gr (b := t + 7) (pc' := 18) rfl rfl (sh_T ht) rfl (pp_T_11 ht) ?_
  refine r_ld (pc' := 19) rfl rfl rfl rfl ?_
  refine r_aa (b := t + 8 + a2.toNat) (pc' := 20) rfl rfl (sh_T7 ht) (Or.inl rfl) rfl (by omega) (by omega) (pa_T7 ht (by omega)) ?_
  refine r_cVI (pc' := 23) rfl rfl rfl rfl rfl sh_4 (m_86 (d := d + 2) t (t + 8 + a2.toNat) hs163.1 hs163.2.1 ht (by exact WTt_f hs163 (notS_c (by omega) (notS_c (by omega) (notS_c (by omega) (notS_c (by omega) (notS_c (by omega) (notS_c (by omega) (notS_c (by omega) (notS_c (by omega) (notS_c (by omega) (notS_c (by omega) (notS_c (by omega) (notS_c (by omega) (notS_c (by omega) (notS_c (by omega) (notS_c (by omega) (notS_c (by omega) (notS_c (by omega) (notS_c (by omega) (notS_c (by omega) (notS_c (by omega) (notS_c (by omega) (notS_c (by omega) (notS_c (by omega) (notS_c (by omega) (notS_c (by omega) (notS_c (by omega) (notS_c (by omega) (notS_c (by omega) (notS_c (by omega) (notS_n)))))))))))))))))))))))))))))) (notS_c (by omega) (notS_c (by omega) (notS_c (by omega) (notS_c (by omega) (notS_c (by omega) (notS_c (by omega) (notS_c (by omega) (notS_c (by omega) (notS_c (by omega) (notS_c (by omega) (notS_c (by omega) (notS_c (by omega) (notS_c (by omega) (notS_c (by omega) (notS_c (by omega) (notS_c (by omega) (notS_c (by omega) (notS_c (by omega) (notS_c (by omega) (notS_c (by omega) (notS_c (by omega) (notS_c (by omega) (notS_c (by omega) (notS_c (by omega) (notS_c (by omega) (notS_c (by omega) (notS_c (by omega) (notS_c (by omega) (notS_c (by omega) (notS_n)))))))))))))))))))))))))))))) (fun i => (notS_c (by omega) (notS_c (by omega) (notS_c (by omega) (notS_c (by omega) (notS_c (by omega) (notS_c (by omega) (notS_c (by omega) (notS_c (by omega) (notS_c (by omega) (notS_c (by omega) (notS_c (by omega) (notS_c (by omega) (notS_c (by omega) (notS_c (by omega) (notS_c (by omega) (notS_c (by omega) (notS_c (by omega) (notS_c (by omega) (notS_c (by omega) (notS_c (by omega) (notS_c (by omega) (notS_c (by omega) (notS_c (by omega) (notS_c (by omega) (notS_c (by omega) (notS_c (by omega) (notS_c (by omega) (notS_c (by omega) (notS_c (by omega) (notS_n))))))))))))))))))))))))))))))) (fun i => (notS_c (by omega) (notS_c (by omega) (notS_c (by omega) (notS_c (by omega) (notS_c (by omega) (notS_c (by omega) (notS_c (by omega) (notS_c (by omega) (notS_c (by omega) (notS_c (by omega) (notS_c (by omega) (notS_c (by omega) (notS_c (by omega) (notS_c (by omega) (notS_c (by omega) (notS_c (by omega) (notS_c (by omega) (notS_c (by omega) (notS_c (by omega) (notS_c (by omega) (notS_c (by omega) (notS_c (by omega) (notS_c (by omega) (notS_c (by omega) (notS_c (by omega) (notS_c (by omega) (notS_c (by omega) (notS_c (by omega) (notS_c (by omega) (notS_n))))))))))))))))))))))))))))))) (fun i => (notS_c (by omega) (notS_c (by omega) (notS_c (by omega) (notS_c (by omega) (notS_c (by omega) (notS_c (by omega) (notS_c (by omega) (notS_c (by omega) (notS_c (by omega) (notS_c (by omega) (notS_c (by omega) (notS_c (by omega) (notS_c (by omega) (notS_c (by omega) (notS_c (by omega) (notS_c (by omega) (notS_c (by omega) (notS_c (by omega) (notS_c (by omega) (notS_c (by omega) (notS_c (by omega) (notS_c (by omega) (notS_c (by omega) (notS_c (by omega) (notS_c (by omega) (notS_c (by omega) (notS_c (by omega) (notS_c (by omega) (notS_c (by omega) (notS_n))))))))))))))))))))))))))))))) hwt) (by exact FTt_fr (hs163.2.2.1 _ _ (notS_c (by omega) (notS_c (by omega) (notS_c (by omega) (notS_c (by omega) (notS_c (by omega) (notS_c (by omega) (notS_c (by omega) (notS_c (by omega) (notS_c (by omega) (notS_c (by omega) (notS_c (by omega) (notS_c (by omega) (notS_c (by omega) (notS_c (by omega) (notS_c (by omega) (notS_c (by omega) (notS_c (by omega) (notS_c (by omega) (notS_c (by omega) (notS_c (by omega) (notS_c (by omega) (notS_c (by omega) (notS_c (by omega) (notS_c (by omega) (notS_c (by omega) (notS_c (by omega) (notS_c (by omega) (notS_c (by omega) (notS_c (by omega) (notS_n))))))))))))))))))))))))))))))) (funext fun i => hs163.2.2.1 _ _ (notS_c (by omega) (notS_c (by omega) (notS_c (by omega) (notS_c (by omega) (notS_c (by omega) (notS_c (by omega) (notS_c (by omega) (notS_c (by omega) (notS_c (by omega) (notS_c (by omega) (notS_c (by omega) (notS_c (by omega) (notS_c (by omega) (notS_c (by omega) (notS_c (by omega) (notS_c (by omega) (notS_c (by omega) (notS_c (by omega) (notS_c (by omega) (notS_c (by omega) (notS_c (by omega) (notS_c (by omega) (notS_c (by omega) (notS_c (by omega) (notS_c (by omega) (notS_c (by omega) (notS_c (by omega) (notS_c (by omega) (notS_c (by omega) (notS_n))))))))))))))))))))))))))))))) hft) (lr_T8 ht (k := a2.toNat) (by omega) ) (by first | omega | assumption) (fun e he => by have q := rd_T8 ht (k := a2.toNat) (by omega) hs163.2.1 (i := e) he; exact ⟨by omega, by omega⟩)) (fun v164 z165 w166 p167 h168 hs169 hE170 => ?_)
  have hs171 := st_tr hs163 hs169 (subS_c (fun _ _ _ _ _ _ => inS_s (inS_s (inS_0 (by omega) (by omega) (by omega) (by omega)))) (subS_c (fun _ _ _ _ _ _ => inS_s (inS_s (inS_s (inS_0 (by omega) (by omega) (by omega) (by omega))))) (subS_c (fun _ _ _ _ _ _ => inS_s (inS_s (inS_s (inS_s (inS_0 (by omega) (by omega) (by omega) (by omega)))))) subS_n)))
  obtain ⟨rfl, hE170⟩ := hE170
  have hld := hE170.2.2
  refine r_zne (pc' := 26) rfl rfl ⟨by omega, by omega⟩ (fun hc172 => ?_) (fun hc172 => ?_)
  · skip
    refine r_ld (pc' := 28) rfl rfl rfl rfl ?_
    have g0 : z165 t 0 = z0 t 0 := hs171.2.2.1 _ _ (notS_c (by omega) (notS_c (by omega) (notS_c (by omega) (notS_c (by omega) (notS_c (by omega) (notS_c (by omega) (notS_c (by omega) (notS_c (by omega) (notS_c (by omega) (notS_c (by omega) (notS_c (by omega) (notS_c (by omega) (notS_c (by omega) (notS_c (by omega) (notS_c (by omega) (notS_c (by omega) (notS_c (by omega) (notS_c (by omega) (notS_c (by omega) (notS_c (by omega) (notS_c (by omega) (notS_c (by omega) (notS_c (by omega) (notS_c (by omega) (notS_c (by omega) (notS_c (by omega) (notS_c (by omega) (notS_c (by omega) (notS_c (by omega) (notS_n))))))))))))))))))))))))))))))
    have gt1 : z165 t 1 = z0 t 1 := hs171.2.2.1 _ _ (notS_c (by omega) (notS_c (by omega) (notS_c (by omega) (notS_c (by omega) (notS_c (by omega) (notS_c (by omega) (notS_c (by omega) (notS_c (by omega) (notS_c (by omega) (notS_c (by omega) (notS_c (by omega) (notS_c (by omega) (notS_c (by omega) (notS_c (by omega) (notS_c (by omega) (notS_c (by omega) (notS_c (by omega) (notS_c (by omega) (notS_c (by omega) (notS_c (by omega) (notS_c (by omega) (notS_c (by omega) (notS_c (by omega) (notS_c (by omega) (notS_c (by omega) (notS_c (by omega) (notS_c (by omega) (notS_c (by omega) (notS_c (by omega) (notS_n))))))))))))))))))))))))))))))
    have g1 : z165 (t + 1) = z0 (t + 1) := funext fun i => hs171.2.2.1 _ _ (notS_c (by omega) (notS_c (by omega) (notS_c (by omega) (notS_c (by omega) (notS_c (by omega) (notS_c (by omega) (notS_c (by omega) (notS_c (by omega) (notS_c (by omega) (notS_c (by omega) (notS_c (by omega) (notS_c (by omega) (notS_c (by omega) (notS_c (by omega) (notS_c (by omega) (notS_c (by omega) (notS_c (by omega) (notS_c (by omega) (notS_c (by omega) (notS_c (by omega) (notS_c (by omega) (notS_c (by omega) (notS_c (by omega) (notS_c (by omega) (notS_c (by omega) (notS_c (by omega) (notS_c (by omega) (notS_c (by omega) (notS_c (by omega) (notS_n))))))))))))))))))))))))))))))
    have g5 : z165 (t + 5) = z0 (t + 5) := funext fun i => hs171.2.2.1 _ _ (notS_c (by omega) (notS_c (by omega) (notS_c (by omega) (notS_c (by omega) (notS_c (by omega) (notS_c (by omega) (notS_c (by omega) (notS_c (by omega) (notS_c (by omega) (notS_c (by omega) (notS_c (by omega) (notS_c (by omega) (notS_c (by omega) (notS_c (by omega) (notS_c (by omega) (notS_c (by omega) (notS_c (by omega) (notS_c (by omega) (notS_c (by omega) (notS_c (by omega) (notS_c (by omega) (notS_c (by omega) (notS_c (by omega) (notS_c (by omega) (notS_c (by omega) (notS_c (by omega) (notS_c (by omega) (notS_c (by omega) (notS_c (by omega) (notS_n))))))))))))))))))))))))))))))
    have hb173 := rd_T_0 ht hz
    have hf174 : z165 t 0 = z0 t 0 := ((hs169.2.2.1 _ _ (notS_c (by omega) (notS_c (by omega) (notS_c (by omega) notS_n)))).trans (((congrFun (congrFun hq162 _) _).trans (mu_ne (by omega))).trans ((congrFun (congrFun hq159 _) _).trans (mu_ne (by omega)))))
    have hb175 := rd_T_1 ht hz
    have hf176 : z165 t 1 = z0 t 1 := ((hs169.2.2.1 _ _ (notS_c (by omega) (notS_c (by omega) (notS_c (by omega) notS_n)))).trans (((congrFun (congrFun hq162 _) _).trans (mu_ne (by omega))).trans ((congrFun (congrFun hq159 _) _).trans (mu_ne (by omega)))))
    have hF177 : z165 (t + 1) = z0 (t + 1) := ((funext fun _ => hs169.2.2.1 _ _ (notS_c (by omega) (notS_c (by omega) (notS_c (by omega) notS_n)))).trans (((congrFun hq162 _).trans (mu_fn (by omega))).trans ((congrFun hq159 _).trans (mu_fn (by omega)))))
    have hF178 : z165 (t + 5) = z0 (t + 5) := ((funext fun _ => hs169.2.2.1 _ _ (notS_c (by omega) (notS_c (by omega) (notS_c (by omega) notS_n)))).trans (((congrFun hq162 _).trans (mu_fn (by omega))).trans ((congrFun hq159 _).trans (mu_fn (by omega)))))
    refine r_cVV (pc' := 31) rfl rfl rfl rfl rfl sh_4 (m_93 (d := d) t hs171.1 hs171.2.1 ht (by exact WTt_f hs171 (notS_c (by omega) (notS_c (by omega) (notS_c (by omega) (notS_c (by omega) (notS_c (by omega) (notS_c (by omega) (notS_c (by omega) (notS_c (by omega) (notS_c (by omega) (notS_c (by omega) (notS_c (by omega) (notS_c (by omega) (notS_c (by omega) (notS_c (by omega) (notS_c (by omega) (notS_c (by omega) (notS_c (by omega) (notS_c (by omega) (notS_c (by omega) (notS_c (by omega) (notS_c (by omega) (notS_c (by omega) (notS_c (by omega) (notS_c (by omega) (notS_c (by omega) (notS_c (by omega) (notS_c (by omega) (notS_c (by omega) (notS_c (by omega) (notS_n)))))))))))))))))))))))))))))) (notS_c (by omega) (notS_c (by omega) (notS_c (by omega) (notS_c (by omega) (notS_c (by omega) (notS_c (by omega) (notS_c (by omega) (notS_c (by omega) (notS_c (by omega) (notS_c (by omega) (notS_c (by omega) (notS_c (by omega) (notS_c (by omega) (notS_c (by omega) (notS_c (by omega) (notS_c (by omega) (notS_c (by omega) (notS_c (by omega) (notS_c (by omega) (notS_c (by omega) (notS_c (by omega) (notS_c (by omega) (notS_c (by omega) (notS_c (by omega) (notS_c (by omega) (notS_c (by omega) (notS_c (by omega) (notS_c (by omega) (notS_c (by omega) (notS_n)))))))))))))))))))))))))))))) (fun i => (notS_c (by omega) (notS_c (by omega) (notS_c (by omega) (notS_c (by omega) (notS_c (by omega) (notS_c (by omega) (notS_c (by omega) (notS_c (by omega) (notS_c (by omega) (notS_c (by omega) (notS_c (by omega) (notS_c (by omega) (notS_c (by omega) (notS_c (by omega) (notS_c (by omega) (notS_c (by omega) (notS_c (by omega) (notS_c (by omega) (notS_c (by omega) (notS_c (by omega) (notS_c (by omega) (notS_c (by omega) (notS_c (by omega) (notS_c (by omega) (notS_c (by omega) (notS_c (by omega) (notS_c (by omega) (notS_c (by omega) (notS_c (by omega) (notS_n))))))))))))))))))))))))))))))) (fun i => (notS_c (by omega) (notS_c (by omega) (notS_c (by omega) (notS_c (by omega) (notS_c (by omega) (notS_c (by omega) (notS_c (by omega) (notS_c (by omega) (notS_c (by omega) (notS_c (by omega) (notS_c (by omega) (notS_c (by omega) (notS_c (by omega) (notS_c (by omega) (notS_c (by omega) (notS_c (by omega) (notS_c (by omega) (notS_c (by omega) (notS_c (by omega) (notS_c (by omega) (notS_c (by omega) (notS_c (by omega) (notS_c (by omega) (notS_c (by omega) (notS_c (by omega) (notS_c (by omega) (notS_c (by omega) (notS_c (by omega) (notS_c (by omega) (notS_n))))))))))))))))))))))))))))))) (fun i => (notS_c (by omega) (notS_c (by omega) (notS_c (by omega) (notS_c (by omega) (notS_c (by omega) (notS_c (by omega) (notS_c (by omega) (notS_c (by omega) (notS_c (by omega) (notS_c (by omega) (notS_c (by omega) (notS_c (by omega) (notS_c (by omega) (notS_c (by omega) (notS_c (by omega) (notS_c (by omega) (notS_c (by omega) (notS_c (by omega) (notS_c (by omega) (notS_c (by omega) (notS_c (by omega) (notS_c (by omega) (notS_c (by omega) (notS_c (by omega) (notS_c (by omega) (notS_c (by omega) (notS_c (by omega) (notS_c (by omega) (notS_c (by omega) (notS_n))))))))))))))))))))))))))))))) hwt) (by exact (hld (by omega)).1)) (fun z180 w181 p182 hs184 hE185 => ?_)
    have hs186 := st_tr hs171 hs184 (subS_c (fun _ _ _ _ _ _ => inS_s (inS_s (inS_s (inS_s (inS_s (inS_0 (by omega) (by omega) (by omega) (by omega))))))) (subS_c (fun _ _ _ _ _ _ => inS_s (inS_s (inS_s (inS_s (inS_s (inS_s (inS_0 (by omega) (by omega) (by omega) (by omega)))))))) (subS_c (fun _ _ _ _ _ _ => inS_s (inS_s (inS_s (inS_s (inS_s (inS_s (inS_s (inS_0 (by omega) (by omega) (by omega) (by omega))))))))) (subS_c (fun _ _ _ _ _ _ => inS_s (inS_s (inS_s (inS_s (inS_s (inS_s (inS_s (inS_s (inS_0 (by omega) (by omega) (by omega) (by omega)))))))))) (subS_c (fun _ _ _ _ _ _ => inS_s (inS_s (inS_s (inS_s (inS_s (inS_s (inS_s (inS_s (inS_s (inS_0 (by omega) (by omega) (by omega) (by omega))))))))))) (subS_c (fun _ _ _ _ _ _ => inS_s (inS_s (inS_s (inS_s (inS_s (inS_s (inS_s (inS_s (inS_s (inS_s (inS_0 (by omega) (by omega) (by omega) (by omega)))))))))))) (subS_c (fun _ _ _ _ _ _ => inS_s (inS_s (inS_s (inS_s (inS_s (inS_s (inS_s (inS_s (inS_s (inS_s (inS_s (inS_0 (by omega) (by omega) (by omega) (by omega))))))))))))) (subS_c (fun _ _ _ _ _ _ => inS_s (inS_s (inS_s (inS_s (inS_s (inS_s (inS_s (inS_s (inS_s (inS_s (inS_s (inS_s (inS_0 (by omega) (by omega) (by omega) (by omega)))))))))))))) subS_n))))))))
    obtain ⟨rfl, hE185⟩ := hE185
    have hcn := hE185
    rw [g0, gt1, g1, g5] at hcn
    refine r_ld (pc' := 32) rfl rfl rfl rfl ?_
    have hb187 := rd_4_0 hs186.1
    refine r_cVI (pc' := 35) rfl rfl rfl rfl rfl sh_4 (m_96v (d := d + 3)  hs186.1 hs186.2.1 ) (fun v188 z189 w190 p191 h192 hs193 hE194 => ?_)
    obtain ⟨rfl, rfl, rfl, hE194⟩ := hE194
    have his := hE194.2.2
    refine r_zne (pc' := 38) rfl rfl ⟨by omega, by omega⟩ (fun hc196 => ?_) (fun hc196 => ?_)
    · skip
      have hc1 := hcn (his (by omega))
      have hl7 := (hld (by omega)).2
      refine r_ld (pc' := 40) rfl rfl rfl rfl ?_
      refine r_c0 (pc' := 41) rfl rfl ?_
      refine r_ld (pc' := 42) rfl rfl rfl rfl ?_
      refine r_gi (pc' := 45) rfl rfl (sh_T ht) rfl ((hs184.2.2.1 _ _ (notS_c (by omega) (notS_c (by omega) (notS_c (by omega) (notS_c (by omega) (notS_c (by omega) (notS_c (by omega) (notS_c (by omega) (notS_c (by omega) notS_n))))))))).trans ((hs169.2.2.1 _ _ (notS_c (by omega) (notS_c (by omega) (notS_c (by omega) notS_n)))).trans (((congrFun (congrFun hq162 _) _).trans (mu_ne (by omega))).trans ((congrFun (congrFun hq159 _) _).trans (mu_ne (by omega)))))) ?_
      refine r_mul (pc' := 46) rfl rfl ?_
      refine r_pi (pc' := 49) rfl rfl sh_11 rfl rfl hs186 (inS_s (inS_s (inS_s (inS_s (inS_s (inS_s (inS_s (inS_s (inS_s (inS_s (inS_s (inS_s (inS_s (inS_0 (by omega) (by omega) (by omega) (by omega))))))))))))))) (wr_11_4 ⟨by omega, by omega⟩) (fun z197 hq198 hs199 => ?_)
      refine r_ld (pc' := 50) rfl rfl rfl rfl ?_
      refine r_ld (pc' := 51) rfl rfl rfl rfl ?_
      refine r_gi (pc' := 54) rfl rfl (sh_T ht) rfl (((congrFun (congrFun hq198 _) _).trans (mu_ne (by omega))).trans ((hs184.2.2.1 _ _ (notS_c (by omega) (notS_c (by omega) (notS_c (by omega) (notS_c (by omega) (notS_c (by omega) (notS_c (by omega) (notS_c (by omega) (notS_c (by omega) notS_n))))))))).trans ((hs169.2.2.1 _ _ (notS_c (by omega) (notS_c (by omega) (notS_c (by omega) notS_n)))).trans (((congrFun (congrFun hq162 _) _).trans (mu_ne (by omega))).trans ((congrFun (congrFun hq159 _) _).trans (mu_ne (by omega))))))) ?_
      refine r_pi (pc' := 57) rfl rfl sh_11 rfl rfl hs199 (inS_s (inS_s (inS_s (inS_s (inS_s (inS_s (inS_s (inS_s (inS_s (inS_s (inS_s (inS_s (inS_s (inS_s (inS_0 (by omega) (by omega) (by omega) (by omega)))))))))))))))) (wr_11_5 ⟨by omega, by omega⟩) (fun z200 hq201 hs202 => ?_)
      refine r_c0 (pc' := 58) rfl rfl ?_
      refine r_st (pc' := 60) (lv' := [(5, _), (0, _), (1, _), (2, _), (3, _), (4, _)]) rfl rfl rfl rfl ?_
      have hf203 : z200 11 4 = 3 * (z0 t 0) := (((congrFun (congrFun hq201 _) _).trans (mu_ne (by omega))).trans ((congrFun (congrFun hq198 _) _).trans mu_eq))
      have hf204 : z200 11 5 = z0 t 1 := ((congrFun (congrFun hq201 _) _).trans mu_eq)
      have hf205 : z200 (17 + 2 * rk) 1 = 0 := (((congrFun (congrFun hq201 _) _).trans (mu_ne (by omega))).trans (((congrFun (congrFun hq198 _) _).trans (mu_ne (by omega))).trans ((hs184.2.2.1 _ _ (notS_c (by omega) (notS_c (by omega) (notS_c (by omega) (notS_c (by omega) (notS_c (by omega) (notS_c (by omega) (notS_c (by omega) (notS_c (by omega) notS_n))))))))).trans ((hs169.2.2.1 _ _ (notS_c (by omega) (notS_c (by omega) (notS_c (by omega) notS_n)))).trans (((congrFun (congrFun hq162 _) _).trans (mu_ne (by omega))).trans ((congrFun (congrFun hq159 _) _).trans mu_eq))))))
      have hb206 := rd_11_10 hw
      have hb207 := rd_11_6 hz
      have hb208 := rd_11_7 hz
      have hb209 := rd_11_8 hz
      have hb210 := rd_11_9 hz
      exact w_lv (sub_c rfl (sub_c rfl (sub_c rfl (sub_c rfl (sub_c rfl sub_n))))) rfl ((key ((60 * (36 - 0) + 26 : Int).toNat + 1)) 0 z200 w181 ⟨by omega, by omega⟩ hs202 (((hs184.2.2.2 _ _ (notS_c (by omega) (notS_c (by omega) (notS_c (by omega) (notS_c (by omega) (notS_c (by omega) (notS_c (by omega) (notS_c (by omega) (notS_c (by omega) notS_n))))))))).trans (hs169.2.2.2 _ _ (notS_c (by omega) (notS_c (by omega) (notS_c (by omega) notS_n)))))) ((((congrFun (congrFun hq201 _) _).trans (mu_ne (by omega))).trans (((congrFun (congrFun hq198 _) _).trans (mu_ne (by omega))).trans ((hs184.2.2.1 _ _ (notS_c (by omega) (notS_c (by omega) (notS_c (by omega) (notS_c (by omega) (notS_c (by omega) (notS_c (by omega) (notS_c (by omega) (notS_c (by omega) notS_n))))))))).trans ((hs169.2.2.1 _ _ (notS_c (by omega) (notS_c (by omega) (notS_c (by omega) notS_n)))).trans (((congrFun (congrFun hq162 _) _).trans (mu_ne (by omega))).trans ((congrFun (congrFun hq159 _) _).trans (mu_ne (by omega))))))))) ((((congrFun (congrFun hq201 _) _).trans (mu_ne (by omega))).trans (((congrFun (congrFun hq198 _) _).trans (mu_ne (by omega))).trans ((hs184.2.2.1 _ _ (notS_c (by omega) (notS_c (by omega) (notS_c (by omega) (notS_c (by omega) (notS_c (by omega) (notS_c (by omega) (notS_c (by omega) (notS_c (by omega) notS_n))))))))).trans ((hs169.2.2.1 _ _ (notS_c (by omega) (notS_c (by omega) (notS_c (by omega) notS_n)))).trans (((congrFun (congrFun hq162 _) _).trans (mu_ne (by omega))).trans ((congrFun (congrFun hq159 _) _).trans (mu_ne (by omega))))))))) ((((congrFun (congrFun hq201 _) _).trans (mu_ne (by omega))).trans (((congrFun (congrFun hq198 _) _).trans (mu_ne (by omega))).trans ((hs184.2.2.1 _ _ (notS_c (by omega) (notS_c (by omega) (notS_c (by omega) (notS_c (by omega) (notS_c (by omega) (notS_c (by omega) (notS_c (by omega) (notS_c (by omega) notS_n))))))))).trans ((hs169.2.2.1 _ _ (notS_c (by omega) (notS_c (by omega) (notS_c (by omega) notS_n)))).trans (((congrFun (congrFun hq162 _) _).trans (mu_ne (by omega))).trans ((congrFun (congrFun hq159 _) _).trans (mu_ne (by omega))))))))) ((((congrFun (congrFun hq201 _) _).trans (mu_ne (by omega))).trans (((congrFun (congrFun hq198 _) _).trans (mu_ne (by omega))).trans ((hs184.2.2.1 _ _ (notS_c (by omega) (notS_c (by omega) (notS_c (by omega) (notS_c (by omega) (notS_c (by omega) (notS_c (by omega) (notS_c (by omega) (notS_c (by omega) notS_n))))))))).trans ((hs169.2.2.1 _ _ (notS_c (by omega) (notS_c (by omega) (notS_c (by omega) notS_n)))).trans (((congrFun (congrFun hq162 _) _).trans (mu_ne (by omega))).trans ((congrFun (congrFun hq159 _) _).trans (mu_ne (by omega))))))))) (by first | (intro e he; exfalso; omega) | (intro s hs; rw [hqm]; by_cases c : s = x5.toNat; (subst c; exact mu_eq); (rw [mu_ne (by omega)]; exact as1 s (by omega)))) (by first | omega | assumption | (simp only [hf203, hf204, hf205]; assumption)) (by first | exact as3 | exact ⟨CN_cg (WT.lt hwt) (fun j hj => (hl7 j hj).symm) hc1.1, by obtain ⟨e, k1, k2⟩ := hc1.2; exact ⟨e, k1, by rw [← hl7 e (by omega)]; exact k2⟩⟩) (by omega))
    · skip
      have hf211 : z180 (17 + 2 * rk) 0 = 0 := ((hs184.2.2.1 _ _ (notS_c (by omega) (notS_c (by omega) (notS_c (by omega) (notS_c (by omega) (notS_c (by omega) (notS_c (by omega) (notS_c (by omega) (notS_c (by omega) notS_n))))))))).trans ((hs169.2.2.1 _ _ (notS_c (by omega) (notS_c (by omega) (notS_c (by omega) notS_n)))).trans ((congrFun (congrFun hq162 _) _).trans mu_eq)))
      exact r_ret rfl (po_V hs186 ⟨rfl, (by first | (unfold GRt; intro h; exfalso; omega) | exact GRt_cg hgr dt0 dT1 (fun i _ => rfl) rfl)⟩)
  · skip
    have hf212 : z165 (17 + 2 * rk) 0 = 0 := ((hs169.2.2.1 _ _ (notS_c (by omega) (notS_c (by omega) (notS_c (by omega) notS_n)))).trans ((congrFun (congrFun hq162 _) _).trans mu_eq))
    exact r_ret rfl (po_V hs171 ⟨rfl, (by first | (unfold GRt; intro h; exfalso; omega) | exact GRt_cg hgr dt0 dT1 (fun i _ => rfl) rfl)⟩)
/-- Mover settle -/
abbrev S_21  : mS := [(4, 4, 8, 8), (7, 7, 0, 17), (6, 6, 0, 17), (4, 4, 0, 0), (4, 4, 1, 1), (5, 5, 0, 281), (4, 4, 9, 9), (4, 4, 10, 10), (4, 4, 11, 11), (4, 4, 12, 12), (4, 4, 13, 13), (11, 11, 4, 4), (11, 11, 5, 5), (15, 15, 0, 17), (13, 13, 0, 17), (14, 14, 0, 17), (11, 11, 6, 6), (11, 11, 7, 7), (11, 11, 8, 8), (11, 11, 9, 9), (11, 11, 10, 10), (17, 32, 0, 1781), (12, 12, 0, 35)]
abbrev E_21 (t : Nat) (z0 w0 : mZ) (x y tx it mt tt ct : Option Nat) : mZ → mZ → mP → Prop := fun z w p => ∃ tt_e : Option Nat, p = (pq x y tx it (some t) tt_e ct) ∧ (∀ l : Nat, (l : Int) < z0 t 3 → GRt z0 z t l)
theorem m_21 {d : Nat} {z0 w0 : mZ} {x y tx it mt tt ct : Option Nat} (t : Nat) (hz : rz z0) (hw : rw_ w0) (ht : isT t) (hwt : WTt z0 t) (hlf : LF z0 w0 t) : wc (d + 6) 21 [.ref 10, .ref t, .ref 4] (mk z0 w0 (pq x y tx it mt tt ct)) (poV S_21 z0 w0 (E_21 t z0 w0 x y tx it mt tt ct)) := by
  have hst : st_ S_21 z0 w0 z0 w0 := st_rf hz hw
  have htb : 159 ≤ t ∧ t ≤ 192 := by have := ht; unfold isT at this; omega
  have hz12 := rd_T_3 ht hz
  have hzt0 := rd_T_0 ht hz
  have hzt1 := rd_T_1 ht hz
  have hzt3 := rd_T_3 ht hz
  have key : ∀ N : Nat, (∀ (x3 : Int) (z w : mZ) (ttv : Option Nat), 0 ≤ x3 ∧ x3 ≤ 8 → st_ S_21 z0 w0 z w → (∀ l : Nat, (l : Int) < x3 → GRt z0 z t l) → 22 * (8 - x3) + 16 < (N : Int) → wp_ (d + 5) 21 4 none (7, [(0, .ref 10), (1, .ref t), (2, .ref 4), (3, .int (Int32.ofInt x3))], [], mk z w (pq x y tx it (some t) ttv ct)) (poV S_21 z0 w0 (E_21 t z0 w0 x y tx it mt tt ct))) := by
    intro N
    induction N with
    | zero =>
      intro x3 z w ttv
      intros; exfalso; omega
    | succ N ih =>
      have ih0 := ih; clear ih
      intro x3 z w  ttv hx3 hst as1 hM
      refine r_ld (pc' := 8) rfl rfl rfl rfl ?_
      refine r_ld (pc' := 9) rfl rfl rfl rfl ?_
      have hb13 := rd_T_3 ht hz
      refine r_gi (pc' := 12) rfl rfl (sh_T ht) rfl (hst.2.2.1 _ _ (notS_c (by omega) (notS_c (by omega) (notS_c (by omega) (notS_c (by omega) (notS_c (by omega) (notS_c (by omega) (notS_c (by omega) (notS_c (by omega) (notS_c (by omega) (notS_c (by omega) (notS_c (by omega) (notS_c (by omega) (notS_c (by omega) (notS_c (by omega) (notS_c (by omega) (notS_c (by omega) (notS_c (by omega) (notS_c (by omega) (notS_c (by omega) (notS_c (by omega) (notS_c (by omega) (notS_c (by omega) (notS_c (by omega) notS_n)))))))))))))))))))))))) ?_
      refine r_ige (pc' := 15) rfl rfl ⟨by omega, by omega⟩ ⟨by omega, by omega⟩ (fun hc14 => ?_) (fun hc14 => ?_)
      · skip
        exact r_ret rfl (po_V hst ⟨_, rfl, (by exact fun l hl => as1 l (by omega))⟩)
      · skip
        refine r_ld (pc' := 16) rfl rfl rfl rfl ?_
        refine r_gr (b := 11) (pc' := 19) rfl rfl sh_10 rfl pp_10_0 ?_
        refine r_ld (pc' := 20) rfl rfl rfl rfl ?_
        refine r_ld (pc' := 21) rfl rfl rfl rfl ?_
        refine r_ld (pc' := 22) rfl rfl rfl rfl ?_
        refine r_ld (pc' := 23) rfl rfl rfl rfl ?_
        refine r_gr (b := 16) (pc' := 26) rfl rfl sh_10 rfl pp_10_1 ?_
        refine r_ld (pc' := 27) rfl rfl rfl rfl ?_
        refine r_aa (b := 17 + 2 * x3.toNat) (pc' := 28) rfl rfl sh_16 (Or.inr (Or.inr rfl)) rfl (by omega) (by omega) (pa_16 (by omega)) ?_
        have g0 : z t 0 = z0 t 0 := hst.2.2.1 _ _ (notS_c (by omega) (notS_c (by omega) (notS_c (by omega) (notS_c (by omega) (notS_c (by omega) (notS_c (by omega) (notS_c (by omega) (notS_c (by omega) (notS_c (by omega) (notS_c (by omega) (notS_c (by omega) (notS_c (by omega) (notS_c (by omega) (notS_c (by omega) (notS_c (by omega) (notS_c (by omega) (notS_c (by omega) (notS_c (by omega) (notS_c (by omega) (notS_c (by omega) (notS_c (by omega) (notS_c (by omega) (notS_c (by omega) (notS_n))))))))))))))))))))))))
        have g1 : z (t + 1) = z0 (t + 1) := funext fun i => hst.2.2.1 _ _ (notS_c (by omega) (notS_c (by omega) (notS_c (by omega) (notS_c (by omega) (notS_c (by omega) (notS_c (by omega) (notS_c (by omega) (notS_c (by omega) (notS_c (by omega) (notS_c (by omega) (notS_c (by omega) (notS_c (by omega) (notS_c (by omega) (notS_c (by omega) (notS_c (by omega) (notS_c (by omega) (notS_c (by omega) (notS_c (by omega) (notS_c (by omega) (notS_c (by omega) (notS_c (by omega) (notS_c (by omega) (notS_c (by omega) (notS_n))))))))))))))))))))))))
        have gw : w (t + 8 + x3.toNat) = w0 (t + 8 + x3.toNat) := funext fun i => hst.2.2.2 _ _ (notS_c (by omega) (notS_c (by omega) (notS_c (by omega) (notS_c (by omega) (notS_c (by omega) (notS_c (by omega) (notS_c (by omega) (notS_c (by omega) (notS_c (by omega) (notS_c (by omega) (notS_c (by omega) (notS_c (by omega) (notS_c (by omega) (notS_c (by omega) (notS_c (by omega) (notS_c (by omega) (notS_c (by omega) (notS_c (by omega) (notS_c (by omega) (notS_c (by omega) (notS_c (by omega) (notS_c (by omega) (notS_c (by omega) (notS_n))))))))))))))))))))))))
        have hF15 : w (t + 8 + x3.toNat) = w0 (t + 8 + x3.toNat) := (funext fun _ => hst.2.2.2 _ _ (notS_c (by omega) (notS_c (by omega) (notS_c (by omega) (notS_c (by omega) (notS_c (by omega) (notS_c (by omega) (notS_c (by omega) (notS_c (by omega) (notS_c (by omega) (notS_c (by omega) (notS_c (by omega) (notS_c (by omega) (notS_c (by omega) (notS_c (by omega) (notS_c (by omega) (notS_c (by omega) (notS_c (by omega) (notS_c (by omega) (notS_c (by omega) (notS_c (by omega) (notS_c (by omega) (notS_c (by omega) (notS_c (by omega) notS_n))))))))))))))))))))))))
        refine r_cVV (pc' := 31) rfl rfl rfl rfl rfl sh_11 (m_53 (d := d) t x3 x3.toNat hst.1 hst.2.1 ⟨by omega, by omega⟩ (by first | omega | assumption | (simp only [hF15]; assumption)) ht (by exact WTt_f hst (notS_c (by omega) (notS_c (by omega) (notS_c (by omega) (notS_c (by omega) (notS_c (by omega) (notS_c (by omega) (notS_c (by omega) (notS_c (by omega) (notS_c (by omega) (notS_c (by omega) (notS_c (by omega) (notS_c (by omega) (notS_c (by omega) (notS_c (by omega) (notS_c (by omega) (notS_c (by omega) (notS_c (by omega) (notS_c (by omega) (notS_c (by omega) (notS_c (by omega) (notS_c (by omega) (notS_c (by omega) (notS_c (by omega) (notS_n)))))))))))))))))))))))) (notS_c (by omega) (notS_c (by omega) (notS_c (by omega) (notS_c (by omega) (notS_c (by omega) (notS_c (by omega) (notS_c (by omega) (notS_c (by omega) (notS_c (by omega) (notS_c (by omega) (notS_c (by omega) (notS_c (by omega) (notS_c (by omega) (notS_c (by omega) (notS_c (by omega) (notS_c (by omega) (notS_c (by omega) (notS_c (by omega) (notS_c (by omega) (notS_c (by omega) (notS_c (by omega) (notS_c (by omega) (notS_c (by omega) (notS_n)))))))))))))))))))))))) (fun i => (notS_c (by omega) (notS_c (by omega) (notS_c (by omega) (notS_c (by omega) (notS_c (by omega) (notS_c (by omega) (notS_c (by omega) (notS_c (by omega) (notS_c (by omega) (notS_c (by omega) (notS_c (by omega) (notS_c (by omega) (notS_c (by omega) (notS_c (by omega) (notS_c (by omega) (notS_c (by omega) (notS_c (by omega) (notS_c (by omega) (notS_c (by omega) (notS_c (by omega) (notS_c (by omega) (notS_c (by omega) (notS_c (by omega) (notS_n))))))))))))))))))))))))) (fun i => (notS_c (by omega) (notS_c (by omega) (notS_c (by omega) (notS_c (by omega) (notS_c (by omega) (notS_c (by omega) (notS_c (by omega) (notS_c (by omega) (notS_c (by omega) (notS_c (by omega) (notS_c (by omega) (notS_c (by omega) (notS_c (by omega) (notS_c (by omega) (notS_c (by omega) (notS_c (by omega) (notS_c (by omega) (notS_c (by omega) (notS_c (by omega) (notS_c (by omega) (notS_c (by omega) (notS_c (by omega) (notS_c (by omega) (notS_n))))))))))))))))))))))))) (fun i => (notS_c (by omega) (notS_c (by omega) (notS_c (by omega) (notS_c (by omega) (notS_c (by omega) (notS_c (by omega) (notS_c (by omega) (notS_c (by omega) (notS_c (by omega) (notS_c (by omega) (notS_c (by omega) (notS_c (by omega) (notS_c (by omega) (notS_c (by omega) (notS_c (by omega) (notS_c (by omega) (notS_c (by omega) (notS_c (by omega) (notS_c (by omega) (notS_c (by omega) (notS_c (by omega) (notS_c (by omega) (notS_c (by omega) (notS_n))))))))))))))))))))))))) hwt) (by rw [gw]; exact FTt_fr g0 g1 (hlf x3.toNat (by omega)))) (fun z17 w18 p19 hs21 hE22 => ?_)
        have hs23 := st_tr hst hs21 (subS_c (fun _ _ _ _ _ _ => inS_s (inS_s (inS_s (inS_s (inS_s (inS_s (inS_s (inS_s (inS_s (inS_s (inS_s (inS_s (inS_s (inS_s (inS_s (inS_s (inS_s (inS_s (inS_s (inS_s (inS_s (inS_0 (by omega) (by omega) (by omega) (by omega))))))))))))))))))))))) (subS_c (fun _ _ _ _ _ _ => inS_s (inS_s (inS_s (inS_s (inS_s (inS_s (inS_s (inS_s (inS_s (inS_s (inS_s (inS_s (inS_s (inS_s (inS_s (inS_s (inS_s (inS_s (inS_s (inS_s (inS_s (inS_0 (by omega) (by omega) (by omega) (by omega))))))))))))))))))))))) (subS_c (fun _ _ _ _ _ _ => inS_0 (by omega) (by omega) (by omega) (by omega)) (subS_c (fun _ _ _ _ _ _ => inS_s (inS_0 (by omega) (by omega) (by omega) (by omega))) (subS_c (fun _ _ _ _ _ _ => inS_s (inS_s (inS_0 (by omega) (by omega) (by omega) (by omega)))) (subS_c (fun _ _ _ _ _ _ => inS_s (inS_s (inS_s (inS_0 (by omega) (by omega) (by omega) (by omega))))) (subS_c (fun _ _ _ _ _ _ => inS_s (inS_s (inS_s (inS_s (inS_0 (by omega) (by omega) (by omega) (by omega)))))) (subS_c (fun _ _ _ _ _ _ => inS_s (inS_s (inS_s (inS_s (inS_s (inS_0 (by omega) (by omega) (by omega) (by omega))))))) (subS_c (fun _ _ _ _ _ _ => inS_s (inS_s (inS_s (inS_s (inS_s (inS_s (inS_0 (by omega) (by omega) (by omega) (by omega)))))))) (subS_c (fun _ _ _ _ _ _ => inS_s (inS_s (inS_s (inS_s (inS_s (inS_s (inS_s (inS_0 (by omega) (by omega) (by omega) (by omega))))))))) (subS_c (fun _ _ _ _ _ _ => inS_s (inS_s (inS_s (inS_s (inS_s (inS_s (inS_s (inS_s (inS_0 (by omega) (by omega) (by omega) (by omega)))))))))) (subS_c (fun _ _ _ _ _ _ => inS_s (inS_s (inS_s (inS_s (inS_s (inS_s (inS_s (inS_s (inS_s (inS_0 (by omega) (by omega) (by omega) (by omega))))))))))) (subS_c (fun _ _ _ _ _ _ => inS_s (inS_s (inS_s (inS_s (inS_s (inS_s (inS_s (inS_s (inS_s (inS_s (inS_0 (by omega) (by omega) (by omega) (by omega)))))))))))) (subS_c (fun _ _ _ _ _ _ => inS_s (inS_s (inS_s (inS_s (inS_s (inS_s (inS_s (inS_s (inS_s (inS_s (inS_s (inS_0 (by omega) (by omega) (by omega) (by omega))))))))))))) (subS_c (fun _ _ _ _ _ _ => inS_s (inS_s (inS_s (inS_s (inS_s (inS_s (inS_s (inS_s (inS_s (inS_s (inS_s (inS_s (inS_0 (by omega) (by omega) (by omega) (by omega)))))))))))))) (subS_c (fun _ _ _ _ _ _ => inS_s (inS_s (inS_s (inS_s (inS_s (inS_s (inS_s (inS_s (inS_s (inS_s (inS_s (inS_s (inS_s (inS_0 (by omega) (by omega) (by omega) (by omega))))))))))))))) (subS_c (fun _ _ _ _ _ _ => inS_s (inS_s (inS_s (inS_s (inS_s (inS_s (inS_s (inS_s (inS_s (inS_s (inS_s (inS_s (inS_s (inS_s (inS_0 (by omega) (by omega) (by omega) (by omega)))))))))))))))) (subS_c (fun _ _ _ _ _ _ => inS_s (inS_s (inS_s (inS_s (inS_s (inS_s (inS_s (inS_s (inS_s (inS_s (inS_s (inS_s (inS_s (inS_s (inS_s (inS_0 (by omega) (by omega) (by omega) (by omega))))))))))))))))) (subS_c (fun _ _ _ _ _ _ => inS_s (inS_s (inS_s (inS_s (inS_s (inS_s (inS_s (inS_s (inS_s (inS_s (inS_s (inS_s (inS_s (inS_s (inS_s (inS_s (inS_0 (by omega) (by omega) (by omega) (by omega)))))))))))))))))) (subS_c (fun _ _ _ _ _ _ => inS_s (inS_s (inS_s (inS_s (inS_s (inS_s (inS_s (inS_s (inS_s (inS_s (inS_s (inS_s (inS_s (inS_s (inS_s (inS_s (inS_s (inS_0 (by omega) (by omega) (by omega) (by omega))))))))))))))))))) (subS_c (fun _ _ _ _ _ _ => inS_s (inS_s (inS_s (inS_s (inS_s (inS_s (inS_s (inS_s (inS_s (inS_s (inS_s (inS_s (inS_s (inS_s (inS_s (inS_s (inS_s (inS_s (inS_0 (by omega) (by omega) (by omega) (by omega)))))))))))))))))))) (subS_c (fun _ _ _ _ _ _ => inS_s (inS_s (inS_s (inS_s (inS_s (inS_s (inS_s (inS_s (inS_s (inS_s (inS_s (inS_s (inS_s (inS_s (inS_s (inS_s (inS_s (inS_s (inS_s (inS_0 (by omega) (by omega) (by omega) (by omega))))))))))))))))))))) (subS_c (fun _ _ _ _ _ _ => inS_s (inS_s (inS_s (inS_s (inS_s (inS_s (inS_s (inS_s (inS_s (inS_s (inS_s (inS_s (inS_s (inS_s (inS_s (inS_s (inS_s (inS_s (inS_s (inS_s (inS_0 (by omega) (by omega) (by omega) (by omega)))))))))))))))))))))) (subS_c (fun _ _ _ _ _ _ => inS_s (inS_s (inS_s (inS_s (inS_s (inS_s (inS_s (inS_s (inS_s (inS_s (inS_s (inS_s (inS_s (inS_s (inS_s (inS_s (inS_s (inS_s (inS_s (inS_s (inS_s (inS_0 (by omega) (by omega) (by omega) (by omega))))))))))))))))))))))) (subS_c (fun _ _ _ _ _ _ => inS_s (inS_s (inS_s (inS_s (inS_s (inS_s (inS_s (inS_s (inS_s (inS_s (inS_s (inS_s (inS_s (inS_s (inS_s (inS_s (inS_s (inS_s (inS_s (inS_s (inS_s (inS_s (inS_0 (by omega) (by omega) (by omega) (by omega)))))))))))))))))))))))) (subS_c (fun _ _ _ _ _ _ => inS_s (inS_s (inS_s (inS_s (inS_s (inS_s (inS_s (inS_s (inS_s (inS_s (inS_s (inS_s (inS_s (inS_s (inS_s (inS_s (inS_s (inS_s (inS_s (inS_s (inS_s (inS_0 (by omega) (by omega) (by omega) (by omega))))))))))))))))))))))) (subS_c (fun _ _ _ _ _ _ => inS_s (inS_s (inS_s (inS_s (inS_s (inS_s (inS_s (inS_s (inS_s (inS_s (inS_s (inS_s (inS_s (inS_s (inS_s (inS_s (inS_s (inS_s (inS_s (inS_s (inS_s (inS_0 (by omega) (by omega) (by omega) (by omega))))))))))))))))))))))) (subS_c (fun _ _ _ _ _ _ => inS_s (inS_s (inS_s (inS_s (inS_s (inS_s (inS_s (inS_s (inS_s (inS_s (inS_s (inS_s (inS_s (inS_s (inS_s (inS_s (inS_s (inS_s (inS_s (inS_s (inS_s (inS_0 (by omega) (by omega) (by omega) (by omega))))))))))))))))))))))) (subS_c (fun _ _ _ _ _ _ => inS_s (inS_s (inS_s (inS_s (inS_s (inS_s (inS_s (inS_s (inS_s (inS_s (inS_s (inS_s (inS_s (inS_s (inS_s (inS_s (inS_s (inS_s (inS_s (inS_s (inS_s (inS_0 (by omega) (by omega) (by omega) (by omega))))))))))))))))))))))) subS_n)))))))))))))))))))))))))))))
        obtain ⟨rfl, hE22⟩ := hE22
        have hgr := hE22
        refine r_inc (pc' := 34) (lv' := [(0, _), (1, _), (2, _)]) rfl rfl rfl rfl rfl ?_
        refine r_go rfl ?_
        exact w_lv (sub_c rfl (sub_c rfl (sub_c rfl (sub_c rfl sub_n)))) rfl (ih0 (x3 + 1) z17 w18 (some t) ⟨by omega, by omega⟩ hs23 (by first | (intro l hl; exfalso; omega) | (intro l hl; by_cases c : l = x3.toNat; (subst c; exact GRt_cg hgr g0 g1 (fun i _ => rfl) rfl); exact GRt_cg (as1 l (by omega)) rfl rfl (fun i hi => (hs21.2.2.1 _ _ (notS_c (by omega) (notS_c (by omega) (notS_c (by omega) (notS_c (by omega) (notS_c (by omega) (notS_c (by omega) (notS_c (by omega) (notS_c (by omega) (notS_c (by omega) (notS_c (by omega) (notS_c (by omega) (notS_c (by omega) (notS_c (by omega) (notS_c (by omega) (notS_c (by omega) (notS_c (by omega) (notS_c (by omega) (notS_c (by omega) (notS_c (by omega) (notS_c (by omega) (notS_c (by omega) (notS_c (by omega) (notS_c (by omega) (notS_c (by omega) (notS_c (by omega) (notS_c (by omega) (notS_c (by omega) (notS_c (by omega) (notS_c (by omega) notS_n))))))))))))))))))))))))))))))) (funext fun i => (hs21.2.2.1 _ _ (notS_c (by omega) (notS_c (by omega) (notS_c (by omega) (notS_c (by omega) (notS_c (by omega) (notS_c (by omega) (notS_c (by omega) (notS_c (by omega) (notS_c (by omega) (notS_c (by omega) (notS_c (by omega) (notS_c (by omega) (notS_c (by omega) (notS_c (by omega) (notS_c (by omega) (notS_c (by omega) (notS_c (by omega) (notS_c (by omega) (notS_c (by omega) (notS_c (by omega) (notS_c (by omega) (notS_c (by omega) (notS_c (by omega) (notS_c (by omega) (notS_c (by omega) (notS_c (by omega) (notS_c (by omega) (notS_c (by omega) (notS_c (by omega) notS_n))))))))))))))))))))))))))))))))) (by omega))
  refine w_m rfl rfl ?_
  refine r_ld (pc' := 1) rfl rfl rfl rfl ?_
  refine r_ld (pc' := 2) rfl rfl rfl rfl ?_
  refine r_pr (b := some t) (pc' := 5) rfl rfl sh_10 rfl rfl pq_u4 ?_
  refine r_c0 (pc' := 6) rfl rfl ?_
  refine r_st (pc' := 7) (lv' := [(3, _), (0, _), (1, _), (2, _)]) rfl rfl rfl rfl ?_
  exact w_lv (sub_c rfl (sub_c rfl (sub_c rfl (sub_c rfl sub_n)))) rfl ((key ((22 * (8 - 0) + 16 : Int).toNat + 1)) 0 z0 w0 tt ⟨by omega, by omega⟩ hst (by first | (intro l hl; exfalso; omega) | (intro l hl; by_cases c : l = x3.toNat; (subst c; exact GRt_cg hgr g0 g1 (fun i _ => rfl) rfl); exact GRt_cg (as1 l (by omega)) rfl rfl (fun i hi => rfl) (funext fun i => rfl))) (by omega))

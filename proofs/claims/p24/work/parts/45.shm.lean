/-! methods, printed by wip/tools/vcg.py -/
/-- Shortener findSides -/
abbrev S_55v  : mS := [(13, 13, 0, 17), (14, 14, 0, 17)]
abbrev E_55v (t : Nat) (z0 w0 : mZ) (x y tx it mt tt ct : Option Nat) : mZ → mZ → mP → Prop := fun z w p => p = (pq x y tx it mt tt ct) ∧ (SD (z0 t 0) (z0 t 1) (z0 12) (z 13) (z 14))
theorem m_55v {d : Nat} {z0 w0 : mZ} {x y tx it mt tt ct : Option Nat} (t : Nat) (hz : rz z0) (hw : rw_ w0) (ht : isT t) (hly : LY (z0 t 0) (z0 t 1) (z0 12)) (hsl : z0 11 4 = 3 * z0 t 0 ∧ z0 11 5 = z0 t 1) : wc (d + 1) 55 [.ref 11] (mk z0 w0 (pq x y tx it mt tt ct)) (poV S_55v z0 w0 (E_55v t z0 w0 x y tx it mt tt ct)) := by
  have hst : st_ S_55v z0 w0 z0 w0 := st_rf hz hw
  have htb : 159 ≤ t ∧ t ≤ 192 := by have := ht; unfold isT at this; omega
  have hz17 := rd_11_4 hz
  have hz18 := rd_11_5 hz
  have hz19 := rd_T_0 ht hz
  have hz20 := rd_T_1 ht hz
  have hzt0 := rd_T_0 ht hz
  have hzt1 := rd_T_1 ht hz
  have key : ∀ N : Nat, (∀ (x1 : Int) (z w : mZ), 0 ≤ x1 ∧ x1 ≤ 18 → st_ S_55v z0 w0 z w → (∀ e : Nat, (e : Int) < x1 → z 13 e = -1) → 44 * (18 - x1) + 1713 < (N : Int) → wp_ (d) 55 3 none (2, [(0, .ref 11), (1, .int (Int32.ofInt x1))], [], mk z w (pq x y tx it mt tt ct)) (poV S_55v z0 w0 (E_55v t z0 w0 x y tx it mt tt ct))) ∧ (∀ (x1 : Int) (z w : mZ), 0 ≤ x1 ∧ x1 ≤ 36 → st_ S_55v z0 w0 z w → (FS (z0 t 1) (z0 12) (z 13) (z 14) x1) → (x1 ≤ z0 11 4) → 44 * (36 - x1) + 28 < (N : Int) → wp_ (d) 55 3 none (25, [(0, .ref 11), (1, .int (Int32.ofInt x1))], [], mk z w (pq x y tx it mt tt ct)) (poV S_55v z0 w0 (E_55v t z0 w0 x y tx it mt tt ct))) := by
    intro N
    induction N with
    | zero =>
      refine ⟨?_, ?_⟩
      · intro x1 z w
        intros; exfalso; omega
      · intro x1 z w
        intros; exfalso; omega
    | succ N ih =>
      obtain ⟨ih0, ih1⟩ := ih
      refine ⟨?_, ?_⟩
      · intro x1 z w  hx1 hst as1 hM
        refine r_ld (pc' := 3) rfl rfl rfl rfl ?_
        refine r_ld (pc' := 4) rfl rfl rfl rfl ?_
        have hb21 := rd_11_5 hz
        refine r_gi (pc' := 7) rfl rfl sh_11 rfl (hst.2.2.1 _ _ (notS_c (by omega) (notS_c (by omega) notS_n))) ?_
        refine r_ige (pc' := 10) rfl rfl ⟨by omega, by omega⟩ ⟨by omega, by omega⟩ (fun hc22 => ?_) (fun hc22 => ?_)
        · skip
          refine r_c0 (pc' := 24) rfl rfl ?_
          refine r_st (pc' := 25) (lv' := [(1, _), (0, _)]) rfl rfl rfl rfl ?_
          exact w_lv (sub_c rfl (sub_c rfl sub_n)) rfl (ih1 0 z w ⟨by omega, by omega⟩ hst (by first | exact FS_0 (fun e he => as1 e (by omega)) | exact FS_lo as1 (by omega) (e0 := (z0 12 x1.toNat).toNat) (by omega) (by assumption) (fun j hj => by rw [hqa]; exact mu_ne (by omega)) (by rw [hqa]; exact mu_eq) (fun j => by rw [hqa]; exact mu_ne (by omega)) | exact FS_hi hly as1 (by omega) (by omega) (e0 := (z0 12 x1.toNat).toNat) (by omega) (by assumption) (fun j hj => by rw [hqb]; exact mu_ne (by omega)) (by rw [hqb]; exact mu_eq) (fun j => by rw [hqb]; exact mu_ne (by omega))) (by first | omega | assumption) (by omega))
        · skip
          refine r_ld (pc' := 11) rfl rfl rfl rfl ?_
          refine r_gr (b := 13) (pc' := 14) rfl rfl sh_11 rfl pp_11_1 ?_
          refine r_ld (pc' := 15) rfl rfl rfl rfl ?_
          refine r_c0 (pc' := 16) rfl rfl ?_
          refine r_is (pc' := 17) rfl rfl sh_13 rfl (by omega) (by omega) hst (inS_0 (by omega) (by omega) (by omega) (by omega)) (wr_13 ⟨by omega, by omega⟩) (fun z23 hq24 hs25 => ?_)
          have hqm := hq24
          refine r_inc (pc' := 20) (lv' := [(0, _)]) rfl rfl rfl rfl rfl ?_
          refine r_go rfl ?_
          exact w_lv (sub_c rfl (sub_c rfl sub_n)) rfl (ih0 (x1 + 1) z23 w ⟨by omega, by omega⟩ hs25 (by first | (intro e he; exfalso; omega) | (intro e he; rw [hqm]; by_cases c : e = x1.toNat; (subst c; exact mu_eq); (rw [mu_ne (by omega)]; exact as1 e (by omega)))) (by omega))
      · intro x1 z w  hx1 hst as1 as2 hM
        refine r_ld (pc' := 26) rfl rfl rfl rfl ?_
        refine r_ld (pc' := 27) rfl rfl rfl rfl ?_
        have hb26 := rd_11_4 hz
        refine r_gi (pc' := 30) rfl rfl sh_11 rfl (hst.2.2.1 _ _ (notS_c (by omega) (notS_c (by omega) notS_n))) ?_
        refine r_ige (pc' := 33) rfl rfl ⟨by omega, by omega⟩ ⟨by omega, by omega⟩ (fun hc27 => ?_) (fun hc27 => ?_)
        · skip
          exact r_ret rfl (po_V hst ⟨rfl, (by exact FS_end hly as1 (by omega))⟩)
        · skip
          refine r_ld (pc' := 34) rfl rfl rfl rfl ?_
          refine r_gr (b := 12) (pc' := 37) rfl rfl sh_11 rfl pp_11_0 ?_
          refine r_ld (pc' := 38) rfl rfl rfl rfl ?_
          have hb28 := rd_12 hz (i := x1.toNat) (by omega)
          refine r_ia (pc' := 39) rfl rfl sh_12 rfl (by omega) (by omega) (hst.2.2.1 _ _ (notS_c (by omega) (notS_c (by omega) notS_n))) ?_
          refine r_st (pc' := 40) (lv' := [(2, _), (0, _), (1, _)]) rfl rfl rfl rfl ?_
          refine r_ld (pc' := 41) rfl rfl rfl rfl ?_
          refine r_gr (b := 13) (pc' := 44) rfl rfl sh_11 rfl pp_11_1 ?_
          refine r_ld (pc' := 45) rfl rfl rfl rfl ?_
          have hb29 := rd_13 hst.1 (i := (z0 12 x1.toNat).toNat) (by omega)
          refine r_ia (pc' := 46) rfl rfl sh_13 rfl (by omega) (by omega) rfl ?_
          refine r_c0 (pc' := 47) rfl rfl ?_
          refine r_ine (pc' := 50) rfl rfl ⟨by omega, by omega⟩ ⟨by decide, by decide⟩ (fun hc30 => ?_) (fun hc30 => ?_)
          · skip
            refine r_ld (pc' := 61) rfl rfl rfl rfl ?_
            refine r_gr (b := 14) (pc' := 64) rfl rfl sh_11 rfl pp_11_2 ?_
            refine r_ld (pc' := 65) rfl rfl rfl rfl ?_
            refine r_ld (pc' := 66) rfl rfl rfl rfl ?_
            refine r_is (pc' := 67) rfl rfl sh_14 rfl (by omega) (by omega) hst (inS_s (inS_0 (by omega) (by omega) (by omega) (by omega))) (wr_14 ⟨by omega, by omega⟩) (fun z31 hq32 hs33 => ?_)
            have hqb := hq32
            refine r_inc (pc' := 70) (lv' := [(2, _), (0, _)]) rfl rfl rfl rfl rfl ?_
            refine r_go rfl ?_
            have hF34 : z31 13 = z 13 := ((congrFun hq32 _).trans (mu_fn (by omega)))
            exact w_lv (sub_c rfl (sub_c rfl sub_n)) rfl (ih1 (x1 + 1) z31 w ⟨by omega, by omega⟩ hs33 (by first | exact FS_0 (fun e he => as1 e (by omega)) | exact FS_lo as1 (by omega) (e0 := (z0 12 x1.toNat).toNat) (by omega) (by assumption) (fun j hj => by rw [hqa]; exact mu_ne (by omega)) (by rw [hqa]; exact mu_eq) (fun j => by rw [hqa]; exact mu_ne (by omega)) | exact FS_hi hly as1 (by omega) (by omega) (e0 := (z0 12 x1.toNat).toNat) (by omega) (by assumption) (fun j hj => by rw [hqb]; exact mu_ne (by omega)) (by rw [hqb]; exact mu_eq) (fun j => by rw [hqb]; exact mu_ne (by omega))) (by first | omega | assumption | (simp only [hF34]; assumption)) (by omega))
          · skip
            refine r_ld (pc' := 51) rfl rfl rfl rfl ?_
            refine r_gr (b := 13) (pc' := 54) rfl rfl sh_11 rfl pp_11_1 ?_
            refine r_ld (pc' := 55) rfl rfl rfl rfl ?_
            refine r_ld (pc' := 56) rfl rfl rfl rfl ?_
            refine r_is (pc' := 57) rfl rfl sh_13 rfl (by omega) (by omega) hst (inS_0 (by omega) (by omega) (by omega) (by omega)) (wr_13 ⟨by omega, by omega⟩) (fun z35 hq36 hs37 => ?_)
            have hqa := hq36
            refine r_go rfl ?_
            refine r_inc (pc' := 70) (lv' := [(2, _), (0, _)]) rfl rfl rfl rfl rfl ?_
            refine r_go rfl ?_
            have hF38 : z35 14 = z 14 := ((congrFun hq36 _).trans (mu_fn (by omega)))
            exact w_lv (sub_c rfl (sub_c rfl sub_n)) rfl (ih1 (x1 + 1) z35 w ⟨by omega, by omega⟩ hs37 (by first | exact FS_0 (fun e he => as1 e (by omega)) | exact FS_lo as1 (by omega) (e0 := (z0 12 x1.toNat).toNat) (by omega) (by assumption) (fun j hj => by rw [hqa]; exact mu_ne (by omega)) (by rw [hqa]; exact mu_eq) (fun j => by rw [hqa]; exact mu_ne (by omega)) | exact FS_hi hly as1 (by omega) (by omega) (e0 := (z0 12 x1.toNat).toNat) (by omega) (by assumption) (fun j hj => by rw [hqb]; exact mu_ne (by omega)) (by rw [hqb]; exact mu_eq) (fun j => by rw [hqb]; exact mu_ne (by omega))) (by first | omega | assumption | (simp only [hF38]; assumption)) (by omega))
  refine w_m rfl rfl ?_
  refine r_c0 (pc' := 1) rfl rfl ?_
  refine r_st (pc' := 2) (lv' := [(1, _), (0, _)]) rfl rfl rfl rfl ?_
  exact w_lv (sub_c rfl (sub_c rfl sub_n)) rfl ((key ((44 * (18 - 0) + 1713 : Int).toNat + 1)).1 0 z0 w0 ⟨by omega, by omega⟩ hst (by first | (intro e he; exfalso; omega) | (intro e he; rw [hqm]; by_cases c : e = x1.toNat; (subst c; exact mu_eq); (rw [mu_ne (by omega)]; exact as1 e (by omega)))) (by omega))
/-- Shortener lookRound -/
abbrev S_58v  : mS := [(11, 11, 6, 6), (11, 11, 7, 7), (11, 11, 8, 8), (11, 11, 9, 9), (11, 11, 10, 10)]
abbrev E_58v (t : Nat) (a1 : Int) (z0 w0 : mZ) (x y tx it mt tt ct : Option Nat) : mZ → mZ → mP → Prop := fun z w p => p = (pq x y tx it mt tt ct) ∧ (LRq z0 z w0 w a1.toNat)
theorem m_58v {d : Nat} {z0 w0 : mZ} {x y tx it mt tt ct : Option Nat} (t : Nat) (a1 : Int) (hz : rz z0) (hw : rw_ w0) (ha1 : 0 ≤ a1 ∧ a1 ≤ 17) (ht : isT t) (hsd : SD (z0 t 0) (z0 t 1) (z0 12) (z0 13) (z0 14)) (hlt : a1 < z0 t 1) (hn0 : ∀ e : Nat, e < 18 → 0 ≤ w0 15 e ∧ w0 15 e ≤ 1782) : wc (d + 2) 58 [.ref 11, .int (Int32.ofInt a1)] (mk z0 w0 (pq x y tx it mt tt ct)) (poV S_58v z0 w0 (E_58v t a1 z0 w0 x y tx it mt tt ct)) := by
  have hst : st_ S_58v z0 w0 z0 w0 := st_rf hz hw
  have htb : 159 ≤ t ∧ t ≤ 192 := by have := ht; unfold isT at this; omega
  have hz81 := rd_T_0 ht hz
  have hz82 := rd_T_1 ht hz
  have hzt0 := rd_T_0 ht hz
  have hzt1 := rd_T_1 ht hz
  have hs1 := hsd a1.toNat (by omega)
  have hna := hn0 a1.toNat (by omega)
  refine w_m rfl rfl ?_
  refine r_ld (pc' := 1) rfl rfl rfl rfl ?_
  refine r_ld (pc' := 2) rfl rfl rfl rfl ?_
  refine r_gr (b := 12) (pc' := 5) rfl rfl sh_11 rfl pp_11_0 ?_
  refine r_ld (pc' := 6) rfl rfl rfl rfl ?_
  refine r_gr (b := 13) (pc' := 9) rfl rfl sh_11 rfl pp_11_1 ?_
  refine r_ld (pc' := 10) rfl rfl rfl rfl ?_
  have hb83 := rd_13 hz (i := a1.toNat) (by omega)
  refine r_ia (pc' := 11) rfl rfl sh_13 rfl (by omega) (by omega) rfl ?_
  refine r_cSI (pc' := 14) rfl rfl rfl rfl rfl (m_143 (d := d) (z0 13 a1.toNat) hst.1 hst.2.1 ⟨by omega, by omega⟩) (fun v84 z85 w86 p87 h88 hs89 hE90 => ?_)
  obtain ⟨rfl, rfl, rfl, hE90⟩ := hE90
  have hb11 : v84.toNat = bh (z0 13 a1.toNat).toNat := by have := bh_cases (z0 13 a1.toNat).toNat; omega
  have hr11 := rd_12 hz (i := v84.toNat) (by omega)
  have hn11 := hn0 (z0 12 v84.toNat).toNat (by omega)
  have hb92 := rd_12 hz (i := v84.toNat) (by omega)
  refine r_ia (pc' := 15) rfl rfl sh_12 rfl (by omega) (by omega) rfl ?_
  refine r_pi (pc' := 18) rfl rfl sh_11 rfl rfl hst (inS_0 (by omega) (by omega) (by omega) (by omega)) (wr_11_6 ⟨by omega, by omega⟩) (fun z93 hq94 hs95 => ?_)
  refine r_ld (pc' := 19) rfl rfl rfl rfl ?_
  refine r_ld (pc' := 20) rfl rfl rfl rfl ?_
  refine r_gr (b := 12) (pc' := 23) rfl rfl sh_11 rfl pp_11_0 ?_
  refine r_ld (pc' := 24) rfl rfl rfl rfl ?_
  refine r_gr (b := 13) (pc' := 27) rfl rfl sh_11 rfl pp_11_1 ?_
  refine r_ld (pc' := 28) rfl rfl rfl rfl ?_
  refine r_ia (pc' := 29) rfl rfl sh_13 rfl (by omega) (by omega) ((congrFun (congrFun hq94 _) _).trans (mu_ne (by omega))) ?_
  refine r_cSI (pc' := 32) rfl rfl rfl rfl rfl (m_144 (d := d) (z0 13 a1.toNat) hs95.1 hs95.2.1 ⟨by omega, by omega⟩) (fun v96 z97 w98 p99 h100 hs101 hE102 => ?_)
  obtain ⟨rfl, rfl, rfl, hE102⟩ := hE102
  have hb29 : v96.toNat = ah (z0 13 a1.toNat).toNat := by have := ah_cases (z0 13 a1.toNat).toNat; omega
  have hr29 := rd_12 hz (i := v96.toNat) (by omega)
  have hn29 := hn0 (z0 12 v96.toNat).toNat (by omega)
  have hb104 := rd_12 hz (i := v96.toNat) (by omega)
  refine r_ia (pc' := 33) rfl rfl sh_12 rfl (by omega) (by omega) ((congrFun (congrFun hq94 _) _).trans (mu_ne (by omega))) ?_
  refine r_pi (pc' := 36) rfl rfl sh_11 rfl rfl hs95 (inS_s (inS_0 (by omega) (by omega) (by omega) (by omega))) (wr_11_7 ⟨by omega, by omega⟩) (fun z105 hq106 hs107 => ?_)
  refine r_ld (pc' := 37) rfl rfl rfl rfl ?_
  refine r_ld (pc' := 38) rfl rfl rfl rfl ?_
  refine r_gr (b := 12) (pc' := 41) rfl rfl sh_11 rfl pp_11_0 ?_
  refine r_ld (pc' := 42) rfl rfl rfl rfl ?_
  refine r_gr (b := 14) (pc' := 45) rfl rfl sh_11 rfl pp_11_2 ?_
  refine r_ld (pc' := 46) rfl rfl rfl rfl ?_
  have hb108 := rd_14 hz (i := a1.toNat) (by omega)
  refine r_ia (pc' := 47) rfl rfl sh_14 rfl (by omega) (by omega) (((congrFun (congrFun hq106 _) _).trans (mu_ne (by omega))).trans ((congrFun (congrFun hq94 _) _).trans (mu_ne (by omega)))) ?_
  refine r_cSI (pc' := 50) rfl rfl rfl rfl rfl (m_143 (d := d) (z0 14 a1.toNat) hs107.1 hs107.2.1 ⟨by omega, by omega⟩) (fun v109 z110 w111 p112 h113 hs114 hE115 => ?_)
  obtain ⟨rfl, rfl, rfl, hE115⟩ := hE115
  have hb47 : v109.toNat = bh (z0 14 a1.toNat).toNat := by have := bh_cases (z0 14 a1.toNat).toNat; omega
  have hr47 := rd_12 hz (i := v109.toNat) (by omega)
  have hn47 := hn0 (z0 12 v109.toNat).toNat (by omega)
  have hb117 := rd_12 hz (i := v109.toNat) (by omega)
  refine r_ia (pc' := 51) rfl rfl sh_12 rfl (by omega) (by omega) (((congrFun (congrFun hq106 _) _).trans (mu_ne (by omega))).trans ((congrFun (congrFun hq94 _) _).trans (mu_ne (by omega)))) ?_
  refine r_pi (pc' := 54) rfl rfl sh_11 rfl rfl hs107 (inS_s (inS_s (inS_0 (by omega) (by omega) (by omega) (by omega)))) (wr_11_8 ⟨by omega, by omega⟩) (fun z118 hq119 hs120 => ?_)
  refine r_ld (pc' := 55) rfl rfl rfl rfl ?_
  refine r_ld (pc' := 56) rfl rfl rfl rfl ?_
  refine r_gr (b := 12) (pc' := 59) rfl rfl sh_11 rfl pp_11_0 ?_
  refine r_ld (pc' := 60) rfl rfl rfl rfl ?_
  refine r_gr (b := 14) (pc' := 63) rfl rfl sh_11 rfl pp_11_2 ?_
  refine r_ld (pc' := 64) rfl rfl rfl rfl ?_
  refine r_ia (pc' := 65) rfl rfl sh_14 rfl (by omega) (by omega) (((congrFun (congrFun hq119 _) _).trans (mu_ne (by omega))).trans (((congrFun (congrFun hq106 _) _).trans (mu_ne (by omega))).trans ((congrFun (congrFun hq94 _) _).trans (mu_ne (by omega))))) ?_
  refine r_cSI (pc' := 68) rfl rfl rfl rfl rfl (m_144 (d := d) (z0 14 a1.toNat) hs120.1 hs120.2.1 ⟨by omega, by omega⟩) (fun v121 z122 w123 p124 h125 hs126 hE127 => ?_)
  obtain ⟨rfl, rfl, rfl, hE127⟩ := hE127
  have hb65 : v121.toNat = ah (z0 14 a1.toNat).toNat := by have := ah_cases (z0 14 a1.toNat).toNat; omega
  have hr65 := rd_12 hz (i := v121.toNat) (by omega)
  have hn65 := hn0 (z0 12 v121.toNat).toNat (by omega)
  have hb129 := rd_12 hz (i := v121.toNat) (by omega)
  refine r_ia (pc' := 69) rfl rfl sh_12 rfl (by omega) (by omega) (((congrFun (congrFun hq119 _) _).trans (mu_ne (by omega))).trans (((congrFun (congrFun hq106 _) _).trans (mu_ne (by omega))).trans ((congrFun (congrFun hq94 _) _).trans (mu_ne (by omega))))) ?_
  refine r_pi (pc' := 72) rfl rfl sh_11 rfl rfl hs120 (inS_s (inS_s (inS_s (inS_0 (by omega) (by omega) (by omega) (by omega))))) (wr_11_9 ⟨by omega, by omega⟩) (fun z130 hq131 hs132 => ?_)
  refine r_ld (pc' := 73) rfl rfl rfl rfl ?_
  refine r_ld (pc' := 74) rfl rfl rfl rfl ?_
  refine r_gr (b := 15) (pc' := 77) rfl rfl sh_11 rfl pp_11_3 ?_
  refine r_ld (pc' := 78) rfl rfl rfl rfl ?_
  refine r_gi (pc' := 81) rfl rfl sh_11 rfl (((congrFun (congrFun hq131 _) _).trans (mu_ne (by omega))).trans (((congrFun (congrFun hq119 _) _).trans (mu_ne (by omega))).trans (((congrFun (congrFun hq106 _) _).trans (mu_ne (by omega))).trans ((congrFun (congrFun hq94 _) _).trans mu_eq)))) ?_
  have hb133 := rd_15 hw (i := (z0 12 v84.toNat).toNat) (by omega)
  refine r_la (pc' := 82) rfl rfl sh_15 rfl (by omega) (by omega) rfl ?_
  refine r_ld (pc' := 83) rfl rfl rfl rfl ?_
  refine r_gr (b := 15) (pc' := 86) rfl rfl sh_11 rfl pp_11_3 ?_
  refine r_ld (pc' := 87) rfl rfl rfl rfl ?_
  refine r_gi (pc' := 90) rfl rfl sh_11 rfl (((congrFun (congrFun hq131 _) _).trans (mu_ne (by omega))).trans ((congrFun (congrFun hq119 _) _).trans mu_eq)) ?_
  have hb134 := rd_15 hw (i := (z0 12 v109.toNat).toNat) (by omega)
  refine r_la (pc' := 91) rfl rfl sh_15 rfl (by omega) (by omega) rfl ?_
  refine r_ladd (pc' := 92) rfl rfl ?_
  refine w_hxl (fun v135 h136 h137 => ?_)
  refine r_ld (pc' := 93) rfl rfl rfl rfl ?_
  refine r_gr (b := 15) (pc' := 96) rfl rfl sh_11 rfl pp_11_3 ?_
  refine r_ld (pc' := 97) rfl rfl rfl rfl ?_
  refine r_gi (pc' := 100) rfl rfl sh_11 rfl (((congrFun (congrFun hq131 _) _).trans (mu_ne (by omega))).trans (((congrFun (congrFun hq119 _) _).trans (mu_ne (by omega))).trans ((congrFun (congrFun hq106 _) _).trans mu_eq))) ?_
  have hb138 := rd_15 hw (i := (z0 12 v96.toNat).toNat) (by omega)
  refine r_la (pc' := 101) rfl rfl sh_15 rfl (by omega) (by omega) rfl ?_
  refine r_ld (pc' := 102) rfl rfl rfl rfl ?_
  refine r_gr (b := 15) (pc' := 105) rfl rfl sh_11 rfl pp_11_3 ?_
  refine r_ld (pc' := 106) rfl rfl rfl rfl ?_
  refine r_gi (pc' := 109) rfl rfl sh_11 rfl ((congrFun (congrFun hq131 _) _).trans mu_eq) ?_
  have hb139 := rd_15 hw (i := (z0 12 v121.toNat).toNat) (by omega)
  refine r_la (pc' := 110) rfl rfl sh_15 rfl (by omega) (by omega) rfl ?_
  refine r_ladd (pc' := 111) rfl rfl ?_
  refine w_hxl (fun v140 h141 h142 => ?_)
  refine r_cSL (pc' := 114) rfl rfl rfl rfl rfl (m_262 (d := d) v135 v140 hs132.1 hs132.2.1 ⟨by omega, by omega⟩ ⟨by omega, by omega⟩) (fun v143 z144 w145 p146 h147 hs148 hE149 => ?_)
  obtain ⟨rfl, rfl, rfl, hE149⟩ := hE149
  refine r_ld (pc' := 115) rfl rfl rfl rfl ?_
  refine r_gr (b := 15) (pc' := 118) rfl rfl sh_11 rfl pp_11_3 ?_
  refine r_ld (pc' := 119) rfl rfl rfl rfl ?_
  have hb151 := rd_15 hw (i := a1.toNat) (by omega)
  refine r_la (pc' := 120) rfl rfl sh_15 rfl (by omega) (by omega) rfl ?_
  refine r_lsub (pc' := 121) rfl rfl ?_
  refine w_hxl (fun v152 h153 h154 => ?_)
  refine r_pl (pc' := 124) rfl rfl sh_11 rfl rfl hs132 (inS_s (inS_s (inS_s (inS_s (inS_0 (by omega) (by omega) (by omega) (by omega)))))) (wr_11_10 ⟨by omega, by omega⟩) (fun w155 hq156 hs157 => ?_)
  have hf158 : z130 11 6 = z0 12 v84.toNat := (((congrFun (congrFun hq131 _) _).trans (mu_ne (by omega))).trans (((congrFun (congrFun hq119 _) _).trans (mu_ne (by omega))).trans (((congrFun (congrFun hq106 _) _).trans (mu_ne (by omega))).trans ((congrFun (congrFun hq94 _) _).trans mu_eq))))
  have hf159 : z130 11 7 = z0 12 v96.toNat := (((congrFun (congrFun hq131 _) _).trans (mu_ne (by omega))).trans (((congrFun (congrFun hq119 _) _).trans (mu_ne (by omega))).trans ((congrFun (congrFun hq106 _) _).trans mu_eq)))
  have hf160 : z130 11 8 = z0 12 v109.toNat := (((congrFun (congrFun hq131 _) _).trans (mu_ne (by omega))).trans ((congrFun (congrFun hq119 _) _).trans mu_eq))
  have hf161 : z130 11 9 = z0 12 v121.toNat := ((congrFun (congrFun hq131 _) _).trans mu_eq)
  have hf162 : w155 11 10 = v152 := ((congrFun (congrFun hq156 _) _).trans mu_eq)
  exact r_ret rfl (po_V hs157 ⟨rfl, (by unfold LRq; refine ⟨by rw [← hb11]; omega, by rw [← hb29]; omega, by rw [← hb47]; omega, by rw [← hb65]; omega, ?_⟩; simp only [hf158, hf159, hf160, hf161, hf162]; omega)⟩)
/-- Shortener turnEdge -/
abbrev S_59v  : mS := [(15, 15, 0, 17), (12, 12, 0, 35), (13, 13, 0, 17), (14, 14, 0, 17)]
abbrev E_59v (t : Nat) (a1 : Int) (z0 w0 : mZ) (x y tx it mt tt ct : Option Nat) : mZ → mZ → mP → Prop := fun z w p => p = (pq x y tx it mt tt ct) ∧ (FLP (z0 t 0).toNat (vT (z0 12)) (vT (z 12)) a1.toNat (z0 11 6).toNat (z0 11 7).toNat (z0 11 8).toNat (z0 11 9).toNat (z0 13 a1.toNat).toNat (z0 14 a1.toNat).toNat (z0 13 a1.toNat).toNat (z0 14 a1.toNat).toNat ∧ w 15 = fl a1.toNat (z0 11 6).toNat (z0 11 7).toNat (z0 11 8).toNat (z0 11 9).toNat (w0 15) ∧ SD (z0 t 0) (z0 t 1) (z 12) (z 13) (z 14) ∧ LY (z0 t 0) (z0 t 1) (z 12))
theorem m_59v {d : Nat} {z0 w0 : mZ} {x y tx it mt tt ct : Option Nat} (t : Nat) (a1 : Int) (hz : rz z0) (hw : rw_ w0) (ha1 : 0 ≤ a1 ∧ a1 ≤ 17) (ht : isT t) (hly : LY (z0 t 0) (z0 t 1) (z0 12)) (hsl : z0 11 4 = 3 * z0 t 0 ∧ z0 11 5 = z0 t 1) (hsd : SD (z0 t 0) (z0 t 1) (z0 12) (z0 13) (z0 14)) (hlt : a1 < z0 t 1) (hne : z0 13 a1.toNat / 3 ≠ z0 14 a1.toNat / 3) (hlr : LRq z0 z0 w0 w0 a1.toNat) : wc (d + 2) 59 [.ref 11, .int (Int32.ofInt a1)] (mk z0 w0 (pq x y tx it mt tt ct)) (poV S_59v z0 w0 (E_59v t a1 z0 w0 x y tx it mt tt ct)) := by
  have hst : st_ S_59v z0 w0 z0 w0 := st_rf hz hw
  have htb : 159 ≤ t ∧ t ≤ 192 := by have := ht; unfold isT at this; omega
  have hz72 := rd_11_4 hz
  have hz73 := rd_11_5 hz
  have hz74 := rd_11_6 hz
  have hz75 := rd_11_7 hz
  have hz76 := rd_11_8 hz
  have hz77 := rd_11_9 hz
  have hz78 := rd_T_0 ht hz
  have hz79 := rd_T_1 ht hz
  have hzt0 := rd_T_0 ht hz
  have hzt1 := rd_T_1 ht hz
  have hs1 := hsd a1.toNat (by omega)
  refine w_m rfl rfl ?_
  refine r_ld (pc' := 1) rfl rfl rfl rfl ?_
  refine r_gr (b := 15) (pc' := 4) rfl rfl sh_11 rfl pp_11_3 ?_
  refine r_ld (pc' := 5) rfl rfl rfl rfl ?_
  refine r_ld (pc' := 6) rfl rfl rfl rfl ?_
  have hb80 := rd_11_10 hw
  refine r_gl (pc' := 9) rfl rfl sh_11 rfl rfl ?_
  refine r_ls (pc' := 10) rfl rfl sh_15 rfl (by omega) (by omega) hst (inS_0 (by omega) (by omega) (by omega) (by omega)) (wr_15 ⟨by omega, by omega⟩) (fun w81 hq82 hs83 => ?_)
  have hqw := hq82
  refine r_ld (pc' := 11) rfl rfl rfl rfl ?_
  refine r_gr (b := 12) (pc' := 14) rfl rfl sh_11 rfl pp_11_0 ?_
  refine r_ld (pc' := 15) rfl rfl rfl rfl ?_
  refine r_gr (b := 13) (pc' := 18) rfl rfl sh_11 rfl pp_11_1 ?_
  refine r_ld (pc' := 19) rfl rfl rfl rfl ?_
  have hb84 := rd_13 hz (i := a1.toNat) (by omega)
  refine r_ia (pc' := 20) rfl rfl sh_13 rfl (by omega) (by omega) rfl ?_
  refine r_cSI (pc' := 23) rfl rfl rfl rfl rfl (m_143 (d := d) (z0 13 a1.toNat) hs83.1 hs83.2.1 ⟨by omega, by omega⟩) (fun v85 z86 w87 p88 h89 hs90 hE91 => ?_)
  obtain ⟨rfl, rfl, rfl, hE91⟩ := hE91
  have hb20 : v85.toNat = bh (z0 13 a1.toNat).toNat := by have := bh_cases (z0 13 a1.toNat).toNat; omega
  refine r_ld (pc' := 24) rfl rfl rfl rfl ?_
  have hb93 := rd_11_7 hz
  refine r_gi (pc' := 27) rfl rfl sh_11 rfl rfl ?_
  refine r_is (pc' := 28) rfl rfl sh_12 rfl (by omega) (by omega) hs83 (inS_s (inS_0 (by omega) (by omega) (by omega) (by omega))) (wr_12 ⟨by omega, by omega⟩) (fun z94 hq95 hs96 => ?_)
  have hq27 := hq95
  refine r_ld (pc' := 29) rfl rfl rfl rfl ?_
  refine r_gr (b := 12) (pc' := 32) rfl rfl sh_11 rfl pp_11_0 ?_
  refine r_ld (pc' := 33) rfl rfl rfl rfl ?_
  refine r_gr (b := 13) (pc' := 36) rfl rfl sh_11 rfl pp_11_1 ?_
  refine r_ld (pc' := 37) rfl rfl rfl rfl ?_
  refine r_ia (pc' := 38) rfl rfl sh_13 rfl (by omega) (by omega) ((congrFun (congrFun hq95 _) _).trans (mu_ne (by omega))) ?_
  refine r_cSI (pc' := 41) rfl rfl rfl rfl rfl (m_144 (d := d) (z0 13 a1.toNat) hs96.1 hs96.2.1 ⟨by omega, by omega⟩) (fun v97 z98 w99 p100 h101 hs102 hE103 => ?_)
  obtain ⟨rfl, rfl, rfl, hE103⟩ := hE103
  have hb38 : v97.toNat = ah (z0 13 a1.toNat).toNat := by have := ah_cases (z0 13 a1.toNat).toNat; omega
  refine r_ld (pc' := 42) rfl rfl rfl rfl ?_
  have hb105 := rd_11_8 hz
  refine r_gi (pc' := 45) rfl rfl sh_11 rfl ((congrFun (congrFun hq95 _) _).trans (mu_ne (by omega))) ?_
  refine r_is (pc' := 46) rfl rfl sh_12 rfl (by omega) (by omega) hs96 (inS_s (inS_0 (by omega) (by omega) (by omega) (by omega))) (wr_12 ⟨by omega, by omega⟩) (fun z106 hq107 hs108 => ?_)
  have hq45 := hq107
  refine r_ld (pc' := 47) rfl rfl rfl rfl ?_
  refine r_gr (b := 12) (pc' := 50) rfl rfl sh_11 rfl pp_11_0 ?_
  refine r_ld (pc' := 51) rfl rfl rfl rfl ?_
  refine r_gr (b := 14) (pc' := 54) rfl rfl sh_11 rfl pp_11_2 ?_
  refine r_ld (pc' := 55) rfl rfl rfl rfl ?_
  have hb109 := rd_14 hz (i := a1.toNat) (by omega)
  refine r_ia (pc' := 56) rfl rfl sh_14 rfl (by omega) (by omega) (((congrFun (congrFun hq107 _) _).trans (mu_ne (by omega))).trans ((congrFun (congrFun hq95 _) _).trans (mu_ne (by omega)))) ?_
  refine r_cSI (pc' := 59) rfl rfl rfl rfl rfl (m_143 (d := d) (z0 14 a1.toNat) hs108.1 hs108.2.1 ⟨by omega, by omega⟩) (fun v110 z111 w112 p113 h114 hs115 hE116 => ?_)
  obtain ⟨rfl, rfl, rfl, hE116⟩ := hE116
  have hb56 : v110.toNat = bh (z0 14 a1.toNat).toNat := by have := bh_cases (z0 14 a1.toNat).toNat; omega
  refine r_ld (pc' := 60) rfl rfl rfl rfl ?_
  have hb118 := rd_11_9 hz
  refine r_gi (pc' := 63) rfl rfl sh_11 rfl (((congrFun (congrFun hq107 _) _).trans (mu_ne (by omega))).trans ((congrFun (congrFun hq95 _) _).trans (mu_ne (by omega)))) ?_
  refine r_is (pc' := 64) rfl rfl sh_12 rfl (by omega) (by omega) hs108 (inS_s (inS_0 (by omega) (by omega) (by omega) (by omega))) (wr_12 ⟨by omega, by omega⟩) (fun z119 hq120 hs121 => ?_)
  have hq63 := hq120
  refine r_ld (pc' := 65) rfl rfl rfl rfl ?_
  refine r_gr (b := 12) (pc' := 68) rfl rfl sh_11 rfl pp_11_0 ?_
  refine r_ld (pc' := 69) rfl rfl rfl rfl ?_
  refine r_gr (b := 14) (pc' := 72) rfl rfl sh_11 rfl pp_11_2 ?_
  refine r_ld (pc' := 73) rfl rfl rfl rfl ?_
  refine r_ia (pc' := 74) rfl rfl sh_14 rfl (by omega) (by omega) (((congrFun (congrFun hq120 _) _).trans (mu_ne (by omega))).trans (((congrFun (congrFun hq107 _) _).trans (mu_ne (by omega))).trans ((congrFun (congrFun hq95 _) _).trans (mu_ne (by omega))))) ?_
  refine r_cSI (pc' := 77) rfl rfl rfl rfl rfl (m_144 (d := d) (z0 14 a1.toNat) hs121.1 hs121.2.1 ⟨by omega, by omega⟩) (fun v122 z123 w124 p125 h126 hs127 hE128 => ?_)
  obtain ⟨rfl, rfl, rfl, hE128⟩ := hE128
  have hb74 : v122.toNat = ah (z0 14 a1.toNat).toNat := by have := ah_cases (z0 14 a1.toNat).toNat; omega
  refine r_ld (pc' := 78) rfl rfl rfl rfl ?_
  have hb130 := rd_11_6 hz
  refine r_gi (pc' := 81) rfl rfl sh_11 rfl (((congrFun (congrFun hq120 _) _).trans (mu_ne (by omega))).trans (((congrFun (congrFun hq107 _) _).trans (mu_ne (by omega))).trans ((congrFun (congrFun hq95 _) _).trans (mu_ne (by omega))))) ?_
  refine r_is (pc' := 82) rfl rfl sh_12 rfl (by omega) (by omega) hs121 (inS_s (inS_0 (by omega) (by omega) (by omega) (by omega))) (wr_12 ⟨by omega, by omega⟩) (fun z131 hq132 hs133 => ?_)
  have hq81 := hq132
  refine r_ld (pc' := 83) rfl rfl rfl rfl ?_
  have gt0 : z131 t 0 = z0 t 0 := hs133.2.2.1 _ _ (notS_c (by omega) (notS_c (by omega) (notS_c (by omega) (notS_c (by omega) (notS_n)))))
  have gt1 : z131 t 1 = z0 t 1 := hs133.2.2.1 _ _ (notS_c (by omega) (notS_c (by omega) (notS_c (by omega) (notS_c (by omega) (notS_n)))))
  have hfl : FLP (z0 t 0).toNat (vT (z0 12)) (vT (z131 12)) a1.toNat (z0 11 6).toNat (z0 11 7).toNat (z0 11 8).toNat (z0 11 9).toNat (z0 13 a1.toNat).toNat (z0 14 a1.toNat).toNat (z0 13 a1.toNat).toNat (z0 14 a1.toNat).toNat := FLP_of (by omega) (fun s hs => (hly.2.2.2.1 s hs).1) hsd (by omega) hne hb20 hb38 hb56 hb74 hlr.1 hlr.2.1 hlr.2.2.1 hlr.2.2.2.1 (fun s => by rw [hq81, mu_sf, hq63, mu_sf, hq45, mu_sf, hq27, mu_sf])
  have hly2 : LY (z0 t 0) (z0 t 1) (z131 12) := LY_fl hly hfl (fun s hs => by have := rd_12 hs133.1 (i := s) (by omega); omega)
  have hb134 := rd_T_0 ht hz
  have hf135 : z131 t 0 = z0 t 0 := (((congrFun (congrFun hq132 _) _).trans (mu_ne (by omega))).trans (((congrFun (congrFun hq120 _) _).trans (mu_ne (by omega))).trans (((congrFun (congrFun hq107 _) _).trans (mu_ne (by omega))).trans ((congrFun (congrFun hq95 _) _).trans (mu_ne (by omega))))))
  have hb136 := rd_T_1 ht hz
  have hf137 : z131 t 1 = z0 t 1 := (((congrFun (congrFun hq132 _) _).trans (mu_ne (by omega))).trans (((congrFun (congrFun hq120 _) _).trans (mu_ne (by omega))).trans (((congrFun (congrFun hq107 _) _).trans (mu_ne (by omega))).trans ((congrFun (congrFun hq95 _) _).trans (mu_ne (by omega))))))
  have hb138 := rd_11_4 hz
  have hf139 : z131 11 4 = z0 11 4 := (((congrFun (congrFun hq132 _) _).trans (mu_ne (by omega))).trans (((congrFun (congrFun hq120 _) _).trans (mu_ne (by omega))).trans (((congrFun (congrFun hq107 _) _).trans (mu_ne (by omega))).trans ((congrFun (congrFun hq95 _) _).trans (mu_ne (by omega))))))
  have hb140 := rd_11_5 hz
  have hf141 : z131 11 5 = z0 11 5 := (((congrFun (congrFun hq132 _) _).trans (mu_ne (by omega))).trans (((congrFun (congrFun hq120 _) _).trans (mu_ne (by omega))).trans (((congrFun (congrFun hq107 _) _).trans (mu_ne (by omega))).trans ((congrFun (congrFun hq95 _) _).trans (mu_ne (by omega))))))
  refine r_cVV (pc' := 86) rfl rfl rfl rfl rfl sh_11 (m_55v (d := d) t hs133.1 hs133.2.1 ht (by rw [gt0, gt1]; exact hly2) (by first | omega | assumption | (simp only [hf135, hf137, hf139, hf141]; assumption))) (fun z143 w144 p145 hs147 hE148 => ?_)
  have hs149 := st_tr hs133 hs147 (sub_B rfl)
  obtain ⟨rfl, hE148⟩ := hE148
  have hsd2 := hE148
  rw [gt0, gt1] at hsd2
  have hF150 : z143 12 = z131 12 := (funext fun _ => hs147.2.2.1 _ _ (notS_c (by omega) (notS_c (by omega) notS_n)))
  exact r_ret rfl (po_V hs149 ⟨rfl, (by refine ⟨?_, ?_, ?_, ?_⟩; (simp only [hF150]; exact hfl); (funext j; rw [show w144 15 j = w81 15 j from (hs147.2.2.2 _ _ (notS_c (by omega) (notS_c (by omega) notS_n))), hqw, mu_sf]; unfold fl; rw [hlr.2.2.2.2]); (simp only [hF150]; exact hsd2); (simp only [hF150]; exact hly2))⟩)

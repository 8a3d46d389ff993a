/-! methods, printed by wip/tools/vcg.py -/
/-- LoopGroundModel findLine -/
abbrev S_165v  : mS := []
abbrev E_165v  (z0 w0 : mZ) (x y tx it mt tt ct : Option Nat) : Int → mZ → mZ → mP → Prop := fun v z w p => p = (pq x y tx it mt tt ct) ∧ z0 = z ∧ w0 = w ∧ (-1) ≤ v ∧ v ≤ 7 ∧ (v < z0 225 24)
theorem m_165v {d : Nat} {z0 w0 : mZ} {x y tx it mt tt ct : Option Nat}  (hz : rz z0) (hw : rw_ w0) : wc (d + 1) 165 [.ref 225] (mk z0 w0 (pq x y tx it mt tt ct)) (poI S_165v z0 w0 (E_165v  z0 w0 x y tx it mt tt ct)) := by
  have hst : st_ S_165v z0 w0 z0 w0 := st_rf hz hw
  have hz6 := rd_225_24 hz
  have h24 := rd_225_24 hz
  have key : ∀ N : Nat, (∀ (x1 x2 : Int) , (-1) ≤ x1 ∧ x1 ≤ 7 → 0 ≤ x2 ∧ x2 ≤ 8 → (x1 < z0 225 24) → 24 * (8 - x2) + 19 < (N : Int) → wp_ (d) 165 3 (some .int) (4, [(0, .ref 225), (1, .int (Int32.ofInt x1)), (2, .int (Int32.ofInt x2))], [], mk z0 w0 (pq x y tx it mt tt ct)) (poI S_165v z0 w0 (E_165v  z0 w0 x y tx it mt tt ct))) := by
    intro N
    induction N with
    | zero =>
      intro x1 x2 
      intros; exfalso; omega
    | succ N ih =>
      have ih0 := ih; clear ih
      intro x1 x2  hx1 hx2 as1 hM
      refine r_ld (pc' := 5) rfl rfl rfl rfl ?_
      refine r_ld (pc' := 6) rfl rfl rfl rfl ?_
      have hb7 := rd_225_24 hz
      refine r_gi (pc' := 9) rfl rfl sh_225 rfl rfl ?_
      refine r_ige (pc' := 12) rfl rfl ⟨by omega, by omega⟩ ⟨by omega, by omega⟩ (fun hc8 => ?_) (fun hc8 => ?_)
      · skip
        refine r_ld (pc' := 39) rfl rfl rfl rfl ?_
        exact r_ri rfl (po_I hst ⟨by omega, by omega⟩ ⟨rfl, rfl, rfl, by omega, by omega, (by first | omega | assumption)⟩)
      · skip
        refine r_ld (pc' := 13) rfl rfl rfl rfl ?_
        refine r_gr (b := 227) (pc' := 16) rfl rfl sh_225 rfl pp_225_10 ?_
        refine r_ld (pc' := 17) rfl rfl rfl rfl ?_
        have hb9 := rd_227 hw (i := x2.toNat) (by omega)
        refine r_la (pc' := 18) rfl rfl sh_227 rfl (by omega) (by omega) rfl ?_
        refine r_ld (pc' := 19) rfl rfl rfl rfl ?_
        have hb10 := rd_225_9 hw
        refine r_gl (pc' := 22) rfl rfl sh_225 rfl rfl ?_
        refine r_lne (pc' := 26) rfl rfl rfl ⟨by omega, by omega⟩ ⟨by omega, by omega⟩ (fun hc11 => ?_) (fun hc11 => ?_)
        · skip
          refine r_ld (pc' := 31) rfl rfl rfl rfl ?_
          refine r_st (pc' := 32) (lv' := [(1, _), (0, _), (2, _)]) rfl rfl rfl rfl ?_
          refine r_inc (pc' := 35) (lv' := [(1, _), (0, _)]) rfl rfl rfl rfl rfl ?_
          refine r_go rfl ?_
          exact w_lv (sub_c rfl (sub_c rfl (sub_c rfl sub_n))) rfl (ih0 x1 (x2 + 1) ⟨by omega, by omega⟩ ⟨by omega, by omega⟩ (by first | omega | assumption) (by omega))
        · skip
          refine r_ld (pc' := 27) rfl rfl rfl rfl ?_
          refine r_go rfl ?_
          refine r_st (pc' := 32) (lv' := [(1, _), (0, _), (2, _)]) rfl rfl rfl rfl ?_
          refine r_inc (pc' := 35) (lv' := [(1, _), (0, _)]) rfl rfl rfl rfl rfl ?_
          refine r_go rfl ?_
          exact w_lv (sub_c rfl (sub_c rfl (sub_c rfl sub_n))) rfl (ih0 x2 (x2 + 1) ⟨by omega, by omega⟩ ⟨by omega, by omega⟩ (by first | omega | assumption) (by omega))
  refine w_m rfl rfl ?_
  refine r_c0 (pc' := 1) rfl rfl ?_
  refine r_st (pc' := 2) (lv' := [(1, _), (0, _)]) rfl rfl rfl rfl ?_
  refine r_c0 (pc' := 3) rfl rfl ?_
  refine r_st (pc' := 4) (lv' := [(2, _), (1, _), (0, _)]) rfl rfl rfl rfl ?_
  exact w_lv (sub_c rfl (sub_c rfl (sub_c rfl sub_n))) rfl ((key ((24 * (8 - 0) + 19 : Int).toNat + 1)) ((-1)) 0 ⟨by omega, by omega⟩ ⟨by omega, by omega⟩ (by first | omega | assumption) (by omega))
/-- LoopGroundModel readWordOf -/
abbrev S_168v  : mS := [(225, 225, 4, 4), (225, 225, 7, 7), (225, 225, 9, 9), (225, 225, 8, 8), (225, 225, 6, 6), (225, 225, 2, 2), (225, 225, 3, 3), (232, 232, 0, 47), (233, 233, 0, 47), (228, 228, 0, 5), (234, 234, 0, 5), (225, 225, 25, 25)]
abbrev E_168v  (z0 w0 : mZ) (x y tx it mt tt ct : Option Nat) : mZ → mZ → mP → Prop := fun z w p => p = (pq x y tx it mt tt ct) ∧ (z0 225 4 ≤ z 225 4 ∧ z 225 4 ≤ z0 225 5 ∧ (z 225 6 = 59 → z0 225 4 < z 225 4) ∧ (z 225 2 = 0 → LFn z ∧ WDn z ∧ WHn z ∧ z 225 25 = z0 225 25 + 1))
theorem m_168v {d : Nat} {z0 w0 : mZ} {x y tx it mt tt ct : Option Nat}  (hz : rz z0) (hw : rw_ w0) (hat : z0 225 4 ≤ z0 225 5) (hwh : WHn z0) (hlf : LFn z0) (hwd : WDn z0) (hzb0 : 0 ≤ z0 225 25 ∧ z0 225 25 ≤ 5) : wc (d + 4) 168 [.ref 225] (mk z0 w0 (pq x y tx it mt tt ct)) (poV S_168v z0 w0 (E_168v  z0 w0 x y tx it mt tt ct)) := by
  have hst : st_ S_168v z0 w0 z0 w0 := st_rf hz hw
  have hz170 := rd_225_24 hz
  have hz171 := rd_225_25 hz
  have hz172 := rd_225_4 hz
  have hz173 := rd_225_5 hz
  have key : ∀ N : Nat, (∀ (x1 x2 : Int) (z w : mZ), 0 ≤ x1 ∧ x1 ≤ 1 → 0 ≤ x2 ∧ x2 ≤ 5 → st_ S_168v z0 w0 z w → z 225 2 = z0 225 2 → z 225 3 = z0 225 3 → z 225 25 = z0 225 25 → (z0 225 4 ≤ z 225 4 ∧ z 225 4 ≤ z0 225 5 ∧ (z 225 6 = 59 → z0 225 4 < z 225 4)) → ((∀ i : Nat, (i : Int) < 8 * z0 225 25 → z 232 i = z0 232 i) ∧ ∀ j : Nat, (j : Int) < z0 225 25 → z 234 j = z0 234 j) → 141 * (5 - x2) + 1544 < (N : Int) → wp_ (d + 3) 168 8 none (8, [(0, .ref 225), (1, .int (Int32.ofInt x1)), (2, .int (Int32.ofInt x2))], [], mk z w (pq x y tx it mt tt ct)) (poV S_168v z0 w0 (E_168v  z0 w0 x y tx it mt tt ct))) ∧ (∀ (x2 : Int) (z w : mZ), 0 ≤ x2 ∧ x2 ≤ 4 → 1 ≤ z0 225 25 ∧ z0 225 25 ≤ 5 → st_ S_168v z0 w0 z w → z 225 2 = z0 225 2 → z 225 3 = z0 225 3 → z 225 25 = z0 225 25 → (z0 225 4 ≤ z 225 4 ∧ z 225 4 ≤ z0 225 5 ∧ (z 225 6 = 59 → z0 225 4 < z 225 4)) → ((∀ i : Nat, (i : Int) < 8 * z0 225 25 → z 232 i = z0 232 i) ∧ ∀ j : Nat, (j : Int) < z0 225 25 → z 234 j = z0 234 j) → 141 * (5 - x2) + 1529 < (N : Int) → wp_ (d + 3) 168 8 none (34, [(0, .ref 225), (2, .int (Int32.ofInt x2))], [], mk z w (pq x y tx it mt tt ct)) (poV S_168v z0 w0 (E_168v  z0 w0 x y tx it mt tt ct))) ∧ (∀ (z w : mZ), st_ S_168v z0 w0 z w → z 225 25 = z0 225 25 → (z0 225 4 ≤ z 225 4 ∧ z 225 4 ≤ z0 225 5 ∧ (z 225 6 = 59 → z0 225 4 < z 225 4)) → ((∀ i : Nat, (i : Int) < 8 * z0 225 25 → z 232 i = z0 232 i) ∧ ∀ j : Nat, (j : Int) < z0 225 25 → z 234 j = z0 234 j) → 1512 < (N : Int) → wp_ (d + 3) 168 8 none (70, [(0, .ref 225)], [], mk z w (pq x y tx it mt tt ct)) (poV S_168v z0 w0 (E_168v  z0 w0 x y tx it mt tt ct))) ∧ (∀ (x2 : Int) (z w : mZ), (-9223372036854775808) ≤ x2 ∧ x2 ≤ 9223372036854775807 → st_ S_168v z0 w0 z w → z 225 25 = z0 225 25 → (z0 225 4 ≤ z 225 4 ∧ z 225 4 ≤ z0 225 5 ∧ (z 225 6 = 59 → z0 225 4 < z 225 4)) → ((∀ i : Nat, (i : Int) < 8 * z0 225 25 → z 232 i = z0 232 i) ∧ ∀ j : Nat, (j : Int) < z0 225 25 → z 234 j = z0 234 j) → 1504 < (N : Int) → wp_ (d + 3) 168 8 none (86, [(0, .ref 225), (2, .long (Int64.ofInt x2))], [], mk z w (pq x y tx it mt tt ct)) (poV S_168v z0 w0 (E_168v  z0 w0 x y tx it mt tt ct))) ∧ (∀ (x2 x4 x5 : Int) (z w : mZ), (-9223372036854775808) ≤ x2 ∧ x2 ≤ 9223372036854775807 → 0 ≤ x4 ∧ x4 ≤ 8 → 0 ≤ x5 ∧ x5 ≤ 1 → st_ S_168v z0 w0 z w → z 225 25 = z0 225 25 → (z0 225 4 ≤ z 225 4 ∧ z 225 4 ≤ z0 225 5 ∧ (z 225 6 = 59 → z0 225 4 < z 225 4)) → ((∀ i : Nat, (i : Int) < 8 * z0 225 25 → z 232 i = z0 232 i) ∧ ∀ j : Nat, (j : Int) < z0 225 25 → z 234 j = z0 234 j) → (∀ i : Nat, (i : Int) < x4 → z 232 (8 * (z0 225 25).toNat + i) < z0 225 24) → 141 * (8 - x4) + 87 < (N : Int) → wp_ (d + 3) 168 8 none (99, [(0, .ref 225), (2, .long (Int64.ofInt x2)), (4, .int (Int32.ofInt x4)), (5, .int (Int32.ofInt x5))], [], mk z w (pq x y tx it mt tt ct)) (poV S_168v z0 w0 (E_168v  z0 w0 x y tx it mt tt ct))) ∧ (∀ (x2 x4 x6 : Int) (z w : mZ), (-9223372036854775808) ≤ x2 ∧ x2 ≤ 9223372036854775807 → 0 ≤ x4 ∧ x4 ≤ 8 → (-1) ≤ x6 ∧ x6 ≤ 7 → st_ S_168v z0 w0 z w → z 225 25 = z0 225 25 → (z0 225 4 ≤ z 225 4 ∧ z 225 4 ≤ z0 225 5 ∧ (z 225 6 = 59 → z0 225 4 < z 225 4)) → ((∀ i : Nat, (i : Int) < 8 * z0 225 25 → z 232 i = z0 232 i) ∧ ∀ j : Nat, (j : Int) < z0 225 25 → z 234 j = z0 234 j) → (∀ i : Nat, (i : Int) < x4 → z 232 (8 * (z0 225 25).toNat + i) < z0 225 24) → (x6 < z0 225 24) → 141 * (8 - x4) + 68 < (N : Int) → wp_ (d + 3) 168 8 none (131, [(0, .ref 225), (2, .long (Int64.ofInt x2)), (4, .int (Int32.ofInt x4)), (6, .int (Int32.ofInt x6))], [], mk z w (pq x y tx it mt tt ct)) (poV S_168v z0 w0 (E_168v  z0 w0 x y tx it mt tt ct))) ∧ (∀ (x2 x4 x6 : Int) (z w : mZ), (-9223372036854775808) ≤ x2 ∧ x2 ≤ 9223372036854775807 → 0 ≤ x4 ∧ x4 ≤ 8 → (-1) ≤ x6 ∧ x6 ≤ 7 → st_ S_168v z0 w0 z w → z 225 25 = z0 225 25 → (z0 225 4 ≤ z 225 4 ∧ z 225 4 ≤ z0 225 5 ∧ (z 225 6 = 59 → z0 225 4 < z 225 4) ∧ (z 225 2 = 0 → x4 ≤ 7 ∧ 0 ≤ x6)) → ((∀ i : Nat, (i : Int) < 8 * z0 225 25 → z 232 i = z0 232 i) ∧ ∀ j : Nat, (j : Int) < z0 225 25 → z 234 j = z0 234 j) → (∀ i : Nat, (i : Int) < x4 → z 232 (8 * (z0 225 25).toNat + i) < z0 225 24) → (x6 < z0 225 24) → 141 * (8 - x4) + 64 < (N : Int) → wp_ (d + 3) 168 8 none (149, [(0, .ref 225), (2, .long (Int64.ofInt x2)), (4, .int (Int32.ofInt x4)), (6, .int (Int32.ofInt x6))], [], mk z w (pq x y tx it mt tt ct)) (poV S_168v z0 w0 (E_168v  z0 w0 x y tx it mt tt ct))) ∧ (∀ (x2 x4 x6 : Int) (z w : mZ), (-9223372036854775808) ≤ x2 ∧ x2 ≤ 9223372036854775807 → 0 ≤ x4 ∧ x4 ≤ 8 → (-1) ≤ x6 ∧ x6 ≤ 7 → st_ S_168v z0 w0 z w → z 225 25 = z0 225 25 → (z0 225 4 ≤ z 225 4 ∧ z 225 4 ≤ z0 225 5 ∧ (z 225 6 = 59 → z0 225 4 < z 225 4) ∧ (z 225 2 = 0 → x4 ≤ 7 ∧ 0 ≤ x6)) → ((∀ i : Nat, (i : Int) < 8 * z0 225 25 → z 232 i = z0 232 i) ∧ ∀ j : Nat, (j : Int) < z0 225 25 → z 234 j = z0 234 j) → (∀ i : Nat, (i : Int) < x4 → z 232 (8 * (z0 225 25).toNat + i) < z0 225 24) → (x6 < z0 225 24) → 141 * (8 - x4) + 59 < (N : Int) → wp_ (d + 3) 168 8 none (160, [(0, .ref 225), (2, .long (Int64.ofInt x2)), (4, .int (Int32.ofInt x4)), (6, .int (Int32.ofInt x6))], [], mk z w (pq x y tx it mt tt ct)) (poV S_168v z0 w0 (E_168v  z0 w0 x y tx it mt tt ct))) ∧ (∀ (x2 x4 : Int) (z w : mZ), (-9223372036854775808) ≤ x2 ∧ x2 ≤ 9223372036854775807 → 0 ≤ x4 ∧ x4 ≤ 8 → st_ S_168v z0 w0 z w → z 225 25 = z0 225 25 → (z0 225 4 ≤ z 225 4 ∧ z 225 4 ≤ z0 225 5 ∧ (z 225 6 = 59 → z0 225 4 < z 225 4)) → ((∀ i : Nat, (i : Int) < 8 * z0 225 25 → z 232 i = z0 232 i) ∧ ∀ j : Nat, (j : Int) < z0 225 25 → z 234 j = z0 234 j) → (∀ i : Nat, (i : Int) < x4 → z 232 (8 * (z0 225 25).toNat + i) < z0 225 24) → 22 < (N : Int) → wp_ (d + 3) 168 8 none (229, [(0, .ref 225), (2, .long (Int64.ofInt x2)), (4, .int (Int32.ofInt x4))], [], mk z w (pq x y tx it mt tt ct)) (poV S_168v z0 w0 (E_168v  z0 w0 x y tx it mt tt ct))) := by
    intro N
    induction N with
    | zero =>
      refine ⟨?_, ?_, ?_, ?_, ?_, ?_, ?_, ?_, ?_⟩
      · intro x1 x2 z w
        intros; exfalso; omega
      · intro x2 z w
        intros; exfalso; omega
      · intro  z w
        intros; exfalso; omega
      · intro x2 z w
        intros; exfalso; omega
      · intro x2 x4 x5 z w
        intros; exfalso; omega
      · intro x2 x4 x6 z w
        intros; exfalso; omega
      · intro x2 x4 x6 z w
        intros; exfalso; omega
      · intro x2 x4 x6 z w
        intros; exfalso; omega
      · intro x2 x4 z w
        intros; exfalso; omega
    | succ N ih =>
      obtain ⟨ih0, ih1, ih2, ih3, ih4, ih5, ih6, ih7, ih8⟩ := ih
      refine ⟨?_, ?_, ?_, ?_, ?_, ?_, ?_, ?_, ?_⟩
      · intro x1 x2 z w  hx1 hx2 hst un_z_225_2 un_z_225_3 un_z_225_25 as1 as5 hM
        refine r_ld (pc' := 9) rfl rfl rfl rfl ?_
        refine r_ld (pc' := 10) rfl rfl rfl rfl ?_
        refine r_gi (pc' := 13) rfl rfl sh_225 rfl un_z_225_25 ?_
        refine r_ige (pc' := 16) rfl rfl ⟨by omega, by omega⟩ ⟨by omega, by omega⟩ (fun hc174 => ?_) (fun hc174 => ?_)
        · skip
          refine r_ld (pc' := 47) rfl rfl rfl rfl ?_
          have hb175 := rd_225_6 hst.1
          refine r_cVI (pc' := 50) rfl rfl rfl rfl rfl sh_225 (m_156 (d := d + 2)  hst.1 hst.2.1 ) (fun v176 z177 w178 p179 h180 hs181 hE182 => ?_)
          obtain ⟨rfl, rfl, rfl, hE182⟩ := hE182
          refine r_zne (pc' := 53) rfl rfl ⟨by omega, by omega⟩ (fun hc184 => ?_) (fun hc184 => ?_)
          · skip
            refine r_ld (pc' := 62) rfl rfl rfl rfl ?_
            refine r_zeq (pc' := 65) rfl rfl ⟨by omega, by omega⟩ (fun hc185 => ?_) (fun hc185 => ?_)
            · skip
              have hb186 := rd_225_4 hst.1
              exact w_lv (sub_c rfl sub_n) rfl (ih2 z w hst (un_z_225_25) (by first | omega | assumption) (by first | exact as5 | exact ⟨fun i hi => rfl, fun j hj => rfl⟩ | exact ⟨fun i hi => (hst.2.2.1 _ _ (notS_c (by omega) (notS_c (by omega) (notS_c (by omega) (notS_c (by omega) (notS_c (by omega) (notS_c (by omega) (notS_c (by omega) (notS_c (by omega) (notS_c (by omega) (notS_c (by omega) (notS_c (by omega) (notS_c (by omega) notS_n))))))))))))), fun j hj => (hst.2.2.1 _ _ (notS_c (by omega) (notS_c (by omega) (notS_c (by omega) (notS_c (by omega) (notS_c (by omega) (notS_c (by omega) (notS_c (by omega) (notS_c (by omega) (notS_c (by omega) (notS_c (by omega) (notS_c (by omega) (notS_c (by omega) notS_n)))))))))))))⟩ | exact ⟨fun i hi => (rfl).trans (as5.1 i hi), fun j hj => (rfl).trans (as5.2 j hj)⟩) (by omega))
            · skip
              refine r_ld (pc' := 66) rfl rfl rfl rfl ?_
              refine r_c0 (pc' := 67) rfl rfl ?_
              refine r_cVV (pc' := 70) rfl rfl rfl rfl rfl sh_225 (m_154 (d := d + 1) 3 hst.1 hst.2.1 ⟨by omega, by omega⟩) (fun z188 w189 p190 hs192 hE193 => ?_)
              have hs194 := st_tr hst hs192 (sub_B rfl)
              obtain ⟨rfl, hE193⟩ := hE193
              have hb195 := rd_225_4 hst.1
              have hf196 : z188 225 4 = z 225 4 := (hs192.2.2.1 _ _ (notS_c (by omega) (notS_c (by omega) notS_n)))
              have hf197 : z188 225 6 = z 225 6 := (hs192.2.2.1 _ _ (notS_c (by omega) (notS_c (by omega) notS_n)))
              exact w_lv (sub_c rfl sub_n) rfl (ih2 z188 w189 hs194 (((hs192.2.2.1 _ _ (notS_c (by omega) (notS_c (by omega) notS_n))).trans un_z_225_25)) (by first | omega | assumption | (simp only [hf196, hf197]; assumption)) (by first | exact as5 | exact ⟨fun i hi => rfl, fun j hj => rfl⟩ | exact ⟨fun i hi => ((hs192.2.2.1 _ _ (notS_c (by omega) (notS_c (by omega) notS_n))).trans (hst.2.2.1 _ _ (notS_c (by omega) (notS_c (by omega) (notS_c (by omega) (notS_c (by omega) (notS_c (by omega) (notS_c (by omega) (notS_c (by omega) (notS_c (by omega) (notS_c (by omega) (notS_c (by omega) (notS_c (by omega) (notS_c (by omega) notS_n)))))))))))))), fun j hj => ((hs192.2.2.1 _ _ (notS_c (by omega) (notS_c (by omega) notS_n))).trans (hst.2.2.1 _ _ (notS_c (by omega) (notS_c (by omega) (notS_c (by omega) (notS_c (by omega) (notS_c (by omega) (notS_c (by omega) (notS_c (by omega) (notS_c (by omega) (notS_c (by omega) (notS_c (by omega) (notS_c (by omega) (notS_c (by omega) notS_n))))))))))))))⟩ | exact ⟨fun i hi => ((hs192.2.2.1 _ _ (notS_c (by omega) (notS_c (by omega) notS_n)))).trans (as5.1 i hi), fun j hj => ((hs192.2.2.1 _ _ (notS_c (by omega) (notS_c (by omega) notS_n)))).trans (as5.2 j hj)⟩) (by omega))
          · skip
            refine r_ld (pc' := 54) rfl rfl rfl rfl ?_
            refine r_c0 (pc' := 55) rfl rfl ?_
            refine r_cVV (pc' := 58) rfl rfl rfl rfl rfl sh_225 (m_154 (d := d + 1) 2 hst.1 hst.2.1 ⟨by omega, by omega⟩) (fun z199 w200 p201 hs203 hE204 => ?_)
            have hs205 := st_tr hst hs203 (sub_B rfl)
            obtain ⟨rfl, hE204⟩ := hE204
            refine r_go rfl ?_
            have hb206 := rd_225_4 hst.1
            have hf207 : z199 225 4 = z 225 4 := (hs203.2.2.1 _ _ (notS_c (by omega) (notS_c (by omega) notS_n)))
            have hf208 : z199 225 6 = z 225 6 := (hs203.2.2.1 _ _ (notS_c (by omega) (notS_c (by omega) notS_n)))
            exact w_lv (sub_c rfl sub_n) rfl (ih2 z199 w200 hs205 (((hs203.2.2.1 _ _ (notS_c (by omega) (notS_c (by omega) notS_n))).trans un_z_225_25)) (by first | omega | assumption | (simp only [hf207, hf208]; assumption)) (by first | exact as5 | exact ⟨fun i hi => rfl, fun j hj => rfl⟩ | exact ⟨fun i hi => ((hs203.2.2.1 _ _ (notS_c (by omega) (notS_c (by omega) notS_n))).trans (hst.2.2.1 _ _ (notS_c (by omega) (notS_c (by omega) (notS_c (by omega) (notS_c (by omega) (notS_c (by omega) (notS_c (by omega) (notS_c (by omega) (notS_c (by omega) (notS_c (by omega) (notS_c (by omega) (notS_c (by omega) (notS_c (by omega) notS_n)))))))))))))), fun j hj => ((hs203.2.2.1 _ _ (notS_c (by omega) (notS_c (by omega) notS_n))).trans (hst.2.2.1 _ _ (notS_c (by omega) (notS_c (by omega) (notS_c (by omega) (notS_c (by omega) (notS_c (by omega) (notS_c (by omega) (notS_c (by omega) (notS_c (by omega) (notS_c (by omega) (notS_c (by omega) (notS_c (by omega) (notS_c (by omega) notS_n))))))))))))))⟩ | exact ⟨fun i hi => ((hs203.2.2.1 _ _ (notS_c (by omega) (notS_c (by omega) notS_n)))).trans (as5.1 i hi), fun j hj => ((hs203.2.2.1 _ _ (notS_c (by omega) (notS_c (by omega) notS_n)))).trans (as5.2 j hj)⟩) (by omega))
        · skip
          refine r_ld (pc' := 17) rfl rfl rfl rfl ?_
          refine r_zne (pc' := 20) rfl rfl ⟨by omega, by omega⟩ (fun hc209 => ?_) (fun hc209 => ?_)
          · skip
            have hb210 := rd_225_4 hst.1
            have hb211 := rd_225_6 hst.1
            have hb212 := rd_225_2 hz
            have hb213 := rd_225_3 hz
            exact w_lv (sub_c rfl (sub_c rfl sub_n)) rfl (ih1 x2 z w ⟨by omega, by omega⟩ ⟨by omega, by omega⟩ hst (un_z_225_2) (un_z_225_3) (un_z_225_25) (by first | omega | assumption) (by first | exact as5 | exact ⟨fun i hi => rfl, fun j hj => rfl⟩ | exact ⟨fun i hi => (hst.2.2.1 _ _ (notS_c (by omega) (notS_c (by omega) (notS_c (by omega) (notS_c (by omega) (notS_c (by omega) (notS_c (by omega) (notS_c (by omega) (notS_c (by omega) (notS_c (by omega) (notS_c (by omega) (notS_c (by omega) (notS_c (by omega) notS_n))))))))))))), fun j hj => (hst.2.2.1 _ _ (notS_c (by omega) (notS_c (by omega) (notS_c (by omega) (notS_c (by omega) (notS_c (by omega) (notS_c (by omega) (notS_c (by omega) (notS_c (by omega) (notS_c (by omega) (notS_c (by omega) (notS_c (by omega) (notS_c (by omega) notS_n)))))))))))))⟩ | exact ⟨fun i hi => (rfl).trans (as5.1 i hi), fun j hj => (rfl).trans (as5.2 j hj)⟩) (by omega))
          · skip
            refine r_ld (pc' := 21) rfl rfl rfl rfl ?_
            refine r_gr (b := 228) (pc' := 24) rfl rfl sh_225 rfl pp_225_11 ?_
            refine r_ld (pc' := 25) rfl rfl rfl rfl ?_
            have hb214 := rd_228 hst.2.1 (i := x2.toNat) (by omega)
            refine r_la (pc' := 26) rfl rfl sh_228 rfl (by omega) (by omega) rfl ?_
            refine r_ld (pc' := 27) rfl rfl rfl rfl ?_
            have hb215 := rd_225_9 hst.2.1
            refine r_gl (pc' := 30) rfl rfl sh_225 rfl rfl ?_
            refine r_lne (pc' := 34) rfl rfl rfl ⟨by omega, by omega⟩ ⟨by omega, by omega⟩ (fun hc216 => ?_) (fun hc216 => ?_)
            · skip
              refine r_c0 (pc' := 39) rfl rfl ?_
              refine r_st (pc' := 40) (lv' := [(1, _), (0, _), (2, _)]) rfl rfl rfl rfl ?_
              refine r_inc (pc' := 43) (lv' := [(1, _), (0, _)]) rfl rfl rfl rfl rfl ?_
              refine r_go rfl ?_
              have hb217 := rd_225_4 hst.1
              have hb218 := rd_225_6 hst.1
              have hb219 := rd_225_2 hz
              have hb220 := rd_225_3 hz
              exact w_lv (sub_c rfl (sub_c rfl (sub_c rfl sub_n))) rfl (ih0 0 (x2 + 1) z w ⟨by omega, by omega⟩ ⟨by omega, by omega⟩ hst (un_z_225_2) (un_z_225_3) (un_z_225_25) (by first | omega | assumption) (by first | exact as5 | exact ⟨fun i hi => rfl, fun j hj => rfl⟩ | exact ⟨fun i hi => (hst.2.2.1 _ _ (notS_c (by omega) (notS_c (by omega) (notS_c (by omega) (notS_c (by omega) (notS_c (by omega) (notS_c (by omega) (notS_c (by omega) (notS_c (by omega) (notS_c (by omega) (notS_c (by omega) (notS_c (by omega) (notS_c (by omega) notS_n))))))))))))), fun j hj => (hst.2.2.1 _ _ (notS_c (by omega) (notS_c (by omega) (notS_c (by omega) (notS_c (by omega) (notS_c (by omega) (notS_c (by omega) (notS_c (by omega) (notS_c (by omega) (notS_c (by omega) (notS_c (by omega) (notS_c (by omega) (notS_c (by omega) notS_n)))))))))))))⟩ | exact ⟨fun i hi => (rfl).trans (as5.1 i hi), fun j hj => (rfl).trans (as5.2 j hj)⟩) (by omega))
            · skip
              have hb221 := rd_225_4 hst.1
              have hb222 := rd_225_6 hst.1
              have hb223 := rd_225_2 hz
              have hb224 := rd_225_3 hz
              exact w_lv (sub_c rfl (sub_c rfl sub_n)) rfl (ih1 x2 z w ⟨by omega, by omega⟩ ⟨by omega, by omega⟩ hst (un_z_225_2) (un_z_225_3) (un_z_225_25) (by first | omega | assumption) (by first | exact as5 | exact ⟨fun i hi => rfl, fun j hj => rfl⟩ | exact ⟨fun i hi => (hst.2.2.1 _ _ (notS_c (by omega) (notS_c (by omega) (notS_c (by omega) (notS_c (by omega) (notS_c (by omega) (notS_c (by omega) (notS_c (by omega) (notS_c (by omega) (notS_c (by omega) (notS_c (by omega) (notS_c (by omega) (notS_c (by omega) notS_n))))))))))))), fun j hj => (hst.2.2.1 _ _ (notS_c (by omega) (notS_c (by omega) (notS_c (by omega) (notS_c (by omega) (notS_c (by omega) (notS_c (by omega) (notS_c (by omega) (notS_c (by omega) (notS_c (by omega) (notS_c (by omega) (notS_c (by omega) (notS_c (by omega) notS_n)))))))))))))⟩ | exact ⟨fun i hi => (rfl).trans (as5.1 i hi), fun j hj => (rfl).trans (as5.2 j hj)⟩) (by omega))
      · intro x2 z w  hx2 hz0_0 hst un_z_225_2 un_z_225_3 un_z_225_25 as1 as5 hM
        refine r_c0 (pc' := 35) rfl rfl ?_
        refine r_go rfl ?_
        refine r_st (pc' := 40) (lv' := [(1, _), (0, _), (2, _)]) rfl rfl rfl rfl ?_
        refine r_inc (pc' := 43) (lv' := [(1, _), (0, _)]) rfl rfl rfl rfl rfl ?_
        refine r_go rfl ?_
        have hb225 := rd_225_4 hst.1
        have hb226 := rd_225_6 hst.1
        have hb227 := rd_225_2 hz
        have hb228 := rd_225_3 hz
        exact w_lv (sub_c rfl (sub_c rfl (sub_c rfl sub_n))) rfl (ih0 1 (x2 + 1) z w ⟨by omega, by omega⟩ ⟨by omega, by omega⟩ hst (un_z_225_2) (un_z_225_3) (un_z_225_25) (by first | omega | assumption) (by first | exact as5 | exact ⟨fun i hi => rfl, fun j hj => rfl⟩ | exact ⟨fun i hi => (hst.2.2.1 _ _ (notS_c (by omega) (notS_c (by omega) (notS_c (by omega) (notS_c (by omega) (notS_c (by omega) (notS_c (by omega) (notS_c (by omega) (notS_c (by omega) (notS_c (by omega) (notS_c (by omega) (notS_c (by omega) (notS_c (by omega) notS_n))))))))))))), fun j hj => (hst.2.2.1 _ _ (notS_c (by omega) (notS_c (by omega) (notS_c (by omega) (notS_c (by omega) (notS_c (by omega) (notS_c (by omega) (notS_c (by omega) (notS_c (by omega) (notS_c (by omega) (notS_c (by omega) (notS_c (by omega) (notS_c (by omega) notS_n)))))))))))))⟩ | exact ⟨fun i hi => (rfl).trans (as5.1 i hi), fun j hj => (rfl).trans (as5.2 j hj)⟩) (by omega))
      · intro  z w  hst un_z_225_25 as1 as5 hM
        refine r_ld (pc' := 71) rfl rfl rfl rfl ?_
        have hb229 := rd_225_9 hst.2.1
        refine r_gl (pc' := 74) rfl rfl sh_225 rfl rfl ?_
        refine r_st (pc' := 75) (lv' := [(2, _), (0, _)]) rfl rfl rfl rfl ?_
        refine r_ld (pc' := 76) rfl rfl rfl rfl ?_
        have hb230 := rd_225_2 hst.1
        refine r_gi (pc' := 79) rfl rfl sh_225 rfl rfl ?_
        refine r_zne (pc' := 82) rfl rfl ⟨by omega, by omega⟩ (fun hc231 => ?_) (fun hc231 => ?_)
        · skip
          have hb232 := rd_225_4 hst.1
          have hb233 := rd_225_6 hst.1
          exact w_lv (sub_c rfl (sub_c rfl sub_n)) rfl (ih3 (w 225 9) z w ⟨by omega, by omega⟩ hst (un_z_225_25) (by first | omega | assumption) (by first | exact as5 | exact ⟨fun i hi => rfl, fun j hj => rfl⟩ | exact ⟨fun i hi => (hst.2.2.1 _ _ (notS_c (by omega) (notS_c (by omega) (notS_c (by omega) (notS_c (by omega) (notS_c (by omega) (notS_c (by omega) (notS_c (by omega) (notS_c (by omega) (notS_c (by omega) (notS_c (by omega) (notS_c (by omega) (notS_c (by omega) notS_n))))))))))))), fun j hj => (hst.2.2.1 _ _ (notS_c (by omega) (notS_c (by omega) (notS_c (by omega) (notS_c (by omega) (notS_c (by omega) (notS_c (by omega) (notS_c (by omega) (notS_c (by omega) (notS_c (by omega) (notS_c (by omega) (notS_c (by omega) (notS_c (by omega) notS_n)))))))))))))⟩ | exact ⟨fun i hi => (rfl).trans (as5.1 i hi), fun j hj => (rfl).trans (as5.2 j hj)⟩) (by omega))
        · skip
          refine r_ld (pc' := 83) rfl rfl rfl rfl ?_
          have hb234 := rd_225_4 hst.1
          have hb235 := rd_225_5 hz
          have hf236 : z 225 5 = z0 225 5 := (hst.2.2.1 _ _ (notS_c (by omega) (notS_c (by omega) (notS_c (by omega) (notS_c (by omega) (notS_c (by omega) (notS_c (by omega) (notS_c (by omega) (notS_c (by omega) (notS_c (by omega) (notS_c (by omega) (notS_c (by omega) (notS_c (by omega) notS_n)))))))))))))
          refine r_cVV (pc' := 86) rfl rfl rfl rfl rfl sh_225 (m_152 (d := d + 1)  hst.1 hst.2.1 (by first | omega | assumption | (simp only [hf236]; assumption))) (fun z238 w239 p240 hs242 hE243 => ?_)
          have hs244 := st_tr hst hs242 (sub_B rfl)
          obtain ⟨rfl, hE243⟩ := hE243
          have hb245 := rd_225_4 hs244.1
          have hb246 := rd_225_6 hs244.1
          exact w_lv (sub_c rfl (sub_c rfl sub_n)) rfl (ih3 (w 225 9) z238 w239 ⟨by omega, by omega⟩ hs244 (((hs242.2.2.1 _ _ (notS_c (by omega) (notS_c (by omega) (notS_c (by omega) (notS_c (by omega) (notS_c (by omega) notS_n)))))).trans un_z_225_25)) (by first | omega | assumption) (by first | exact as5 | exact ⟨fun i hi => rfl, fun j hj => rfl⟩ | exact ⟨fun i hi => ((hs242.2.2.1 _ _ (notS_c (by omega) (notS_c (by omega) (notS_c (by omega) (notS_c (by omega) (notS_c (by omega) notS_n)))))).trans (hst.2.2.1 _ _ (notS_c (by omega) (notS_c (by omega) (notS_c (by omega) (notS_c (by omega) (notS_c (by omega) (notS_c (by omega) (notS_c (by omega) (notS_c (by omega) (notS_c (by omega) (notS_c (by omega) (notS_c (by omega) (notS_c (by omega) notS_n)))))))))))))), fun j hj => ((hs242.2.2.1 _ _ (notS_c (by omega) (notS_c (by omega) (notS_c (by omega) (notS_c (by omega) (notS_c (by omega) notS_n)))))).trans (hst.2.2.1 _ _ (notS_c (by omega) (notS_c (by omega) (notS_c (by omega) (notS_c (by omega) (notS_c (by omega) (notS_c (by omega) (notS_c (by omega) (notS_c (by omega) (notS_c (by omega) (notS_c (by omega) (notS_c (by omega) (notS_c (by omega) notS_n))))))))))))))⟩ | exact ⟨fun i hi => ((hs242.2.2.1 _ _ (notS_c (by omega) (notS_c (by omega) (notS_c (by omega) (notS_c (by omega) (notS_c (by omega) notS_n))))))).trans (as5.1 i hi), fun j hj => ((hs242.2.2.1 _ _ (notS_c (by omega) (notS_c (by omega) (notS_c (by omega) (notS_c (by omega) (notS_c (by omega) notS_n))))))).trans (as5.2 j hj)⟩) (by omega))
      · intro x2 z w  hx2 hst un_z_225_25 as1 as5 hM
        refine r_ld (pc' := 87) rfl rfl rfl rfl ?_
        refine r_al (pc' := 90) rfl rfl rfl rfl ?_
        have hb247 := rd_225_4 hst.1
        have hb248 := rd_225_5 hz
        have hf249 : z 225 5 = z0 225 5 := (hst.2.2.1 _ _ (notS_c (by omega) (notS_c (by omega) (notS_c (by omega) (notS_c (by omega) (notS_c (by omega) (notS_c (by omega) (notS_c (by omega) (notS_c (by omega) (notS_c (by omega) (notS_c (by omega) (notS_c (by omega) (notS_c (by omega) notS_n)))))))))))))
        have hb250 := rd_225_2 hst.1
        have hb251 := rd_225_6 hst.1
        refine r_cVV (pc' := 93) rfl rfl rfl rfl rfl sh_225 (m_157 (d := d) 26995 hst.1 hst.2.1 ⟨by omega, by omega⟩ (by first | omega | assumption | (simp only [hf249]; assumption))) (fun z253 w254 p255 hs257 hE258 => ?_)
        have hs259 := st_tr hst hs257 (sub_B rfl)
        obtain ⟨rfl, hE258⟩ := hE258
        refine r_c0 (pc' := 94) rfl rfl ?_
        refine r_st (pc' := 96) (lv' := [(4, _), (0, _), (2, _)]) rfl rfl rfl rfl ?_
        refine r_c0 (pc' := 97) rfl rfl ?_
        refine r_st (pc' := 99) (lv' := [(5, _), (4, _), (0, _), (2, _)]) rfl rfl rfl rfl ?_
        have hb260 := rd_225_4 hs259.1
        have hb261 := rd_225_6 hs259.1
        exact w_lv (sub_c rfl (sub_c rfl (sub_c rfl (sub_c rfl sub_n)))) rfl (ih4 x2 0 1 z253 w254 ⟨by omega, by omega⟩ ⟨by omega, by omega⟩ ⟨by omega, by omega⟩ hs259 (((hs257.2.2.1 _ _ (notS_c (by omega) (notS_c (by omega) (notS_c (by omega) (notS_c (by omega) (notS_c (by omega) (notS_c (by omega) (notS_c (by omega) notS_n)))))))).trans un_z_225_25)) (by first | omega | assumption) (by first | exact as5 | exact ⟨fun i hi => rfl, fun j hj => rfl⟩ | exact ⟨fun i hi => ((hs257.2.2.1 _ _ (notS_c (by omega) (notS_c (by omega) (notS_c (by omega) (notS_c (by omega) (notS_c (by omega) (notS_c (by omega) (notS_c (by omega) notS_n)))))))).trans (hst.2.2.1 _ _ (notS_c (by omega) (notS_c (by omega) (notS_c (by omega) (notS_c (by omega) (notS_c (by omega) (notS_c (by omega) (notS_c (by omega) (notS_c (by omega) (notS_c (by omega) (notS_c (by omega) (notS_c (by omega) (notS_c (by omega) notS_n)))))))))))))), fun j hj => ((hs257.2.2.1 _ _ (notS_c (by omega) (notS_c (by omega) (notS_c (by omega) (notS_c (by omega) (notS_c (by omega) (notS_c (by omega) (notS_c (by omega) notS_n)))))))).trans (hst.2.2.1 _ _ (notS_c (by omega) (notS_c (by omega) (notS_c (by omega) (notS_c (by omega) (notS_c (by omega) (notS_c (by omega) (notS_c (by omega) (notS_c (by omega) (notS_c (by omega) (notS_c (by omega) (notS_c (by omega) (notS_c (by omega) notS_n))))))))))))))⟩ | exact ⟨fun i hi => ((hs257.2.2.1 _ _ (notS_c (by omega) (notS_c (by omega) (notS_c (by omega) (notS_c (by omega) (notS_c (by omega) (notS_c (by omega) (notS_c (by omega) notS_n))))))))).trans (as5.1 i hi), fun j hj => ((hs257.2.2.1 _ _ (notS_c (by omega) (notS_c (by omega) (notS_c (by omega) (notS_c (by omega) (notS_c (by omega) (notS_c (by omega) (notS_c (by omega) notS_n))))))))).trans (as5.2 j hj)⟩) (by first | exact as6 | (intro i hi; exfalso; omega) | exact fun i hi => by rw [show z253 232 (8 * (z0 225 25).toNat + i) = z 232 (8 * (z0 225 25).toNat + i) from (hs257.2.2.1 _ _ (notS_c (by omega) (notS_c (by omega) (notS_c (by omega) (notS_c (by omega) (notS_c (by omega) (notS_c (by omega) (notS_c (by omega) notS_n))))))))]; exact as6 i hi | (intro i hi; rw [hq207, mu_ne (by omega), hq190]; by_cases c : i = x4.toNat; (subst c; rw [show 8 * (z0 225 25).toNat + x4.toNat = (8 * z0 225 25 + x4).toNat by omega, mu_eq]; omega); (rw [mu_ne (by omega), hb232]; exact as6 i (by omega)))) (by omega))
      · intro x2 x4 x5 z w  hx2 hx4 hx5 hst un_z_225_25 as1 as5 as6 hM
        refine r_ld (pc' := 101) rfl rfl rfl rfl ?_
        refine r_zeq (pc' := 104) rfl rfl ⟨by omega, by omega⟩ (fun hc262 => ?_) (fun hc262 => ?_)
        · skip
          have hb263 := rd_225_4 hst.1
          have hb264 := rd_225_6 hst.1
          exact w_lv (sub_c rfl (sub_c rfl (sub_c rfl sub_n))) rfl (ih8 x2 x4 z w ⟨by omega, by omega⟩ ⟨by omega, by omega⟩ hst (un_z_225_25) (by first | omega | assumption) (by first | exact as5 | exact ⟨fun i hi => rfl, fun j hj => rfl⟩ | exact ⟨fun i hi => (hst.2.2.1 _ _ (notS_c (by omega) (notS_c (by omega) (notS_c (by omega) (notS_c (by omega) (notS_c (by omega) (notS_c (by omega) (notS_c (by omega) (notS_c (by omega) (notS_c (by omega) (notS_c (by omega) (notS_c (by omega) (notS_c (by omega) notS_n))))))))))))), fun j hj => (hst.2.2.1 _ _ (notS_c (by omega) (notS_c (by omega) (notS_c (by omega) (notS_c (by omega) (notS_c (by omega) (notS_c (by omega) (notS_c (by omega) (notS_c (by omega) (notS_c (by omega) (notS_c (by omega) (notS_c (by omega) (notS_c (by omega) notS_n)))))))))))))⟩ | exact ⟨fun i hi => (rfl).trans (as5.1 i hi), fun j hj => (rfl).trans (as5.2 j hj)⟩) (by first | exact as6 | (intro i hi; exfalso; omega) | exact fun i hi => by rw [show z 232 (8 * (z0 225 25).toNat + i) = z 232 (8 * (z0 225 25).toNat + i) from rfl]; exact as6 i hi | (intro i hi; rw [hq207, mu_ne (by omega), hq190]; by_cases c : i = x4.toNat; (subst c; rw [show 8 * (z0 225 25).toNat + x4.toNat = (8 * z0 225 25 + x4).toNat by omega, mu_eq]; omega); (rw [mu_ne (by omega), hb232]; exact as6 i (by omega)))) (by omega))
        · skip
          refine r_ld (pc' := 105) rfl rfl rfl rfl ?_
          have hb265 := rd_225_2 hst.1
          refine r_gi (pc' := 108) rfl rfl sh_225 rfl rfl ?_
          refine r_zne (pc' := 111) rfl rfl ⟨by omega, by omega⟩ (fun hc266 => ?_) (fun hc266 => ?_)
          · skip
            have hb267 := rd_225_4 hst.1
            have hb268 := rd_225_6 hst.1
            exact w_lv (sub_c rfl (sub_c rfl (sub_c rfl sub_n))) rfl (ih8 x2 x4 z w ⟨by omega, by omega⟩ ⟨by omega, by omega⟩ hst (un_z_225_25) (by first | omega | assumption) (by first | exact as5 | exact ⟨fun i hi => rfl, fun j hj => rfl⟩ | exact ⟨fun i hi => (hst.2.2.1 _ _ (notS_c (by omega) (notS_c (by omega) (notS_c (by omega) (notS_c (by omega) (notS_c (by omega) (notS_c (by omega) (notS_c (by omega) (notS_c (by omega) (notS_c (by omega) (notS_c (by omega) (notS_c (by omega) (notS_c (by omega) notS_n))))))))))))), fun j hj => (hst.2.2.1 _ _ (notS_c (by omega) (notS_c (by omega) (notS_c (by omega) (notS_c (by omega) (notS_c (by omega) (notS_c (by omega) (notS_c (by omega) (notS_c (by omega) (notS_c (by omega) (notS_c (by omega) (notS_c (by omega) (notS_c (by omega) notS_n)))))))))))))⟩ | exact ⟨fun i hi => (rfl).trans (as5.1 i hi), fun j hj => (rfl).trans (as5.2 j hj)⟩) (by first | exact as6 | (intro i hi; exfalso; omega) | exact fun i hi => by rw [show z 232 (8 * (z0 225 25).toNat + i) = z 232 (8 * (z0 225 25).toNat + i) from rfl]; exact as6 i hi | (intro i hi; rw [hq207, mu_ne (by omega), hq190]; by_cases c : i = x4.toNat; (subst c; rw [show 8 * (z0 225 25).toNat + x4.toNat = (8 * z0 225 25 + x4).toNat by omega, mu_eq]; omega); (rw [mu_ne (by omega), hb232]; exact as6 i (by omega)))) (by omega))
          · skip
            refine r_ld (pc' := 112) rfl rfl rfl rfl ?_
            have hb269 := rd_225_24 hz
            have hf270 : z 225 24 = z0 225 24 := (hst.2.2.1 _ _ (notS_c (by omega) (notS_c (by omega) (notS_c (by omega) (notS_c (by omega) (notS_c (by omega) (notS_c (by omega) (notS_c (by omega) (notS_c (by omega) (notS_c (by omega) (notS_c (by omega) (notS_c (by omega) (notS_c (by omega) notS_n)))))))))))))
            refine r_cVI (pc' := 115) rfl rfl rfl rfl rfl sh_225 (m_165v (d := d + 2)  hst.1 hst.2.1 ) (fun v271 z272 w273 p274 h275 hs276 hE277 => ?_)
            obtain ⟨rfl, rfl, rfl, hE277⟩ := hE277
            refine r_st (pc' := 117) (lv' := [(6, _), (0, _), (2, _), (4, _), (5, _)]) rfl rfl rfl rfl ?_
            refine r_ld (pc' := 118) rfl rfl rfl rfl ?_
            have hb279 := rd_225_6 hst.1
            refine r_cVI (pc' := 121) rfl rfl rfl rfl rfl sh_225 (m_156 (d := d + 2)  hst.1 hst.2.1 ) (fun v280 z281 w282 p283 h284 hs285 hE286 => ?_)
            obtain ⟨rfl, rfl, rfl, hE286⟩ := hE286
            refine r_zeq (pc' := 124) rfl rfl ⟨by omega, by omega⟩ (fun hc288 => ?_) (fun hc288 => ?_)
            · skip
              have hb289 := rd_225_4 hst.1
              exact w_lv (sub_c rfl (sub_c rfl (sub_c rfl (sub_c rfl sub_n)))) rfl (ih5 x2 x4 v271 z w ⟨by omega, by omega⟩ ⟨by omega, by omega⟩ ⟨by omega, by omega⟩ hst (un_z_225_25) (by first | omega | assumption) (by first | exact as5 | exact ⟨fun i hi => rfl, fun j hj => rfl⟩ | exact ⟨fun i hi => (hst.2.2.1 _ _ (notS_c (by omega) (notS_c (by omega) (notS_c (by omega) (notS_c (by omega) (notS_c (by omega) (notS_c (by omega) (notS_c (by omega) (notS_c (by omega) (notS_c (by omega) (notS_c (by omega) (notS_c (by omega) (notS_c (by omega) notS_n))))))))))))), fun j hj => (hst.2.2.1 _ _ (notS_c (by omega) (notS_c (by omega) (notS_c (by omega) (notS_c (by omega) (notS_c (by omega) (notS_c (by omega) (notS_c (by omega) (notS_c (by omega) (notS_c (by omega) (notS_c (by omega) (notS_c (by omega) (notS_c (by omega) notS_n)))))))))))))⟩ | exact ⟨fun i hi => (rfl).trans (as5.1 i hi), fun j hj => (rfl).trans (as5.2 j hj)⟩) (by first | exact as6 | (intro i hi; exfalso; omega) | exact fun i hi => by rw [show z 232 (8 * (z0 225 25).toNat + i) = z 232 (8 * (z0 225 25).toNat + i) from rfl]; exact as6 i hi | (intro i hi; rw [hq207, mu_ne (by omega), hq190]; by_cases c : i = x4.toNat; (subst c; rw [show 8 * (z0 225 25).toNat + x4.toNat = (8 * z0 225 25 + x4).toNat by omega, mu_eq]; omega); (rw [mu_ne (by omega), hb232]; exact as6 i (by omega)))) (by first | omega | assumption) (by omega))
            · skip
              refine r_ld (pc' := 126) rfl rfl rfl rfl ?_
              refine r_cb (pc' := 128) rfl (by decide) rfl ?_
              refine r_ine (pc' := 131) rfl rfl ⟨by omega, by omega⟩ ⟨by decide, by decide⟩ (fun hc290 => ?_) (fun hc290 => ?_)
              · skip
                refine r_ld (pc' := 141) rfl rfl rfl rfl ?_
                refine r_zge (pc' := 144) rfl rfl ⟨by omega, by omega⟩ (fun hc291 => ?_) (fun hc291 => ?_)
                · skip
                  have hb292 := rd_225_4 hst.1
                  exact w_lv (sub_c rfl (sub_c rfl (sub_c rfl (sub_c rfl sub_n)))) rfl (ih6 x2 x4 v271 z w ⟨by omega, by omega⟩ ⟨by omega, by omega⟩ ⟨by omega, by omega⟩ hst (un_z_225_25) (by first | omega | assumption) (by first | exact as5 | exact ⟨fun i hi => rfl, fun j hj => rfl⟩ | exact ⟨fun i hi => (hst.2.2.1 _ _ (notS_c (by omega) (notS_c (by omega) (notS_c (by omega) (notS_c (by omega) (notS_c (by omega) (notS_c (by omega) (notS_c (by omega) (notS_c (by omega) (notS_c (by omega) (notS_c (by omega) (notS_c (by omega) (notS_c (by omega) notS_n))))))))))))), fun j hj => (hst.2.2.1 _ _ (notS_c (by omega) (notS_c (by omega) (notS_c (by omega) (notS_c (by omega) (notS_c (by omega) (notS_c (by omega) (notS_c (by omega) (notS_c (by omega) (notS_c (by omega) (notS_c (by omega) (notS_c (by omega) (notS_c (by omega) notS_n)))))))))))))⟩ | exact ⟨fun i hi => (rfl).trans (as5.1 i hi), fun j hj => (rfl).trans (as5.2 j hj)⟩) (by first | exact as6 | (intro i hi; exfalso; omega) | exact fun i hi => by rw [show z 232 (8 * (z0 225 25).toNat + i) = z 232 (8 * (z0 225 25).toNat + i) from rfl]; exact as6 i hi | (intro i hi; rw [hq207, mu_ne (by omega), hq190]; by_cases c : i = x4.toNat; (subst c; rw [show 8 * (z0 225 25).toNat + x4.toNat = (8 * z0 225 25 + x4).toNat by omega, mu_eq]; omega); (rw [mu_ne (by omega), hb232]; exact as6 i (by omega)))) (by first | omega | assumption) (by omega))
                · skip
                  refine r_ld (pc' := 145) rfl rfl rfl rfl ?_
                  refine r_c0 (pc' := 146) rfl rfl ?_
                  refine r_cVV (pc' := 149) rfl rfl rfl rfl rfl sh_225 (m_154 (d := d + 1) 5 hst.1 hst.2.1 ⟨by omega, by omega⟩) (fun z294 w295 p296 hs298 hE299 => ?_)
                  have hs300 := st_tr hst hs298 (sub_B rfl)
                  obtain ⟨rfl, hE299⟩ := hE299
                  have hb301 := rd_225_4 hst.1
                  have hf302 : z294 225 4 = z 225 4 := (hs298.2.2.1 _ _ (notS_c (by omega) (notS_c (by omega) notS_n)))
                  have hf303 : z294 225 6 = z 225 6 := (hs298.2.2.1 _ _ (notS_c (by omega) (notS_c (by omega) notS_n)))
                  have hb304 := rd_225_2 hs300.1
                  exact w_lv (sub_c rfl (sub_c rfl (sub_c rfl (sub_c rfl sub_n)))) rfl (ih6 x2 x4 v271 z294 w295 ⟨by omega, by omega⟩ ⟨by omega, by omega⟩ ⟨by omega, by omega⟩ hs300 (((hs298.2.2.1 _ _ (notS_c (by omega) (notS_c (by omega) notS_n))).trans un_z_225_25)) (by first | omega | assumption | (simp only [hf302, hf303]; assumption)) (by first | exact as5 | exact ⟨fun i hi => rfl, fun j hj => rfl⟩ | exact ⟨fun i hi => ((hs298.2.2.1 _ _ (notS_c (by omega) (notS_c (by omega) notS_n))).trans (hst.2.2.1 _ _ (notS_c (by omega) (notS_c (by omega) (notS_c (by omega) (notS_c (by omega) (notS_c (by omega) (notS_c (by omega) (notS_c (by omega) (notS_c (by omega) (notS_c (by omega) (notS_c (by omega) (notS_c (by omega) (notS_c (by omega) notS_n)))))))))))))), fun j hj => ((hs298.2.2.1 _ _ (notS_c (by omega) (notS_c (by omega) notS_n))).trans (hst.2.2.1 _ _ (notS_c (by omega) (notS_c (by omega) (notS_c (by omega) (notS_c (by omega) (notS_c (by omega) (notS_c (by omega) (notS_c (by omega) (notS_c (by omega) (notS_c (by omega) (notS_c (by omega) (notS_c (by omega) (notS_c (by omega) notS_n))))))))))))))⟩ | exact ⟨fun i hi => ((hs298.2.2.1 _ _ (notS_c (by omega) (notS_c (by omega) notS_n)))).trans (as5.1 i hi), fun j hj => ((hs298.2.2.1 _ _ (notS_c (by omega) (notS_c (by omega) notS_n)))).trans (as5.2 j hj)⟩) (by first | exact as6 | (intro i hi; exfalso; omega) | exact fun i hi => by rw [show z294 232 (8 * (z0 225 25).toNat + i) = z 232 (8 * (z0 225 25).toNat + i) from (hs298.2.2.1 _ _ (notS_c (by omega) (notS_c (by omega) notS_n)))]; exact as6 i hi | (intro i hi; rw [hq207, mu_ne (by omega), hq190]; by_cases c : i = x4.toNat; (subst c; rw [show 8 * (z0 225 25).toNat + x4.toNat = (8 * z0 225 25 + x4).toNat by omega, mu_eq]; omega); (rw [mu_ne (by omega), hb232]; exact as6 i (by omega)))) (by first | omega | assumption | (simp only [hf302, hf303]; assumption)) (by omega))
              · skip
                have hb305 := rd_225_4 hst.1
                exact w_lv (sub_c rfl (sub_c rfl (sub_c rfl (sub_c rfl sub_n)))) rfl (ih5 x2 x4 v271 z w ⟨by omega, by omega⟩ ⟨by omega, by omega⟩ ⟨by omega, by omega⟩ hst (un_z_225_25) (by first | omega | assumption) (by first | exact as5 | exact ⟨fun i hi => rfl, fun j hj => rfl⟩ | exact ⟨fun i hi => (hst.2.2.1 _ _ (notS_c (by omega) (notS_c (by omega) (notS_c (by omega) (notS_c (by omega) (notS_c (by omega) (notS_c (by omega) (notS_c (by omega) (notS_c (by omega) (notS_c (by omega) (notS_c (by omega) (notS_c (by omega) (notS_c (by omega) notS_n))))))))))))), fun j hj => (hst.2.2.1 _ _ (notS_c (by omega) (notS_c (by omega) (notS_c (by omega) (notS_c (by omega) (notS_c (by omega) (notS_c (by omega) (notS_c (by omega) (notS_c (by omega) (notS_c (by omega) (notS_c (by omega) (notS_c (by omega) (notS_c (by omega) notS_n)))))))))))))⟩ | exact ⟨fun i hi => (rfl).trans (as5.1 i hi), fun j hj => (rfl).trans (as5.2 j hj)⟩) (by first | exact as6 | (intro i hi; exfalso; omega) | exact fun i hi => by rw [show z 232 (8 * (z0 225 25).toNat + i) = z 232 (8 * (z0 225 25).toNat + i) from rfl]; exact as6 i hi | (intro i hi; rw [hq207, mu_ne (by omega), hq190]; by_cases c : i = x4.toNat; (subst c; rw [show 8 * (z0 225 25).toNat + x4.toNat = (8 * z0 225 25 + x4).toNat by omega, mu_eq]; omega); (rw [mu_ne (by omega), hb232]; exact as6 i (by omega)))) (by first | omega | assumption) (by omega))
      · intro x2 x4 x6 z w  hx2 hx4 hx6 hst un_z_225_25 as1 as5 as6 as7 hM
        refine r_ld (pc' := 132) rfl rfl rfl rfl ?_
        refine r_c0 (pc' := 133) rfl rfl ?_
        refine r_cVV (pc' := 136) rfl rfl rfl rfl rfl sh_225 (m_154 (d := d + 1) 2 hst.1 hst.2.1 ⟨by omega, by omega⟩) (fun z307 w308 p309 hs311 hE312 => ?_)
        have hs313 := st_tr hst hs311 (sub_B rfl)
        obtain ⟨rfl, hE312⟩ := hE312
        refine r_go rfl ?_
        have hb314 := rd_225_4 hst.1
        have hf315 : z307 225 4 = z 225 4 := (hs311.2.2.1 _ _ (notS_c (by omega) (notS_c (by omega) notS_n)))
        have hb316 := rd_225_6 hst.1
        have hf317 : z307 225 6 = z 225 6 := (hs311.2.2.1 _ _ (notS_c (by omega) (notS_c (by omega) notS_n)))
        have hb318 := rd_225_2 hs313.1
        exact w_lv (sub_c rfl (sub_c rfl (sub_c rfl (sub_c rfl sub_n)))) rfl (ih6 x2 x4 x6 z307 w308 ⟨by omega, by omega⟩ ⟨by omega, by omega⟩ ⟨by omega, by omega⟩ hs313 (((hs311.2.2.1 _ _ (notS_c (by omega) (notS_c (by omega) notS_n))).trans un_z_225_25)) (by first | omega | assumption | (simp only [hf315, hf317]; assumption)) (by first | exact as5 | exact ⟨fun i hi => rfl, fun j hj => rfl⟩ | exact ⟨fun i hi => ((hs311.2.2.1 _ _ (notS_c (by omega) (notS_c (by omega) notS_n))).trans (hst.2.2.1 _ _ (notS_c (by omega) (notS_c (by omega) (notS_c (by omega) (notS_c (by omega) (notS_c (by omega) (notS_c (by omega) (notS_c (by omega) (notS_c (by omega) (notS_c (by omega) (notS_c (by omega) (notS_c (by omega) (notS_c (by omega) notS_n)))))))))))))), fun j hj => ((hs311.2.2.1 _ _ (notS_c (by omega) (notS_c (by omega) notS_n))).trans (hst.2.2.1 _ _ (notS_c (by omega) (notS_c (by omega) (notS_c (by omega) (notS_c (by omega) (notS_c (by omega) (notS_c (by omega) (notS_c (by omega) (notS_c (by omega) (notS_c (by omega) (notS_c (by omega) (notS_c (by omega) (notS_c (by omega) notS_n))))))))))))))⟩ | exact ⟨fun i hi => ((hs311.2.2.1 _ _ (notS_c (by omega) (notS_c (by omega) notS_n)))).trans (as5.1 i hi), fun j hj => ((hs311.2.2.1 _ _ (notS_c (by omega) (notS_c (by omega) notS_n)))).trans (as5.2 j hj)⟩) (by first | exact as6 | (intro i hi; exfalso; omega) | exact fun i hi => by rw [show z307 232 (8 * (z0 225 25).toNat + i) = z 232 (8 * (z0 225 25).toNat + i) from (hs311.2.2.1 _ _ (notS_c (by omega) (notS_c (by omega) notS_n)))]; exact as6 i hi | (intro i hi; rw [hq207, mu_ne (by omega), hq190]; by_cases c : i = x4.toNat; (subst c; rw [show 8 * (z0 225 25).toNat + x4.toNat = (8 * z0 225 25 + x4).toNat by omega, mu_eq]; omega); (rw [mu_ne (by omega), hb232]; exact as6 i (by omega)))) (by first | omega | assumption | (simp only [hf315, hf317]; assumption)) (by omega))
      · intro x2 x4 x6 z w  hx2 hx4 hx6 hst un_z_225_25 as1 as5 as6 as7 hM
        refine r_ld (pc' := 150) rfl rfl rfl rfl ?_
        have hb319 := rd_225_2 hst.1
        refine r_gi (pc' := 153) rfl rfl sh_225 rfl rfl ?_
        refine r_zne (pc' := 156) rfl rfl ⟨by omega, by omega⟩ (fun hc320 => ?_) (fun hc320 => ?_)
        · skip
          have hb321 := rd_225_4 hst.1
          have hb322 := rd_225_6 hst.1
          exact w_lv (sub_c rfl (sub_c rfl (sub_c rfl (sub_c rfl sub_n)))) rfl (ih7 x2 x4 x6 z w ⟨by omega, by omega⟩ ⟨by omega, by omega⟩ ⟨by omega, by omega⟩ hst (un_z_225_25) (by first | omega | assumption) (by first | exact as5 | exact ⟨fun i hi => rfl, fun j hj => rfl⟩ | exact ⟨fun i hi => (hst.2.2.1 _ _ (notS_c (by omega) (notS_c (by omega) (notS_c (by omega) (notS_c (by omega) (notS_c (by omega) (notS_c (by omega) (notS_c (by omega) (notS_c (by omega) (notS_c (by omega) (notS_c (by omega) (notS_c (by omega) (notS_c (by omega) notS_n))))))))))))), fun j hj => (hst.2.2.1 _ _ (notS_c (by omega) (notS_c (by omega) (notS_c (by omega) (notS_c (by omega) (notS_c (by omega) (notS_c (by omega) (notS_c (by omega) (notS_c (by omega) (notS_c (by omega) (notS_c (by omega) (notS_c (by omega) (notS_c (by omega) notS_n)))))))))))))⟩ | exact ⟨fun i hi => (rfl).trans (as5.1 i hi), fun j hj => (rfl).trans (as5.2 j hj)⟩) (by first | exact as6 | (intro i hi; exfalso; omega) | exact fun i hi => by rw [show z 232 (8 * (z0 225 25).toNat + i) = z 232 (8 * (z0 225 25).toNat + i) from rfl]; exact as6 i hi | (intro i hi; rw [hq207, mu_ne (by omega), hq190]; by_cases c : i = x4.toNat; (subst c; rw [show 8 * (z0 225 25).toNat + x4.toNat = (8 * z0 225 25 + x4).toNat by omega, mu_eq]; omega); (rw [mu_ne (by omega), hb232]; exact as6 i (by omega)))) (by first | omega | assumption) (by omega))
        · skip
          refine r_ld (pc' := 157) rfl rfl rfl rfl ?_
          have hb323 := rd_225_4 hst.1
          have hb324 := rd_225_5 hz
          have hf325 : z 225 5 = z0 225 5 := (hst.2.2.1 _ _ (notS_c (by omega) (notS_c (by omega) (notS_c (by omega) (notS_c (by omega) (notS_c (by omega) (notS_c (by omega) (notS_c (by omega) (notS_c (by omega) (notS_c (by omega) (notS_c (by omega) (notS_c (by omega) (notS_c (by omega) notS_n)))))))))))))
          refine r_cVV (pc' := 160) rfl rfl rfl rfl rfl sh_225 (m_152 (d := d + 1)  hst.1 hst.2.1 (by first | omega | assumption | (simp only [hf325]; assumption))) (fun z327 w328 p329 hs331 hE332 => ?_)
          have hs333 := st_tr hst hs331 (sub_B rfl)
          obtain ⟨rfl, hE332⟩ := hE332
          have hb334 := rd_225_4 hs333.1
          have hb335 := rd_225_6 hs333.1
          have hf336 : z327 225 2 = z 225 2 := (hs331.2.2.1 _ _ (notS_c (by omega) (notS_c (by omega) (notS_c (by omega) (notS_c (by omega) (notS_c (by omega) notS_n))))))
          exact w_lv (sub_c rfl (sub_c rfl (sub_c rfl (sub_c rfl sub_n)))) rfl (ih7 x2 x4 x6 z327 w328 ⟨by omega, by omega⟩ ⟨by omega, by omega⟩ ⟨by omega, by omega⟩ hs333 (((hs331.2.2.1 _ _ (notS_c (by omega) (notS_c (by omega) (notS_c (by omega) (notS_c (by omega) (notS_c (by omega) notS_n)))))).trans un_z_225_25)) (by first | omega | assumption | (simp only [hf336]; assumption)) (by first | exact as5 | exact ⟨fun i hi => rfl, fun j hj => rfl⟩ | exact ⟨fun i hi => ((hs331.2.2.1 _ _ (notS_c (by omega) (notS_c (by omega) (notS_c (by omega) (notS_c (by omega) (notS_c (by omega) notS_n)))))).trans (hst.2.2.1 _ _ (notS_c (by omega) (notS_c (by omega) (notS_c (by omega) (notS_c (by omega) (notS_c (by omega) (notS_c (by omega) (notS_c (by omega) (notS_c (by omega) (notS_c (by omega) (notS_c (by omega) (notS_c (by omega) (notS_c (by omega) notS_n)))))))))))))), fun j hj => ((hs331.2.2.1 _ _ (notS_c (by omega) (notS_c (by omega) (notS_c (by omega) (notS_c (by omega) (notS_c (by omega) notS_n)))))).trans (hst.2.2.1 _ _ (notS_c (by omega) (notS_c (by omega) (notS_c (by omega) (notS_c (by omega) (notS_c (by omega) (notS_c (by omega) (notS_c (by omega) (notS_c (by omega) (notS_c (by omega) (notS_c (by omega) (notS_c (by omega) (notS_c (by omega) notS_n))))))))))))))⟩ | exact ⟨fun i hi => ((hs331.2.2.1 _ _ (notS_c (by omega) (notS_c (by omega) (notS_c (by omega) (notS_c (by omega) (notS_c (by omega) notS_n))))))).trans (as5.1 i hi), fun j hj => ((hs331.2.2.1 _ _ (notS_c (by omega) (notS_c (by omega) (notS_c (by omega) (notS_c (by omega) (notS_c (by omega) notS_n))))))).trans (as5.2 j hj)⟩) (by first | exact as6 | (intro i hi; exfalso; omega) | exact fun i hi => by rw [show z327 232 (8 * (z0 225 25).toNat + i) = z 232 (8 * (z0 225 25).toNat + i) from (hs331.2.2.1 _ _ (notS_c (by omega) (notS_c (by omega) (notS_c (by omega) (notS_c (by omega) (notS_c (by omega) notS_n))))))]; exact as6 i hi | (intro i hi; rw [hq207, mu_ne (by omega), hq190]; by_cases c : i = x4.toNat; (subst c; rw [show 8 * (z0 225 25).toNat + x4.toNat = (8 * z0 225 25 + x4).toNat by omega, mu_eq]; omega); (rw [mu_ne (by omega), hb232]; exact as6 i (by omega)))) (by first | omega | assumption | (simp only [hf336]; assumption)) (by omega))
      · intro x2 x4 x6 z w  hx2 hx4 hx6 hst un_z_225_25 as1 as5 as6 as7 hM
        refine r_ld (pc' := 161) rfl rfl rfl rfl ?_
        have hb337 := rd_225_4 hst.1
        have hb338 := rd_225_5 hz
        have hf339 : z 225 5 = z0 225 5 := (hst.2.2.1 _ _ (notS_c (by omega) (notS_c (by omega) (notS_c (by omega) (notS_c (by omega) (notS_c (by omega) (notS_c (by omega) (notS_c (by omega) (notS_c (by omega) (notS_c (by omega) (notS_c (by omega) (notS_c (by omega) (notS_c (by omega) notS_n)))))))))))))
        have hb340 := rd_225_2 hst.1
        have hb341 := rd_225_6 hst.1
        refine r_cVI (pc' := 164) rfl rfl rfl rfl rfl sh_225 (m_159 (d := d)  hst.1 hst.2.1 (by first | omega | assumption | (simp only [hf339]; assumption))) (fun v342 z343 w344 p345 h346 hs347 hE348 => ?_)
        have hs349 := st_tr hst hs347 (sub_B rfl)
        obtain ⟨rfl, hE348⟩ := hE348
        refine r_st (pc' := 166) (lv' := [(7, _), (0, _), (2, _), (4, _), (6, _)]) rfl rfl rfl rfl ?_
        refine r_ld (pc' := 167) rfl rfl rfl rfl ?_
        have hb350 := rd_225_2 hs349.1
        refine r_gi (pc' := 170) rfl rfl sh_225 rfl rfl ?_
        refine r_zle (pc' := 173) rfl rfl ⟨by omega, by omega⟩ (fun hc351 => ?_) (fun hc351 => ?_)
        · skip
          refine r_ld (pc' := 175) rfl rfl rfl rfl ?_
          refine r_gr (b := 232) (pc' := 178) rfl rfl sh_225 rfl pp_225_15 ?_
          refine r_cb (pc' := 180) rfl (by decide) rfl ?_
          refine r_ld (pc' := 181) rfl rfl rfl rfl ?_
          refine r_gi (pc' := 184) rfl rfl sh_225 rfl ((hs347.2.2.1 _ _ (notS_c (by omega) (notS_c (by omega) (notS_c (by omega) (notS_c (by omega) (notS_c (by omega) (notS_c (by omega) (notS_c (by omega) notS_n)))))))).trans un_z_225_25) ?_
          refine r_mul (pc' := 185) rfl rfl ?_
          refine r_ld (pc' := 187) rfl rfl rfl rfl ?_
          refine r_add (pc' := 188) rfl rfl ?_
          refine r_ld (pc' := 190) rfl rfl rfl rfl ?_
          have hb232 : ∀ i, z343 232 i = z 232 i := fun i => (hs347.2.2.1 _ _ (notS_c (by omega) (notS_c (by omega) (notS_c (by omega) (notS_c (by omega) (notS_c (by omega) (notS_c (by omega) (notS_c (by omega) notS_n))))))))
          refine r_is (pc' := 191) rfl rfl sh_232 rfl (by omega) (by omega) hs349 (inS_s (inS_s (inS_s (inS_s (inS_s (inS_s (inS_s (inS_0 (by omega) (by omega) (by omega) (by omega))))))))) (wr_232 ⟨by omega, by omega⟩) (fun z352 hq353 hs354 => ?_)
          have hq190 := hq353
          refine r_ld (pc' := 192) rfl rfl rfl rfl ?_
          refine r_gr (b := 233) (pc' := 195) rfl rfl sh_225 rfl pp_225_16 ?_
          refine r_cb (pc' := 197) rfl (by decide) rfl ?_
          refine r_ld (pc' := 198) rfl rfl rfl rfl ?_
          refine r_gi (pc' := 201) rfl rfl sh_225 rfl (((congrFun (congrFun hq353 _) _).trans (mu_ne (by omega))).trans ((hs347.2.2.1 _ _ (notS_c (by omega) (notS_c (by omega) (notS_c (by omega) (notS_c (by omega) (notS_c (by omega) (notS_c (by omega) (notS_c (by omega) notS_n)))))))).trans un_z_225_25)) ?_
          refine r_mul (pc' := 202) rfl rfl ?_
          refine r_ld (pc' := 204) rfl rfl rfl rfl ?_
          refine r_add (pc' := 205) rfl rfl ?_
          refine r_ld (pc' := 207) rfl rfl rfl rfl ?_
          refine r_is (pc' := 208) rfl rfl sh_233 rfl (by omega) (by omega) hs354 (inS_s (inS_s (inS_s (inS_s (inS_s (inS_s (inS_s (inS_s (inS_0 (by omega) (by omega) (by omega) (by omega)))))))))) (wr_233 ⟨by omega, by omega⟩) (fun z355 hq356 hs357 => ?_)
          have hq207 := hq356
          refine r_inc (pc' := 211) (lv' := [(7, _), (0, _), (2, _), (6, _)]) rfl rfl rfl rfl rfl ?_
          refine r_ld (pc' := 212) rfl rfl rfl rfl ?_
          have hb358 := rd_225_6 hs349.1
          refine r_gi (pc' := 215) rfl rfl sh_225 rfl (((congrFun (congrFun hq356 _) _).trans (mu_ne (by omega))).trans ((congrFun (congrFun hq353 _) _).trans (mu_ne (by omega)))) ?_
          refine r_c0 (pc' := 216) rfl rfl ?_
          refine r_ine (pc' := 219) rfl rfl ⟨by omega, by omega⟩ ⟨by decide, by decide⟩ (fun hc359 => ?_) (fun hc359 => ?_)
          · skip
            refine r_c0 (pc' := 224) rfl rfl ?_
            refine r_st (pc' := 226) (lv' := [(5, _), (4, _), (7, _), (0, _), (2, _), (6, _)]) rfl rfl rfl rfl ?_
            refine r_go rfl ?_
            have hb360 := rd_225_4 hs349.1
            have hf361 : z355 225 4 = z343 225 4 := (((congrFun (congrFun hq356 _) _).trans (mu_ne (by omega))).trans ((congrFun (congrFun hq353 _) _).trans (mu_ne (by omega))))
            have hf362 : z355 225 6 = z343 225 6 := (((congrFun (congrFun hq356 _) _).trans (mu_ne (by omega))).trans ((congrFun (congrFun hq353 _) _).trans (mu_ne (by omega))))
            exact w_lv (sub_c rfl (sub_c rfl (sub_c rfl (sub_c rfl sub_n)))) rfl (ih4 x2 (x4 + 1) 0 z355 w344 ⟨by omega, by omega⟩ ⟨by omega, by omega⟩ ⟨by omega, by omega⟩ hs357 ((((congrFun (congrFun hq356 _) _).trans (mu_ne (by omega))).trans (((congrFun (congrFun hq353 _) _).trans (mu_ne (by omega))).trans ((hs347.2.2.1 _ _ (notS_c (by omega) (notS_c (by omega) (notS_c (by omega) (notS_c (by omega) (notS_c (by omega) (notS_c (by omega) (notS_c (by omega) notS_n)))))))).trans un_z_225_25)))) (by first | omega | assumption | (simp only [hf361, hf362]; assumption)) (by first | exact as5 | exact ⟨fun i hi => rfl, fun j hj => rfl⟩ | exact ⟨fun i hi => (((congrFun (congrFun hq356 _) _).trans (mu_ne (by omega))).trans (((congrFun (congrFun hq353 _) _).trans (mu_ne (by omega))).trans ((hs347.2.2.1 _ _ (notS_c (by omega) (notS_c (by omega) (notS_c (by omega) (notS_c (by omega) (notS_c (by omega) (notS_c (by omega) (notS_c (by omega) notS_n)))))))).trans (hst.2.2.1 _ _ (notS_c (by omega) (notS_c (by omega) (notS_c (by omega) (notS_c (by omega) (notS_c (by omega) (notS_c (by omega) (notS_c (by omega) (notS_c (by omega) (notS_c (by omega) (notS_c (by omega) (notS_c (by omega) (notS_c (by omega) notS_n)))))))))))))))), fun j hj => (((congrFun (congrFun hq356 _) _).trans (mu_ne (by omega))).trans (((congrFun (congrFun hq353 _) _).trans (mu_ne (by omega))).trans ((hs347.2.2.1 _ _ (notS_c (by omega) (notS_c (by omega) (notS_c (by omega) (notS_c (by omega) (notS_c (by omega) (notS_c (by omega) (notS_c (by omega) notS_n)))))))).trans (hst.2.2.1 _ _ (notS_c (by omega) (notS_c (by omega) (notS_c (by omega) (notS_c (by omega) (notS_c (by omega) (notS_c (by omega) (notS_c (by omega) (notS_c (by omega) (notS_c (by omega) (notS_c (by omega) (notS_c (by omega) (notS_c (by omega) notS_n))))))))))))))))⟩ | exact ⟨fun i hi => ((((congrFun (congrFun hq356 _) _).trans (mu_ne (by omega))).trans (((congrFun (congrFun hq353 _) _).trans (mu_ne (by omega))).trans (hs347.2.2.1 _ _ (notS_c (by omega) (notS_c (by omega) (notS_c (by omega) (notS_c (by omega) (notS_c (by omega) (notS_c (by omega) (notS_c (by omega) notS_n))))))))))).trans (as5.1 i hi), fun j hj => ((((congrFun (congrFun hq356 _) _).trans (mu_ne (by omega))).trans (((congrFun (congrFun hq353 _) _).trans (mu_ne (by omega))).trans (hs347.2.2.1 _ _ (notS_c (by omega) (notS_c (by omega) (notS_c (by omega) (notS_c (by omega) (notS_c (by omega) (notS_c (by omega) (notS_c (by omega) notS_n))))))))))).trans (as5.2 j hj)⟩) (by first | exact as6 | (intro i hi; exfalso; omega) | exact fun i hi => by rw [show z355 232 (8 * (z0 225 25).toNat + i) = z 232 (8 * (z0 225 25).toNat + i) from (((congrFun (congrFun hq356 _) _).trans (mu_ne (by omega))).trans (((congrFun (congrFun hq353 _) _).trans (mu_ne (by omega))).trans (hs347.2.2.1 _ _ (notS_c (by omega) (notS_c (by omega) (notS_c (by omega) (notS_c (by omega) (notS_c (by omega) (notS_c (by omega) (notS_c (by omega) notS_n))))))))))]; exact as6 i hi | (intro i hi; rw [hq207, mu_ne (by omega), hq190]; by_cases c : i = x4.toNat; (subst c; rw [show 8 * (z0 225 25).toNat + x4.toNat = (8 * z0 225 25 + x4).toNat by omega, mu_eq]; omega); (rw [mu_ne (by omega), hb232]; exact as6 i (by omega)))) (by omega))
          · skip
            refine r_c0 (pc' := 220) rfl rfl ?_
            refine r_go rfl ?_
            refine r_st (pc' := 226) (lv' := [(5, _), (4, _), (7, _), (0, _), (2, _), (6, _)]) rfl rfl rfl rfl ?_
            refine r_go rfl ?_
            have hb363 := rd_225_4 hs349.1
            have hf364 : z355 225 4 = z343 225 4 := (((congrFun (congrFun hq356 _) _).trans (mu_ne (by omega))).trans ((congrFun (congrFun hq353 _) _).trans (mu_ne (by omega))))
            have hf365 : z355 225 6 = z343 225 6 := (((congrFun (congrFun hq356 _) _).trans (mu_ne (by omega))).trans ((congrFun (congrFun hq353 _) _).trans (mu_ne (by omega))))
            exact w_lv (sub_c rfl (sub_c rfl (sub_c rfl (sub_c rfl sub_n)))) rfl (ih4 x2 (x4 + 1) 1 z355 w344 ⟨by omega, by omega⟩ ⟨by omega, by omega⟩ ⟨by omega, by omega⟩ hs357 ((((congrFun (congrFun hq356 _) _).trans (mu_ne (by omega))).trans (((congrFun (congrFun hq353 _) _).trans (mu_ne (by omega))).trans ((hs347.2.2.1 _ _ (notS_c (by omega) (notS_c (by omega) (notS_c (by omega) (notS_c (by omega) (notS_c (by omega) (notS_c (by omega) (notS_c (by omega) notS_n)))))))).trans un_z_225_25)))) (by first | omega | assumption | (simp only [hf364, hf365]; assumption)) (by first | exact as5 | exact ⟨fun i hi => rfl, fun j hj => rfl⟩ | exact ⟨fun i hi => (((congrFun (congrFun hq356 _) _).trans (mu_ne (by omega))).trans (((congrFun (congrFun hq353 _) _).trans (mu_ne (by omega))).trans ((hs347.2.2.1 _ _ (notS_c (by omega) (notS_c (by omega) (notS_c (by omega) (notS_c (by omega) (notS_c (by omega) (notS_c (by omega) (notS_c (by omega) notS_n)))))))).trans (hst.2.2.1 _ _ (notS_c (by omega) (notS_c (by omega) (notS_c (by omega) (notS_c (by omega) (notS_c (by omega) (notS_c (by omega) (notS_c (by omega) (notS_c (by omega) (notS_c (by omega) (notS_c (by omega) (notS_c (by omega) (notS_c (by omega) notS_n)))))))))))))))), fun j hj => (((congrFun (congrFun hq356 _) _).trans (mu_ne (by omega))).trans (((congrFun (congrFun hq353 _) _).trans (mu_ne (by omega))).trans ((hs347.2.2.1 _ _ (notS_c (by omega) (notS_c (by omega) (notS_c (by omega) (notS_c (by omega) (notS_c (by omega) (notS_c (by omega) (notS_c (by omega) notS_n)))))))).trans (hst.2.2.1 _ _ (notS_c (by omega) (notS_c (by omega) (notS_c (by omega) (notS_c (by omega) (notS_c (by omega) (notS_c (by omega) (notS_c (by omega) (notS_c (by omega) (notS_c (by omega) (notS_c (by omega) (notS_c (by omega) (notS_c (by omega) notS_n))))))))))))))))⟩ | exact ⟨fun i hi => ((((congrFun (congrFun hq356 _) _).trans (mu_ne (by omega))).trans (((congrFun (congrFun hq353 _) _).trans (mu_ne (by omega))).trans (hs347.2.2.1 _ _ (notS_c (by omega) (notS_c (by omega) (notS_c (by omega) (notS_c (by omega) (notS_c (by omega) (notS_c (by omega) (notS_c (by omega) notS_n))))))))))).trans (as5.1 i hi), fun j hj => ((((congrFun (congrFun hq356 _) _).trans (mu_ne (by omega))).trans (((congrFun (congrFun hq353 _) _).trans (mu_ne (by omega))).trans (hs347.2.2.1 _ _ (notS_c (by omega) (notS_c (by omega) (notS_c (by omega) (notS_c (by omega) (notS_c (by omega) (notS_c (by omega) (notS_c (by omega) notS_n))))))))))).trans (as5.2 j hj)⟩) (by first | exact as6 | (intro i hi; exfalso; omega) | exact fun i hi => by rw [show z355 232 (8 * (z0 225 25).toNat + i) = z 232 (8 * (z0 225 25).toNat + i) from (((congrFun (congrFun hq356 _) _).trans (mu_ne (by omega))).trans (((congrFun (congrFun hq353 _) _).trans (mu_ne (by omega))).trans (hs347.2.2.1 _ _ (notS_c (by omega) (notS_c (by omega) (notS_c (by omega) (notS_c (by omega) (notS_c (by omega) (notS_c (by omega) (notS_c (by omega) notS_n))))))))))]; exact as6 i hi | (intro i hi; rw [hq207, mu_ne (by omega), hq190]; by_cases c : i = x4.toNat; (subst c; rw [show 8 * (z0 225 25).toNat + x4.toNat = (8 * z0 225 25 + x4).toNat by omega, mu_eq]; omega); (rw [mu_ne (by omega), hb232]; exact as6 i (by omega)))) (by omega))
        · skip
          have hb366 := rd_225_4 hs349.1
          have hb367 := rd_225_6 hs349.1
          have hf368 : z343 225 25 = z0 225 25 := ((hs347.2.2.1 _ _ (notS_c (by omega) (notS_c (by omega) (notS_c (by omega) (notS_c (by omega) (notS_c (by omega) (notS_c (by omega) (notS_c (by omega) notS_n)))))))).trans un_z_225_25)
          exact r_ret rfl (po_V hs349 ⟨rfl, (by refine ⟨by omega, by omega, by omega, ?_⟩; first | (intro h; exfalso; omega) | (intro h; exact ⟨LFn_c (hs349.2.2.1 _ _ (notS_c (by omega) (notS_c (by omega) (notS_c (by omega) (notS_c (by omega) (notS_c (by omega) (notS_c (by omega) (notS_c (by omega) (notS_c (by omega) (notS_c (by omega) (notS_c (by omega) (notS_c (by omega) (notS_c (by omega) (notS_n)))))))))))))) (hs349.2.2.1 _ _ (notS_c (by omega) (notS_c (by omega) (notS_c (by omega) (notS_c (by omega) (notS_c (by omega) (notS_c (by omega) (notS_c (by omega) (notS_c (by omega) (notS_c (by omega) (notS_c (by omega) (notS_c (by omega) (notS_c (by omega) (notS_n)))))))))))))) (funext fun i => hs349.2.2.1 _ _ (notS_c (by omega) (notS_c (by omega) (notS_c (by omega) (notS_c (by omega) (notS_c (by omega) (notS_c (by omega) (notS_c (by omega) (notS_c (by omega) (notS_c (by omega) (notS_c (by omega) (notS_c (by omega) (notS_c (by omega) (notS_n)))))))))))))) (funext fun i => hs349.2.2.1 _ _ (notS_c (by omega) (notS_c (by omega) (notS_c (by omega) (notS_c (by omega) (notS_c (by omega) (notS_c (by omega) (notS_c (by omega) (notS_c (by omega) (notS_c (by omega) (notS_c (by omega) (notS_c (by omega) (notS_c (by omega) (notS_n)))))))))))))) hlf, WDn_s (n0 := (z0 225 25).toNat) hz hwd (by omega) (by omega) (by omega) (hs349.2.2.1 _ _ (notS_c (by omega) (notS_c (by omega) (notS_c (by omega) (notS_c (by omega) (notS_c (by omega) (notS_c (by omega) (notS_c (by omega) (notS_c (by omega) (notS_c (by omega) (notS_c (by omega) (notS_c (by omega) (notS_c (by omega) (notS_n)))))))))))))) (fun i hi => ((hs347.2.2.1 _ _ (notS_c (by omega) (notS_c (by omega) (notS_c (by omega) (notS_c (by omega) (notS_c (by omega) (notS_c (by omega) (notS_c (by omega) notS_n))))))))).trans (as5.1 i (by omega))) (fun j hj => ((hs347.2.2.1 _ _ (notS_c (by omega) (notS_c (by omega) (notS_c (by omega) (notS_c (by omega) (notS_c (by omega) (notS_c (by omega) (notS_c (by omega) notS_n))))))))).trans (as5.2 j (by omega))) ((NOMARK).trans ((congrFun (congrFun hq257 _) _).trans mu_eq)) (fun i hi => by rw [show z343 232 (8 * (z0 225 25).toNat + i) = z 232 (8 * (z0 225 25).toNat + i) from (hs347.2.2.1 _ _ (notS_c (by omega) (notS_c (by omega) (notS_c (by omega) (notS_c (by omega) (notS_c (by omega) (notS_c (by omega) (notS_c (by omega) notS_n))))))))]; exact as6 i hi), WHn_c (hs349.2.2.1 _ _ (notS_c (by omega) (notS_c (by omega) (notS_c (by omega) (notS_c (by omega) (notS_c (by omega) (notS_c (by omega) (notS_c (by omega) (notS_c (by omega) (notS_c (by omega) (notS_c (by omega) (notS_c (by omega) (notS_c (by omega) (notS_n)))))))))))))) (funext fun i => hs349.2.2.1 _ _ (notS_c (by omega) (notS_c (by omega) (notS_c (by omega) (notS_c (by omega) (notS_c (by omega) (notS_c (by omega) (notS_c (by omega) (notS_c (by omega) (notS_c (by omega) (notS_c (by omega) (notS_c (by omega) (notS_c (by omega) (notS_n)))))))))))))) hwh, by omega⟩))⟩)
      · intro x2 x4 z w  hx2 hx4 hst un_z_225_25 as1 as5 as6 hM
        refine r_ld (pc' := 230) rfl rfl rfl rfl ?_
        have hb369 := rd_225_2 hst.1
        refine r_gi (pc' := 233) rfl rfl sh_225 rfl rfl ?_
        refine r_zle (pc' := 236) rfl rfl ⟨by omega, by omega⟩ (fun hc370 => ?_) (fun hc370 => ?_)
        · skip
          refine r_ld (pc' := 238) rfl rfl rfl rfl ?_
          refine r_gr (b := 228) (pc' := 241) rfl rfl sh_225 rfl pp_225_11 ?_
          refine r_ld (pc' := 242) rfl rfl rfl rfl ?_
          refine r_gi (pc' := 245) rfl rfl sh_225 rfl un_z_225_25 ?_
          refine r_ld (pc' := 246) rfl rfl rfl rfl ?_
          refine r_ls (pc' := 247) rfl rfl sh_228 rfl (by omega) (by omega) hst (inS_s (inS_s (inS_s (inS_s (inS_s (inS_s (inS_s (inS_s (inS_s (inS_0 (by omega) (by omega) (by omega) (by omega))))))))))) (wr_228 ⟨by omega, by omega⟩) (fun w371 hq372 hs373 => ?_)
          refine r_ld (pc' := 248) rfl rfl rfl rfl ?_
          refine r_gr (b := 234) (pc' := 251) rfl rfl sh_225 rfl pp_225_17 ?_
          refine r_ld (pc' := 252) rfl rfl rfl rfl ?_
          refine r_gi (pc' := 255) rfl rfl sh_225 rfl un_z_225_25 ?_
          refine r_ld (pc' := 257) rfl rfl rfl rfl ?_
          refine r_is (pc' := 258) rfl rfl sh_234 rfl (by omega) (by omega) hs373 (inS_s (inS_s (inS_s (inS_s (inS_s (inS_s (inS_s (inS_s (inS_s (inS_s (inS_0 (by omega) (by omega) (by omega) (by omega)))))))))))) (wr_234 ⟨by omega, by omega⟩) (fun z374 hq375 hs376 => ?_)
          have hq257 := hq375
          refine r_ld (pc' := 259) rfl rfl rfl rfl ?_
          refine r_al (pc' := 260) rfl rfl rfl rfl ?_
          refine r_gi (pc' := 263) rfl rfl sh_225 rfl (((congrFun (congrFun hq375 _) _).trans (mu_ne (by omega))).trans un_z_225_25) ?_
          refine r_c0 (pc' := 264) rfl rfl ?_
          refine r_add (pc' := 265) rfl rfl ?_
          refine r_pi (pc' := 268) rfl rfl sh_225 rfl rfl hs376 (inS_s (inS_s (inS_s (inS_s (inS_s (inS_s (inS_s (inS_s (inS_s (inS_s (inS_s (inS_0 (by omega) (by omega) (by omega) (by omega))))))))))))) (wr_225_25 ⟨by omega, by omega⟩) (fun z377 hq378 hs379 => ?_)
          have hb380 := rd_225_4 hst.1
          have hf381 : z377 225 4 = z 225 4 := (((congrFun (congrFun hq378 _) _).trans (mu_ne (by omega))).trans ((congrFun (congrFun hq375 _) _).trans (mu_ne (by omega))))
          have hb382 := rd_225_6 hst.1
          have hf383 : z377 225 6 = z 225 6 := (((congrFun (congrFun hq378 _) _).trans (mu_ne (by omega))).trans ((congrFun (congrFun hq375 _) _).trans (mu_ne (by omega))))
          have hf384 : z377 225 2 = z 225 2 := (((congrFun (congrFun hq378 _) _).trans (mu_ne (by omega))).trans ((congrFun (congrFun hq375 _) _).trans (mu_ne (by omega))))
          have hf385 : z377 225 25 = (z0 225 25) + 1 := ((congrFun (congrFun hq378 _) _).trans mu_eq)
          exact r_ret rfl (po_V hs379 ⟨rfl, (by refine ⟨by omega, by omega, by omega, ?_⟩; first | (intro h; exfalso; omega) | (intro h; exact ⟨LFn_c (hs379.2.2.1 _ _ (notS_c (by omega) (notS_c (by omega) (notS_c (by omega) (notS_c (by omega) (notS_c (by omega) (notS_c (by omega) (notS_c (by omega) (notS_c (by omega) (notS_c (by omega) (notS_c (by omega) (notS_c (by omega) (notS_c (by omega) (notS_n)))))))))))))) (hs379.2.2.1 _ _ (notS_c (by omega) (notS_c (by omega) (notS_c (by omega) (notS_c (by omega) (notS_c (by omega) (notS_c (by omega) (notS_c (by omega) (notS_c (by omega) (notS_c (by omega) (notS_c (by omega) (notS_c (by omega) (notS_c (by omega) (notS_n)))))))))))))) (funext fun i => hs379.2.2.1 _ _ (notS_c (by omega) (notS_c (by omega) (notS_c (by omega) (notS_c (by omega) (notS_c (by omega) (notS_c (by omega) (notS_c (by omega) (notS_c (by omega) (notS_c (by omega) (notS_c (by omega) (notS_c (by omega) (notS_c (by omega) (notS_n)))))))))))))) (funext fun i => hs379.2.2.1 _ _ (notS_c (by omega) (notS_c (by omega) (notS_c (by omega) (notS_c (by omega) (notS_c (by omega) (notS_c (by omega) (notS_c (by omega) (notS_c (by omega) (notS_c (by omega) (notS_c (by omega) (notS_c (by omega) (notS_c (by omega) (notS_n)))))))))))))) hlf, WDn_s (n0 := (z0 225 25).toNat) hz hwd (by omega) (by omega) (by omega) (hs379.2.2.1 _ _ (notS_c (by omega) (notS_c (by omega) (notS_c (by omega) (notS_c (by omega) (notS_c (by omega) (notS_c (by omega) (notS_c (by omega) (notS_c (by omega) (notS_c (by omega) (notS_c (by omega) (notS_c (by omega) (notS_c (by omega) (notS_n)))))))))))))) (fun i hi => ((((congrFun (congrFun hq378 _) _).trans (mu_ne (by omega))).trans ((congrFun (congrFun hq375 _) _).trans (mu_ne (by omega))))).trans (as5.1 i (by omega))) (fun j hj => ((((congrFun (congrFun hq378 _) _).trans (mu_ne (by omega))).trans ((congrFun (congrFun hq375 _) _).trans (mu_ne (by omega))))).trans (as5.2 j (by omega))) ((((congrFun (congrFun hq378 _) _).trans (mu_ne (by omega)))).trans ((congrFun (congrFun hq257 _) _).trans mu_eq)) (fun i hi => by rw [show z377 232 (8 * (z0 225 25).toNat + i) = z 232 (8 * (z0 225 25).toNat + i) from (((congrFun (congrFun hq378 _) _).trans (mu_ne (by omega))).trans ((congrFun (congrFun hq375 _) _).trans (mu_ne (by omega))))]; exact as6 i hi), WHn_c (hs379.2.2.1 _ _ (notS_c (by omega) (notS_c (by omega) (notS_c (by omega) (notS_c (by omega) (notS_c (by omega) (notS_c (by omega) (notS_c (by omega) (notS_c (by omega) (notS_c (by omega) (notS_c (by omega) (notS_c (by omega) (notS_c (by omega) (notS_n)))))))))))))) (funext fun i => hs379.2.2.1 _ _ (notS_c (by omega) (notS_c (by omega) (notS_c (by omega) (notS_c (by omega) (notS_c (by omega) (notS_c (by omega) (notS_c (by omega) (notS_c (by omega) (notS_c (by omega) (notS_c (by omega) (notS_c (by omega) (notS_c (by omega) (notS_n)))))))))))))) hwh, by omega⟩))⟩)
        · skip
          have hb386 := rd_225_4 hst.1
          have hb387 := rd_225_6 hst.1
          have hf388 : z 225 25 = z0 225 25 := un_z_225_25
          exact r_ret rfl (po_V hst ⟨rfl, (by refine ⟨by omega, by omega, by omega, ?_⟩; first | (intro h; exfalso; omega) | (intro h; exact ⟨LFn_c (hst.2.2.1 _ _ (notS_c (by omega) (notS_c (by omega) (notS_c (by omega) (notS_c (by omega) (notS_c (by omega) (notS_c (by omega) (notS_c (by omega) (notS_c (by omega) (notS_c (by omega) (notS_c (by omega) (notS_c (by omega) (notS_c (by omega) (notS_n)))))))))))))) (hst.2.2.1 _ _ (notS_c (by omega) (notS_c (by omega) (notS_c (by omega) (notS_c (by omega) (notS_c (by omega) (notS_c (by omega) (notS_c (by omega) (notS_c (by omega) (notS_c (by omega) (notS_c (by omega) (notS_c (by omega) (notS_c (by omega) (notS_n)))))))))))))) (funext fun i => hst.2.2.1 _ _ (notS_c (by omega) (notS_c (by omega) (notS_c (by omega) (notS_c (by omega) (notS_c (by omega) (notS_c (by omega) (notS_c (by omega) (notS_c (by omega) (notS_c (by omega) (notS_c (by omega) (notS_c (by omega) (notS_c (by omega) (notS_n)))))))))))))) (funext fun i => hst.2.2.1 _ _ (notS_c (by omega) (notS_c (by omega) (notS_c (by omega) (notS_c (by omega) (notS_c (by omega) (notS_c (by omega) (notS_c (by omega) (notS_c (by omega) (notS_c (by omega) (notS_c (by omega) (notS_c (by omega) (notS_c (by omega) (notS_n)))))))))))))) hlf, WDn_s (n0 := (z0 225 25).toNat) hz hwd (by omega) (by omega) (by omega) (hst.2.2.1 _ _ (notS_c (by omega) (notS_c (by omega) (notS_c (by omega) (notS_c (by omega) (notS_c (by omega) (notS_c (by omega) (notS_c (by omega) (notS_c (by omega) (notS_c (by omega) (notS_c (by omega) (notS_c (by omega) (notS_c (by omega) (notS_n)))))))))))))) (fun i hi => (rfl).trans (as5.1 i (by omega))) (fun j hj => (rfl).trans (as5.2 j (by omega))) ((NOMARK).trans ((congrFun (congrFun hq257 _) _).trans mu_eq)) (fun i hi => by rw [show z 232 (8 * (z0 225 25).toNat + i) = z 232 (8 * (z0 225 25).toNat + i) from rfl]; exact as6 i hi), WHn_c (hst.2.2.1 _ _ (notS_c (by omega) (notS_c (by omega) (notS_c (by omega) (notS_c (by omega) (notS_c (by omega) (notS_c (by omega) (notS_c (by omega) (notS_c (by omega) (notS_c (by omega) (notS_c (by omega) (notS_c (by omega) (notS_c (by omega) (notS_n)))))))))))))) (funext fun i => hst.2.2.1 _ _ (notS_c (by omega) (notS_c (by omega) (notS_c (by omega) (notS_c (by omega) (notS_c (by omega) (notS_c (by omega) (notS_c (by omega) (notS_c (by omega) (notS_c (by omega) (notS_c (by omega) (notS_c (by omega) (notS_c (by omega) (notS_n)))))))))))))) hwh, by omega⟩))⟩)
  refine w_m rfl rfl ?_
  refine r_ld (pc' := 1) rfl rfl rfl rfl ?_
  have hb389 := rd_225_4 hz
  have hb390 := rd_225_5 hz
  refine r_cVV (pc' := 4) rfl rfl rfl rfl rfl sh_225 (m_152 (d := d + 1)  hst.1 hst.2.1 (by first | omega | assumption)) (fun z392 w393 p394 hs396 hE397 => ?_)
  have hs398 := st_tr hst hs396 (sub_B rfl)
  obtain ⟨rfl, hE397⟩ := hE397
  refine r_c0 (pc' := 5) rfl rfl ?_
  refine r_st (pc' := 6) (lv' := [(1, _), (0, _)]) rfl rfl rfl rfl ?_
  refine r_c0 (pc' := 7) rfl rfl ?_
  refine r_st (pc' := 8) (lv' := [(2, _), (1, _), (0, _)]) rfl rfl rfl rfl ?_
  have hb399 := rd_225_4 hs398.1
  have hb400 := rd_225_6 hs398.1
  have hb401 := rd_225_2 hz
  have hb402 := rd_225_3 hz
  exact w_lv (sub_c rfl (sub_c rfl (sub_c rfl sub_n))) rfl ((key ((141 * (5 - 0) + 1544 : Int).toNat + 1)).1 0 0 z392 w393 ⟨by omega, by omega⟩ ⟨by omega, by omega⟩ hs398 ((hs396.2.2.1 _ _ (notS_c (by omega) (notS_c (by omega) (notS_c (by omega) (notS_c (by omega) (notS_c (by omega) notS_n))))))) ((hs396.2.2.1 _ _ (notS_c (by omega) (notS_c (by omega) (notS_c (by omega) (notS_c (by omega) (notS_c (by omega) notS_n))))))) ((hs396.2.2.1 _ _ (notS_c (by omega) (notS_c (by omega) (notS_c (by omega) (notS_c (by omega) (notS_c (by omega) notS_n))))))) (by first | omega | assumption) (by first | exact as5 | exact ⟨fun i hi => rfl, fun j hj => rfl⟩ | exact ⟨fun i hi => (hs396.2.2.1 _ _ (notS_c (by omega) (notS_c (by omega) (notS_c (by omega) (notS_c (by omega) (notS_c (by omega) notS_n)))))), fun j hj => (hs396.2.2.1 _ _ (notS_c (by omega) (notS_c (by omega) (notS_c (by omega) (notS_c (by omega) (notS_c (by omega) notS_n))))))⟩ | exact ⟨fun i hi => ((hs396.2.2.1 _ _ (notS_c (by omega) (notS_c (by omega) (notS_c (by omega) (notS_c (by omega) (notS_c (by omega) notS_n))))))).trans (as5.1 i hi), fun j hj => ((hs396.2.2.1 _ _ (notS_c (by omega) (notS_c (by omega) (notS_c (by omega) (notS_c (by omega) (notS_c (by omega) notS_n))))))).trans (as5.2 j hj)⟩) (by omega))

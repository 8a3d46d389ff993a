/-! methods, printed by wip/tools/vcg.py -/
/-- LoopGroundModel readWordOf -/
abbrev S_168x  : mS := [(225, 225, 4, 4), (225, 225, 7, 7), (225, 225, 9, 9), (225, 225, 8, 8), (225, 225, 6, 6), (225, 225, 2, 2), (225, 225, 3, 3), (232, 232, 0, 47), (233, 233, 0, 47), (228, 228, 0, 5), (234, 234, 0, 5), (225, 225, 25, 25)]
abbrev E_168x (h : Int → Int) (z0 w0 : mZ) (x y tx it mt tt ct : Option Nat) : mZ → mZ → mP → Prop := fun z w p => p = (pq x y tx it mt tt ct) ∧ (OKr h z0 z (RPz h z w))
set_option maxHeartbeats 4000000 in
theorem m_168x {d : Nat} {z0 w0 : mZ} {x y tx it mt tt ct : Option Nat} (h : Int → Int) (hz : rz z0) (hw : rw_ w0) (hh : tr8 z0 = h) (hra : ∃ k, RA h z0 w0 k ∧ sq h k 0 = 0 ∧ tkK h (tp h k) = 9 ∧ WHq (sq h k)) (hf0 : z0 225 2 = 0) (hzb0 : 0 ≤ z0 225 25 ∧ z0 225 25 ≤ 5) : wc (d + 4) 168 [.ref 225] (mk z0 w0 (pq x y tx it mt tt ct)) (poV S_168x z0 w0 (E_168x h z0 w0 x y tx it mt tt ct)) := by
  have hst : st_ S_168x z0 w0 z0 w0 := st_rf hz hw
  have hz166 := rd_225_2 hz
  have hz167 := rd_225_25 hz
  have hz168 := rd_225_3 hz
  have hz169 := rd_225_7 hz
  obtain ⟨k, hRA, hm, hK, hWQ⟩ := hra
  have hta := TKr_a hRA.1
  have ht7 := hRA.1.1
  have hrg := TKr_E hRA.1 (by omega) (by omega)
  have h23 := rd_225_23 hz
  have h24 := rd_225_24 hz
  have key : ∀ N : Nat, (∀ (x1 x2 : Int) (z w : mZ), 0 ≤ x1 ∧ x1 ≤ 1 → 0 ≤ x2 ∧ x2 ≤ 6 → st_ S_168x z0 w0 z w → z 225 2 = z0 225 2 → z 225 3 = z0 225 3 → z 225 25 = z0 225 25 → (RAm h z w 8) → (z 225 2 = 0 ∧ z 225 3 = z0 225 3 ∧ z0 225 7 < z 225 7) → ((x1 = 0 → ∀ i : Nat, (i : Int) < x2 → w 228 i ≠ w 225 9) ∧ (x1 = 1 → ¬ ∀ i : Nat, (i : Int) < x2 → w 228 i ≠ w 225 9)) → (x2 ≤ z0 225 25) → 141 * (6 - x2) + 1544 < (N : Int) → wp_ (d + 3) 168 8 none (8, [(0, .ref 225), (1, .int (Int32.ofInt x1)), (2, .int (Int32.ofInt x2))], [], mk z w (pq x y tx it mt tt ct)) (poV S_168x z0 w0 (E_168x h z0 w0 x y tx it mt tt ct))) ∧ (∀ (x2 : Int) (z w : mZ), 0 ≤ x2 ∧ x2 ≤ 5 → 1 ≤ z0 225 25 ∧ z0 225 25 ≤ 5 → st_ S_168x z0 w0 z w → z 225 2 = z0 225 2 → z 225 3 = z0 225 3 → z 225 25 = z0 225 25 → (RAm h z w 8) → (z 225 2 = 0 ∧ z 225 3 = z0 225 3 ∧ z0 225 7 < z 225 7) → (¬ ∀ i : Nat, (i : Int) < x2 + 1 → w 228 i ≠ w 225 9) → (x2 < z0 225 25) → 141 * (6 - x2) + 1529 < (N : Int) → wp_ (d + 3) 168 8 none (34, [(0, .ref 225), (2, .int (Int32.ofInt x2))], [], mk z w (pq x y tx it mt tt ct)) (poV S_168x z0 w0 (E_168x h z0 w0 x y tx it mt tt ct))) ∧ (∀ (z w : mZ), st_ S_168x z0 w0 z w → z 225 25 = z0 225 25 → (OKr h z0 z (RA8 h z w)) → 1512 < (N : Int) → wp_ (d + 3) 168 8 none (70, [(0, .ref 225)], [], mk z w (pq x y tx it mt tt ct)) (poV S_168x z0 w0 (E_168x h z0 w0 x y tx it mt tt ct))) ∧ (∀ (x2 : Int) (z w : mZ), (-9223372036854775808) ≤ x2 ∧ x2 ≤ 9223372036854775807 → st_ S_168x z0 w0 z w → z 225 25 = z0 225 25 → (OKr h z0 z (RAn h z w 9 0 x2)) → 1504 < (N : Int) → wp_ (d + 3) 168 8 none (86, [(0, .ref 225), (2, .long (Int64.ofInt x2))], [], mk z w (pq x y tx it mt tt ct)) (poV S_168x z0 w0 (E_168x h z0 w0 x y tx it mt tt ct))) ∧ (∀ (x2 x4 x5 : Int) (z w : mZ), (-9223372036854775808) ≤ x2 ∧ x2 ≤ 9223372036854775807 → 0 ≤ x4 ∧ x4 ≤ 8 → 0 ≤ x5 ∧ x5 ≤ 1 → st_ S_168x z0 w0 z w → z 225 25 = z0 225 25 → (OKr h z0 z (RAn h z w 10 x4 x2)) → ((x5 = 1 → z 225 2 = 0 → (x4 = 0 ∨ z 225 6 = 1)) ∧ (x5 = 0 → z 225 2 = 0 ∧ 0 < x4 ∧ z 225 6 ≠ 1)) → 141 * (8 - x4) + 87 < (N : Int) → wp_ (d + 3) 168 8 none (99, [(0, .ref 225), (2, .long (Int64.ofInt x2)), (4, .int (Int32.ofInt x4)), (5, .int (Int32.ofInt x5))], [], mk z w (pq x y tx it mt tt ct)) (poV S_168x z0 w0 (E_168x h z0 w0 x y tx it mt tt ct))) ∧ (∀ (x2 x4 x6 : Int) (z w : mZ), (-9223372036854775808) ≤ x2 ∧ x2 ≤ 9223372036854775807 → 0 ≤ x4 ∧ x4 ≤ 8 → (-1) ≤ x6 ∧ x6 ≤ 7 → st_ S_168x z0 w0 z w → z 225 25 = z0 225 25 → (OKr h z0 z (RAn h z w 10 x4 x2)) → (z 225 2 = 0 ∧ (tkK h (z 225 7) ≠ 1 ∨ x4 = 8) ∧ (x4 = 0 ∨ z 225 6 = 1)) → 141 * (8 - x4) + 68 < (N : Int) → wp_ (d + 3) 168 8 none (131, [(0, .ref 225), (2, .long (Int64.ofInt x2)), (4, .int (Int32.ofInt x4)), (6, .int (Int32.ofInt x6))], [], mk z w (pq x y tx it mt tt ct)) (poV S_168x z0 w0 (E_168x h z0 w0 x y tx it mt tt ct))) ∧ (∀ (x2 x4 x6 : Int) (z w : mZ), (-9223372036854775808) ≤ x2 ∧ x2 ≤ 9223372036854775807 → 0 ≤ x4 ∧ x4 ≤ 8 → (-1) ≤ x6 ∧ x6 ≤ 7 → st_ S_168x z0 w0 z w → z 225 25 = z0 225 25 → (OKr h z0 z (RAn h z w 10 x4 x2 ∧ tkK h (z 225 7) = 1 ∧ x4 < 8 ∧ x6 = fnl (w 227) (w 225 9) (z 225 24).toNat ∧ 0 ≤ x6)) → 141 * (8 - x4) + 64 < (N : Int) → wp_ (d + 3) 168 8 none (149, [(0, .ref 225), (2, .long (Int64.ofInt x2)), (4, .int (Int32.ofInt x4)), (6, .int (Int32.ofInt x6))], [], mk z w (pq x y tx it mt tt ct)) (poV S_168x z0 w0 (E_168x h z0 w0 x y tx it mt tt ct))) ∧ (∀ (x2 x4 x6 : Int) (z w : mZ), (-9223372036854775808) ≤ x2 ∧ x2 ≤ 9223372036854775807 → 0 ≤ x4 ∧ x4 ≤ 8 → (-1) ≤ x6 ∧ x6 ≤ 7 → st_ S_168x z0 w0 z w → z 225 25 = z0 225 25 → (OKr h z0 z (RAt h z w x4 x2 x6)) → (z 225 2 = 0 → x4 ≤ 7 ∧ 0 ≤ x6) → 141 * (8 - x4) + 59 < (N : Int) → wp_ (d + 3) 168 8 none (160, [(0, .ref 225), (2, .long (Int64.ofInt x2)), (4, .int (Int32.ofInt x4)), (6, .int (Int32.ofInt x6))], [], mk z w (pq x y tx it mt tt ct)) (poV S_168x z0 w0 (E_168x h z0 w0 x y tx it mt tt ct))) ∧ (∀ (x2 x4 : Int) (z w : mZ), (-9223372036854775808) ≤ x2 ∧ x2 ≤ 9223372036854775807 → 0 ≤ x4 ∧ x4 ≤ 8 → st_ S_168x z0 w0 z w → z 225 25 = z0 225 25 → (OKr h z0 z (RAn h z w 10 x4 x2 ∧ 0 < x4 ∧ z 225 6 ≠ 1)) → 22 < (N : Int) → wp_ (d + 3) 168 8 none (229, [(0, .ref 225), (2, .long (Int64.ofInt x2)), (4, .int (Int32.ofInt x4))], [], mk z w (pq x y tx it mt tt ct)) (poV S_168x z0 w0 (E_168x h z0 w0 x y tx it mt tt ct))) := by
    intro N
    induction N with
    | zero =>
      refine ⟨?_, ?_, ?_, ?_, ?_, ?_, ?_, ?_, ?_⟩
      · intro x1 x2 z w
        intros; exfalso; omega
      · intro x2 z w
        intros; exfalso; omega
      · intro  z w
        intros; exfalso; omega
      · intro x2 z w
        intros; exfalso; omega
      · intro x2 x4 x5 z w
        intros; exfalso; omega
      · intro x2 x4 x6 z w
        intros; exfalso; omega
      · intro x2 x4 x6 z w
        intros; exfalso; omega
      · intro x2 x4 x6 z w
        intros; exfalso; omega
      · intro x2 x4 z w
        intros; exfalso; omega
    | succ N ih =>
      obtain ⟨ih0, ih1, ih2, ih3, ih4, ih5, ih6, ih7, ih8⟩ := ih
      refine ⟨?_, ?_, ?_, ?_, ?_, ?_, ?_, ?_, ?_⟩
      · intro x1 x2 z w  hx1 hx2 hst un_z_225_2 un_z_225_3 un_z_225_25 as0 asg as1 as2 hM
        refine r_ld (pc' := 9) rfl rfl rfl rfl ?_
        refine r_ld (pc' := 10) rfl rfl rfl rfl ?_
        refine r_gi (pc' := 13) rfl rfl sh_225 rfl un_z_225_25 ?_
        refine r_ige (pc' := 16) rfl rfl ⟨by omega, by omega⟩ ⟨by omega, by omega⟩ (fun hc170 => ?_) (fun hc170 => ?_)
        · skip
          have hb25 : z 225 25 = z0 225 25 := by omega
          refine r_ld (pc' := 47) rfl rfl rfl rfl ?_
          have hb171 := rd_225_7 hst.1
          refine r_cVI (pc' := 50) rfl rfl rfl rfl rfl sh_225 (m_156x (d := d + 2) h hst.1 hst.2.1 (by exact RAm_t as0)) (fun v172 z173 w174 p175 h176 hs177 hE178 => ?_)
          obtain ⟨rfl, rfl, rfl, hE178⟩ := hE178
          have hin := hE178.2.2
          refine r_zne (pc' := 53) rfl rfl ⟨by omega, by omega⟩ (fun hc180 => ?_) (fun hc180 => ?_)
          · skip
            refine r_ld (pc' := 62) rfl rfl rfl rfl ?_
            refine r_zeq (pc' := 65) rfl rfl ⟨by omega, by omega⟩ (fun hc181 => ?_) (fun hc181 => ?_)
            · skip
              have hb182 := rd_225_2 hz
              have hf183 : z 225 2 = z0 225 2 := un_z_225_2
              have hb184 := rd_225_3 hz
              have hf185 : z 225 3 = z0 225 3 := un_z_225_3
              have hb186 := rd_225_6 hst.1
              exact w_lv (sub_c rfl sub_n) rfl (ih2 z w hst (un_z_225_25) (by first | exact OK_nb as0 (Or.inr rfl) (by omega) (hin.2 (by omega)) hwr _ (by omega) | exact OK_w3 as0 (by omega) (hin.1 (by omega)) (by rw [hb25, show z0 225 25 = x2 by omega]; exact as1.2 (by omega)) hwr _ (by omega) | exact ⟨fun _ => ⟨RA8_i as0 (hin.1 (by omega)) (by rw [hb25, show z0 225 25 = x2 by omega]; exact as1.1 (by omega)), by omega, by omega⟩, fun q => absurd q (by omega), by omega⟩) (by omega))
            · skip
              refine r_ld (pc' := 66) rfl rfl rfl rfl ?_
              refine r_c0 (pc' := 67) rfl rfl ?_
              refine r_cVV (pc' := 70) rfl rfl rfl rfl rfl sh_225 (m_154x (d := d + 1) 3 hst.1 hst.2.1 ⟨by omega, by omega⟩) (fun z188 w189 p190 hs192 hE193 => ?_)
              have hs194 := st_tr hst hs192 (sub_B rfl)
              obtain ⟨rfl, hE193⟩ := hE193
              have hwr := hE193
              have hb195 := rd_225_2 hs194.1
              have hb196 := rd_225_3 hs194.1
              have hf197 : z188 225 7 = z 225 7 := (hs192.2.2.1 _ _ (notS_c (by omega) (notS_c (by omega) notS_n)))
              have hb198 := rd_225_6 hst.1
              have hf199 : z188 225 6 = z 225 6 := (hs192.2.2.1 _ _ (notS_c (by omega) (notS_c (by omega) notS_n)))
              exact w_lv (sub_c rfl sub_n) rfl (ih2 z188 w189 hs194 (((hs192.2.2.1 _ _ (notS_c (by omega) (notS_c (by omega) notS_n))).trans un_z_225_25)) (by first | exact OK_nb as0 (Or.inr rfl) (by omega) (hin.2 (by omega)) hwr _ (by omega) | exact OK_w3 as0 (by omega) (hin.1 (by omega)) (by rw [hb25, show z0 225 25 = x2 by omega]; exact as1.2 (by omega)) hwr _ (by omega) | exact ⟨fun _ => ⟨RA8_i as0 (hin.1 (by omega)) (by rw [hb25, show z0 225 25 = x2 by omega]; exact as1.1 (by omega)), by omega, by omega⟩, fun q => absurd q (by omega), by omega⟩) (by omega))
          · skip
            refine r_ld (pc' := 54) rfl rfl rfl rfl ?_
            refine r_c0 (pc' := 55) rfl rfl ?_
            refine r_cVV (pc' := 58) rfl rfl rfl rfl rfl sh_225 (m_154x (d := d + 1) 2 hst.1 hst.2.1 ⟨by omega, by omega⟩) (fun z201 w202 p203 hs205 hE206 => ?_)
            have hs207 := st_tr hst hs205 (sub_B rfl)
            obtain ⟨rfl, hE206⟩ := hE206
            have hwr := hE206
            refine r_go rfl ?_
            have hb208 := rd_225_2 hs207.1
            have hb209 := rd_225_3 hs207.1
            have hf210 : z201 225 7 = z 225 7 := (hs205.2.2.1 _ _ (notS_c (by omega) (notS_c (by omega) notS_n)))
            have hb211 := rd_225_6 hst.1
            have hf212 : z201 225 6 = z 225 6 := (hs205.2.2.1 _ _ (notS_c (by omega) (notS_c (by omega) notS_n)))
            exact w_lv (sub_c rfl sub_n) rfl (ih2 z201 w202 hs207 (((hs205.2.2.1 _ _ (notS_c (by omega) (notS_c (by omega) notS_n))).trans un_z_225_25)) (by first | exact OK_nb as0 (Or.inr rfl) (by omega) (hin.2 (by omega)) hwr _ (by omega) | exact OK_w3 as0 (by omega) (hin.1 (by omega)) (by rw [hb25, show z0 225 25 = x2 by omega]; exact as1.2 (by omega)) hwr _ (by omega) | exact ⟨fun _ => ⟨RA8_i as0 (hin.1 (by omega)) (by rw [hb25, show z0 225 25 = x2 by omega]; exact as1.1 (by omega)), by omega, by omega⟩, fun q => absurd q (by omega), by omega⟩) (by omega))
        · skip
          refine r_ld (pc' := 17) rfl rfl rfl rfl ?_
          refine r_zne (pc' := 20) rfl rfl ⟨by omega, by omega⟩ (fun hc213 => ?_) (fun hc213 => ?_)
          · skip
            have hb214 := rd_225_2 hz
            have hf215 : z 225 2 = z0 225 2 := un_z_225_2
            have hb216 := rd_225_3 hz
            have hf217 : z 225 3 = z0 225 3 := un_z_225_3
            have hb218 := rd_225_7 hst.1
            have hb219 := rd_225_9 hst.2.1
            have hb220 := rd_225_6 hst.1
            exact w_lv (sub_c rfl (sub_c rfl sub_n)) rfl (ih1 x2 z w ⟨by omega, by omega⟩ ⟨by omega, by omega⟩ hst (un_z_225_2) (un_z_225_3) (un_z_225_25) (by exact as0) (by first | omega | assumption | (simp only [hf215, hf217]; assumption)) (by first | exact fun g => as1.2 (by omega) (fun i hi => g i (by omega)) | exact fun g => g x2.toNat (by omega) (by omega)) (by first | omega | assumption | (simp only [hf215, hf217]; assumption)) (by omega))
          · skip
            refine r_ld (pc' := 21) rfl rfl rfl rfl ?_
            refine r_gr (b := 228) (pc' := 24) rfl rfl sh_225 rfl pp_225_11 ?_
            refine r_ld (pc' := 25) rfl rfl rfl rfl ?_
            have hb221 := rd_228 hst.2.1 (i := x2.toNat) (by omega)
            refine r_la (pc' := 26) rfl rfl sh_228 rfl (by omega) (by omega) rfl ?_
            refine r_ld (pc' := 27) rfl rfl rfl rfl ?_
            have hb222 := rd_225_9 hst.2.1
            refine r_gl (pc' := 30) rfl rfl sh_225 rfl rfl ?_
            refine r_lne (pc' := 34) rfl rfl rfl ⟨by omega, by omega⟩ ⟨by omega, by omega⟩ (fun hc223 => ?_) (fun hc223 => ?_)
            · skip
              refine r_c0 (pc' := 39) rfl rfl ?_
              refine r_st (pc' := 40) (lv' := [(1, _), (0, _), (2, _)]) rfl rfl rfl rfl ?_
              refine r_inc (pc' := 43) (lv' := [(1, _), (0, _)]) rfl rfl rfl rfl rfl ?_
              refine r_go rfl ?_
              have hb224 := rd_225_2 hz
              have hf225 : z 225 2 = z0 225 2 := un_z_225_2
              have hb226 := rd_225_3 hz
              have hf227 : z 225 3 = z0 225 3 := un_z_225_3
              have hb228 := rd_225_7 hst.1
              have hb229 := rd_225_6 hst.1
              exact w_lv (sub_c rfl (sub_c rfl (sub_c rfl sub_n))) rfl (ih0 0 (x2 + 1) z w ⟨by omega, by omega⟩ ⟨by omega, by omega⟩ hst (un_z_225_2) (un_z_225_3) (un_z_225_25) (by first | exact as0 | exact c9) (by first | omega | assumption | (simp only [hf225, hf227]; assumption)) (by first | exact ⟨fun _ i hi => absurd hi (by omega), fun q => absurd q (by omega)⟩ | exact ⟨fun q => absurd q (by omega), fun _ => as1⟩ | (refine ⟨fun _ i hi => ?_, fun q => absurd q (by omega)⟩; by_cases c : i = x2.toNat; (rw [c]; omega); exact as1.1 (by omega) i (by omega))) (by first | omega | assumption | (simp only [hf225, hf227]; assumption)) (by omega))
            · skip
              have hb230 := rd_225_2 hz
              have hf231 : z 225 2 = z0 225 2 := un_z_225_2
              have hb232 := rd_225_3 hz
              have hf233 : z 225 3 = z0 225 3 := un_z_225_3
              have hb234 := rd_225_7 hst.1
              have hb235 := rd_225_6 hst.1
              exact w_lv (sub_c rfl (sub_c rfl sub_n)) rfl (ih1 x2 z w ⟨by omega, by omega⟩ ⟨by omega, by omega⟩ hst (un_z_225_2) (un_z_225_3) (un_z_225_25) (by exact as0) (by first | omega | assumption | (simp only [hf231, hf233]; assumption)) (by first | exact fun g => as1.2 (by omega) (fun i hi => g i (by omega)) | exact fun g => g x2.toNat (by omega) (by omega)) (by first | omega | assumption | (simp only [hf231, hf233]; assumption)) (by omega))
      · intro x2 z w  hx2 hz0_0 hst un_z_225_2 un_z_225_3 un_z_225_25 as0 asg as1 as2 hM
        refine r_c0 (pc' := 35) rfl rfl ?_
        refine r_go rfl ?_
        refine r_st (pc' := 40) (lv' := [(1, _), (0, _), (2, _)]) rfl rfl rfl rfl ?_
        refine r_inc (pc' := 43) (lv' := [(1, _), (0, _)]) rfl rfl rfl rfl rfl ?_
        refine r_go rfl ?_
        have hb236 := rd_225_2 hz
        have hf237 : z 225 2 = z0 225 2 := un_z_225_2
        have hb238 := rd_225_3 hz
        have hf239 : z 225 3 = z0 225 3 := un_z_225_3
        have hb240 := rd_225_7 hst.1
        have hb241 := rd_225_9 hst.2.1
        have hb242 := rd_225_6 hst.1
        exact w_lv (sub_c rfl (sub_c rfl (sub_c rfl sub_n))) rfl (ih0 1 (x2 + 1) z w ⟨by omega, by omega⟩ ⟨by omega, by omega⟩ hst (un_z_225_2) (un_z_225_3) (un_z_225_25) (by first | exact as0 | exact c9) (by first | omega | assumption | (simp only [hf237, hf239]; assumption)) (by first | exact ⟨fun _ i hi => absurd hi (by omega), fun q => absurd q (by omega)⟩ | exact ⟨fun q => absurd q (by omega), fun _ => as1⟩ | (refine ⟨fun _ i hi => ?_, fun q => absurd q (by omega)⟩; by_cases c : i = x2.toNat; (rw [c]; omega); exact as1.1 (by omega) i (by omega))) (by first | omega | assumption | (simp only [hf237, hf239]; assumption)) (by omega))
      · intro  z w  hst un_z_225_25 as1 hM
        refine r_ld (pc' := 71) rfl rfl rfl rfl ?_
        have hb243 := rd_225_9 hst.2.1
        refine r_gl (pc' := 74) rfl rfl sh_225 rfl rfl ?_
        refine r_st (pc' := 75) (lv' := [(2, _), (0, _)]) rfl rfl rfl rfl ?_
        refine r_ld (pc' := 76) rfl rfl rfl rfl ?_
        have hb244 := rd_225_2 hst.1
        refine r_gi (pc' := 79) rfl rfl sh_225 rfl rfl ?_
        refine r_zne (pc' := 82) rfl rfl ⟨by omega, by omega⟩ (fun hc245 => ?_) (fun hc245 => ?_)
        · skip
          have hb246 := rd_225_3 hst.1
          have hb247 := rd_225_7 hst.1
          have hb248 := rd_225_6 hst.1
          exact w_lv (sub_c rfl (sub_c rfl sub_n)) rfl (ih3 (w 225 9) z w ⟨by omega, by omega⟩ hst (un_z_225_25) (by first | exact ⟨fun _ => ⟨c10, by have := (as1.1 (by omega)).2; omega, by have := (as1.1 (by omega)).2; omega⟩, fun q => absurd q (by omega), by have := as1.2.2; omega⟩ | exact OK_p as1 (fun q _ => absurd q (by omega))) (by omega))
        · skip
          have hta := TKr_a (RA8_t (as1.1 (by omega)).1)
          refine r_ld (pc' := 83) rfl rfl rfl rfl ?_
          have hb249 := rd_225_4 hst.1
          have hb250 := rd_225_5 hz
          have hf251 : z 225 5 = z0 225 5 := (hst.2.2.1 _ _ (notS_c (by omega) (notS_c (by omega) (notS_c (by omega) (notS_c (by omega) (notS_c (by omega) (notS_c (by omega) (notS_c (by omega) (notS_c (by omega) (notS_c (by omega) (notS_c (by omega) (notS_c (by omega) (notS_c (by omega) notS_n)))))))))))))
          refine r_cVV (pc' := 86) rfl rfl rfl rfl rfl sh_225 (m_152x (d := d + 1) h hst.1 hst.2.1 (by exact (tr8_f (fun i => hst.2.2.1 226 i (notS_c (by omega) (notS_c (by omega) (notS_c (by omega) (notS_c (by omega) (notS_c (by omega) (notS_c (by omega) (notS_c (by omega) (notS_c (by omega) (notS_c (by omega) (notS_c (by omega) (notS_c (by omega) (notS_c (by omega) (notS_n)))))))))))))) (hst.2.2.1 225 5 (notS_c (by omega) (notS_c (by omega) (notS_c (by omega) (notS_c (by omega) (notS_c (by omega) (notS_c (by omega) (notS_c (by omega) (notS_c (by omega) (notS_c (by omega) (notS_c (by omega) (notS_c (by omega) (notS_c (by omega) (notS_n))))))))))))))).trans hh) (by first | omega | assumption | (simp only [hf251]; assumption))) (fun z253 w254 p255 hs257 hE258 => ?_)
          have hs259 := st_tr hst hs257 (sub_B rfl)
          obtain ⟨rfl, hE258⟩ := hE258
          have htt := hE258
          have hfs : Fs z w z253 w254 := ⟨fun i g1 g2 => (hs257.2.2.1 _ _ (notS_c (by omega) (notS_c (by omega) (notS_c (by omega) (notS_c (by omega) (notS_c (by omega) notS_n)))))), fun a i g1 g2 => (hs257.2.2.1 _ _ (notS_c (by omega) (notS_c (by omega) (notS_c (by omega) (notS_c (by omega) (notS_c (by omega) notS_n)))))), fun a i g1 g2 => (hs257.2.2.2 _ _ (notS_c (by omega) (notS_c (by omega) (notS_c (by omega) (notS_c (by omega) (notS_c (by omega) notS_n))))))⟩
          have c10 := RA8_n (as1.1 (by omega)).1 hfs htt.1
          have hf260 : z253 225 2 = z 225 2 := (hs257.2.2.1 _ _ (notS_c (by omega) (notS_c (by omega) (notS_c (by omega) (notS_c (by omega) (notS_c (by omega) notS_n))))))
          have hb261 := rd_225_3 hst.1
          have hf262 : z253 225 3 = z 225 3 := (hs257.2.2.1 _ _ (notS_c (by omega) (notS_c (by omega) (notS_c (by omega) (notS_c (by omega) (notS_c (by omega) notS_n))))))
          have hb263 := rd_225_7 hs259.1
          have hb264 := rd_225_6 hs259.1
          exact w_lv (sub_c rfl (sub_c rfl sub_n)) rfl (ih3 (w 225 9) z253 w254 ⟨by omega, by omega⟩ hs259 (((hs257.2.2.1 _ _ (notS_c (by omega) (notS_c (by omega) (notS_c (by omega) (notS_c (by omega) (notS_c (by omega) notS_n)))))).trans un_z_225_25)) (by first | exact ⟨fun _ => ⟨c10, by have := (as1.1 (by omega)).2; omega, by have := (as1.1 (by omega)).2; omega⟩, fun q => absurd q (by omega), by have := as1.2.2; omega⟩ | exact OK_p as1 (fun q _ => absurd q (by omega))) (by omega))
      · intro x2 z w  hx2 hst un_z_225_25 as1 hM
        refine r_ld (pc' := 87) rfl rfl rfl rfl ?_
        refine r_al (pc' := 90) rfl rfl rfl rfl ?_
        have hb265 := rd_225_2 hst.1
        have hb266 := rd_225_7 hst.1
        refine r_cVV (pc' := 93) rfl rfl rfl rfl rfl sh_225 (m_157x (d := d) h 26995 hst.1 hst.2.1 ⟨by omega, by omega⟩ (by exact (tr8_f (fun i => hst.2.2.1 226 i (notS_c (by omega) (notS_c (by omega) (notS_c (by omega) (notS_c (by omega) (notS_c (by omega) (notS_c (by omega) (notS_c (by omega) (notS_c (by omega) (notS_c (by omega) (notS_c (by omega) (notS_c (by omega) (notS_c (by omega) (notS_n)))))))))))))) (hst.2.2.1 225 5 (notS_c (by omega) (notS_c (by omega) (notS_c (by omega) (notS_c (by omega) (notS_c (by omega) (notS_c (by omega) (notS_c (by omega) (notS_c (by omega) (notS_c (by omega) (notS_c (by omega) (notS_c (by omega) (notS_c (by omega) (notS_n))))))))))))))).trans hh) (by exact fun q => RAn_t (as1.1 q).1) (by first | omega | assumption)) (fun z268 w269 p270 hs272 hE273 => ?_)
        have hs274 := st_tr hst hs272 (sub_B rfl)
        obtain ⟨rfl, hE273⟩ := hE273
        have hwt := hE273
        have hfs : Fs z w z268 w269 := ⟨fun i g1 g2 => (hs272.2.2.1 _ _ (notS_c (by omega) (notS_c (by omega) (notS_c (by omega) (notS_c (by omega) (notS_c (by omega) (notS_c (by omega) (notS_c (by omega) notS_n)))))))), fun a i g1 g2 => (hs272.2.2.1 _ _ (notS_c (by omega) (notS_c (by omega) (notS_c (by omega) (notS_c (by omega) (notS_c (by omega) (notS_c (by omega) (notS_c (by omega) notS_n)))))))), fun a i g1 g2 => (hs272.2.2.2 _ _ (notS_c (by omega) (notS_c (by omega) (notS_c (by omega) (notS_c (by omega) (notS_c (by omega) (notS_c (by omega) (notS_c (by omega) notS_n))))))))⟩
        have n2a := rd_225_2 hs274.1
        have n2b := rd_225_2 hst.1
        have c11 : OKr h z0 z268 (RAn h z268 w269 10 0 x2) := OK_w as1 (Or.inr ⟨rfl, rfl⟩) (by omega) (by omega) hwt hfs
        refine r_c0 (pc' := 94) rfl rfl ?_
        refine r_st (pc' := 96) (lv' := [(4, _), (0, _), (2, _)]) rfl rfl rfl rfl ?_
        refine r_c0 (pc' := 97) rfl rfl ?_
        refine r_st (pc' := 99) (lv' := [(5, _), (4, _), (0, _), (2, _)]) rfl rfl rfl rfl ?_
        have hb275 := rd_225_2 hs274.1
        have hb276 := rd_225_6 hs274.1
        have hb277 := rd_225_3 hs274.1
        have hb278 := rd_225_7 hs274.1
        exact w_lv (sub_c rfl (sub_c rfl (sub_c rfl (sub_c rfl sub_n)))) rfl (ih4 x2 0 1 z268 w269 ⟨by omega, by omega⟩ ⟨by omega, by omega⟩ ⟨by omega, by omega⟩ hs274 (((hs272.2.2.1 _ _ (notS_c (by omega) (notS_c (by omega) (notS_c (by omega) (notS_c (by omega) (notS_c (by omega) (notS_c (by omega) (notS_c (by omega) notS_n)))))))).trans un_z_225_25)) (by first | exact c11 | exact OK_tm (z1 := NOMARK) (w1 := NOMARK) (z' := z268) as1 (by omega) (by omega) (by omega) (by omega) hti (by omega) hft (fun i => NOMARK) (fun a i g1 g2 g3 g4 => NOMARK) (fun i => by rw [hq2, mu_fn (by omega), hq1, un_z_225_25, mu_sf]) (fun i => by rw [hq2, un_z_225_25, mu_sf]; dsimp only; rw [hq1, mu_fn (by omega)])) (by first | exact ⟨fun _ _ => Or.inl (by omega), fun q => absurd q (by omega)⟩ | exact ⟨fun _ _ => Or.inr (by omega), fun q => absurd q (by omega)⟩ | exact ⟨fun q => absurd q (by omega), fun _ => ⟨by omega, by omega, by omega⟩⟩) (by omega))
      · intro x2 x4 x5 z w  hx2 hx4 hx5 hst un_z_225_25 as1 as2 hM
        refine r_ld (pc' := 101) rfl rfl rfl rfl ?_
        refine r_zeq (pc' := 104) rfl rfl ⟨by omega, by omega⟩ (fun hc279 => ?_) (fun hc279 => ?_)
        · skip
          have hb280 := rd_225_6 hst.1
          have hb281 := rd_225_2 hst.1
          have hb282 := rd_225_3 hst.1
          have hb283 := rd_225_7 hst.1
          exact w_lv (sub_c rfl (sub_c rfl (sub_c rfl sub_n))) rfl (ih8 x2 x4 z w ⟨by omega, by omega⟩ ⟨by omega, by omega⟩ hst (un_z_225_25) (by first | exact OK_p as1 (fun q _ => absurd q (by omega)) | exact OK_p as1 (fun _ c => ⟨c, (as2.2 (by omega)).2.1, (as2.2 (by omega)).2.2⟩)) (by omega))
        · skip
          refine r_ld (pc' := 105) rfl rfl rfl rfl ?_
          have hb284 := rd_225_2 hst.1
          refine r_gi (pc' := 108) rfl rfl sh_225 rfl rfl ?_
          refine r_zne (pc' := 111) rfl rfl ⟨by omega, by omega⟩ (fun hc285 => ?_) (fun hc285 => ?_)
          · skip
            have hb286 := rd_225_6 hst.1
            have hb287 := rd_225_3 hst.1
            have hb288 := rd_225_7 hst.1
            exact w_lv (sub_c rfl (sub_c rfl (sub_c rfl sub_n))) rfl (ih8 x2 x4 z w ⟨by omega, by omega⟩ ⟨by omega, by omega⟩ hst (un_z_225_25) (by first | exact OK_p as1 (fun q _ => absurd q (by omega)) | exact OK_p as1 (fun _ c => ⟨c, (as2.2 (by omega)).2.1, (as2.2 (by omega)).2.2⟩)) (by omega))
          · skip
            have hdd := as2.1 (by omega) (by omega)
            have hb24 := rd_225_24 hst.1
            refine r_ld (pc' := 112) rfl rfl rfl rfl ?_
            have hb289 := rd_225_9 hst.2.1
            have hb290 := rd_225_24 hz
            have hf291 : z 225 24 = z0 225 24 := (hst.2.2.1 _ _ (notS_c (by omega) (notS_c (by omega) (notS_c (by omega) (notS_c (by omega) (notS_c (by omega) (notS_c (by omega) (notS_c (by omega) (notS_c (by omega) (notS_c (by omega) (notS_c (by omega) (notS_c (by omega) (notS_c (by omega) notS_n)))))))))))))
            have hF292 : w 227 = w0 227 := (funext fun _ => hst.2.2.2 _ _ (notS_c (by omega) (notS_c (by omega) (notS_c (by omega) (notS_c (by omega) (notS_c (by omega) (notS_c (by omega) (notS_c (by omega) (notS_c (by omega) (notS_c (by omega) (notS_c (by omega) (notS_c (by omega) (notS_c (by omega) notS_n)))))))))))))
            refine r_cVI (pc' := 115) rfl rfl rfl rfl rfl sh_225 (m_165x (d := d + 2)  hst.1 hst.2.1 ) (fun v293 z294 w295 p296 h297 hs298 hE299 => ?_)
            obtain ⟨rfl, rfl, rfl, hE299⟩ := hE299
            have hfl := hE299.2.2
            refine r_st (pc' := 117) (lv' := [(6, _), (0, _), (2, _), (4, _), (5, _)]) rfl rfl rfl rfl ?_
            refine r_ld (pc' := 118) rfl rfl rfl rfl ?_
            have hb301 := rd_225_7 hst.1
            refine r_cVI (pc' := 121) rfl rfl rfl rfl rfl sh_225 (m_156x (d := d + 2) h hst.1 hst.2.1 (by exact RAn_t (as1.1 (by omega)).1)) (fun v302 z303 w304 p305 h306 hs307 hE308 => ?_)
            obtain ⟨rfl, rfl, rfl, hE308⟩ := hE308
            have hin := hE308.2.2
            refine r_zeq (pc' := 124) rfl rfl ⟨by omega, by omega⟩ (fun hc310 => ?_) (fun hc310 => ?_)
            · skip
              have hb311 := rd_225_6 hst.1
              have hb312 := rd_225_3 hst.1
              exact w_lv (sub_c rfl (sub_c rfl (sub_c rfl (sub_c rfl sub_n)))) rfl (ih5 x2 x4 v293 z w ⟨by omega, by omega⟩ ⟨by omega, by omega⟩ ⟨by omega, by omega⟩ hst (un_z_225_25) (by exact as1) (by first | exact ⟨by omega, Or.inl (hin.2 (by omega)), hdd⟩ | exact ⟨by omega, Or.inr (by omega), hdd⟩) (by omega))
            · skip
              refine r_ld (pc' := 126) rfl rfl rfl rfl ?_
              refine r_cb (pc' := 128) rfl (by decide) rfl ?_
              refine r_ine (pc' := 131) rfl rfl ⟨by omega, by omega⟩ ⟨by decide, by decide⟩ (fun hc313 => ?_) (fun hc313 => ?_)
              · skip
                refine r_ld (pc' := 141) rfl rfl rfl rfl ?_
                refine r_zge (pc' := 144) rfl rfl ⟨by omega, by omega⟩ (fun hc314 => ?_) (fun hc314 => ?_)
                · skip
                  have hf315 : z 225 24 = z0 225 24 := (hst.2.2.1 _ _ (notS_c (by omega) (notS_c (by omega) (notS_c (by omega) (notS_c (by omega) (notS_c (by omega) (notS_c (by omega) (notS_c (by omega) (notS_c (by omega) (notS_c (by omega) (notS_c (by omega) (notS_c (by omega) (notS_c (by omega) notS_n)))))))))))))
                  have hb316 := rd_225_3 hst.1
                  have hb317 := rd_225_6 hst.1
                  have hF318 : w 227 = w0 227 := (funext fun _ => hst.2.2.2 _ _ (notS_c (by omega) (notS_c (by omega) (notS_c (by omega) (notS_c (by omega) (notS_c (by omega) (notS_c (by omega) (notS_c (by omega) (notS_c (by omega) (notS_c (by omega) (notS_c (by omega) (notS_c (by omega) (notS_c (by omega) notS_n)))))))))))))
                  exact w_lv (sub_c rfl (sub_c rfl (sub_c rfl (sub_c rfl sub_n)))) rfl (ih6 x2 x4 v293 z w ⟨by omega, by omega⟩ ⟨by omega, by omega⟩ ⟨by omega, by omega⟩ hst (un_z_225_25) (by first | exact OK_t2 as1 (by omega) as2.2.1 as2.2.2 hwr _ (by omega) | exact OK_t5 as1 (by omega) (hin.1 (by omega)) (by omega) (by omega) (by rw [← hfl]; omega) hwr _ (by omega) | exact OK_p as1 (fun _ c => ⟨c, hin.1 (by omega), by omega, hfl, by omega⟩)) (by omega))
                · skip
                  refine r_ld (pc' := 145) rfl rfl rfl rfl ?_
                  refine r_c0 (pc' := 146) rfl rfl ?_
                  refine r_cVV (pc' := 149) rfl rfl rfl rfl rfl sh_225 (m_154x (d := d + 1) 5 hst.1 hst.2.1 ⟨by omega, by omega⟩) (fun z320 w321 p322 hs324 hE325 => ?_)
                  have hs326 := st_tr hst hs324 (sub_B rfl)
                  obtain ⟨rfl, hE325⟩ := hE325
                  have hwr := hE325
                  have hf327 : z320 225 7 = z 225 7 := (hs324.2.2.1 _ _ (notS_c (by omega) (notS_c (by omega) notS_n)))
                  have hf328 : w321 225 9 = w 225 9 := (hs324.2.2.2 _ _ (notS_c (by omega) (notS_c (by omega) notS_n)))
                  have hf329 : z320 225 24 = z0 225 24 := ((hs324.2.2.1 _ _ (notS_c (by omega) (notS_c (by omega) notS_n))).trans (hst.2.2.1 _ _ (notS_c (by omega) (notS_c (by omega) (notS_c (by omega) (notS_c (by omega) (notS_c (by omega) (notS_c (by omega) (notS_c (by omega) (notS_c (by omega) (notS_c (by omega) (notS_c (by omega) (notS_c (by omega) (notS_c (by omega) notS_n))))))))))))))
                  have hb330 := rd_225_2 hs326.1
                  have hb331 := rd_225_3 hs326.1
                  have hb332 := rd_225_6 hst.1
                  have hf333 : z320 225 6 = z 225 6 := (hs324.2.2.1 _ _ (notS_c (by omega) (notS_c (by omega) notS_n)))
                  have hF334 : w321 227 = w0 227 := ((funext fun _ => hs324.2.2.2 _ _ (notS_c (by omega) (notS_c (by omega) notS_n))).trans (funext fun _ => hst.2.2.2 _ _ (notS_c (by omega) (notS_c (by omega) (notS_c (by omega) (notS_c (by omega) (notS_c (by omega) (notS_c (by omega) (notS_c (by omega) (notS_c (by omega) (notS_c (by omega) (notS_c (by omega) (notS_c (by omega) (notS_c (by omega) notS_n))))))))))))))
                  exact w_lv (sub_c rfl (sub_c rfl (sub_c rfl (sub_c rfl sub_n)))) rfl (ih6 x2 x4 v293 z320 w321 ⟨by omega, by omega⟩ ⟨by omega, by omega⟩ ⟨by omega, by omega⟩ hs326 (((hs324.2.2.1 _ _ (notS_c (by omega) (notS_c (by omega) notS_n))).trans un_z_225_25)) (by first | exact OK_t2 as1 (by omega) as2.2.1 as2.2.2 hwr _ (by omega) | exact OK_t5 as1 (by omega) (hin.1 (by omega)) (by omega) (by omega) (by rw [← hfl]; omega) hwr _ (by omega) | exact OK_p as1 (fun _ c => ⟨c, hin.1 (by omega), by omega, hfl, by omega⟩)) (by omega))
              · skip
                have hb335 := rd_225_6 hst.1
                have hb336 := rd_225_3 hst.1
                exact w_lv (sub_c rfl (sub_c rfl (sub_c rfl (sub_c rfl sub_n)))) rfl (ih5 x2 x4 v293 z w ⟨by omega, by omega⟩ ⟨by omega, by omega⟩ ⟨by omega, by omega⟩ hst (un_z_225_25) (by exact as1) (by first | exact ⟨by omega, Or.inl (hin.2 (by omega)), hdd⟩ | exact ⟨by omega, Or.inr (by omega), hdd⟩) (by omega))
      · intro x2 x4 x6 z w  hx2 hx4 hx6 hst un_z_225_25 as1 as2 hM
        refine r_ld (pc' := 132) rfl rfl rfl rfl ?_
        refine r_c0 (pc' := 133) rfl rfl ?_
        refine r_cVV (pc' := 136) rfl rfl rfl rfl rfl sh_225 (m_154x (d := d + 1) 2 hst.1 hst.2.1 ⟨by omega, by omega⟩) (fun z338 w339 p340 hs342 hE343 => ?_)
        have hs344 := st_tr hst hs342 (sub_B rfl)
        obtain ⟨rfl, hE343⟩ := hE343
        have hwr := hE343
        refine r_go rfl ?_
        have hb345 := rd_225_7 hst.1
        have hf346 : z338 225 7 = z 225 7 := (hs342.2.2.1 _ _ (notS_c (by omega) (notS_c (by omega) notS_n)))
        have hb347 := rd_225_9 hst.2.1
        have hf348 : w339 225 9 = w 225 9 := (hs342.2.2.2 _ _ (notS_c (by omega) (notS_c (by omega) notS_n)))
        have hb349 := rd_225_24 hz
        have hf350 : z338 225 24 = z0 225 24 := ((hs342.2.2.1 _ _ (notS_c (by omega) (notS_c (by omega) notS_n))).trans (hst.2.2.1 _ _ (notS_c (by omega) (notS_c (by omega) (notS_c (by omega) (notS_c (by omega) (notS_c (by omega) (notS_c (by omega) (notS_c (by omega) (notS_c (by omega) (notS_c (by omega) (notS_c (by omega) (notS_c (by omega) (notS_c (by omega) notS_n))))))))))))))
        have hb351 := rd_225_2 hs344.1
        have hb352 := rd_225_3 hs344.1
        have hb353 := rd_225_6 hst.1
        have hf354 : z338 225 6 = z 225 6 := (hs342.2.2.1 _ _ (notS_c (by omega) (notS_c (by omega) notS_n)))
        have hF355 : w339 227 = w0 227 := ((funext fun _ => hs342.2.2.2 _ _ (notS_c (by omega) (notS_c (by omega) notS_n))).trans (funext fun _ => hst.2.2.2 _ _ (notS_c (by omega) (notS_c (by omega) (notS_c (by omega) (notS_c (by omega) (notS_c (by omega) (notS_c (by omega) (notS_c (by omega) (notS_c (by omega) (notS_c (by omega) (notS_c (by omega) (notS_c (by omega) (notS_c (by omega) notS_n))))))))))))))
        exact w_lv (sub_c rfl (sub_c rfl (sub_c rfl (sub_c rfl sub_n)))) rfl (ih6 x2 x4 x6 z338 w339 ⟨by omega, by omega⟩ ⟨by omega, by omega⟩ ⟨by omega, by omega⟩ hs344 (((hs342.2.2.1 _ _ (notS_c (by omega) (notS_c (by omega) notS_n))).trans un_z_225_25)) (by first | exact OK_t2 as1 (by omega) as2.2.1 as2.2.2 hwr _ (by omega) | exact OK_t5 as1 (by omega) (hin.1 (by omega)) (by omega) (by omega) (by rw [← hfl]; omega) hwr _ (by omega) | exact OK_p as1 (fun _ c => ⟨c, hin.1 (by omega), by omega, hfl, by omega⟩)) (by omega))
      · intro x2 x4 x6 z w  hx2 hx4 hx6 hst un_z_225_25 as1 hM
        refine r_ld (pc' := 150) rfl rfl rfl rfl ?_
        have hb356 := rd_225_2 hst.1
        refine r_gi (pc' := 153) rfl rfl sh_225 rfl rfl ?_
        refine r_zne (pc' := 156) rfl rfl ⟨by omega, by omega⟩ (fun hc357 => ?_) (fun hc357 => ?_)
        · skip
          have hb358 := rd_225_3 hst.1
          have hb359 := rd_225_7 hst.1
          have hb360 := rd_225_6 hst.1
          exact w_lv (sub_c rfl (sub_c rfl (sub_c rfl (sub_c rfl sub_n)))) rfl (ih7 x2 x4 x6 z w ⟨by omega, by omega⟩ ⟨by omega, by omega⟩ ⟨by omega, by omega⟩ hst (un_z_225_25) (by first | exact ⟨fun _ => ⟨c13, by have := (as1.1 (by omega)).2; omega, by have := (as1.1 (by omega)).2; omega⟩, fun q => absurd q (by omega), by have := as1.2.2; omega⟩ | exact OK_p as1 (fun q _ => absurd q (by omega))) (by first | (intro q; exfalso; omega) | (intro q; have := (as1.1 (by omega)).1; omega) | (intro q; omega)) (by omega))
        · skip
          have hta := TKr_a (RAn_t (as1.1 (by omega)).1.1)
          have c14 := (as1.1 (by omega)).1.2.2
          have hb24 := rd_225_24 hst.1
          refine r_ld (pc' := 157) rfl rfl rfl rfl ?_
          have hb361 := rd_225_4 hst.1
          have hb362 := rd_225_5 hz
          have hf363 : z 225 5 = z0 225 5 := (hst.2.2.1 _ _ (notS_c (by omega) (notS_c (by omega) (notS_c (by omega) (notS_c (by omega) (notS_c (by omega) (notS_c (by omega) (notS_c (by omega) (notS_c (by omega) (notS_c (by omega) (notS_c (by omega) (notS_c (by omega) (notS_c (by omega) notS_n)))))))))))))
          refine r_cVV (pc' := 160) rfl rfl rfl rfl rfl sh_225 (m_152x (d := d + 1) h hst.1 hst.2.1 (by exact (tr8_f (fun i => hst.2.2.1 226 i (notS_c (by omega) (notS_c (by omega) (notS_c (by omega) (notS_c (by omega) (notS_c (by omega) (notS_c (by omega) (notS_c (by omega) (notS_c (by omega) (notS_c (by omega) (notS_c (by omega) (notS_c (by omega) (notS_c (by omega) (notS_n)))))))))))))) (hst.2.2.1 225 5 (notS_c (by omega) (notS_c (by omega) (notS_c (by omega) (notS_c (by omega) (notS_c (by omega) (notS_c (by omega) (notS_c (by omega) (notS_c (by omega) (notS_c (by omega) (notS_c (by omega) (notS_c (by omega) (notS_c (by omega) (notS_n))))))))))))))).trans hh) (by first | omega | assumption | (simp only [hf363]; assumption))) (fun z365 w366 p367 hs369 hE370 => ?_)
          have hs371 := st_tr hst hs369 (sub_B rfl)
          obtain ⟨rfl, hE370⟩ := hE370
          have htt := hE370
          have hfs : Fs z w z365 w366 := ⟨fun i g1 g2 => (hs369.2.2.1 _ _ (notS_c (by omega) (notS_c (by omega) (notS_c (by omega) (notS_c (by omega) (notS_c (by omega) notS_n)))))), fun a i g1 g2 => (hs369.2.2.1 _ _ (notS_c (by omega) (notS_c (by omega) (notS_c (by omega) (notS_c (by omega) (notS_c (by omega) notS_n)))))), fun a i g1 g2 => (hs369.2.2.2 _ _ (notS_c (by omega) (notS_c (by omega) (notS_c (by omega) (notS_c (by omega) (notS_c (by omega) notS_n))))))⟩
          have c12 := (as1.1 (by omega)).1
          have c13 := RAt_i c12.1 c12.2.1 (by omega) (by omega) (by rw [← c12.2.2.2.1]; omega) hfs htt.1
          rw [← c12.2.2.2.1] at c13
          have hf372 : z365 225 2 = z 225 2 := (hs369.2.2.1 _ _ (notS_c (by omega) (notS_c (by omega) (notS_c (by omega) (notS_c (by omega) (notS_c (by omega) notS_n))))))
          have hb373 := rd_225_3 hst.1
          have hf374 : z365 225 3 = z 225 3 := (hs369.2.2.1 _ _ (notS_c (by omega) (notS_c (by omega) (notS_c (by omega) (notS_c (by omega) (notS_c (by omega) notS_n))))))
          have hb375 := rd_225_7 hs371.1
          have hb376 := rd_225_6 hs371.1
          exact w_lv (sub_c rfl (sub_c rfl (sub_c rfl (sub_c rfl sub_n)))) rfl (ih7 x2 x4 x6 z365 w366 ⟨by omega, by omega⟩ ⟨by omega, by omega⟩ ⟨by omega, by omega⟩ hs371 (((hs369.2.2.1 _ _ (notS_c (by omega) (notS_c (by omega) (notS_c (by omega) (notS_c (by omega) (notS_c (by omega) notS_n)))))).trans un_z_225_25)) (by first | exact ⟨fun _ => ⟨c13, by have := (as1.1 (by omega)).2; omega, by have := (as1.1 (by omega)).2; omega⟩, fun q => absurd q (by omega), by have := as1.2.2; omega⟩ | exact OK_p as1 (fun q _ => absurd q (by omega))) (by first | (intro q; exfalso; omega) | (intro q; have := (as1.1 (by omega)).1; omega) | (intro q; omega)) (by omega))
      · intro x2 x4 x6 z w  hx2 hx4 hx6 hst un_z_225_25 as1 as2 hM
        refine r_ld (pc' := 161) rfl rfl rfl rfl ?_
        have hb377 := rd_225_2 hst.1
        have hb378 := rd_225_7 hst.1
        refine r_cVI (pc' := 164) rfl rfl rfl rfl rfl sh_225 (m_159x (d := d) h hst.1 hst.2.1 (by exact (tr8_f (fun i => hst.2.2.1 226 i (notS_c (by omega) (notS_c (by omega) (notS_c (by omega) (notS_c (by omega) (notS_c (by omega) (notS_c (by omega) (notS_c (by omega) (notS_c (by omega) (notS_c (by omega) (notS_c (by omega) (notS_c (by omega) (notS_c (by omega) (notS_n)))))))))))))) (hst.2.2.1 225 5 (notS_c (by omega) (notS_c (by omega) (notS_c (by omega) (notS_c (by omega) (notS_c (by omega) (notS_c (by omega) (notS_c (by omega) (notS_c (by omega) (notS_c (by omega) (notS_c (by omega) (notS_c (by omega) (notS_c (by omega) (notS_n))))))))))))))).trans hh) (by exact fun q => RAt_t (as1.1 q).1)) (fun v379 z380 w381 p382 h383 hs384 hE385 => ?_)
        have hs386 := st_tr hst hs384 (sub_B rfl)
        obtain ⟨rfl, hE385⟩ := hE385
        have hti := hE385.2.2
        have htg := hti.2
        have hft : Fs z w z380 w381 := ⟨fun i g1 g2 => (hs384.2.2.1 _ _ (notS_c (by omega) (notS_c (by omega) (notS_c (by omega) (notS_c (by omega) (notS_c (by omega) (notS_c (by omega) (notS_c (by omega) notS_n)))))))), fun a i g1 g2 => (hs384.2.2.1 _ _ (notS_c (by omega) (notS_c (by omega) (notS_c (by omega) (notS_c (by omega) (notS_c (by omega) (notS_c (by omega) (notS_c (by omega) notS_n)))))))), fun a i g1 g2 => (hs384.2.2.2 _ _ (notS_c (by omega) (notS_c (by omega) (notS_c (by omega) (notS_c (by omega) (notS_c (by omega) (notS_c (by omega) (notS_c (by omega) notS_n))))))))⟩
        refine r_st (pc' := 166) (lv' := [(7, _), (0, _), (2, _), (4, _), (6, _)]) rfl rfl rfl rfl ?_
        refine r_ld (pc' := 167) rfl rfl rfl rfl ?_
        have hb387 := rd_225_2 hs386.1
        refine r_gi (pc' := 170) rfl rfl sh_225 rfl rfl ?_
        refine r_zle (pc' := 173) rfl rfl ⟨by omega, by omega⟩ (fun hc388 => ?_) (fun hc388 => ?_)
        · skip
          have h20 : z 225 2 = 0 := by (have n2b := rd_225_2 hst.1; rcases hti.1 with g | g; (have := g.2.1; omega); exact g.1)
          have h7 := as2 h20
          have hv9 := TMp_v hti (by omega)
          have hb24 := rd_225_24 hst.1
          refine r_ld (pc' := 175) rfl rfl rfl rfl ?_
          refine r_gr (b := 232) (pc' := 178) rfl rfl sh_225 rfl pp_225_15 ?_
          refine r_cb (pc' := 180) rfl (by decide) rfl ?_
          refine r_ld (pc' := 181) rfl rfl rfl rfl ?_
          refine r_gi (pc' := 184) rfl rfl sh_225 rfl ((hs384.2.2.1 _ _ (notS_c (by omega) (notS_c (by omega) (notS_c (by omega) (notS_c (by omega) (notS_c (by omega) (notS_c (by omega) (notS_c (by omega) notS_n)))))))).trans un_z_225_25) ?_
          refine r_mul (pc' := 185) rfl rfl ?_
          refine r_ld (pc' := 187) rfl rfl rfl rfl ?_
          refine r_add (pc' := 188) rfl rfl ?_
          refine r_ld (pc' := 190) rfl rfl rfl rfl ?_
          refine r_is (pc' := 191) rfl rfl sh_232 rfl (by omega) (by omega) hs386 (inS_s (inS_s (inS_s (inS_s (inS_s (inS_s (inS_s (inS_0 (by omega) (by omega) (by omega) (by omega))))))))) (wr_232 ⟨by omega, by omega⟩) (fun z389 hq390 hs391 => ?_)
          have hq1 := hq390
          refine r_ld (pc' := 192) rfl rfl rfl rfl ?_
          refine r_gr (b := 233) (pc' := 195) rfl rfl sh_225 rfl pp_225_16 ?_
          refine r_cb (pc' := 197) rfl (by decide) rfl ?_
          refine r_ld (pc' := 198) rfl rfl rfl rfl ?_
          refine r_gi (pc' := 201) rfl rfl sh_225 rfl (((congrFun (congrFun hq390 _) _).trans (mu_ne (by omega))).trans ((hs384.2.2.1 _ _ (notS_c (by omega) (notS_c (by omega) (notS_c (by omega) (notS_c (by omega) (notS_c (by omega) (notS_c (by omega) (notS_c (by omega) notS_n)))))))).trans un_z_225_25)) ?_
          refine r_mul (pc' := 202) rfl rfl ?_
          refine r_ld (pc' := 204) rfl rfl rfl rfl ?_
          refine r_add (pc' := 205) rfl rfl ?_
          refine r_ld (pc' := 207) rfl rfl rfl rfl ?_
          refine r_is (pc' := 208) rfl rfl sh_233 rfl (by omega) (by omega) hs391 (inS_s (inS_s (inS_s (inS_s (inS_s (inS_s (inS_s (inS_s (inS_0 (by omega) (by omega) (by omega) (by omega)))))))))) (wr_233 ⟨by omega, by omega⟩) (fun z392 hq393 hs394 => ?_)
          have hq2 := hq393
          refine r_inc (pc' := 211) (lv' := [(7, _), (0, _), (2, _), (6, _)]) rfl rfl rfl rfl rfl ?_
          refine r_ld (pc' := 212) rfl rfl rfl rfl ?_
          have hb395 := rd_225_6 hs386.1
          refine r_gi (pc' := 215) rfl rfl sh_225 rfl (((congrFun (congrFun hq393 _) _).trans (mu_ne (by omega))).trans ((congrFun (congrFun hq390 _) _).trans (mu_ne (by omega)))) ?_
          refine r_c0 (pc' := 216) rfl rfl ?_
          refine r_ine (pc' := 219) rfl rfl ⟨by omega, by omega⟩ ⟨by decide, by decide⟩ (fun hc396 => ?_) (fun hc396 => ?_)
          · skip
            refine r_c0 (pc' := 224) rfl rfl ?_
            refine r_st (pc' := 226) (lv' := [(5, _), (4, _), (7, _), (0, _), (2, _), (6, _)]) rfl rfl rfl rfl ?_
            refine r_go rfl ?_
            have hf397 : z392 225 2 = z380 225 2 := (((congrFun (congrFun hq393 _) _).trans (mu_ne (by omega))).trans ((congrFun (congrFun hq390 _) _).trans (mu_ne (by omega))))
            have hf398 : z392 225 6 = z380 225 6 := (((congrFun (congrFun hq393 _) _).trans (mu_ne (by omega))).trans ((congrFun (congrFun hq390 _) _).trans (mu_ne (by omega))))
            have hb399 := rd_225_3 hs386.1
            have hf400 : z392 225 3 = z380 225 3 := (((congrFun (congrFun hq393 _) _).trans (mu_ne (by omega))).trans ((congrFun (congrFun hq390 _) _).trans (mu_ne (by omega))))
            have hb401 := rd_225_7 hs386.1
            have hf402 : z392 225 7 = z380 225 7 := (((congrFun (congrFun hq393 _) _).trans (mu_ne (by omega))).trans ((congrFun (congrFun hq390 _) _).trans (mu_ne (by omega))))
            exact w_lv (sub_c rfl (sub_c rfl (sub_c rfl (sub_c rfl sub_n)))) rfl (ih4 x2 (x4 + 1) 0 z392 w381 ⟨by omega, by omega⟩ ⟨by omega, by omega⟩ ⟨by omega, by omega⟩ hs394 ((((congrFun (congrFun hq393 _) _).trans (mu_ne (by omega))).trans (((congrFun (congrFun hq390 _) _).trans (mu_ne (by omega))).trans ((hs384.2.2.1 _ _ (notS_c (by omega) (notS_c (by omega) (notS_c (by omega) (notS_c (by omega) (notS_c (by omega) (notS_c (by omega) (notS_c (by omega) notS_n)))))))).trans un_z_225_25)))) (by first | exact c11 | exact OK_tm (z1 := z380) (w1 := w381) (z' := z392) as1 (by omega) (by omega) (by omega) (by omega) hti (by omega) hft (fun i => (((congrFun (congrFun hq393 _) _).trans (mu_ne (by omega))).trans ((congrFun (congrFun hq390 _) _).trans (mu_ne (by omega))))) (fun a i g1 g2 g3 g4 => (((congrFun (congrFun hq393 _) _).trans (mu_ne (by omega))).trans ((congrFun (congrFun hq390 _) _).trans (mu_ne (by omega))))) (fun i => by rw [hq2, mu_fn (by omega), hq1, un_z_225_25, mu_sf]) (fun i => by rw [hq2, un_z_225_25, mu_sf]; dsimp only; rw [hq1, mu_fn (by omega)])) (by first | exact ⟨fun _ _ => Or.inl (by omega), fun q => absurd q (by omega)⟩ | exact ⟨fun _ _ => Or.inr (by omega), fun q => absurd q (by omega)⟩ | exact ⟨fun q => absurd q (by omega), fun _ => ⟨by omega, by omega, by omega⟩⟩) (by omega))
          · skip
            refine r_c0 (pc' := 220) rfl rfl ?_
            refine r_go rfl ?_
            refine r_st (pc' := 226) (lv' := [(5, _), (4, _), (7, _), (0, _), (2, _), (6, _)]) rfl rfl rfl rfl ?_
            refine r_go rfl ?_
            have hf403 : z392 225 2 = z380 225 2 := (((congrFun (congrFun hq393 _) _).trans (mu_ne (by omega))).trans ((congrFun (congrFun hq390 _) _).trans (mu_ne (by omega))))
            have hf404 : z392 225 6 = z380 225 6 := (((congrFun (congrFun hq393 _) _).trans (mu_ne (by omega))).trans ((congrFun (congrFun hq390 _) _).trans (mu_ne (by omega))))
            have hb405 := rd_225_3 hs386.1
            have hf406 : z392 225 3 = z380 225 3 := (((congrFun (congrFun hq393 _) _).trans (mu_ne (by omega))).trans ((congrFun (congrFun hq390 _) _).trans (mu_ne (by omega))))
            have hb407 := rd_225_7 hs386.1
            have hf408 : z392 225 7 = z380 225 7 := (((congrFun (congrFun hq393 _) _).trans (mu_ne (by omega))).trans ((congrFun (congrFun hq390 _) _).trans (mu_ne (by omega))))
            exact w_lv (sub_c rfl (sub_c rfl (sub_c rfl (sub_c rfl sub_n)))) rfl (ih4 x2 (x4 + 1) 1 z392 w381 ⟨by omega, by omega⟩ ⟨by omega, by omega⟩ ⟨by omega, by omega⟩ hs394 ((((congrFun (congrFun hq393 _) _).trans (mu_ne (by omega))).trans (((congrFun (congrFun hq390 _) _).trans (mu_ne (by omega))).trans ((hs384.2.2.1 _ _ (notS_c (by omega) (notS_c (by omega) (notS_c (by omega) (notS_c (by omega) (notS_c (by omega) (notS_c (by omega) (notS_c (by omega) notS_n)))))))).trans un_z_225_25)))) (by first | exact c11 | exact OK_tm (z1 := z380) (w1 := w381) (z' := z392) as1 (by omega) (by omega) (by omega) (by omega) hti (by omega) hft (fun i => (((congrFun (congrFun hq393 _) _).trans (mu_ne (by omega))).trans ((congrFun (congrFun hq390 _) _).trans (mu_ne (by omega))))) (fun a i g1 g2 g3 g4 => (((congrFun (congrFun hq393 _) _).trans (mu_ne (by omega))).trans ((congrFun (congrFun hq390 _) _).trans (mu_ne (by omega))))) (fun i => by rw [hq2, mu_fn (by omega), hq1, un_z_225_25, mu_sf]) (fun i => by rw [hq2, un_z_225_25, mu_sf]; dsimp only; rw [hq1, mu_fn (by omega)])) (by first | exact ⟨fun _ _ => Or.inl (by omega), fun q => absurd q (by omega)⟩ | exact ⟨fun _ _ => Or.inr (by omega), fun q => absurd q (by omega)⟩ | exact ⟨fun q => absurd q (by omega), fun _ => ⟨by omega, by omega, by omega⟩⟩) (by omega))
        · skip
          have hb409 := rd_225_3 hs386.1
          have hb410 := rd_225_7 hs386.1
          have hf411 : z380 225 25 = z0 225 25 := ((hs384.2.2.1 _ _ (notS_c (by omega) (notS_c (by omega) (notS_c (by omega) (notS_c (by omega) (notS_c (by omega) (notS_c (by omega) (notS_c (by omega) notS_n)))))))).trans un_z_225_25)
          exact r_ret rfl (po_V hs386 ⟨rfl, (by exact OK_tf as1 (by have := rd_225_2 hst.1; omega) hti (by omega) _)⟩)
      · intro x2 x4 z w  hx2 hx4 hst un_z_225_25 as1 hM
        refine r_ld (pc' := 230) rfl rfl rfl rfl ?_
        have hb412 := rd_225_2 hst.1
        refine r_gi (pc' := 233) rfl rfl sh_225 rfl rfl ?_
        refine r_zle (pc' := 236) rfl rfl ⟨by omega, by omega⟩ (fun hc413 => ?_) (fun hc413 => ?_)
        · skip
          have hb24 := rd_225_24 hst.1
          have hb25 := rd_225_25 hst.1
          refine r_ld (pc' := 238) rfl rfl rfl rfl ?_
          refine r_gr (b := 228) (pc' := 241) rfl rfl sh_225 rfl pp_225_11 ?_
          refine r_ld (pc' := 242) rfl rfl rfl rfl ?_
          refine r_gi (pc' := 245) rfl rfl sh_225 rfl un_z_225_25 ?_
          refine r_ld (pc' := 246) rfl rfl rfl rfl ?_
          refine r_ls (pc' := 247) rfl rfl sh_228 rfl (by omega) (by omega) hst (inS_s (inS_s (inS_s (inS_s (inS_s (inS_s (inS_s (inS_s (inS_s (inS_0 (by omega) (by omega) (by omega) (by omega))))))))))) (wr_228 ⟨by omega, by omega⟩) (fun w414 hq415 hs416 => ?_)
          have hqn := hq415
          refine r_ld (pc' := 248) rfl rfl rfl rfl ?_
          refine r_gr (b := 234) (pc' := 251) rfl rfl sh_225 rfl pp_225_17 ?_
          refine r_ld (pc' := 252) rfl rfl rfl rfl ?_
          refine r_gi (pc' := 255) rfl rfl sh_225 rfl un_z_225_25 ?_
          refine r_ld (pc' := 257) rfl rfl rfl rfl ?_
          refine r_is (pc' := 258) rfl rfl sh_234 rfl (by omega) (by omega) hs416 (inS_s (inS_s (inS_s (inS_s (inS_s (inS_s (inS_s (inS_s (inS_s (inS_s (inS_0 (by omega) (by omega) (by omega) (by omega)))))))))))) (wr_234 ⟨by omega, by omega⟩) (fun z417 hq418 hs419 => ?_)
          have hql := hq418
          refine r_ld (pc' := 259) rfl rfl rfl rfl ?_
          refine r_al (pc' := 260) rfl rfl rfl rfl ?_
          refine r_gi (pc' := 263) rfl rfl sh_225 rfl (((congrFun (congrFun hq418 _) _).trans (mu_ne (by omega))).trans un_z_225_25) ?_
          refine r_c0 (pc' := 264) rfl rfl ?_
          refine r_add (pc' := 265) rfl rfl ?_
          refine r_pi (pc' := 268) rfl rfl sh_225 rfl rfl hs419 (inS_s (inS_s (inS_s (inS_s (inS_s (inS_s (inS_s (inS_s (inS_s (inS_s (inS_s (inS_0 (by omega) (by omega) (by omega) (by omega))))))))))))) (wr_225_25 ⟨by omega, by omega⟩) (fun z420 hq421 hs422 => ?_)
          have hqc := hq421
          have hf423 : z420 225 2 = z 225 2 := (((congrFun (congrFun hq421 _) _).trans (mu_ne (by omega))).trans ((congrFun (congrFun hq418 _) _).trans (mu_ne (by omega))))
          have hb424 := rd_225_3 hst.1
          have hf425 : z420 225 3 = z 225 3 := (((congrFun (congrFun hq421 _) _).trans (mu_ne (by omega))).trans ((congrFun (congrFun hq418 _) _).trans (mu_ne (by omega))))
          have hb426 := rd_225_7 hst.1
          have hf427 : z420 225 7 = z 225 7 := (((congrFun (congrFun hq421 _) _).trans (mu_ne (by omega))).trans ((congrFun (congrFun hq418 _) _).trans (mu_ne (by omega))))
          have hf428 : z420 225 25 = (z0 225 25) + 1 := ((congrFun (congrFun hq421 _) _).trans mu_eq)
          exact r_ret rfl (po_V hs422 ⟨rfl, (by have q9 := as1.1 (by omega); refine ⟨fun _ => ⟨RP_w q9.1.1 q9.1.2.1 q9.1.2.2 (by omega) (by omega) (by omega) (fun i g1 => (((congrFun (congrFun hq421 _) _).trans (mu_ne (by omega))).trans ((congrFun (congrFun hq418 _) _).trans (mu_ne (by omega))))) (fun a i g1 g2 => (((congrFun (congrFun hq421 _) _).trans (mu_ne (by omega))).trans ((congrFun (congrFun hq418 _) _).trans (mu_ne (by omega))))) (fun e => by rw [hqc, mu_fn (by omega), hql, un_z_225_25, mu_sf]) (fun e => by rw [hqn, un_z_225_25, mu_sf]) (fun a i g1 => ((congrFun (congrFun hq415 _) _).trans (mu_ne (by omega)))), by omega, by omega⟩, fun q => absurd q (by omega), by have := as1.2.2; omega⟩)⟩)
        · skip
          have hb429 := rd_225_3 hst.1
          have hb430 := rd_225_7 hst.1
          have hf431 : z 225 25 = z0 225 25 := un_z_225_25
          exact r_ret rfl (po_V hst ⟨rfl, (by exact OK_p as1 (fun q _ => absurd q (by omega)))⟩)
  refine w_m rfl rfl ?_
  refine r_ld (pc' := 1) rfl rfl rfl rfl ?_
  have hb432 := rd_225_4 hz
  have hb433 := rd_225_5 hz
  refine r_cVV (pc' := 4) rfl rfl rfl rfl rfl sh_225 (m_152x (d := d + 1) h hst.1 hst.2.1 (by exact (tr8_f (fun i => hst.2.2.1 226 i (notS_c (by omega) (notS_c (by omega) (notS_c (by omega) (notS_c (by omega) (notS_c (by omega) (notS_c (by omega) (notS_c (by omega) (notS_c (by omega) (notS_c (by omega) (notS_c (by omega) (notS_c (by omega) (notS_c (by omega) (notS_n)))))))))))))) (hst.2.2.1 225 5 (notS_c (by omega) (notS_c (by omega) (notS_c (by omega) (notS_c (by omega) (notS_c (by omega) (notS_c (by omega) (notS_c (by omega) (notS_c (by omega) (notS_c (by omega) (notS_c (by omega) (notS_c (by omega) (notS_c (by omega) (notS_n))))))))))))))).trans hh) (by first | omega | assumption)) (fun z435 w436 p437 hs439 hE440 => ?_)
  have hs441 := st_tr hst hs439 (sub_B rfl)
  obtain ⟨rfl, hE440⟩ := hE440
  have htt := hE440
  have hfs : Fs z0 w0 z435 w436 := ⟨fun i g1 g2 => (hs439.2.2.1 _ _ (notS_c (by omega) (notS_c (by omega) (notS_c (by omega) (notS_c (by omega) (notS_c (by omega) notS_n)))))), fun a i g1 g2 => (hs439.2.2.1 _ _ (notS_c (by omega) (notS_c (by omega) (notS_c (by omega) (notS_c (by omega) (notS_c (by omega) notS_n)))))), fun a i g1 g2 => (hs439.2.2.2 _ _ (notS_c (by omega) (notS_c (by omega) (notS_c (by omega) (notS_c (by omega) (notS_c (by omega) notS_n))))))⟩
  have c9 := RA_b (m := 8) hRA.2 hm ((sq_s h k).trans (a0_w1 hm hK (Or.inr hWQ) (by have := hRA.2.1.1.2.2; omega))) (Or.inr rfl) hWQ (by omega) hfs (by rw [tp_s, ← hrg.1]; exact htt.1)
  have m2 : z435 225 2 = z0 225 2 := (hs439.2.2.1 _ _ (notS_c (by omega) (notS_c (by omega) (notS_c (by omega) (notS_c (by omega) (notS_c (by omega) notS_n))))))
  have m3 : z435 225 3 = z0 225 3 := (hs439.2.2.1 _ _ (notS_c (by omega) (notS_c (by omega) (notS_c (by omega) (notS_c (by omega) (notS_c (by omega) notS_n))))))
  refine r_c0 (pc' := 5) rfl rfl ?_
  refine r_st (pc' := 6) (lv' := [(1, _), (0, _)]) rfl rfl rfl rfl ?_
  refine r_c0 (pc' := 7) rfl rfl ?_
  refine r_st (pc' := 8) (lv' := [(2, _), (1, _), (0, _)]) rfl rfl rfl rfl ?_
  have hb442 := rd_225_2 hz
  have hf443 : z435 225 2 = z0 225 2 := (hs439.2.2.1 _ _ (notS_c (by omega) (notS_c (by omega) (notS_c (by omega) (notS_c (by omega) (notS_c (by omega) notS_n))))))
  have hb444 := rd_225_3 hz
  have hf445 : z435 225 3 = z0 225 3 := (hs439.2.2.1 _ _ (notS_c (by omega) (notS_c (by omega) (notS_c (by omega) (notS_c (by omega) (notS_c (by omega) notS_n))))))
  have hb446 := rd_225_7 hs441.1
  have hb447 := rd_225_9 hs441.2.1
  have hb448 := rd_225_6 hs441.1
  exact w_lv (sub_c rfl (sub_c rfl (sub_c rfl sub_n))) rfl ((key ((141 * (6 - 0) + 1544 : Int).toNat + 1)).1 0 0 z435 w436 ⟨by omega, by omega⟩ ⟨by omega, by omega⟩ hs441 ((hs439.2.2.1 _ _ (notS_c (by omega) (notS_c (by omega) (notS_c (by omega) (notS_c (by omega) (notS_c (by omega) notS_n))))))) ((hs439.2.2.1 _ _ (notS_c (by omega) (notS_c (by omega) (notS_c (by omega) (notS_c (by omega) (notS_c (by omega) notS_n))))))) ((hs439.2.2.1 _ _ (notS_c (by omega) (notS_c (by omega) (notS_c (by omega) (notS_c (by omega) (notS_c (by omega) notS_n))))))) (by first | exact as0 | exact c9) (by first | omega | assumption | (simp only [hf443, hf445]; assumption)) (by first | exact ⟨fun _ i hi => absurd hi (by omega), fun q => absurd q (by omega)⟩ | exact ⟨fun q => absurd q (by omega), fun _ => as1⟩ | (refine ⟨fun _ i hi => ?_, fun q => absurd q (by omega)⟩; by_cases c : i = x2.toNat; (rw [c]; omega); exact as1.1 (by omega) i (by omega))) (by first | omega | assumption | (simp only [hf443, hf445]; assumption)) (by omega))

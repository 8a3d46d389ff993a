section
/-! methods, printed by wip/tools/vcg.py -/
/-- LoopGroundModel readLineOf -/
abbrev S_167v  : mS := [(225, 225, 4, 4), (225, 225, 7, 7), (225, 225, 9, 9), (225, 225, 8, 8), (225, 225, 6, 6), (225, 225, 2, 2), (225, 225, 3, 3), (231, 231, 0, 143), (227, 227, 0, 7), (225, 225, 24, 24)]
abbrev E_167v  (z0 w0 : mZ) (x y tx it mt tt ct : Option Nat) : mZ → mZ → mP → Prop := fun z w p => p = (pq x y tx it mt tt ct) ∧ (z0 225 4 ≤ z 225 4 ∧ z 225 4 ≤ z0 225 5 ∧ (z 225 6 = 59 → z0 225 4 < z 225 4) ∧ (z 225 2 = 0 → z 225 6 = 59 → LFn z ∧ WDn z ∧ WHn z ∧ z 225 24 = z0 225 24 + 1))
theorem m_167v {d : Nat} {z0 w0 : mZ} {x y tx it mt tt ct : Option Nat}  (hz : rz z0) (hw : rw_ w0) (hat : z0 225 4 ≤ z0 225 5) (hwh : WHn z0) (hlf : LFn z0) (hwd : WDn z0) (hzb0 : 0 ≤ z0 225 24 ∧ z0 225 24 ≤ 7) : wc (d + 4) 167 [.ref 225] (mk z0 w0 (pq x y tx it mt tt ct)) (poV S_167v z0 w0 (E_167v  z0 w0 x y tx it mt tt ct)) := by
  have hst : st_ S_167v z0 w0 z0 w0 := st_rf hz hw
  have hz163 := rd_225_23 hz
  have hz164 := rd_225_24 hz
  have hz165 := rd_225_4 hz
  have hz166 := rd_225_5 hz
  have h23 := rd_225_23 hz
  have hnE : nE z0 = 3 * z0 225 23 / 2 := rfl
  have key : ∀ N : Nat, (∀ (z w : mZ), st_ S_167v z0 w0 z w → z 225 24 = z0 225 24 → (z0 225 4 ≤ z 225 4 ∧ z 225 4 ≤ z0 225 5 ∧ (z 225 6 = 59 → z0 225 4 < z 225 4)) → (∀ i : Nat, (i : Int) < 18 * z0 225 24 → z 231 i = z0 231 i) → 1937 < (N : Int) → wp_ (d + 3) 167 4 none (31, [(0, .ref 225)], [], mk z w (pq x y tx it mt tt ct)) (poV S_167v z0 w0 (E_167v  z0 w0 x y tx it mt tt ct))) ∧ (∀ (x1 : Int) (z w : mZ), (-9223372036854775808) ≤ x1 ∧ x1 ≤ 9223372036854775807 → st_ S_167v z0 w0 z w → z 225 24 = z0 225 24 → (z0 225 4 ≤ z 225 4 ∧ z 225 4 ≤ z0 225 5 ∧ (z 225 6 = 59 → z0 225 4 < z 225 4)) → (∀ i : Nat, (i : Int) < 18 * z0 225 24 → z 231 i = z0 231 i) → 1929 < (N : Int) → wp_ (d + 3) 167 4 none (47, [(0, .ref 225), (1, .long (Int64.ofInt x1))], [], mk z w (pq x y tx it mt tt ct)) (poV S_167v z0 w0 (E_167v  z0 w0 x y tx it mt tt ct))) ∧ (∀ (x1 x3 : Int) (z w : mZ), (-9223372036854775808) ≤ x1 ∧ x1 ≤ 9223372036854775807 → 0 ≤ x3 ∧ x3 ≤ 18 → st_ S_167v z0 w0 z w → z 225 24 = z0 225 24 → (z0 225 4 ≤ z 225 4 ∧ z 225 4 ≤ z0 225 5 ∧ (z 225 6 = 59 → z0 225 4 < z 225 4)) → (∀ i : Nat, (i : Int) < 18 * z0 225 24 → z 231 i = z0 231 i) → (z 225 2 = 0 → ∀ e : Nat, (e : Int) < x3 → z 231 (18 * (z0 225 24).toNat + e) ≤ 99) → (x3 ≤ nE z0) → 93 * (18 - x3) + 55 < (N : Int) → wp_ (d + 3) 167 4 none (75, [(0, .ref 225), (1, .long (Int64.ofInt x1)), (3, .int (Int32.ofInt x3))], [], mk z w (pq x y tx it mt tt ct)) (poV S_167v z0 w0 (E_167v  z0 w0 x y tx it mt tt ct))) ∧ (∀ (x1 : Int) (z w : mZ), (-9223372036854775808) ≤ x1 ∧ x1 ≤ 9223372036854775807 → st_ S_167v z0 w0 z w → z 225 24 = z0 225 24 → (z0 225 4 ≤ z 225 4 ∧ z 225 4 ≤ z0 225 5 ∧ (z 225 6 = 59 → z0 225 4 < z 225 4)) → (∀ i : Nat, (i : Int) < 18 * z0 225 24 → z 231 i = z0 231 i) → (z 225 2 = 0 → ∀ e : Nat, (e : Int) < nE z0 → z 231 (18 * (z0 225 24).toNat + e) ≤ 99) → 33 < (N : Int) → wp_ (d + 3) 167 4 none (117, [(0, .ref 225), (1, .long (Int64.ofInt x1))], [], mk z w (pq x y tx it mt tt ct)) (poV S_167v z0 w0 (E_167v  z0 w0 x y tx it mt tt ct))) ∧ (∀ (x1 : Int) (z w : mZ), (-9223372036854775808) ≤ x1 ∧ x1 ≤ 9223372036854775807 → st_ S_167v z0 w0 z w → z 225 24 = z0 225 24 → (z0 225 4 ≤ z 225 4 ∧ z 225 4 ≤ z0 225 5 ∧ (z 225 6 = 59 → z0 225 4 < z 225 4)) → (∀ i : Nat, (i : Int) < 18 * z0 225 24 → z 231 i = z0 231 i) → (z 225 2 = 0 → ∀ e : Nat, (e : Int) < nE z0 → z 231 (18 * (z0 225 24).toNat + e) ≤ 99) → (z 225 2 = 0 → z 225 6 = 59 → ∀ q : Int, 0 ≤ q → q < z0 225 23 → tri (z 231 (18 * z0 225 24 + z0 229 (3 * q).toNat).toNat) (z 231 (18 * z0 225 24 + z0 229 (3 * q + 1).toNat).toNat) (z 231 (18 * z0 225 24 + z0 229 (3 * q + 2).toNat).toNat)) → 16 < (N : Int) → wp_ (d + 3) 167 4 none (153, [(0, .ref 225), (1, .long (Int64.ofInt x1))], [], mk z w (pq x y tx it mt tt ct)) (poV S_167v z0 w0 (E_167v  z0 w0 x y tx it mt tt ct))) := by
    intro N
    induction N with
    | zero =>
      refine ⟨?_, ?_, ?_, ?_, ?_⟩
      · intro  z w
        intros; exfalso; omega
      · intro x1 z w
        intros; exfalso; omega
      · intro x1 x3 z w
        intros; exfalso; omega
      · intro x1 z w
        intros; exfalso; omega
      · intro x1 z w
        intros; exfalso; omega
    | succ N ih =>
      obtain ⟨ih0, ih1, ih2, ih3, ih4⟩ := ih
      refine ⟨?_, ?_, ?_, ?_, ?_⟩
      · intro  z w  hst un_z_225_24 as1 as5 hM
        refine r_ld (pc' := 32) rfl rfl rfl rfl ?_
        have hb167 := rd_225_9 hst.2.1
        refine r_gl (pc' := 35) rfl rfl sh_225 rfl rfl ?_
        refine r_st (pc' := 36) (lv' := [(1, _), (0, _)]) rfl rfl rfl rfl ?_
        refine r_ld (pc' := 37) rfl rfl rfl rfl ?_
        have hb168 := rd_225_2 hst.1
        refine r_gi (pc' := 40) rfl rfl sh_225 rfl rfl ?_
        refine r_zne (pc' := 43) rfl rfl ⟨by omega, by omega⟩ (fun hc169 => ?_) (fun hc169 => ?_)
        · skip
          have hb170 := rd_225_4 hst.1
          have hb171 := rd_225_6 hst.1
          exact w_lv (sub_c rfl (sub_c rfl sub_n)) rfl (ih1 (w 225 9) z w ⟨by omega, by omega⟩ hst (un_z_225_24) (by first | omega | assumption) (by first | exact as5 | exact fun i hi => rfl | exact fun i hi => (hst.2.2.1 _ _ (notS_c (by omega) (notS_c (by omega) (notS_c (by omega) (notS_c (by omega) (notS_c (by omega) (notS_c (by omega) (notS_c (by omega) (notS_c (by omega) (notS_c (by omega) (notS_c (by omega) notS_n))))))))))) | exact fun i hi => (rfl).trans (as5 i hi)) (by omega))
        · skip
          refine r_ld (pc' := 44) rfl rfl rfl rfl ?_
          have hb172 := rd_225_4 hst.1
          have hb173 := rd_225_5 hz
          have hf174 : z 225 5 = z0 225 5 := (hst.2.2.1 _ _ (notS_c (by omega) (notS_c (by omega) (notS_c (by omega) (notS_c (by omega) (notS_c (by omega) (notS_c (by omega) (notS_c (by omega) (notS_c (by omega) (notS_c (by omega) (notS_c (by omega) notS_n)))))))))))
          refine r_cVV (pc' := 47) rfl rfl rfl rfl rfl sh_225 (m_152 (d := d + 1)  hst.1 hst.2.1 (by first | omega | assumption | (simp only [hf174]; assumption))) (fun z176 w177 p178 hs180 hE181 => ?_)
          have hs182 := st_tr hst hs180 (sub_B rfl)
          obtain ⟨rfl, hE181⟩ := hE181
          have hb183 := rd_225_4 hs182.1
          have hb184 := rd_225_6 hs182.1
          exact w_lv (sub_c rfl (sub_c rfl sub_n)) rfl (ih1 (w 225 9) z176 w177 ⟨by omega, by omega⟩ hs182 (((hs180.2.2.1 _ _ (notS_c (by omega) (notS_c (by omega) (notS_c (by omega) (notS_c (by omega) (notS_c (by omega) notS_n)))))).trans un_z_225_24)) (by first | omega | assumption) (by first | exact as5 | exact fun i hi => rfl | exact fun i hi => ((hs180.2.2.1 _ _ (notS_c (by omega) (notS_c (by omega) (notS_c (by omega) (notS_c (by omega) (notS_c (by omega) notS_n)))))).trans (hst.2.2.1 _ _ (notS_c (by omega) (notS_c (by omega) (notS_c (by omega) (notS_c (by omega) (notS_c (by omega) (notS_c (by omega) (notS_c (by omega) (notS_c (by omega) (notS_c (by omega) (notS_c (by omega) notS_n)))))))))))) | exact fun i hi => ((hs180.2.2.1 _ _ (notS_c (by omega) (notS_c (by omega) (notS_c (by omega) (notS_c (by omega) (notS_c (by omega) notS_n))))))).trans (as5 i hi)) (by omega))
      · intro x1 z w  hx1 hst un_z_225_24 as1 as5 hM
        refine r_ld (pc' := 48) rfl rfl rfl rfl ?_
        refine r_al (pc' := 51) rfl rfl rfl rfl ?_
        have hb185 := rd_225_4 hst.1
        have hb186 := rd_225_5 hz
        have hf187 : z 225 5 = z0 225 5 := (hst.2.2.1 _ _ (notS_c (by omega) (notS_c (by omega) (notS_c (by omega) (notS_c (by omega) (notS_c (by omega) (notS_c (by omega) (notS_c (by omega) (notS_c (by omega) (notS_c (by omega) (notS_c (by omega) notS_n)))))))))))
        have hb188 := rd_225_2 hst.1
        have hb189 := rd_225_6 hst.1
        refine r_cVV (pc' := 54) rfl rfl rfl rfl rfl sh_225 (m_157 (d := d) 28518 hst.1 hst.2.1 ⟨by omega, by omega⟩ (by first | omega | assumption | (simp only [hf187]; assumption))) (fun z191 w192 p193 hs195 hE196 => ?_)
        have hs197 := st_tr hst hs195 (sub_B rfl)
        obtain ⟨rfl, hE196⟩ := hE196
        refine r_ld (pc' := 55) rfl rfl rfl rfl ?_
        have hb198 := rd_225_2 hs197.1
        refine r_gi (pc' := 58) rfl rfl sh_225 rfl rfl ?_
        refine r_zne (pc' := 61) rfl rfl ⟨by omega, by omega⟩ (fun hc199 => ?_) (fun hc199 => ?_)
        · skip
          refine r_c0 (pc' := 74) rfl rfl ?_
          refine r_st (pc' := 75) (lv' := [(3, _), (0, _), (1, _)]) rfl rfl rfl rfl ?_
          have hb200 := rd_225_4 hs197.1
          have hb201 := rd_225_6 hs197.1
          exact w_lv (sub_c rfl (sub_c rfl (sub_c rfl sub_n))) rfl (ih2 x1 0 z191 w192 ⟨by omega, by omega⟩ ⟨by omega, by omega⟩ hs197 (((hs195.2.2.1 _ _ (notS_c (by omega) (notS_c (by omega) (notS_c (by omega) (notS_c (by omega) (notS_c (by omega) (notS_c (by omega) (notS_c (by omega) notS_n)))))))).trans un_z_225_24)) (by first | omega | assumption) (by first | exact as5 | exact fun i hi => rfl | exact fun i hi => ((hs195.2.2.1 _ _ (notS_c (by omega) (notS_c (by omega) (notS_c (by omega) (notS_c (by omega) (notS_c (by omega) (notS_c (by omega) (notS_c (by omega) notS_n)))))))).trans (hst.2.2.1 _ _ (notS_c (by omega) (notS_c (by omega) (notS_c (by omega) (notS_c (by omega) (notS_c (by omega) (notS_c (by omega) (notS_c (by omega) (notS_c (by omega) (notS_c (by omega) (notS_c (by omega) notS_n)))))))))))) | exact fun i hi => ((hs195.2.2.1 _ _ (notS_c (by omega) (notS_c (by omega) (notS_c (by omega) (notS_c (by omega) (notS_c (by omega) (notS_c (by omega) (notS_c (by omega) notS_n))))))))).trans (as5 i hi)) (by first | (intro h e he; exfalso; omega) | (intro h e he; rw [hqv]; by_cases c : e = x3.toNat; (subst c; rw [show 18 * (z0 225 24).toNat + x3.toNat = (18 * z0 225 24 + x3).toNat by omega, mu_eq]; omega); (rw [mu_ne (by omega), show NOMARK 231 (18 * (z0 225 24).toNat + e) = z 231 (18 * (z0 225 24).toNat + e) from ht231 _]; exact as6 (by omega) e (by omega)))) (by first | omega | assumption) (by omega))
        · skip
          refine r_ld (pc' := 62) rfl rfl rfl rfl ?_
          have hb202 := rd_225_23 hz
          have hf203 : z191 225 23 = z0 225 23 := ((hs195.2.2.1 _ _ (notS_c (by omega) (notS_c (by omega) (notS_c (by omega) (notS_c (by omega) (notS_c (by omega) (notS_c (by omega) (notS_c (by omega) notS_n)))))))).trans (hst.2.2.1 _ _ (notS_c (by omega) (notS_c (by omega) (notS_c (by omega) (notS_c (by omega) (notS_c (by omega) (notS_c (by omega) (notS_c (by omega) (notS_c (by omega) (notS_c (by omega) (notS_c (by omega) notS_n))))))))))))
          refine r_cVI (pc' := 65) rfl rfl rfl rfl rfl sh_225 (m_160 (d := d + 2)  hs197.1 hs197.2.1 ) (fun v204 z205 w206 p207 h208 hs209 hE210 => ?_)
          obtain ⟨rfl, rfl, rfl, hE210⟩ := hE210
          refine r_zne (pc' := 68) rfl rfl ⟨by omega, by omega⟩ (fun hc212 => ?_) (fun hc212 => ?_)
          · skip
            refine r_c0 (pc' := 74) rfl rfl ?_
            refine r_st (pc' := 75) (lv' := [(3, _), (0, _), (1, _)]) rfl rfl rfl rfl ?_
            have hb213 := rd_225_4 hs197.1
            have hb214 := rd_225_6 hs197.1
            exact w_lv (sub_c rfl (sub_c rfl (sub_c rfl sub_n))) rfl (ih2 x1 0 z191 w192 ⟨by omega, by omega⟩ ⟨by omega, by omega⟩ hs197 (((hs195.2.2.1 _ _ (notS_c (by omega) (notS_c (by omega) (notS_c (by omega) (notS_c (by omega) (notS_c (by omega) (notS_c (by omega) (notS_c (by omega) notS_n)))))))).trans un_z_225_24)) (by first | omega | assumption) (by first | exact as5 | exact fun i hi => rfl | exact fun i hi => ((hs195.2.2.1 _ _ (notS_c (by omega) (notS_c (by omega) (notS_c (by omega) (notS_c (by omega) (notS_c (by omega) (notS_c (by omega) (notS_c (by omega) notS_n)))))))).trans (hst.2.2.1 _ _ (notS_c (by omega) (notS_c (by omega) (notS_c (by omega) (notS_c (by omega) (notS_c (by omega) (notS_c (by omega) (notS_c (by omega) (notS_c (by omega) (notS_c (by omega) (notS_c (by omega) notS_n)))))))))))) | exact fun i hi => ((hs195.2.2.1 _ _ (notS_c (by omega) (notS_c (by omega) (notS_c (by omega) (notS_c (by omega) (notS_c (by omega) (notS_c (by omega) (notS_c (by omega) notS_n))))))))).trans (as5 i hi)) (by first | (intro h e he; exfalso; omega) | (intro h e he; rw [hqv]; by_cases c : e = x3.toNat; (subst c; rw [show 18 * (z0 225 24).toNat + x3.toNat = (18 * z0 225 24 + x3).toNat by omega, mu_eq]; omega); (rw [mu_ne (by omega), show NOMARK 231 (18 * (z0 225 24).toNat + e) = z 231 (18 * (z0 225 24).toNat + e) from ht231 _]; exact as6 (by omega) e (by omega)))) (by first | omega | assumption) (by omega))
          · skip
            refine r_ld (pc' := 69) rfl rfl rfl rfl ?_
            refine r_c0 (pc' := 70) rfl rfl ?_
            refine r_cVV (pc' := 73) rfl rfl rfl rfl rfl sh_225 (m_154 (d := d + 1) 2 hs197.1 hs197.2.1 ⟨by omega, by omega⟩) (fun z216 w217 p218 hs220 hE221 => ?_)
            have hs222 := st_tr hs197 hs220 (sub_B rfl)
            obtain ⟨rfl, hE221⟩ := hE221
            refine r_c0 (pc' := 74) rfl rfl ?_
            refine r_st (pc' := 75) (lv' := [(3, _), (0, _), (1, _)]) rfl rfl rfl rfl ?_
            have hb223 := rd_225_4 hs197.1
            have hf224 : z216 225 4 = z191 225 4 := (hs220.2.2.1 _ _ (notS_c (by omega) (notS_c (by omega) notS_n)))
            have hb225 := rd_225_6 hs197.1
            have hf226 : z216 225 6 = z191 225 6 := (hs220.2.2.1 _ _ (notS_c (by omega) (notS_c (by omega) notS_n)))
            have hb227 := rd_225_2 hs222.1
            exact w_lv (sub_c rfl (sub_c rfl (sub_c rfl sub_n))) rfl (ih2 x1 0 z216 w217 ⟨by omega, by omega⟩ ⟨by omega, by omega⟩ hs222 (((hs220.2.2.1 _ _ (notS_c (by omega) (notS_c (by omega) notS_n))).trans ((hs195.2.2.1 _ _ (notS_c (by omega) (notS_c (by omega) (notS_c (by omega) (notS_c (by omega) (notS_c (by omega) (notS_c (by omega) (notS_c (by omega) notS_n)))))))).trans un_z_225_24))) (by first | omega | assumption | (simp only [hf224, hf226]; assumption)) (by first | exact as5 | exact fun i hi => rfl | exact fun i hi => ((hs220.2.2.1 _ _ (notS_c (by omega) (notS_c (by omega) notS_n))).trans ((hs195.2.2.1 _ _ (notS_c (by omega) (notS_c (by omega) (notS_c (by omega) (notS_c (by omega) (notS_c (by omega) (notS_c (by omega) (notS_c (by omega) notS_n)))))))).trans (hst.2.2.1 _ _ (notS_c (by omega) (notS_c (by omega) (notS_c (by omega) (notS_c (by omega) (notS_c (by omega) (notS_c (by omega) (notS_c (by omega) (notS_c (by omega) (notS_c (by omega) (notS_c (by omega) notS_n))))))))))))) | exact fun i hi => (((hs220.2.2.1 _ _ (notS_c (by omega) (notS_c (by omega) notS_n))).trans (hs195.2.2.1 _ _ (notS_c (by omega) (notS_c (by omega) (notS_c (by omega) (notS_c (by omega) (notS_c (by omega) (notS_c (by omega) (notS_c (by omega) notS_n)))))))))).trans (as5 i hi)) (by first | (intro h e he; exfalso; omega) | (intro h e he; rw [hqv]; by_cases c : e = x3.toNat; (subst c; rw [show 18 * (z0 225 24).toNat + x3.toNat = (18 * z0 225 24 + x3).toNat by omega, mu_eq]; omega); (rw [mu_ne (by omega), show NOMARK 231 (18 * (z0 225 24).toNat + e) = z 231 (18 * (z0 225 24).toNat + e) from ht231 _]; exact as6 (by omega) e (by omega)))) (by first | omega | assumption | (simp only [hf224, hf226]; assumption)) (by omega))
      · intro x1 x3 z w  hx1 hx3 hst un_z_225_24 as1 as5 as6 as8 hM
        refine r_ld (pc' := 76) rfl rfl rfl rfl ?_
        refine r_ld (pc' := 77) rfl rfl rfl rfl ?_
        have hb228 := rd_225_23 hz
        have hf229 : z 225 23 = z0 225 23 := (hst.2.2.1 _ _ (notS_c (by omega) (notS_c (by omega) (notS_c (by omega) (notS_c (by omega) (notS_c (by omega) (notS_c (by omega) (notS_c (by omega) (notS_c (by omega) (notS_c (by omega) (notS_c (by omega) notS_n)))))))))))
        refine r_cVI (pc' := 80) rfl rfl rfl rfl rfl sh_225 (m_160 (d := d + 2)  hst.1 hst.2.1 ) (fun v230 z231 w232 p233 h234 hs235 hE236 => ?_)
        obtain ⟨rfl, rfl, rfl, hE236⟩ := hE236
        refine r_ige (pc' := 83) rfl rfl ⟨by omega, by omega⟩ ⟨by omega, by omega⟩ (fun hc238 => ?_) (fun hc238 => ?_)
        · skip
          have hb239 := rd_225_4 hst.1
          have hb240 := rd_225_6 hst.1
          have hb241 := rd_225_2 hst.1
          exact w_lv (sub_c rfl (sub_c rfl sub_n)) rfl (ih3 x1 z w ⟨by omega, by omega⟩ hst (un_z_225_24) (by first | omega | assumption) (by first | exact as5 | exact fun i hi => rfl | exact fun i hi => (hst.2.2.1 _ _ (notS_c (by omega) (notS_c (by omega) (notS_c (by omega) (notS_c (by omega) (notS_c (by omega) (notS_c (by omega) (notS_c (by omega) (notS_c (by omega) (notS_c (by omega) (notS_c (by omega) notS_n))))))))))) | exact fun i hi => (rfl).trans (as5 i hi)) (by first | (intro h; exfalso; omega) | exact fun h e he => as6 h e (by omega)) (by omega))
        · skip
          refine r_ld (pc' := 84) rfl rfl rfl rfl ?_
          have hb242 := rd_225_2 hst.1
          refine r_gi (pc' := 87) rfl rfl sh_225 rfl rfl ?_
          refine r_zne (pc' := 90) rfl rfl ⟨by omega, by omega⟩ (fun hc243 => ?_) (fun hc243 => ?_)
          · skip
            have hb244 := rd_225_4 hst.1
            have hb245 := rd_225_6 hst.1
            exact w_lv (sub_c rfl (sub_c rfl sub_n)) rfl (ih3 x1 z w ⟨by omega, by omega⟩ hst (un_z_225_24) (by first | omega | assumption) (by first | exact as5 | exact fun i hi => rfl | exact fun i hi => (hst.2.2.1 _ _ (notS_c (by omega) (notS_c (by omega) (notS_c (by omega) (notS_c (by omega) (notS_c (by omega) (notS_c (by omega) (notS_c (by omega) (notS_c (by omega) (notS_c (by omega) (notS_c (by omega) notS_n))))))))))) | exact fun i hi => (rfl).trans (as5 i hi)) (by first | (intro h; exfalso; omega) | exact fun h e he => as6 h e (by omega)) (by omega))
          · skip
            refine r_ld (pc' := 91) rfl rfl rfl rfl ?_
            refine r_gr (b := 231) (pc' := 94) rfl rfl sh_225 rfl pp_225_14 ?_
            refine r_cb (pc' := 96) rfl (by decide) rfl ?_
            refine r_ld (pc' := 97) rfl rfl rfl rfl ?_
            refine r_gi (pc' := 100) rfl rfl sh_225 rfl un_z_225_24 ?_
            refine r_mul (pc' := 101) rfl rfl ?_
            refine r_ld (pc' := 102) rfl rfl rfl rfl ?_
            refine r_add (pc' := 103) rfl rfl ?_
            refine r_ld (pc' := 104) rfl rfl rfl rfl ?_
            refine r_c0 (pc' := 105) rfl rfl ?_
            refine r_cb (pc' := 107) rfl (by decide) rfl ?_
            have hb246 := rd_225_4 hst.1
            have hb247 := rd_225_5 hz
            have hf248 : z 225 5 = z0 225 5 := (hst.2.2.1 _ _ (notS_c (by omega) (notS_c (by omega) (notS_c (by omega) (notS_c (by omega) (notS_c (by omega) (notS_c (by omega) (notS_c (by omega) (notS_c (by omega) (notS_c (by omega) (notS_c (by omega) notS_n)))))))))))
            have hb249 := rd_225_8 hst.1
            have hb250 := rd_225_6 hst.1
            refine r_cVI (pc' := 110) rfl rfl rfl rfl rfl sh_225 (m_158 (d := d) 0 99 hst.1 hst.2.1 ⟨by omega, by omega⟩ ⟨by omega, by omega⟩ (by first | omega | assumption | (simp only [hf248]; assumption))) (fun v251 z252 w253 p254 h255 hs256 hE257 => ?_)
            have hs258 := st_tr hst hs256 (sub_B rfl)
            obtain ⟨rfl, hE257⟩ := hE257
            have hvt := hE257
            have ht231 : ∀ i, z252 231 i = z 231 i := fun i => (hs256.2.2.1 _ _ (notS_c (by omega) (notS_c (by omega) (notS_c (by omega) (notS_c (by omega) (notS_c (by omega) (notS_c (by omega) (notS_c (by omega) notS_n))))))))
            refine r_is (pc' := 111) rfl rfl sh_231 rfl (by omega) (by omega) hs258 (inS_s (inS_s (inS_s (inS_s (inS_s (inS_s (inS_s (inS_0 (by omega) (by omega) (by omega) (by omega))))))))) (wr_231 ⟨by omega, by omega⟩) (fun z259 hq260 hs261 => ?_)
            have hqv := hq260
            refine r_inc (pc' := 114) (lv' := [(0, _), (1, _)]) rfl rfl rfl rfl rfl ?_
            refine r_go rfl ?_
            have hb262 := rd_225_4 hs258.1
            have hf263 : z259 225 4 = z252 225 4 := ((congrFun (congrFun hq260 _) _).trans (mu_ne (by omega)))
            have hb264 := rd_225_6 hs258.1
            have hf265 : z259 225 6 = z252 225 6 := ((congrFun (congrFun hq260 _) _).trans (mu_ne (by omega)))
            have hb266 := rd_225_2 hs258.1
            have hf267 : z259 225 2 = z252 225 2 := ((congrFun (congrFun hq260 _) _).trans (mu_ne (by omega)))
            exact w_lv (sub_c rfl (sub_c rfl (sub_c rfl sub_n))) rfl (ih2 x1 (x3 + 1) z259 w253 ⟨by omega, by omega⟩ ⟨by omega, by omega⟩ hs261 ((((congrFun (congrFun hq260 _) _).trans (mu_ne (by omega))).trans ((hs256.2.2.1 _ _ (notS_c (by omega) (notS_c (by omega) (notS_c (by omega) (notS_c (by omega) (notS_c (by omega) (notS_c (by omega) (notS_c (by omega) notS_n)))))))).trans un_z_225_24))) (by first | omega | assumption | (simp only [hf263, hf265, hf267]; assumption)) (by first | exact as5 | exact fun i hi => rfl | exact fun i hi => (((congrFun (congrFun hq260 _) _).trans (mu_ne (by omega))).trans ((hs256.2.2.1 _ _ (notS_c (by omega) (notS_c (by omega) (notS_c (by omega) (notS_c (by omega) (notS_c (by omega) (notS_c (by omega) (notS_c (by omega) notS_n)))))))).trans (hst.2.2.1 _ _ (notS_c (by omega) (notS_c (by omega) (notS_c (by omega) (notS_c (by omega) (notS_c (by omega) (notS_c (by omega) (notS_c (by omega) (notS_c (by omega) (notS_c (by omega) (notS_c (by omega) notS_n))))))))))))) | exact fun i hi => ((((congrFun (congrFun hq260 _) _).trans (mu_ne (by omega))).trans (hs256.2.2.1 _ _ (notS_c (by omega) (notS_c (by omega) (notS_c (by omega) (notS_c (by omega) (notS_c (by omega) (notS_c (by omega) (notS_c (by omega) notS_n)))))))))).trans (as5 i hi)) (by first | (intro h e he; exfalso; omega) | (intro h e he; rw [hqv]; by_cases c : e = x3.toNat; (subst c; rw [show 18 * (z0 225 24).toNat + x3.toNat = (18 * z0 225 24 + x3).toNat by omega, mu_eq]; omega); (rw [mu_ne (by omega), show z252 231 (18 * (z0 225 24).toNat + e) = z 231 (18 * (z0 225 24).toNat + e) from ht231 _]; exact as6 (by omega) e (by omega)))) (by first | omega | assumption | (simp only [hf263, hf265, hf267]; assumption)) (by omega))
      · intro x1 z w  hx1 hst un_z_225_24 as1 as5 as6 hM
        refine r_ld (pc' := 118) rfl rfl rfl rfl ?_
        have hb268 := rd_225_2 hst.1
        refine r_gi (pc' := 121) rfl rfl sh_225 rfl rfl ?_
        refine r_zne (pc' := 124) rfl rfl ⟨by omega, by omega⟩ (fun hc269 => ?_) (fun hc269 => ?_)
        · skip
          have hb270 := rd_225_4 hst.1
          have hb271 := rd_225_6 hst.1
          exact w_lv (sub_c rfl (sub_c rfl sub_n)) rfl (ih4 x1 z w ⟨by omega, by omega⟩ hst (un_z_225_24) (by first | omega | assumption) (by first | exact as5 | exact fun i hi => rfl | exact fun i hi => (hst.2.2.1 _ _ (notS_c (by omega) (notS_c (by omega) (notS_c (by omega) (notS_c (by omega) (notS_c (by omega) (notS_c (by omega) (notS_c (by omega) (notS_c (by omega) (notS_c (by omega) (notS_c (by omega) notS_n))))))))))) | exact fun i hi => (rfl).trans (as5 i hi)) (by first | exact as6 | (intro h; exfalso; omega)) (by first | (intro h; exfalso; omega) | (intro h g; exfalso; omega) | (intro h g; have k := hnf (by omega); rw [n229, n23] at k; exact k)) (by omega))
        · skip
          refine r_ld (pc' := 125) rfl rfl rfl rfl ?_
          have hb272 := rd_225_6 hst.1
          refine r_gi (pc' := 128) rfl rfl sh_225 rfl rfl ?_
          refine r_cb (pc' := 130) rfl (by decide) rfl ?_
          refine r_ine (pc' := 133) rfl rfl ⟨by omega, by omega⟩ ⟨by decide, by decide⟩ (fun hc273 => ?_) (fun hc273 => ?_)
          · skip
            have hb274 := rd_225_4 hst.1
            exact w_lv (sub_c rfl (sub_c rfl sub_n)) rfl (ih4 x1 z w ⟨by omega, by omega⟩ hst (un_z_225_24) (by first | omega | assumption) (by first | exact as5 | exact fun i hi => rfl | exact fun i hi => (hst.2.2.1 _ _ (notS_c (by omega) (notS_c (by omega) (notS_c (by omega) (notS_c (by omega) (notS_c (by omega) (notS_c (by omega) (notS_c (by omega) (notS_c (by omega) (notS_c (by omega) (notS_c (by omega) notS_n))))))))))) | exact fun i hi => (rfl).trans (as5 i hi)) (by first | exact as6 | (intro h; exfalso; omega)) (by first | (intro h; exfalso; omega) | (intro h g; exfalso; omega) | (intro h g; have k := hnf (by omega); rw [n229, n23] at k; exact k)) (by omega))
          · skip
            refine r_ld (pc' := 134) rfl rfl rfl rfl ?_
            refine r_cb (pc' := 136) rfl (by decide) rfl ?_
            refine r_ld (pc' := 137) rfl rfl rfl rfl ?_
            refine r_gi (pc' := 140) rfl rfl sh_225 rfl un_z_225_24 ?_
            refine r_mul (pc' := 141) rfl rfl ?_
            have n229 : z 229 = z0 229 := funext fun i => hst.2.2.1 _ _ (notS_c (by omega) (notS_c (by omega) (notS_c (by omega) (notS_c (by omega) (notS_c (by omega) (notS_c (by omega) (notS_c (by omega) (notS_c (by omega) (notS_c (by omega) (notS_c (by omega) (notS_n)))))))))))
            have n23 : z 225 23 = z0 225 23 := hst.2.2.1 _ _ (notS_c (by omega) (notS_c (by omega) (notS_c (by omega) (notS_c (by omega) (notS_c (by omega) (notS_c (by omega) (notS_c (by omega) (notS_c (by omega) (notS_c (by omega) (notS_c (by omega) (notS_n)))))))))))
            have hb275 := rd_225_23 hz
            have hf276 : z 225 23 = z0 225 23 := (hst.2.2.1 _ _ (notS_c (by omega) (notS_c (by omega) (notS_c (by omega) (notS_c (by omega) (notS_c (by omega) (notS_c (by omega) (notS_c (by omega) (notS_c (by omega) (notS_c (by omega) (notS_c (by omega) notS_n)))))))))))
            refine r_cVI (pc' := 144) rfl rfl rfl rfl rfl sh_225 (m_166v (d := d + 2) (18 * (z0 225 24)) hst.1 hst.2.1 ⟨by omega, by omega⟩) (fun v277 z278 w279 p280 h281 hs282 hE283 => ?_)
            obtain ⟨rfl, rfl, rfl, hE283⟩ := hE283
            have hnf := hE283.2.2
            refine r_zne (pc' := 147) rfl rfl ⟨by omega, by omega⟩ (fun hc285 => ?_) (fun hc285 => ?_)
            · skip
              have hb286 := rd_225_4 hst.1
              exact w_lv (sub_c rfl (sub_c rfl sub_n)) rfl (ih4 x1 z w ⟨by omega, by omega⟩ hst (un_z_225_24) (by first | omega | assumption) (by first | exact as5 | exact fun i hi => rfl | exact fun i hi => (hst.2.2.1 _ _ (notS_c (by omega) (notS_c (by omega) (notS_c (by omega) (notS_c (by omega) (notS_c (by omega) (notS_c (by omega) (notS_c (by omega) (notS_c (by omega) (notS_c (by omega) (notS_c (by omega) notS_n))))))))))) | exact fun i hi => (rfl).trans (as5 i hi)) (by first | exact as6 | (intro h; exfalso; omega)) (by first | (intro h; exfalso; omega) | (intro h g; exfalso; omega) | (intro h g; have k := hnf (by omega); rw [n229, n23] at k; exact k)) (by omega))
            · skip
              refine r_ld (pc' := 148) rfl rfl rfl rfl ?_
              refine r_cb (pc' := 150) rfl (by decide) rfl ?_
              refine r_cVV (pc' := 153) rfl rfl rfl rfl rfl sh_225 (m_154 (d := d + 1) 6 hst.1 hst.2.1 ⟨by omega, by omega⟩) (fun z288 w289 p290 hs292 hE293 => ?_)
              have hs294 := st_tr hst hs292 (sub_B rfl)
              obtain ⟨rfl, hE293⟩ := hE293
              have hb295 := rd_225_4 hst.1
              have hf296 : z288 225 4 = z 225 4 := (hs292.2.2.1 _ _ (notS_c (by omega) (notS_c (by omega) notS_n)))
              have hf297 : z288 225 6 = z 225 6 := (hs292.2.2.1 _ _ (notS_c (by omega) (notS_c (by omega) notS_n)))
              have hb298 := rd_225_2 hs294.1
              exact w_lv (sub_c rfl (sub_c rfl sub_n)) rfl (ih4 x1 z288 w289 ⟨by omega, by omega⟩ hs294 (((hs292.2.2.1 _ _ (notS_c (by omega) (notS_c (by omega) notS_n))).trans un_z_225_24)) (by first | omega | assumption | (simp only [hf296, hf297]; assumption)) (by first | exact as5 | exact fun i hi => rfl | exact fun i hi => ((hs292.2.2.1 _ _ (notS_c (by omega) (notS_c (by omega) notS_n))).trans (hst.2.2.1 _ _ (notS_c (by omega) (notS_c (by omega) (notS_c (by omega) (notS_c (by omega) (notS_c (by omega) (notS_c (by omega) (notS_c (by omega) (notS_c (by omega) (notS_c (by omega) (notS_c (by omega) notS_n)))))))))))) | exact fun i hi => ((hs292.2.2.1 _ _ (notS_c (by omega) (notS_c (by omega) notS_n)))).trans (as5 i hi)) (by first | exact as6 | (intro h; exfalso; omega)) (by first | (intro h; exfalso; omega) | (intro h g; exfalso; omega) | (intro h g; have k := hnf (by omega); rw [n229, n23] at k; exact k)) (by omega))
      · intro x1 z w  hx1 hst un_z_225_24 as1 as5 as6 as7 hM
        refine r_ld (pc' := 154) rfl rfl rfl rfl ?_
        have hb299 := rd_225_2 hst.1
        refine r_gi (pc' := 157) rfl rfl sh_225 rfl rfl ?_
        refine r_zle (pc' := 160) rfl rfl ⟨by omega, by omega⟩ (fun hc300 => ?_) (fun hc300 => ?_)
        · skip
          refine r_ld (pc' := 162) rfl rfl rfl rfl ?_
          refine r_gr (b := 227) (pc' := 165) rfl rfl sh_225 rfl pp_225_10 ?_
          refine r_ld (pc' := 166) rfl rfl rfl rfl ?_
          refine r_gi (pc' := 169) rfl rfl sh_225 rfl un_z_225_24 ?_
          refine r_ld (pc' := 170) rfl rfl rfl rfl ?_
          refine r_ls (pc' := 171) rfl rfl sh_227 rfl (by omega) (by omega) hst (inS_s (inS_s (inS_s (inS_s (inS_s (inS_s (inS_s (inS_s (inS_0 (by omega) (by omega) (by omega) (by omega)))))))))) (wr_227 ⟨by omega, by omega⟩) (fun w301 hq302 hs303 => ?_)
          have hq170 := hq302
          refine r_ld (pc' := 172) rfl rfl rfl rfl ?_
          refine r_al (pc' := 173) rfl rfl rfl rfl ?_
          refine r_gi (pc' := 176) rfl rfl sh_225 rfl un_z_225_24 ?_
          refine r_c0 (pc' := 177) rfl rfl ?_
          refine r_add (pc' := 178) rfl rfl ?_
          refine r_pi (pc' := 181) rfl rfl sh_225 rfl rfl hs303 (inS_s (inS_s (inS_s (inS_s (inS_s (inS_s (inS_s (inS_s (inS_s (inS_0 (by omega) (by omega) (by omega) (by omega))))))))))) (wr_225_24 ⟨by omega, by omega⟩) (fun z304 hq305 hs306 => ?_)
          have hq178 := hq305
          have hb307 := rd_225_4 hst.1
          have hf308 : z304 225 4 = z 225 4 := ((congrFun (congrFun hq305 _) _).trans (mu_ne (by omega)))
          have hb309 := rd_225_6 hst.1
          have hf310 : z304 225 6 = z 225 6 := ((congrFun (congrFun hq305 _) _).trans (mu_ne (by omega)))
          have hf311 : z304 225 2 = z 225 2 := ((congrFun (congrFun hq305 _) _).trans (mu_ne (by omega)))
          have hf312 : z304 225 24 = (z0 225 24) + 1 := ((congrFun (congrFun hq305 _) _).trans mu_eq)
          exact r_ret rfl (po_V hs306 ⟨rfl, (by refine ⟨by omega, by omega, by omega, ?_⟩; first | (intro h; exfalso; omega) | (intro h g; (have r0 : z304 229 = z0 229 := funext fun i => hs306.2.2.1 _ _ (notS_c (by omega) (notS_c (by omega) (notS_c (by omega) (notS_c (by omega) (notS_c (by omega) (notS_c (by omega) (notS_c (by omega) (notS_c (by omega) (notS_c (by omega) (notS_c (by omega) (notS_n)))))))))))); (have r23 : z304 225 23 = z0 225 23 := hs306.2.2.1 _ _ (notS_c (by omega) (notS_c (by omega) (notS_c (by omega) (notS_c (by omega) (notS_c (by omega) (notS_c (by omega) (notS_c (by omega) (notS_c (by omega) (notS_c (by omega) (notS_c (by omega) (notS_n)))))))))))); (have r231 : ∀ i, z304 231 i = z 231 i := fun i => ((congrFun (congrFun hq305 _) _).trans (mu_ne (by omega)))); exact ⟨LFn_s (n0 := (z0 225 24).toNat) hlf r23 r0 (by omega) (by omega) (fun i hi => (r231 i).trans (as5 i (by omega))) (by omega) (FT_q hz hs306.1 hwh (by omega) (fun q h0 h1 => by rw [r231, r231, r231, show (((z0 225 24).toNat : Nat) : Int) = z0 225 24 by omega]; exact as7 (by omega) (by omega) q h0 h1)) (fun e he => by rw [r231]; exact as6 (by omega) e he), WDn_l (hs306.2.2.1 _ _ (notS_c (by omega) (notS_c (by omega) (notS_c (by omega) (notS_c (by omega) (notS_c (by omega) (notS_c (by omega) (notS_c (by omega) (notS_c (by omega) (notS_c (by omega) (notS_c (by omega) (notS_n)))))))))))) (by omega) (funext fun i => hs306.2.2.1 _ _ (notS_c (by omega) (notS_c (by omega) (notS_c (by omega) (notS_c (by omega) (notS_c (by omega) (notS_c (by omega) (notS_c (by omega) (notS_c (by omega) (notS_c (by omega) (notS_c (by omega) (notS_n)))))))))))) (funext fun i => hs306.2.2.1 _ _ (notS_c (by omega) (notS_c (by omega) (notS_c (by omega) (notS_c (by omega) (notS_c (by omega) (notS_c (by omega) (notS_c (by omega) (notS_c (by omega) (notS_c (by omega) (notS_c (by omega) (notS_n)))))))))))) hwd, WHn_c r23 r0 hwh, by omega⟩))⟩)
        · skip
          have hb313 := rd_225_4 hst.1
          have hb314 := rd_225_6 hst.1
          have hf315 : z 225 24 = z0 225 24 := un_z_225_24
          exact r_ret rfl (po_V hst ⟨rfl, (by refine ⟨by omega, by omega, by omega, ?_⟩; first | (intro h; exfalso; omega) | (intro h g; (have r0 : z 229 = z0 229 := funext fun i => hst.2.2.1 _ _ (notS_c (by omega) (notS_c (by omega) (notS_c (by omega) (notS_c (by omega) (notS_c (by omega) (notS_c (by omega) (notS_c (by omega) (notS_c (by omega) (notS_c (by omega) (notS_c (by omega) (notS_n)))))))))))); (have r23 : z 225 23 = z0 225 23 := hst.2.2.1 _ _ (notS_c (by omega) (notS_c (by omega) (notS_c (by omega) (notS_c (by omega) (notS_c (by omega) (notS_c (by omega) (notS_c (by omega) (notS_c (by omega) (notS_c (by omega) (notS_c (by omega) (notS_n)))))))))))); (have r231 : ∀ i, z 231 i = z 231 i := fun i => rfl); exact ⟨LFn_s (n0 := (z0 225 24).toNat) hlf r23 r0 (by omega) (by omega) (fun i hi => (r231 i).trans (as5 i (by omega))) (by omega) (FT_q hz hst.1 hwh (by omega) (fun q h0 h1 => by rw [r231, r231, r231, show (((z0 225 24).toNat : Nat) : Int) = z0 225 24 by omega]; exact as7 (by omega) (by omega) q h0 h1)) (fun e he => by rw [r231]; exact as6 (by omega) e he), WDn_l (hst.2.2.1 _ _ (notS_c (by omega) (notS_c (by omega) (notS_c (by omega) (notS_c (by omega) (notS_c (by omega) (notS_c (by omega) (notS_c (by omega) (notS_c (by omega) (notS_c (by omega) (notS_c (by omega) (notS_n)))))))))))) (by omega) (funext fun i => hst.2.2.1 _ _ (notS_c (by omega) (notS_c (by omega) (notS_c (by omega) (notS_c (by omega) (notS_c (by omega) (notS_c (by omega) (notS_c (by omega) (notS_c (by omega) (notS_c (by omega) (notS_c (by omega) (notS_n)))))))))))) (funext fun i => hst.2.2.1 _ _ (notS_c (by omega) (notS_c (by omega) (notS_c (by omega) (notS_c (by omega) (notS_c (by omega) (notS_c (by omega) (notS_c (by omega) (notS_c (by omega) (notS_c (by omega) (notS_c (by omega) (notS_n)))))))))))) hwd, WHn_c r23 r0 hwh, by omega⟩))⟩)
  refine w_m rfl rfl ?_
  refine r_ld (pc' := 1) rfl rfl rfl rfl ?_
  have hb316 := rd_225_4 hz
  have hb317 := rd_225_5 hz
  refine r_cVV (pc' := 4) rfl rfl rfl rfl rfl sh_225 (m_152 (d := d + 1)  hst.1 hst.2.1 (by first | omega | assumption)) (fun z319 w320 p321 hs323 hE324 => ?_)
  have hs325 := st_tr hst hs323 (sub_B rfl)
  obtain ⟨rfl, hE324⟩ := hE324
  refine r_ld (pc' := 5) rfl rfl rfl rfl ?_
  have hb326 := rd_225_6 hs325.1
  refine r_cVI (pc' := 8) rfl rfl rfl rfl rfl sh_225 (m_156 (d := d + 2)  hs325.1 hs325.2.1 ) (fun v327 z328 w329 p330 h331 hs332 hE333 => ?_)
  obtain ⟨rfl, rfl, rfl, hE333⟩ := hE333
  refine r_zne (pc' := 11) rfl rfl ⟨by omega, by omega⟩ (fun hc335 => ?_) (fun hc335 => ?_)
  · skip
    refine r_ld (pc' := 20) rfl rfl rfl rfl ?_
    refine r_cVI (pc' := 23) rfl rfl rfl rfl rfl sh_225 (m_165 (d := d + 2)  hs325.1 hs325.2.1 ) (fun v336 z337 w338 p339 h340 hs341 hE342 => ?_)
    obtain ⟨rfl, rfl, rfl, hE342⟩ := hE342
    refine r_zlt (pc' := 26) rfl rfl ⟨by omega, by omega⟩ (fun hc344 => ?_) (fun hc344 => ?_)
    · skip
      have hb345 := rd_225_4 hs325.1
      exact w_lv (sub_c rfl sub_n) rfl ((key ((1937 : Int).toNat + 1)).1 z319 w320 hs325 ((hs323.2.2.1 _ _ (notS_c (by omega) (notS_c (by omega) (notS_c (by omega) (notS_c (by omega) (notS_c (by omega) notS_n))))))) (by first | omega | assumption) (by first | exact as5 | exact fun i hi => rfl | exact fun i hi => (hs323.2.2.1 _ _ (notS_c (by omega) (notS_c (by omega) (notS_c (by omega) (notS_c (by omega) (notS_c (by omega) notS_n)))))) | exact fun i hi => ((hs323.2.2.1 _ _ (notS_c (by omega) (notS_c (by omega) (notS_c (by omega) (notS_c (by omega) (notS_c (by omega) notS_n))))))).trans (as5 i hi)) (by omega))
    · skip
      refine r_ld (pc' := 27) rfl rfl rfl rfl ?_
      refine r_c0 (pc' := 28) rfl rfl ?_
      refine r_cVV (pc' := 31) rfl rfl rfl rfl rfl sh_225 (m_154 (d := d + 1) 3 hs325.1 hs325.2.1 ⟨by omega, by omega⟩) (fun z347 w348 p349 hs351 hE352 => ?_)
      have hs353 := st_tr hs325 hs351 (sub_B rfl)
      obtain ⟨rfl, hE352⟩ := hE352
      have hb354 := rd_225_4 hs325.1
      have hf355 : z347 225 4 = z319 225 4 := (hs351.2.2.1 _ _ (notS_c (by omega) (notS_c (by omega) notS_n)))
      have hf356 : z347 225 6 = z319 225 6 := (hs351.2.2.1 _ _ (notS_c (by omega) (notS_c (by omega) notS_n)))
      exact w_lv (sub_c rfl sub_n) rfl ((key ((1937 : Int).toNat + 1)).1 z347 w348 hs353 (((hs351.2.2.1 _ _ (notS_c (by omega) (notS_c (by omega) notS_n))).trans (hs323.2.2.1 _ _ (notS_c (by omega) (notS_c (by omega) (notS_c (by omega) (notS_c (by omega) (notS_c (by omega) notS_n)))))))) (by first | omega | assumption | (simp only [hf355, hf356]; assumption)) (by first | exact as5 | exact fun i hi => rfl | exact fun i hi => ((hs351.2.2.1 _ _ (notS_c (by omega) (notS_c (by omega) notS_n))).trans (hs323.2.2.1 _ _ (notS_c (by omega) (notS_c (by omega) (notS_c (by omega) (notS_c (by omega) (notS_c (by omega) notS_n))))))) | exact fun i hi => (((hs351.2.2.1 _ _ (notS_c (by omega) (notS_c (by omega) notS_n))).trans (hs323.2.2.1 _ _ (notS_c (by omega) (notS_c (by omega) (notS_c (by omega) (notS_c (by omega) (notS_c (by omega) notS_n)))))))).trans (as5 i hi)) (by omega))
  · skip
    refine r_ld (pc' := 12) rfl rfl rfl rfl ?_
    refine r_c0 (pc' := 13) rfl rfl ?_
    refine r_cVV (pc' := 16) rfl rfl rfl rfl rfl sh_225 (m_154 (d := d + 1) 2 hs325.1 hs325.2.1 ⟨by omega, by omega⟩) (fun z358 w359 p360 hs362 hE363 => ?_)
    have hs364 := st_tr hs325 hs362 (sub_B rfl)
    obtain ⟨rfl, hE363⟩ := hE363
    refine r_go rfl ?_
    have hb365 := rd_225_4 hs325.1
    have hf366 : z358 225 4 = z319 225 4 := (hs362.2.2.1 _ _ (notS_c (by omega) (notS_c (by omega) notS_n)))
    have hf367 : z358 225 6 = z319 225 6 := (hs362.2.2.1 _ _ (notS_c (by omega) (notS_c (by omega) notS_n)))
    exact w_lv (sub_c rfl sub_n) rfl ((key ((1937 : Int).toNat + 1)).1 z358 w359 hs364 (((hs362.2.2.1 _ _ (notS_c (by omega) (notS_c (by omega) notS_n))).trans (hs323.2.2.1 _ _ (notS_c (by omega) (notS_c (by omega) (notS_c (by omega) (notS_c (by omega) (notS_c (by omega) notS_n)))))))) (by first | omega | assumption | (simp only [hf366, hf367]; assumption)) (by first | exact as5 | exact fun i hi => rfl | exact fun i hi => ((hs362.2.2.1 _ _ (notS_c (by omega) (notS_c (by omega) notS_n))).trans (hs323.2.2.1 _ _ (notS_c (by omega) (notS_c (by omega) (notS_c (by omega) (notS_c (by omega) (notS_c (by omega) notS_n))))))) | exact fun i hi => (((hs362.2.2.1 _ _ (notS_c (by omega) (notS_c (by omega) notS_n))).trans (hs323.2.2.1 _ _ (notS_c (by omega) (notS_c (by omega) (notS_c (by omega) (notS_c (by omega) (notS_c (by omega) notS_n)))))))).trans (as5 i hi)) (by omega))
end
section
/-! the reference reads words, and all -/
theorem WDn_s {z z' : mZ} {n0 : Nat} {c : Int} (hz : rz z) (h : WDn z) (hn : (n0 : Int) = z 225 25) (h5 : n0 ≤ 5) (e25 : z' 225 25 = z 225 25 + 1) (e24 : z' 225 24 = z 225 24) (o2 : ∀ i : Nat, i < 8 * n0 → z' 232 i = z 232 i) (o4 : ∀ j : Nat, j < n0 → z' 234 j = z 234 j) (hc : z' 234 n0 = c) (hcn : ∀ i : Nat, (i : Int) < c → z' 232 (8 * n0 + i) < z 225 24) : WDn z' := by
  intro a ha i hi
  rw [e24]
  by_cases q : a = n0
  · subst q; rw [hc] at hi; exact hcn i hi
  · have q4 := o4 a (by omega)
    rw [q4] at hi
    have b := rd_234 hz (i := a) (by omega)
    rw [o2 _ (by omega)]
    exact h a (by omega) i hi
theorem RDr_c {z z' : mZ} (e23 : z' 225 23 = z 225 23) (e24 : z' 225 24 = z 225 24) (e25 : z' 225 25 = z 225 25) (f229 : z' 229 = z 229) (f230 : z' 230 = z 230) (f231 : z' 231 = z 231) (f232 : z' 232 = z 232) (f234 : z' 234 = z 234) (h : RDr z) : RDr z' := by
  unfold RDr PIR WHn LFn WDn nE at *
  rw [e23, e24, e25, f229, f230, f231, f232, f234]; exact h
theorem WHn_p {z : mZ} (p : PIR z (3 * z 225 23).toNat) (h : z 225 23 % 2 = 0 ∧ ∀ e : Nat, e < 18 → z 230 e = if (e : Int) < nE z then 2 else 0) : WHn z := ⟨h.1, fun e he => by rw [← p e he]; exact h.2 e he⟩
end

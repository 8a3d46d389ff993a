/-! methods, printed by wip/tools/vcg.py -/
/-- LoopGroundModel readLine -/
abbrev S_169x  : mS := [(225, 225, 2, 2), (225, 225, 3, 3), (225, 225, 4, 4), (225, 225, 7, 7), (225, 225, 9, 9), (225, 225, 8, 8), (225, 225, 6, 6), (232, 232, 0, 47), (233, 233, 0, 47), (228, 228, 0, 5), (234, 234, 0, 5), (225, 225, 25, 25), (231, 231, 0, 143), (227, 227, 0, 7), (225, 225, 24, 24), (230, 230, 0, 17), (229, 229, 0, 35), (225, 225, 23, 23)]
abbrev E_169x (h : Int → Int) (z0 w0 : mZ) (x y tx it mt tt ct : Option Nat) : mZ → mZ → mP → Prop := fun z w p => p = (pq x y tx it mt tt ct) ∧ (OKr h z0 z (RAz h z w))
set_option maxHeartbeats 4000000 in
theorem m_169x {d : Nat} {z0 w0 : mZ} {x y tx it mt tt ct : Option Nat} (h : Int → Int) (hz : rz z0) (hw : rw_ w0) (hh : tr8 z0 = h) (hra : RAz h z0 w0) (hf0 : z0 225 2 = 0) (h60 : z0 225 6 ≠ 0) : wc (d + 5) 169 [.ref 225] (mk z0 w0 (pq x y tx it mt tt ct)) (poV S_169x z0 w0 (E_169x h z0 w0 x y tx it mt tt ct)) := by
  have hst : st_ S_169x z0 w0 z0 w0 := st_rf hz hw
  have hz186 := rd_225_9 hw
  have hz187 := rd_225_2 hz
  have hz188 := rd_225_23 hz
  have hz189 := rd_225_24 hz
  have hz190 := rd_225_25 hz
  have hz191 := rd_225_6 hz
  have hz192 := rd_225_7 hz
  obtain ⟨k, hRA, hm, hcl⟩ := hra
  have hta := TKr_a hRA.1
  have ht7 := hRA.1.1
  have h23 := rd_225_23 hz
  have h24 := rd_225_24 hz
  have h25 := rd_225_25 hz
  have hkp := tkp hRA.1
  have hk0 := tk0 hRA.1
  have key : ∀ N : Nat, (∀ (x1 : Int) (z w : mZ), 0 ≤ x1 ∧ x1 ≤ 1 → st_ S_169x z0 w0 z w → w 225 9 = w0 225 9 → z 225 2 = z0 225 2 → z 225 3 = z0 225 3 → z 225 4 = z0 225 4 → z 225 6 = z0 225 6 → z 225 7 = z0 225 7 → z 225 8 = z0 225 8 → z 225 23 = z0 225 23 → z 225 24 = z0 225 24 → z 225 25 = z0 225 25 → (z = z0 ∧ w = w0) → ((x1 = 1 ∧ z0 225 24 + z0 225 25 = 0) ∨ (x1 = 0 ∧ 0 < z0 225 24 + z0 225 25)) → (¬ ((z0 225 6 = 1 ∧ w0 225 9 = 482804589413) ∧ z0 225 24 + z0 225 25 = 0 ∧ z0 225 23 < 12)) → 73 < (N : Int) → wp_ (d + 4) 169 4 none (45, [(0, .ref 225), (1, .int (Int32.ofInt x1))], [], mk z w (pq x y tx it mt tt ct)) (poV S_169x z0 w0 (E_169x h z0 w0 x y tx it mt tt ct))) ∧ (∀ (x1 x2 : Int) (z w : mZ), 0 ≤ x1 ∧ x1 ≤ 1 → 0 ≤ x2 ∧ x2 ≤ 1 → st_ S_169x z0 w0 z w → w 225 9 = w0 225 9 → z 225 2 = z0 225 2 → z 225 3 = z0 225 3 → z 225 4 = z0 225 4 → z 225 6 = z0 225 6 → z 225 7 = z0 225 7 → z 225 8 = z0 225 8 → z 225 23 = z0 225 23 → z 225 24 = z0 225 24 → z 225 25 = z0 225 25 → (z = z0 ∧ w = w0) → ((x1 = 1 ∧ z0 225 24 + z0 225 25 = 0) ∨ (x1 = 0 ∧ 0 < z0 225 24 + z0 225 25)) → ((x2 = 1 ∧ ((z0 225 6 = 1 ∧ w0 225 9 = 482804589413) ∧ z0 225 24 + z0 225 25 = 0 ∧ z0 225 23 < 12)) ∨ (x2 = 0 ∧ ¬ ((z0 225 6 = 1 ∧ w0 225 9 = 482804589413) ∧ z0 225 24 + z0 225 25 = 0 ∧ z0 225 23 < 12))) → (¬ ((z0 225 6 = 1 ∧ w0 225 9 = 1818848869) ∧ z0 225 24 < 8)) → 63 < (N : Int) → wp_ (d + 4) 169 4 none (66, [(0, .ref 225), (1, .int (Int32.ofInt x1)), (2, .int (Int32.ofInt x2))], [], mk z w (pq x y tx it mt tt ct)) (poV S_169x z0 w0 (E_169x h z0 w0 x y tx it mt tt ct))) ∧ (∀ (x1 x2 : Int) (z w : mZ), 0 ≤ x1 ∧ x1 ≤ 1 → 0 ≤ x2 ∧ x2 ≤ 1 → st_ S_169x z0 w0 z w → w 225 9 = w0 225 9 → z 225 2 = z0 225 2 → z 225 3 = z0 225 3 → z 225 4 = z0 225 4 → z 225 6 = z0 225 6 → z 225 7 = z0 225 7 → z 225 8 = z0 225 8 → z 225 23 = z0 225 23 → z 225 24 = z0 225 24 → z 225 25 = z0 225 25 → (z = z0 ∧ w = w0) → ((x1 = 1 ∧ z0 225 24 + z0 225 25 = 0) ∨ (x1 = 0 ∧ 0 < z0 225 24 + z0 225 25)) → ((x2 = 1 ∧ ((z0 225 6 = 1 ∧ w0 225 9 = 482804589413) ∧ z0 225 24 + z0 225 25 = 0 ∧ z0 225 23 < 12)) ∨ (x2 = 0 ∧ ¬ ((z0 225 6 = 1 ∧ w0 225 9 = 482804589413) ∧ z0 225 24 + z0 225 25 = 0 ∧ z0 225 23 < 12))) → ((((z0 225 6 = 1 ∧ w0 225 9 = 1818848869) ∧ z0 225 24 < 8) ∨ ((z0 225 6 = 1 ∧ w0 225 9 = 2003792484) ∧ z0 225 25 < 6))) → 55 < (N : Int) → wp_ (d + 4) 169 4 none (85, [(0, .ref 225), (1, .int (Int32.ofInt x1)), (2, .int (Int32.ofInt x2))], [], mk z w (pq x y tx it mt tt ct)) (poV S_169x z0 w0 (E_169x h z0 w0 x y tx it mt tt ct))) ∧ (∀ (x1 x2 : Int) (z w : mZ), 0 ≤ x1 ∧ x1 ≤ 1 → 0 ≤ x2 ∧ x2 ≤ 1 → st_ S_169x z0 w0 z w → w 225 9 = w0 225 9 → z 225 2 = z0 225 2 → z 225 3 = z0 225 3 → z 225 4 = z0 225 4 → z 225 6 = z0 225 6 → z 225 7 = z0 225 7 → z 225 8 = z0 225 8 → z 225 23 = z0 225 23 → z 225 24 = z0 225 24 → z 225 25 = z0 225 25 → (z = z0 ∧ w = w0) → ((x1 = 1 ∧ z0 225 24 + z0 225 25 = 0) ∨ (x1 = 0 ∧ 0 < z0 225 24 + z0 225 25)) → ((x2 = 1 ∧ ((z0 225 6 = 1 ∧ w0 225 9 = 482804589413) ∧ z0 225 24 + z0 225 25 = 0 ∧ z0 225 23 < 12)) ∨ (x2 = 0 ∧ ¬ ((z0 225 6 = 1 ∧ w0 225 9 = 482804589413) ∧ z0 225 24 + z0 225 25 = 0 ∧ z0 225 23 < 12))) → (¬ (((z0 225 6 = 1 ∧ w0 225 9 = 1818848869) ∧ z0 225 24 < 8) ∨ ((z0 225 6 = 1 ∧ w0 225 9 = 2003792484) ∧ z0 225 25 < 6))) → 53 < (N : Int) → wp_ (d + 4) 169 4 none (89, [(0, .ref 225), (1, .int (Int32.ofInt x1)), (2, .int (Int32.ofInt x2))], [], mk z w (pq x y tx it mt tt ct)) (poV S_169x z0 w0 (E_169x h z0 w0 x y tx it mt tt ct))) ∧ (∀ (x1 x2 x3 : Int) (z w : mZ), 0 ≤ x1 ∧ x1 ≤ 1 → 0 ≤ x2 ∧ x2 ≤ 1 → 0 ≤ x3 ∧ x3 ≤ 1 → st_ S_169x z0 w0 z w → w 225 9 = w0 225 9 → z 225 2 = z0 225 2 → z 225 3 = z0 225 3 → z 225 4 = z0 225 4 → z 225 6 = z0 225 6 → z 225 7 = z0 225 7 → z 225 8 = z0 225 8 → z 225 23 = z0 225 23 → z 225 24 = z0 225 24 → z 225 25 = z0 225 25 → (z = z0 ∧ w = w0) → ((x1 = 1 ∧ z0 225 24 + z0 225 25 = 0) ∨ (x1 = 0 ∧ 0 < z0 225 24 + z0 225 25)) → ((x2 = 1 ∧ ((z0 225 6 = 1 ∧ w0 225 9 = 482804589413) ∧ z0 225 24 + z0 225 25 = 0 ∧ z0 225 23 < 12)) ∨ (x2 = 0 ∧ ¬ ((z0 225 6 = 1 ∧ w0 225 9 = 482804589413) ∧ z0 225 24 + z0 225 25 = 0 ∧ z0 225 23 < 12))) → ((x3 = 1 ∧ (((z0 225 6 = 1 ∧ w0 225 9 = 1818848869) ∧ z0 225 24 < 8) ∨ ((z0 225 6 = 1 ∧ w0 225 9 = 2003792484) ∧ z0 225 25 < 6))) ∨ (x3 = 0 ∧ ¬ (((z0 225 6 = 1 ∧ w0 225 9 = 1818848869) ∧ z0 225 24 < 8) ∨ ((z0 225 6 = 1 ∧ w0 225 9 = 2003792484) ∧ z0 225 25 < 6)) ∧ x2 = 1)) → 43 < (N : Int) → wp_ (d + 4) 169 4 none (107, [(0, .ref 225), (1, .int (Int32.ofInt x1)), (2, .int (Int32.ofInt x2)), (3, .int (Int32.ofInt x3))], [], mk z w (pq x y tx it mt tt ct)) (poV S_169x z0 w0 (E_169x h z0 w0 x y tx it mt tt ct))) ∧ (∀ (x2 : Int) (z w : mZ), 0 ≤ x2 ∧ x2 ≤ 1 → st_ S_169x z0 w0 z w → w 225 9 = w0 225 9 → z 225 4 = z0 225 4 → z 225 6 = z0 225 6 → z 225 7 = z0 225 7 → z 225 8 = z0 225 8 → z 225 23 = z0 225 23 → z 225 24 = z0 225 24 → z 225 25 = z0 225 25 → ((z 225 2 = 0 → (z = z0 ∧ w = w0) ∧ ((x2 = 1 ∧ ((z0 225 6 = 1 ∧ w0 225 9 = 482804589413) ∧ z0 225 24 + z0 225 25 = 0 ∧ z0 225 23 < 12)) ∨ (x2 = 0 ∧ (((z0 225 6 = 1 ∧ w0 225 9 = 1818848869) ∧ z0 225 24 < 8) ∨ ((z0 225 6 = 1 ∧ w0 225 9 = 2003792484) ∧ z0 225 25 < 6)) ∧ (0 < z0 225 24 + z0 225 25 ∨ WHm (z0 225 23) (z0 229) (z0 230))))) ∧ (0 < z 225 2 → RF h z) ∧ z0 225 7 ≤ z 225 7) → 33 < (N : Int) → wp_ (d + 4) 169 4 none (128, [(0, .ref 225), (2, .int (Int32.ofInt x2))], [], mk z w (pq x y tx it mt tt ct)) (poV S_169x z0 w0 (E_169x h z0 w0 x y tx it mt tt ct))) ∧ (∀ (z w : mZ), st_ S_169x z0 w0 z w → (OKr h z0 z (RPz h z w)) → 15 < (N : Int) → wp_ (d + 4) 169 4 none (168, [(0, .ref 225)], [], mk z w (pq x y tx it mt tt ct)) (poV S_169x z0 w0 (E_169x h z0 w0 x y tx it mt tt ct))) ∧ (∀ (z w : mZ), st_ S_169x z0 w0 z w → (OKr h z0 z (RPz h z w ∧ z 225 6 = 59)) → 5 < (N : Int) → wp_ (d + 4) 169 4 none (189, [(0, .ref 225)], [], mk z w (pq x y tx it mt tt ct)) (poV S_169x z0 w0 (E_169x h z0 w0 x y tx it mt tt ct))) := by
    intro N
    induction N with
    | zero =>
      refine ⟨?_, ?_, ?_, ?_, ?_, ?_, ?_, ?_⟩
      · intro x1 z w
        intros; exfalso; omega
      · intro x1 x2 z w
        intros; exfalso; omega
      · intro x1 x2 z w
        intros; exfalso; omega
      · intro x1 x2 z w
        intros; exfalso; omega
      · intro x1 x2 x3 z w
        intros; exfalso; omega
      · intro x2 z w
        intros; exfalso; omega
      · intro  z w
        intros; exfalso; omega
      · intro  z w
        intros; exfalso; omega
    | succ N ih =>
      obtain ⟨ih0, ih1, ih2, ih3, ih4, ih5, ih6, ih7⟩ := ih
      refine ⟨?_, ?_, ?_, ?_, ?_, ?_, ?_, ?_⟩
      · intro x1 z w  hx1 hst un_w_225_9 un_z_225_2 un_z_225_3 un_z_225_4 un_z_225_6 un_z_225_7 un_z_225_8 un_z_225_23 un_z_225_24 un_z_225_25 asz asx asp hM
        refine r_c0 (pc' := 46) rfl rfl ?_
        refine r_st (pc' := 47) (lv' := [(2, _), (0, _), (1, _)]) rfl rfl rfl rfl ?_
        refine r_ld (pc' := 48) rfl rfl rfl rfl ?_
        refine r_al (pc' := 51) rfl rfl rfl rfl ?_
        have hb193 := rd_225_6 hz
        have hf194 : z 225 6 = z0 225 6 := un_z_225_6
        have hb195 := rd_225_9 hw
        have hf196 : w 225 9 = w0 225 9 := un_w_225_9
        refine r_cVI (pc' := 54) rfl rfl rfl rfl rfl sh_225 (m_155 (d := d + 3) 1818848869 hst.1 hst.2.1 ⟨by omega, by omega⟩) (fun v197 z198 w199 p200 h201 hs202 hE203 => ?_)
        obtain ⟨rfl, rfl, rfl, hE203⟩ := hE203
        have hw7 := hE203
        refine r_zeq (pc' := 57) rfl rfl ⟨by omega, by omega⟩ (fun hc205 => ?_) (fun hc205 => ?_)
        · skip
          have hb206 := rd_225_2 hz
          have hb207 := rd_225_3 hz
          have hb208 := rd_225_4 hz
          have hb209 := rd_225_7 hz
          have hb210 := rd_225_8 hz
          have hb211 := rd_225_23 hz
          have hb212 := rd_225_24 hz
          have hb213 := rd_225_25 hz
          exact w_lv (sub_c rfl (sub_c rfl (sub_c rfl sub_n))) rfl (ih1 x1 0 z w ⟨by omega, by omega⟩ ⟨by omega, by omega⟩ hst (un_w_225_9) (un_z_225_2) (un_z_225_3) (un_z_225_4) (un_z_225_6) (un_z_225_7) (un_z_225_8) (un_z_225_23) (un_z_225_24) (un_z_225_25) (by first | exact ⟨rfl, rfl⟩ | exact asz) (by first | exact asx | omega) (by first | exact asp | exact Or.inr ⟨by omega, asp⟩ | exact Or.inl ⟨by omega, by omega, by omega, by omega⟩) (by first | omega | (obtain ⟨e1, e2⟩ := asz; subst e1; subst e2; omega)) (by omega))
        · skip
          refine r_ld (pc' := 58) rfl rfl rfl rfl ?_
          have hb214 := rd_225_24 hz
          refine r_gi (pc' := 61) rfl rfl sh_225 rfl un_z_225_24 ?_
          refine r_cb (pc' := 63) rfl (by decide) rfl ?_
          refine r_ilt (pc' := 66) rfl rfl ⟨by omega, by omega⟩ ⟨by decide, by decide⟩ (fun hc215 => ?_) (fun hc215 => ?_)
          · skip
            have hb216 := rd_225_2 hz
            have hb217 := rd_225_3 hz
            have hb218 := rd_225_4 hz
            have hb219 := rd_225_7 hz
            have hb220 := rd_225_8 hz
            have hb221 := rd_225_23 hz
            have hb222 := rd_225_25 hz
            exact w_lv (sub_c rfl (sub_c rfl (sub_c rfl sub_n))) rfl (ih2 x1 0 z w ⟨by omega, by omega⟩ ⟨by omega, by omega⟩ hst (un_w_225_9) (un_z_225_2) (un_z_225_3) (un_z_225_4) (un_z_225_6) (un_z_225_7) (un_z_225_8) (un_z_225_23) (un_z_225_24) (un_z_225_25) (by first | exact ⟨rfl, rfl⟩ | exact asz) (by first | exact asx | omega) (by first | exact asp | exact Or.inr ⟨by omega, asp⟩ | exact Or.inl ⟨by omega, by omega, by omega, by omega⟩) (by first | omega | (obtain ⟨e1, e2⟩ := asz; subst e1; subst e2; omega)) (by omega))
          · skip
            have hb223 := rd_225_2 hz
            have hb224 := rd_225_3 hz
            have hb225 := rd_225_4 hz
            have hb226 := rd_225_7 hz
            have hb227 := rd_225_8 hz
            have hb228 := rd_225_23 hz
            have hb229 := rd_225_25 hz
            exact w_lv (sub_c rfl (sub_c rfl (sub_c rfl sub_n))) rfl (ih1 x1 0 z w ⟨by omega, by omega⟩ ⟨by omega, by omega⟩ hst (un_w_225_9) (un_z_225_2) (un_z_225_3) (un_z_225_4) (un_z_225_6) (un_z_225_7) (un_z_225_8) (un_z_225_23) (un_z_225_24) (un_z_225_25) (by first | exact ⟨rfl, rfl⟩ | exact asz) (by first | exact asx | omega) (by first | exact asp | exact Or.inr ⟨by omega, asp⟩ | exact Or.inl ⟨by omega, by omega, by omega, by omega⟩) (by first | omega | (obtain ⟨e1, e2⟩ := asz; subst e1; subst e2; omega)) (by omega))
      · intro x1 x2 z w  hx1 hx2 hst un_w_225_9 un_z_225_2 un_z_225_3 un_z_225_4 un_z_225_6 un_z_225_7 un_z_225_8 un_z_225_23 un_z_225_24 un_z_225_25 asz asx asp aso hM
        refine r_ld (pc' := 67) rfl rfl rfl rfl ?_
        refine r_al (pc' := 70) rfl rfl rfl rfl ?_
        have hb230 := rd_225_6 hz
        have hf231 : z 225 6 = z0 225 6 := un_z_225_6
        have hb232 := rd_225_9 hw
        have hf233 : w 225 9 = w0 225 9 := un_w_225_9
        refine r_cVI (pc' := 73) rfl rfl rfl rfl rfl sh_225 (m_155 (d := d + 3) 2003792484 hst.1 hst.2.1 ⟨by omega, by omega⟩) (fun v234 z235 w236 p237 h238 hs239 hE240 => ?_)
        obtain ⟨rfl, rfl, rfl, hE240⟩ := hE240
        have hw9 := hE240
        refine r_zeq (pc' := 76) rfl rfl ⟨by omega, by omega⟩ (fun hc242 => ?_) (fun hc242 => ?_)
        · skip
          have hb243 := rd_225_2 hz
          have hb244 := rd_225_3 hz
          have hb245 := rd_225_4 hz
          have hb246 := rd_225_7 hz
          have hb247 := rd_225_8 hz
          have hb248 := rd_225_23 hz
          have hb249 := rd_225_24 hz
          have hb250 := rd_225_25 hz
          exact w_lv (sub_c rfl (sub_c rfl (sub_c rfl sub_n))) rfl (ih3 x1 x2 z w ⟨by omega, by omega⟩ ⟨by omega, by omega⟩ hst (un_w_225_9) (un_z_225_2) (un_z_225_3) (un_z_225_4) (un_z_225_6) (un_z_225_7) (un_z_225_8) (un_z_225_23) (un_z_225_24) (un_z_225_25) (by first | exact ⟨rfl, rfl⟩ | exact asz) (by first | exact asx | omega) (by first | exact asp | exact Or.inr ⟨by omega, asp⟩ | exact Or.inl ⟨by omega, by omega, by omega, by omega⟩) (by first | omega | (obtain ⟨e1, e2⟩ := asz; subst e1; subst e2; omega)) (by omega))
        · skip
          refine r_ld (pc' := 77) rfl rfl rfl rfl ?_
          have hb251 := rd_225_25 hz
          refine r_gi (pc' := 80) rfl rfl sh_225 rfl un_z_225_25 ?_
          refine r_cb (pc' := 82) rfl (by decide) rfl ?_
          refine r_ige (pc' := 85) rfl rfl ⟨by omega, by omega⟩ ⟨by decide, by decide⟩ (fun hc252 => ?_) (fun hc252 => ?_)
          · skip
            have hb253 := rd_225_2 hz
            have hb254 := rd_225_3 hz
            have hb255 := rd_225_4 hz
            have hb256 := rd_225_7 hz
            have hb257 := rd_225_8 hz
            have hb258 := rd_225_23 hz
            have hb259 := rd_225_24 hz
            exact w_lv (sub_c rfl (sub_c rfl (sub_c rfl sub_n))) rfl (ih3 x1 x2 z w ⟨by omega, by omega⟩ ⟨by omega, by omega⟩ hst (un_w_225_9) (un_z_225_2) (un_z_225_3) (un_z_225_4) (un_z_225_6) (un_z_225_7) (un_z_225_8) (un_z_225_23) (un_z_225_24) (un_z_225_25) (by first | exact ⟨rfl, rfl⟩ | exact asz) (by first | exact asx | omega) (by first | exact asp | exact Or.inr ⟨by omega, asp⟩ | exact Or.inl ⟨by omega, by omega, by omega, by omega⟩) (by first | omega | (obtain ⟨e1, e2⟩ := asz; subst e1; subst e2; omega)) (by omega))
          · skip
            have hb260 := rd_225_2 hz
            have hb261 := rd_225_3 hz
            have hb262 := rd_225_4 hz
            have hb263 := rd_225_7 hz
            have hb264 := rd_225_8 hz
            have hb265 := rd_225_23 hz
            have hb266 := rd_225_24 hz
            exact w_lv (sub_c rfl (sub_c rfl (sub_c rfl sub_n))) rfl (ih2 x1 x2 z w ⟨by omega, by omega⟩ ⟨by omega, by omega⟩ hst (un_w_225_9) (un_z_225_2) (un_z_225_3) (un_z_225_4) (un_z_225_6) (un_z_225_7) (un_z_225_8) (un_z_225_23) (un_z_225_24) (un_z_225_25) (by first | exact ⟨rfl, rfl⟩ | exact asz) (by first | exact asx | omega) (by first | exact asp | exact Or.inr ⟨by omega, asp⟩ | exact Or.inl ⟨by omega, by omega, by omega, by omega⟩) (by first | omega | (obtain ⟨e1, e2⟩ := asz; subst e1; subst e2; omega)) (by omega))
      · intro x1 x2 z w  hx1 hx2 hst un_w_225_9 un_z_225_2 un_z_225_3 un_z_225_4 un_z_225_6 un_z_225_7 un_z_225_8 un_z_225_23 un_z_225_24 un_z_225_25 asz asx asp aso hM
        refine r_c0 (pc' := 86) rfl rfl ?_
        refine r_go rfl ?_
        refine r_st (pc' := 91) (lv' := [(3, _), (0, _), (1, _), (2, _)]) rfl rfl rfl rfl ?_
        refine r_ld (pc' := 92) rfl rfl rfl rfl ?_
        refine r_zne (pc' := 95) rfl rfl ⟨by omega, by omega⟩ (fun hc267 => ?_) (fun hc267 => ?_)
        · skip
          have hb268 := rd_225_9 hw
          have hb269 := rd_225_2 hz
          have hb270 := rd_225_3 hz
          have hb271 := rd_225_4 hz
          have hb272 := rd_225_6 hz
          have hb273 := rd_225_7 hz
          have hb274 := rd_225_8 hz
          have hb275 := rd_225_23 hz
          have hb276 := rd_225_24 hz
          have hb277 := rd_225_25 hz
          exact w_lv (sub_c rfl (sub_c rfl (sub_c rfl (sub_c rfl sub_n)))) rfl (ih4 x1 x2 1 z w ⟨by omega, by omega⟩ ⟨by omega, by omega⟩ ⟨by omega, by omega⟩ hst (un_w_225_9) (un_z_225_2) (un_z_225_3) (un_z_225_4) (un_z_225_6) (un_z_225_7) (un_z_225_8) (un_z_225_23) (un_z_225_24) (un_z_225_25) (by first | exact ⟨rfl, rfl⟩ | exact asz) (by first | exact asx | omega) (by first | exact asp | exact Or.inr ⟨by omega, asp⟩ | exact Or.inl ⟨by omega, by omega, by omega, by omega⟩) (by first | exact Or.inl ⟨by omega, aso⟩ | exact Or.inr ⟨by omega, aso, by omega⟩) (by omega))
        · skip
          refine r_ld (pc' := 96) rfl rfl rfl rfl ?_
          refine r_zne (pc' := 99) rfl rfl ⟨by decide, by decide⟩ (fun hc278 => ?_) (fun hc278 => ?_)
          · skip
            have hb279 := rd_225_9 hw
            have hb280 := rd_225_2 hz
            have hb281 := rd_225_3 hz
            have hb282 := rd_225_4 hz
            have hb283 := rd_225_6 hz
            have hb284 := rd_225_7 hz
            have hb285 := rd_225_8 hz
            have hb286 := rd_225_23 hz
            have hb287 := rd_225_24 hz
            have hb288 := rd_225_25 hz
            exact w_lv (sub_c rfl (sub_c rfl (sub_c rfl (sub_c rfl sub_n)))) rfl (ih4 x1 x2 1 z w ⟨by omega, by omega⟩ ⟨by omega, by omega⟩ ⟨by omega, by omega⟩ hst (un_w_225_9) (un_z_225_2) (un_z_225_3) (un_z_225_4) (un_z_225_6) (un_z_225_7) (un_z_225_8) (un_z_225_23) (un_z_225_24) (un_z_225_25) (by first | exact ⟨rfl, rfl⟩ | exact asz) (by first | exact asx | omega) (by first | exact asp | exact Or.inr ⟨by omega, asp⟩ | exact Or.inl ⟨by omega, by omega, by omega, by omega⟩) (by first | exact Or.inl ⟨by omega, aso⟩ | exact Or.inr ⟨by omega, aso, by omega⟩) (by omega))
          · exfalso; omega
      · intro x1 x2 z w  hx1 hx2 hst un_w_225_9 un_z_225_2 un_z_225_3 un_z_225_4 un_z_225_6 un_z_225_7 un_z_225_8 un_z_225_23 un_z_225_24 un_z_225_25 asz asx asp aso hM
        refine r_c0 (pc' := 90) rfl rfl ?_
        refine r_st (pc' := 91) (lv' := [(3, _), (0, _), (1, _), (2, _)]) rfl rfl rfl rfl ?_
        refine r_ld (pc' := 92) rfl rfl rfl rfl ?_
        refine r_zne (pc' := 95) rfl rfl ⟨by omega, by omega⟩ (fun hc289 => ?_) (fun hc289 => ?_)
        · skip
          have hb290 := rd_225_9 hw
          have hb291 := rd_225_2 hz
          have hb292 := rd_225_3 hz
          have hb293 := rd_225_4 hz
          have hb294 := rd_225_6 hz
          have hb295 := rd_225_7 hz
          have hb296 := rd_225_8 hz
          have hb297 := rd_225_23 hz
          have hb298 := rd_225_24 hz
          have hb299 := rd_225_25 hz
          exact w_lv (sub_c rfl (sub_c rfl (sub_c rfl (sub_c rfl sub_n)))) rfl (ih4 x1 x2 0 z w ⟨by omega, by omega⟩ ⟨by omega, by omega⟩ ⟨by omega, by omega⟩ hst (un_w_225_9) (un_z_225_2) (un_z_225_3) (un_z_225_4) (un_z_225_6) (un_z_225_7) (un_z_225_8) (un_z_225_23) (un_z_225_24) (un_z_225_25) (by first | exact ⟨rfl, rfl⟩ | exact asz) (by first | exact asx | omega) (by first | exact asp | exact Or.inr ⟨by omega, asp⟩ | exact Or.inl ⟨by omega, by omega, by omega, by omega⟩) (by first | exact Or.inl ⟨by omega, aso⟩ | exact Or.inr ⟨by omega, aso, by omega⟩) (by omega))
        · skip
          refine r_ld (pc' := 96) rfl rfl rfl rfl ?_
          refine r_zne (pc' := 99) rfl rfl ⟨by decide, by decide⟩ (fun hc300 => ?_) (fun hc300 => ?_)
          · exfalso; omega
          · skip
            refine r_ld (pc' := 100) rfl rfl rfl rfl ?_
            refine r_c0 (pc' := 101) rfl rfl ?_
            refine r_cVV (pc' := 104) rfl rfl rfl rfl rfl sh_225 (m_154x (d := d + 2) 2 hst.1 hst.2.1 ⟨by omega, by omega⟩) (fun z302 w303 p304 hs306 hE307 => ?_)
            have hs308 := st_tr hst hs306 (sub_B rfl)
            obtain ⟨rfl, hE307⟩ := hE307
            have hwr := hE307
            refine r_go rfl ?_
            have hb309 := rd_225_2 hs308.1
            have hb310 := rd_225_7 hz
            have hf311 : z302 225 7 = z0 225 7 := ((hs306.2.2.1 _ _ (notS_c (by omega) (notS_c (by omega) notS_n))).trans un_z_225_7)
            have hb312 := rd_225_3 hs308.1
            have hb313 := rd_225_6 hz
            have hf314 : z302 225 6 = z0 225 6 := ((hs306.2.2.1 _ _ (notS_c (by omega) (notS_c (by omega) notS_n))).trans un_z_225_6)
            have hb315 := rd_225_9 hw
            have hb316 := rd_225_4 hz
            have hb317 := rd_225_8 hz
            have hb318 := rd_225_23 hz
            have hb319 := rd_225_24 hz
            have hb320 := rd_225_25 hz
            exact w_lv (sub_c rfl (sub_c rfl sub_n)) rfl (ih5 x2 z302 w303 ⟨by omega, by omega⟩ hs308 (((hs306.2.2.2 _ _ (notS_c (by omega) (notS_c (by omega) notS_n))).trans un_w_225_9)) (((hs306.2.2.1 _ _ (notS_c (by omega) (notS_c (by omega) notS_n))).trans un_z_225_4)) (((hs306.2.2.1 _ _ (notS_c (by omega) (notS_c (by omega) notS_n))).trans un_z_225_6)) (((hs306.2.2.1 _ _ (notS_c (by omega) (notS_c (by omega) notS_n))).trans un_z_225_7)) (((hs306.2.2.1 _ _ (notS_c (by omega) (notS_c (by omega) notS_n))).trans un_z_225_8)) (((hs306.2.2.1 _ _ (notS_c (by omega) (notS_c (by omega) notS_n))).trans un_z_225_23)) (((hs306.2.2.1 _ _ (notS_c (by omega) (notS_c (by omega) notS_n))).trans un_z_225_24)) (((hs306.2.2.1 _ _ (notS_c (by omega) (notS_c (by omega) notS_n))).trans un_z_225_25)) (by obtain ⟨e1, e2⟩ := asz; subst e1; subst e2; first | (have g := RL_2 hRA hm hcl (by omega) (by omega) (fun q => h60 (hk0.mpr q)) (fun q => by have := hkp.1.mpr q; omega) (fun q => by have := hkp.2.1.mpr q; omega) (fun q => by have := hkp.2.2.mpr q; omega) hf0 hwr; exact ⟨fun q => absurd q (by obtain ⟨_, _, _, _, g2⟩ := g; omega), fun _ => g, by omega⟩) | (have g := RL_6 hRA hm hcl (by omega) (by omega) (by rcases aso with a | a; (rcases a.2 with b | b; (exact Or.inr (Or.inl (hkp.2.1.mp b.1))); (exact Or.inr (Or.inr (hkp.2.2.mp b.1)))); (exfalso; omega)) (hiw.2 (by omega)) hf0 hwr; exact ⟨fun q => absurd q (by obtain ⟨_, _, _, _, g2⟩ := g; omega), fun _ => g, by omega⟩) | (refine ⟨fun _ => ⟨⟨rfl, rfl⟩, ?_⟩, fun q => absurd q (by omega), by omega⟩; first | exact Or.inl ⟨by omega, (asp.resolve_right (by omega)).2⟩ | (rcases asp with a | a; (exact Or.inl a); (exact Or.inr ⟨a.1, (aso.resolve_right (by omega)).2, Or.inr (hiw.1 (by omega))⟩)) | (rcases asp with a | a; (exact Or.inl a); (exact Or.inr ⟨a.1, (aso.resolve_right (by omega)).2, Or.inl (by omega)⟩)))) (by omega))
      · intro x1 x2 x3 z w  hx1 hx2 hx3 hst un_w_225_9 un_z_225_2 un_z_225_3 un_z_225_4 un_z_225_6 un_z_225_7 un_z_225_8 un_z_225_23 un_z_225_24 un_z_225_25 asz asx asp aso hM
        refine r_ld (pc' := 108) rfl rfl rfl rfl ?_
        refine r_zeq (pc' := 111) rfl rfl ⟨by omega, by omega⟩ (fun hc321 => ?_) (fun hc321 => ?_)
        · skip
          have hb322 := rd_225_2 hz
          have hf323 : z 225 2 = z0 225 2 := un_z_225_2
          have hb324 := rd_225_7 hz
          have hf325 : z 225 7 = z0 225 7 := un_z_225_7
          have hb326 := rd_225_3 hz
          have hf327 : z 225 3 = z0 225 3 := un_z_225_3
          have hb328 := rd_225_6 hz
          have hf329 : z 225 6 = z0 225 6 := un_z_225_6
          have hb330 := rd_225_9 hw
          have hb331 := rd_225_4 hz
          have hb332 := rd_225_8 hz
          have hb333 := rd_225_23 hz
          have hb334 := rd_225_24 hz
          have hb335 := rd_225_25 hz
          exact w_lv (sub_c rfl (sub_c rfl sub_n)) rfl (ih5 x2 z w ⟨by omega, by omega⟩ hst (un_w_225_9) (un_z_225_4) (un_z_225_6) (un_z_225_7) (un_z_225_8) (un_z_225_23) (un_z_225_24) (un_z_225_25) (by obtain ⟨e1, e2⟩ := asz; subst e1; subst e2; first | (have g := RL_2 hRA hm hcl (by omega) (by omega) (fun q => h60 (hk0.mpr q)) (fun q => by have := hkp.1.mpr q; omega) (fun q => by have := hkp.2.1.mpr q; omega) (fun q => by have := hkp.2.2.mpr q; omega) hf0 hwr; exact ⟨fun q => absurd q (by obtain ⟨_, _, _, _, g2⟩ := g; omega), fun _ => g, by omega⟩) | (have g := RL_6 hRA hm hcl (by omega) (by omega) (by rcases aso with a | a; (rcases a.2 with b | b; (exact Or.inr (Or.inl (hkp.2.1.mp b.1))); (exact Or.inr (Or.inr (hkp.2.2.mp b.1)))); (exfalso; omega)) (hiw.2 (by omega)) hf0 hwr; exact ⟨fun q => absurd q (by obtain ⟨_, _, _, _, g2⟩ := g; omega), fun _ => g, by omega⟩) | (refine ⟨fun _ => ⟨⟨rfl, rfl⟩, ?_⟩, fun q => absurd q (by omega), by omega⟩; first | exact Or.inl ⟨by omega, (asp.resolve_right (by omega)).2⟩ | (rcases asp with a | a; (exact Or.inl a); (exact Or.inr ⟨a.1, (aso.resolve_right (by omega)).2, Or.inr (hiw.1 (by omega))⟩)) | (rcases asp with a | a; (exact Or.inl a); (exact Or.inr ⟨a.1, (aso.resolve_right (by omega)).2, Or.inl (by omega)⟩)))) (by omega))
        · skip
          refine r_ld (pc' := 112) rfl rfl rfl rfl ?_
          refine r_zeq (pc' := 115) rfl rfl ⟨by omega, by omega⟩ (fun hc336 => ?_) (fun hc336 => ?_)
          · skip
            have hb337 := rd_225_2 hz
            have hf338 : z 225 2 = z0 225 2 := un_z_225_2
            have hb339 := rd_225_7 hz
            have hf340 : z 225 7 = z0 225 7 := un_z_225_7
            have hb341 := rd_225_3 hz
            have hf342 : z 225 3 = z0 225 3 := un_z_225_3
            have hb343 := rd_225_6 hz
            have hf344 : z 225 6 = z0 225 6 := un_z_225_6
            have hb345 := rd_225_9 hw
            have hb346 := rd_225_4 hz
            have hb347 := rd_225_8 hz
            have hb348 := rd_225_23 hz
            have hb349 := rd_225_24 hz
            have hb350 := rd_225_25 hz
            exact w_lv (sub_c rfl (sub_c rfl sub_n)) rfl (ih5 x2 z w ⟨by omega, by omega⟩ hst (un_w_225_9) (un_z_225_4) (un_z_225_6) (un_z_225_7) (un_z_225_8) (un_z_225_23) (un_z_225_24) (un_z_225_25) (by obtain ⟨e1, e2⟩ := asz; subst e1; subst e2; first | (have g := RL_2 hRA hm hcl (by omega) (by omega) (fun q => h60 (hk0.mpr q)) (fun q => by have := hkp.1.mpr q; omega) (fun q => by have := hkp.2.1.mpr q; omega) (fun q => by have := hkp.2.2.mpr q; omega) hf0 hwr; exact ⟨fun q => absurd q (by obtain ⟨_, _, _, _, g2⟩ := g; omega), fun _ => g, by omega⟩) | (have g := RL_6 hRA hm hcl (by omega) (by omega) (by rcases aso with a | a; (rcases a.2 with b | b; (exact Or.inr (Or.inl (hkp.2.1.mp b.1))); (exact Or.inr (Or.inr (hkp.2.2.mp b.1)))); (exfalso; omega)) (hiw.2 (by omega)) hf0 hwr; exact ⟨fun q => absurd q (by obtain ⟨_, _, _, _, g2⟩ := g; omega), fun _ => g, by omega⟩) | (refine ⟨fun _ => ⟨⟨rfl, rfl⟩, ?_⟩, fun q => absurd q (by omega), by omega⟩; first | exact Or.inl ⟨by omega, (asp.resolve_right (by omega)).2⟩ | (rcases asp with a | a; (exact Or.inl a); (exact Or.inr ⟨a.1, (aso.resolve_right (by omega)).2, Or.inr (hiw.1 (by omega))⟩)) | (rcases asp with a | a; (exact Or.inl a); (exact Or.inr ⟨a.1, (aso.resolve_right (by omega)).2, Or.inl (by omega)⟩)))) (by omega))
          · skip
            refine r_ld (pc' := 116) rfl rfl rfl rfl ?_
            have hb351 := rd_225_23 hz
            have hf352 : z 225 23 = z0 225 23 := un_z_225_23
            refine r_cVI (pc' := 119) rfl rfl rfl rfl rfl sh_225 (m_163x (d := d + 2)  hst.1 hst.2.1 ) (fun v353 z354 w355 p356 h357 hs358 hE359 => ?_)
            obtain ⟨rfl, rfl, rfl, hE359⟩ := hE359
            have hiw := hE359.2.2
            refine r_zne (pc' := 122) rfl rfl ⟨by omega, by omega⟩ (fun hc361 => ?_) (fun hc361 => ?_)
            · skip
              have hb362 := rd_225_2 hz
              have hf363 : z 225 2 = z0 225 2 := un_z_225_2
              have hb364 := rd_225_7 hz
              have hf365 : z 225 7 = z0 225 7 := un_z_225_7
              have hb366 := rd_225_3 hz
              have hf367 : z 225 3 = z0 225 3 := un_z_225_3
              have hb368 := rd_225_6 hz
              have hf369 : z 225 6 = z0 225 6 := un_z_225_6
              have hb370 := rd_225_9 hw
              have hb371 := rd_225_4 hz
              have hb372 := rd_225_8 hz
              have hb373 := rd_225_24 hz
              have hb374 := rd_225_25 hz
              exact w_lv (sub_c rfl (sub_c rfl sub_n)) rfl (ih5 x2 z w ⟨by omega, by omega⟩ hst (un_w_225_9) (un_z_225_4) (un_z_225_6) (un_z_225_7) (un_z_225_8) (un_z_225_23) (un_z_225_24) (un_z_225_25) (by obtain ⟨e1, e2⟩ := asz; subst e1; subst e2; first | (have g := RL_2 hRA hm hcl (by omega) (by omega) (fun q => h60 (hk0.mpr q)) (fun q => by have := hkp.1.mpr q; omega) (fun q => by have := hkp.2.1.mpr q; omega) (fun q => by have := hkp.2.2.mpr q; omega) hf0 hwr; exact ⟨fun q => absurd q (by obtain ⟨_, _, _, _, g2⟩ := g; omega), fun _ => g, by omega⟩) | (have g := RL_6 hRA hm hcl (by omega) (by omega) (by rcases aso with a | a; (rcases a.2 with b | b; (exact Or.inr (Or.inl (hkp.2.1.mp b.1))); (exact Or.inr (Or.inr (hkp.2.2.mp b.1)))); (exfalso; omega)) (hiw.2 (by omega)) hf0 hwr; exact ⟨fun q => absurd q (by obtain ⟨_, _, _, _, g2⟩ := g; omega), fun _ => g, by omega⟩) | (refine ⟨fun _ => ⟨⟨rfl, rfl⟩, ?_⟩, fun q => absurd q (by omega), by omega⟩; first | exact Or.inl ⟨by omega, (asp.resolve_right (by omega)).2⟩ | (rcases asp with a | a; (exact Or.inl a); (exact Or.inr ⟨a.1, (aso.resolve_right (by omega)).2, Or.inr (hiw.1 (by omega))⟩)) | (rcases asp with a | a; (exact Or.inl a); (exact Or.inr ⟨a.1, (aso.resolve_right (by omega)).2, Or.inl (by omega)⟩)))) (by omega))
            · skip
              refine r_ld (pc' := 123) rfl rfl rfl rfl ?_
              refine r_cb (pc' := 125) rfl (by decide) rfl ?_
              refine r_cVV (pc' := 128) rfl rfl rfl rfl rfl sh_225 (m_154x (d := d + 2) 6 hst.1 hst.2.1 ⟨by omega, by omega⟩) (fun z376 w377 p378 hs380 hE381 => ?_)
              have hs382 := st_tr hst hs380 (sub_B rfl)
              obtain ⟨rfl, hE381⟩ := hE381
              have hwr := hE381
              have hb383 := rd_225_2 hs382.1
              have hb384 := rd_225_7 hz
              have hf385 : z376 225 7 = z0 225 7 := ((hs380.2.2.1 _ _ (notS_c (by omega) (notS_c (by omega) notS_n))).trans un_z_225_7)
              have hb386 := rd_225_3 hs382.1
              have hb387 := rd_225_6 hz
              have hf388 : z376 225 6 = z0 225 6 := ((hs380.2.2.1 _ _ (notS_c (by omega) (notS_c (by omega) notS_n))).trans un_z_225_6)
              have hb389 := rd_225_9 hw
              have hb390 := rd_225_4 hz
              have hb391 := rd_225_8 hz
              have hb392 := rd_225_24 hz
              have hb393 := rd_225_25 hz
              exact w_lv (sub_c rfl (sub_c rfl sub_n)) rfl (ih5 x2 z376 w377 ⟨by omega, by omega⟩ hs382 (((hs380.2.2.2 _ _ (notS_c (by omega) (notS_c (by omega) notS_n))).trans un_w_225_9)) (((hs380.2.2.1 _ _ (notS_c (by omega) (notS_c (by omega) notS_n))).trans un_z_225_4)) (((hs380.2.2.1 _ _ (notS_c (by omega) (notS_c (by omega) notS_n))).trans un_z_225_6)) (((hs380.2.2.1 _ _ (notS_c (by omega) (notS_c (by omega) notS_n))).trans un_z_225_7)) (((hs380.2.2.1 _ _ (notS_c (by omega) (notS_c (by omega) notS_n))).trans un_z_225_8)) (((hs380.2.2.1 _ _ (notS_c (by omega) (notS_c (by omega) notS_n))).trans un_z_225_23)) (((hs380.2.2.1 _ _ (notS_c (by omega) (notS_c (by omega) notS_n))).trans un_z_225_24)) (((hs380.2.2.1 _ _ (notS_c (by omega) (notS_c (by omega) notS_n))).trans un_z_225_25)) (by obtain ⟨e1, e2⟩ := asz; subst e1; subst e2; first | (have g := RL_2 hRA hm hcl (by omega) (by omega) (fun q => h60 (hk0.mpr q)) (fun q => by have := hkp.1.mpr q; omega) (fun q => by have := hkp.2.1.mpr q; omega) (fun q => by have := hkp.2.2.mpr q; omega) hf0 hwr; exact ⟨fun q => absurd q (by obtain ⟨_, _, _, _, g2⟩ := g; omega), fun _ => g, by omega⟩) | (have g := RL_6 hRA hm hcl (by omega) (by omega) (by rcases aso with a | a; (rcases a.2 with b | b; (exact Or.inr (Or.inl (hkp.2.1.mp b.1))); (exact Or.inr (Or.inr (hkp.2.2.mp b.1)))); (exfalso; omega)) (hiw.2 (by omega)) hf0 hwr; exact ⟨fun q => absurd q (by obtain ⟨_, _, _, _, g2⟩ := g; omega), fun _ => g, by omega⟩) | (refine ⟨fun _ => ⟨⟨rfl, rfl⟩, ?_⟩, fun q => absurd q (by omega), by omega⟩; first | exact Or.inl ⟨by omega, (asp.resolve_right (by omega)).2⟩ | (rcases asp with a | a; (exact Or.inl a); (exact Or.inr ⟨a.1, (aso.resolve_right (by omega)).2, Or.inr (hiw.1 (by omega))⟩)) | (rcases asp with a | a; (exact Or.inl a); (exact Or.inr ⟨a.1, (aso.resolve_right (by omega)).2, Or.inl (by omega)⟩)))) (by omega))
      · intro x2 z w  hx2 hst un_w_225_9 un_z_225_4 un_z_225_6 un_z_225_7 un_z_225_8 un_z_225_23 un_z_225_24 un_z_225_25 as4 hM
        refine r_ld (pc' := 129) rfl rfl rfl rfl ?_
        have hb394 := rd_225_2 hst.1
        refine r_gi (pc' := 132) rfl rfl sh_225 rfl rfl ?_
        refine r_zle (pc' := 135) rfl rfl ⟨by omega, by omega⟩ (fun hc395 => ?_) (fun hc395 => ?_)
        · skip
          have hz4 := as4.1 (by omega)
          refine r_ld (pc' := 137) rfl rfl rfl rfl ?_
          refine r_zeq (pc' := 140) rfl rfl ⟨by omega, by omega⟩ (fun hc396 => ?_) (fun hc396 => ?_)
          · skip
            refine r_ld (pc' := 148) rfl rfl rfl rfl ?_
            refine r_al (pc' := 151) rfl rfl rfl rfl ?_
            have hb397 := rd_225_6 hz
            have hf398 : z 225 6 = z0 225 6 := un_z_225_6
            have hb399 := rd_225_9 hw
            have hf400 : w 225 9 = w0 225 9 := un_w_225_9
            refine r_cVI (pc' := 154) rfl rfl rfl rfl rfl sh_225 (m_155 (d := d + 3) 1818848869 hst.1 hst.2.1 ⟨by omega, by omega⟩) (fun v401 z402 w403 p404 h405 hs406 hE407 => ?_)
            obtain ⟨rfl, rfl, rfl, hE407⟩ := hE407
            have hw7 := hE407
            refine r_zeq (pc' := 157) rfl rfl ⟨by omega, by omega⟩ (fun hc409 => ?_) (fun hc409 => ?_)
            · skip
              refine r_ld (pc' := 165) rfl rfl rfl rfl ?_
              have hb410 := rd_225_25 hz
              have hf411 : z 225 25 = z0 225 25 := un_z_225_25
              refine r_cVV (pc' := 168) rfl rfl rfl rfl rfl sh_225 (m_168x (d := d) h hst.1 hst.2.1 (by exact (tr8_f (fun i => hst.2.2.1 226 i (notS_c (by omega) (notS_c (by omega) (notS_c (by omega) (notS_c (by omega) (notS_c (by omega) (notS_c (by omega) (notS_c (by omega) (notS_c (by omega) (notS_c (by omega) (notS_c (by omega) (notS_c (by omega) (notS_c (by omega) (notS_c (by omega) (notS_c (by omega) (notS_c (by omega) (notS_c (by omega) (notS_c (by omega) (notS_c (by omega) (notS_n)))))))))))))))))))) (hst.2.2.1 225 5 (notS_c (by omega) (notS_c (by omega) (notS_c (by omega) (notS_c (by omega) (notS_c (by omega) (notS_c (by omega) (notS_c (by omega) (notS_c (by omega) (notS_c (by omega) (notS_c (by omega) (notS_c (by omega) (notS_c (by omega) (notS_c (by omega) (notS_c (by omega) (notS_c (by omega) (notS_c (by omega) (notS_c (by omega) (notS_c (by omega) (notS_n))))))))))))))))))))).trans hh) (by rw [hz4.1.1, hz4.1.2]; have hi := (hz4.2.resolve_left (by omega)).2; exact ⟨k, hRA, hm, hkp.2.2.mp (by have e1 := hz4.1.1; have e2 := hz4.1.2; subst e1; subst e2; omega), RL_w hRA hm hcl (by omega) hi.2⟩) (by first | omega | assumption | (simp only [hf411]; assumption)) (by first | omega | assumption | (simp only [hf411]; assumption))) (fun z413 w414 p415 hs417 hE418 => ?_)
              have hs419 := st_tr hst hs417 (sub_B rfl)
              obtain ⟨rfl, hE418⟩ := hE418
              have hrp := hE418
              have hb420 := rd_225_2 hs419.1
              have hb421 := rd_225_3 hs419.1
              have hb422 := rd_225_7 hs419.1
              have hb423 := rd_225_6 hs419.1
              exact w_lv (sub_c rfl sub_n) rfl (ih6 z413 w414 hs419 (by rw [hz4.1.1] at hrp; exact hrp) (by omega))
            · skip
              refine r_ld (pc' := 158) rfl rfl rfl rfl ?_
              have hb424 := rd_225_24 hz
              have hf425 : z 225 24 = z0 225 24 := un_z_225_24
              refine r_cVV (pc' := 161) rfl rfl rfl rfl rfl sh_225 (m_167x (d := d) h hst.1 hst.2.1 (by exact (tr8_f (fun i => hst.2.2.1 226 i (notS_c (by omega) (notS_c (by omega) (notS_c (by omega) (notS_c (by omega) (notS_c (by omega) (notS_c (by omega) (notS_c (by omega) (notS_c (by omega) (notS_c (by omega) (notS_c (by omega) (notS_c (by omega) (notS_c (by omega) (notS_c (by omega) (notS_c (by omega) (notS_c (by omega) (notS_c (by omega) (notS_c (by omega) (notS_c (by omega) (notS_n)))))))))))))))))))) (hst.2.2.1 225 5 (notS_c (by omega) (notS_c (by omega) (notS_c (by omega) (notS_c (by omega) (notS_c (by omega) (notS_c (by omega) (notS_c (by omega) (notS_c (by omega) (notS_c (by omega) (notS_c (by omega) (notS_c (by omega) (notS_c (by omega) (notS_c (by omega) (notS_c (by omega) (notS_c (by omega) (notS_c (by omega) (notS_c (by omega) (notS_c (by omega) (notS_n))))))))))))))))))))).trans hh) (by rw [hz4.1.1, hz4.1.2]; have hi := (hz4.2.resolve_left (by omega)).2; exact ⟨k, hRA, hm, hkp.2.1.mp (by have e1 := hz4.1.1; have e2 := hz4.1.2; subst e1; subst e2; omega), RL_w hRA hm hcl (by omega) hi.2⟩) (by first | omega | assumption | (simp only [hf425]; assumption)) (by first | omega | assumption | (simp only [hf425]; assumption))) (fun z427 w428 p429 hs431 hE432 => ?_)
              have hs433 := st_tr hst hs431 (sub_B rfl)
              obtain ⟨rfl, hE432⟩ := hE432
              have hrp := hE432
              refine r_go rfl ?_
              have hb434 := rd_225_2 hs433.1
              have hb435 := rd_225_3 hs433.1
              have hb436 := rd_225_7 hs433.1
              have hb437 := rd_225_6 hs433.1
              exact w_lv (sub_c rfl sub_n) rfl (ih6 z427 w428 hs433 (by rw [hz4.1.1] at hrp; exact hrp) (by omega))
          · skip
            refine r_ld (pc' := 141) rfl rfl rfl rfl ?_
            have hb438 := rd_225_23 hz
            have hf439 : z 225 23 = z0 225 23 := un_z_225_23
            have hb440 := rd_225_3 hst.1
            have hb441 := rd_225_7 hz
            have hf442 : z 225 7 = z0 225 7 := un_z_225_7
            refine r_cVV (pc' := 144) rfl rfl rfl rfl rfl sh_225 (m_162x (d := d) h hst.1 hst.2.1 (by exact (tr8_f (fun i => hst.2.2.1 226 i (notS_c (by omega) (notS_c (by omega) (notS_c (by omega) (notS_c (by omega) (notS_c (by omega) (notS_c (by omega) (notS_c (by omega) (notS_c (by omega) (notS_c (by omega) (notS_c (by omega) (notS_c (by omega) (notS_c (by omega) (notS_c (by omega) (notS_c (by omega) (notS_c (by omega) (notS_c (by omega) (notS_c (by omega) (notS_c (by omega) (notS_n)))))))))))))))))))) (hst.2.2.1 225 5 (notS_c (by omega) (notS_c (by omega) (notS_c (by omega) (notS_c (by omega) (notS_c (by omega) (notS_c (by omega) (notS_c (by omega) (notS_c (by omega) (notS_c (by omega) (notS_c (by omega) (notS_c (by omega) (notS_c (by omega) (notS_c (by omega) (notS_c (by omega) (notS_c (by omega) (notS_c (by omega) (notS_c (by omega) (notS_c (by omega) (notS_n))))))))))))))))))))).trans hh) (by rw [hz4.1.1, hz4.1.2]; have hi := (hz4.2.resolve_right (by omega)).2; exact ⟨k, hRA, hm, hkp.1.mp hi.1, by rcases hcl with a | a; (exact a.1); (exfalso; have := hRA.2.1.1; omega), by have := hRA.2.1.1; omega⟩) (by first | omega | assumption | (simp only [hf439, hf442]; assumption)) (by first | omega | assumption | (simp only [hf439, hf442]; assumption))) (fun z444 w445 p446 hs448 hE449 => ?_)
            have hs450 := st_tr hst hs448 (sub_B rfl)
            obtain ⟨rfl, hE449⟩ := hE449
            have hrp := hE449
            refine r_go rfl ?_
            have hb451 := rd_225_2 hs450.1
            have hb452 := rd_225_3 hs450.1
            have hb453 := rd_225_7 hs450.1
            have hb454 := rd_225_6 hs450.1
            exact w_lv (sub_c rfl sub_n) rfl (ih6 z444 w445 hs450 (by rw [hz4.1.1] at hrp; exact hrp) (by omega))
        · skip
          have hb455 := rd_225_3 hst.1
          have hb456 := rd_225_7 hz
          have hf457 : z 225 7 = z0 225 7 := un_z_225_7
          exact r_ret rfl (po_V hst ⟨rfl, (by exact ⟨fun q => absurd q (by omega), as4.2.1, as4.2.2⟩)⟩)
      · intro  z w  hst as1 hM
        refine r_ld (pc' := 169) rfl rfl rfl rfl ?_
        have hb458 := rd_225_2 hst.1
        refine r_gi (pc' := 172) rfl rfl sh_225 rfl rfl ?_
        refine r_zne (pc' := 175) rfl rfl ⟨by omega, by omega⟩ (fun hc459 => ?_) (fun hc459 => ?_)
        · skip
          have hb460 := rd_225_6 hst.1
          have hb461 := rd_225_3 hst.1
          have hb462 := rd_225_7 hst.1
          exact w_lv (sub_c rfl sub_n) rfl (ih7 z w hst (by first | exact OK_p as1 (fun q _ => absurd q (by omega)) | exact OK_s2 as1 (by omega) (by omega) hwr _ (by omega) | exact OK_p as1 (fun _ c => ⟨c, by omega⟩)) (by omega))
        · skip
          refine r_ld (pc' := 176) rfl rfl rfl rfl ?_
          have hb463 := rd_225_6 hst.1
          refine r_gi (pc' := 179) rfl rfl sh_225 rfl rfl ?_
          refine r_cb (pc' := 181) rfl (by decide) rfl ?_
          refine r_ieq (pc' := 184) rfl rfl ⟨by omega, by omega⟩ ⟨by decide, by decide⟩ (fun hc464 => ?_) (fun hc464 => ?_)
          · skip
            have hb465 := rd_225_3 hst.1
            have hb466 := rd_225_7 hst.1
            exact w_lv (sub_c rfl sub_n) rfl (ih7 z w hst (by first | exact OK_p as1 (fun q _ => absurd q (by omega)) | exact OK_s2 as1 (by omega) (by omega) hwr _ (by omega) | exact OK_p as1 (fun _ c => ⟨c, by omega⟩)) (by omega))
          · skip
            refine r_ld (pc' := 185) rfl rfl rfl rfl ?_
            refine r_c0 (pc' := 186) rfl rfl ?_
            refine r_cVV (pc' := 189) rfl rfl rfl rfl rfl sh_225 (m_154x (d := d + 2) 2 hst.1 hst.2.1 ⟨by omega, by omega⟩) (fun z468 w469 p470 hs472 hE473 => ?_)
            have hs474 := st_tr hst hs472 (sub_B rfl)
            obtain ⟨rfl, hE473⟩ := hE473
            have hwr := hE473
            have hf475 : z468 225 6 = z 225 6 := (hs472.2.2.1 _ _ (notS_c (by omega) (notS_c (by omega) notS_n)))
            have hb476 := rd_225_2 hs474.1
            have hb477 := rd_225_3 hs474.1
            have hb478 := rd_225_7 hst.1
            have hf479 : z468 225 7 = z 225 7 := (hs472.2.2.1 _ _ (notS_c (by omega) (notS_c (by omega) notS_n)))
            exact w_lv (sub_c rfl sub_n) rfl (ih7 z468 w469 hs474 (by first | exact OK_p as1 (fun q _ => absurd q (by omega)) | exact OK_s2 as1 (by omega) (by omega) hwr _ (by omega) | exact OK_p as1 (fun _ c => ⟨c, by omega⟩)) (by omega))
      · intro  z w  hst as1 hM
        refine r_ld (pc' := 190) rfl rfl rfl rfl ?_
        have hb480 := rd_225_2 hst.1
        refine r_gi (pc' := 193) rfl rfl sh_225 rfl rfl ?_
        refine r_zne (pc' := 196) rfl rfl ⟨by omega, by omega⟩ (fun hc481 => ?_) (fun hc481 => ?_)
        · skip
          have hb482 := rd_225_3 hst.1
          have hb483 := rd_225_7 hst.1
          exact r_ret rfl (po_V hst ⟨rfl, (by first | exact OK_p as1 (fun q _ => absurd q (by omega)) | exact ⟨fun _ => ⟨RAz_i c9.1.1 c9.1.2 hfs htt.1, by omega, by omega⟩, fun q => absurd q (by omega), by have := as1.2.2; omega⟩)⟩)
        · skip
          have c9 := as1.1 (by omega)
          have hta := TKr_a (RPz_t c9.1.1)
          refine r_ld (pc' := 197) rfl rfl rfl rfl ?_
          have hb484 := rd_225_4 hst.1
          have hb485 := rd_225_5 hz
          have hf486 : z 225 5 = z0 225 5 := (hst.2.2.1 _ _ (notS_c (by omega) (notS_c (by omega) (notS_c (by omega) (notS_c (by omega) (notS_c (by omega) (notS_c (by omega) (notS_c (by omega) (notS_c (by omega) (notS_c (by omega) (notS_c (by omega) (notS_c (by omega) (notS_c (by omega) (notS_c (by omega) (notS_c (by omega) (notS_c (by omega) (notS_c (by omega) (notS_c (by omega) (notS_c (by omega) notS_n)))))))))))))))))))
          refine r_cVV (pc' := 200) rfl rfl rfl rfl rfl sh_225 (m_152x (d := d + 2) h hst.1 hst.2.1 (by exact (tr8_f (fun i => hst.2.2.1 226 i (notS_c (by omega) (notS_c (by omega) (notS_c (by omega) (notS_c (by omega) (notS_c (by omega) (notS_c (by omega) (notS_c (by omega) (notS_c (by omega) (notS_c (by omega) (notS_c (by omega) (notS_c (by omega) (notS_c (by omega) (notS_c (by omega) (notS_c (by omega) (notS_c (by omega) (notS_c (by omega) (notS_c (by omega) (notS_c (by omega) (notS_n)))))))))))))))))))) (hst.2.2.1 225 5 (notS_c (by omega) (notS_c (by omega) (notS_c (by omega) (notS_c (by omega) (notS_c (by omega) (notS_c (by omega) (notS_c (by omega) (notS_c (by omega) (notS_c (by omega) (notS_c (by omega) (notS_c (by omega) (notS_c (by omega) (notS_c (by omega) (notS_c (by omega) (notS_c (by omega) (notS_c (by omega) (notS_c (by omega) (notS_c (by omega) (notS_n))))))))))))))))))))).trans hh) (by first | omega | assumption | (simp only [hf486]; assumption))) (fun z488 w489 p490 hs492 hE493 => ?_)
          have hs494 := st_tr hst hs492 (sub_B rfl)
          obtain ⟨rfl, hE493⟩ := hE493
          have htt := hE493
          have hfs : Fs z w z488 w489 := ⟨fun i g1 g2 => (hs492.2.2.1 _ _ (notS_c (by omega) (notS_c (by omega) (notS_c (by omega) (notS_c (by omega) (notS_c (by omega) notS_n)))))), fun a i g1 g2 => (hs492.2.2.1 _ _ (notS_c (by omega) (notS_c (by omega) (notS_c (by omega) (notS_c (by omega) (notS_c (by omega) notS_n)))))), fun a i g1 g2 => (hs492.2.2.2 _ _ (notS_c (by omega) (notS_c (by omega) (notS_c (by omega) (notS_c (by omega) (notS_c (by omega) notS_n))))))⟩
          have hf495 : z488 225 2 = z 225 2 := (hs492.2.2.1 _ _ (notS_c (by omega) (notS_c (by omega) (notS_c (by omega) (notS_c (by omega) (notS_c (by omega) notS_n))))))
          have hb496 := rd_225_3 hst.1
          have hf497 : z488 225 3 = z 225 3 := (hs492.2.2.1 _ _ (notS_c (by omega) (notS_c (by omega) (notS_c (by omega) (notS_c (by omega) (notS_c (by omega) notS_n))))))
          have hb498 := rd_225_7 hs494.1
          exact r_ret rfl (po_V hs494 ⟨rfl, (by first | exact OK_p as1 (fun q _ => absurd q (by omega)) | exact ⟨fun _ => ⟨RAz_i c9.1.1 c9.1.2 hfs htt.1, by omega, by omega⟩, fun q => absurd q (by omega), by have := as1.2.2; omega⟩)⟩)
  refine w_m rfl rfl ?_
  refine r_ld (pc' := 1) rfl rfl rfl rfl ?_
  have hb499 := rd_225_24 hz
  refine r_gi (pc' := 4) rfl rfl sh_225 rfl rfl ?_
  refine r_ld (pc' := 5) rfl rfl rfl rfl ?_
  have hb500 := rd_225_25 hz
  refine r_gi (pc' := 8) rfl rfl sh_225 rfl rfl ?_
  refine r_add (pc' := 9) rfl rfl ?_
  refine r_zne (pc' := 12) rfl rfl ⟨by omega, by omega⟩ (fun hc501 => ?_) (fun hc501 => ?_)
  · skip
    refine r_c0 (pc' := 17) rfl rfl ?_
    refine r_st (pc' := 18) (lv' := [(1, _), (0, _)]) rfl rfl rfl rfl ?_
    refine r_ld (pc' := 19) rfl rfl rfl rfl ?_
    refine r_al (pc' := 22) rfl rfl rfl rfl ?_
    have hb502 := rd_225_6 hz
    have hb503 := rd_225_9 hw
    refine r_cVI (pc' := 25) rfl rfl rfl rfl rfl sh_225 (m_155 (d := d + 3) 482804589413 hst.1 hst.2.1 ⟨by omega, by omega⟩) (fun v504 z505 w506 p507 h508 hs509 hE510 => ?_)
    obtain ⟨rfl, rfl, rfl, hE510⟩ := hE510
    have hw6 := hE510
    refine r_zeq (pc' := 28) rfl rfl ⟨by omega, by omega⟩ (fun hc512 => ?_) (fun hc512 => ?_)
    · skip
      have hb513 := rd_225_2 hz
      have hb514 := rd_225_3 hz
      have hb515 := rd_225_4 hz
      have hb516 := rd_225_7 hz
      have hb517 := rd_225_8 hz
      have hb518 := rd_225_23 hz
      exact w_lv (sub_c rfl (sub_c rfl sub_n)) rfl ((key ((73 : Int).toNat + 1)).1 0 z0 w0 ⟨by omega, by omega⟩ hst (rfl) (rfl) (rfl) (rfl) (rfl) (rfl) (rfl) (rfl) (rfl) (rfl) (by first | exact ⟨rfl, rfl⟩ | exact asz) (by first | exact asx | omega) (by omega) (by omega))
    · skip
      refine r_ld (pc' := 29) rfl rfl rfl rfl ?_
      refine r_zeq (pc' := 32) rfl rfl ⟨by decide, by decide⟩ (fun hc519 => ?_) (fun hc519 => ?_)
      · skip
        have hb520 := rd_225_2 hz
        have hb521 := rd_225_3 hz
        have hb522 := rd_225_4 hz
        have hb523 := rd_225_7 hz
        have hb524 := rd_225_8 hz
        have hb525 := rd_225_23 hz
        exact w_lv (sub_c rfl (sub_c rfl sub_n)) rfl ((key ((73 : Int).toNat + 1)).1 0 z0 w0 ⟨by omega, by omega⟩ hst (rfl) (rfl) (rfl) (rfl) (rfl) (rfl) (rfl) (rfl) (rfl) (rfl) (by first | exact ⟨rfl, rfl⟩ | exact asz) (by first | exact asx | omega) (by omega) (by omega))
      · exfalso; omega
  · skip
    refine r_c0 (pc' := 13) rfl rfl ?_
    refine r_go rfl ?_
    refine r_st (pc' := 18) (lv' := [(1, _), (0, _)]) rfl rfl rfl rfl ?_
    refine r_ld (pc' := 19) rfl rfl rfl rfl ?_
    refine r_al (pc' := 22) rfl rfl rfl rfl ?_
    have hb526 := rd_225_6 hz
    have hb527 := rd_225_9 hw
    refine r_cVI (pc' := 25) rfl rfl rfl rfl rfl sh_225 (m_155 (d := d + 3) 482804589413 hst.1 hst.2.1 ⟨by omega, by omega⟩) (fun v528 z529 w530 p531 h532 hs533 hE534 => ?_)
    obtain ⟨rfl, rfl, rfl, hE534⟩ := hE534
    have hw6 := hE534
    refine r_zeq (pc' := 28) rfl rfl ⟨by omega, by omega⟩ (fun hc536 => ?_) (fun hc536 => ?_)
    · skip
      have hb537 := rd_225_2 hz
      have hb538 := rd_225_3 hz
      have hb539 := rd_225_4 hz
      have hb540 := rd_225_7 hz
      have hb541 := rd_225_8 hz
      have hb542 := rd_225_23 hz
      exact w_lv (sub_c rfl (sub_c rfl sub_n)) rfl ((key ((73 : Int).toNat + 1)).1 1 z0 w0 ⟨by omega, by omega⟩ hst (rfl) (rfl) (rfl) (rfl) (rfl) (rfl) (rfl) (rfl) (rfl) (rfl) (by first | exact ⟨rfl, rfl⟩ | exact asz) (by first | exact asx | omega) (by omega) (by omega))
    · skip
      refine r_ld (pc' := 29) rfl rfl rfl rfl ?_
      refine r_zeq (pc' := 32) rfl rfl ⟨by decide, by decide⟩ (fun hc543 => ?_) (fun hc543 => ?_)
      · exfalso; omega
      · skip
        refine r_ld (pc' := 33) rfl rfl rfl rfl ?_
        have hb544 := rd_225_23 hz
        refine r_gi (pc' := 36) rfl rfl sh_225 rfl rfl ?_
        refine r_cb (pc' := 38) rfl (by decide) rfl ?_
        refine r_ige (pc' := 41) rfl rfl ⟨by omega, by omega⟩ ⟨by decide, by decide⟩ (fun hc545 => ?_) (fun hc545 => ?_)
        · skip
          have hb546 := rd_225_2 hz
          have hb547 := rd_225_3 hz
          have hb548 := rd_225_4 hz
          have hb549 := rd_225_7 hz
          have hb550 := rd_225_8 hz
          exact w_lv (sub_c rfl (sub_c rfl sub_n)) rfl ((key ((73 : Int).toNat + 1)).1 1 z0 w0 ⟨by omega, by omega⟩ hst (rfl) (rfl) (rfl) (rfl) (rfl) (rfl) (rfl) (rfl) (rfl) (rfl) (by first | exact ⟨rfl, rfl⟩ | exact asz) (by first | exact asx | omega) (by omega) (by omega))
        · skip
          refine r_c0 (pc' := 42) rfl rfl ?_
          refine r_go rfl ?_
          refine r_st (pc' := 47) (lv' := [(2, _), (1, _), (0, _)]) rfl rfl rfl rfl ?_
          refine r_ld (pc' := 48) rfl rfl rfl rfl ?_
          refine r_al (pc' := 51) rfl rfl rfl rfl ?_
          refine r_cVI (pc' := 54) rfl rfl rfl rfl rfl sh_225 (m_155 (d := d + 3) 1818848869 hst.1 hst.2.1 ⟨by omega, by omega⟩) (fun v551 z552 w553 p554 h555 hs556 hE557 => ?_)
          obtain ⟨rfl, rfl, rfl, hE557⟩ := hE557
          have hw7 := hE557
          refine r_zeq (pc' := 57) rfl rfl ⟨by omega, by omega⟩ (fun hc559 => ?_) (fun hc559 => ?_)
          · skip
            have hb560 := rd_225_2 hz
            have hb561 := rd_225_3 hz
            have hb562 := rd_225_4 hz
            have hb563 := rd_225_7 hz
            have hb564 := rd_225_8 hz
            exact w_lv (sub_c rfl (sub_c rfl (sub_c rfl sub_n))) rfl ((key ((63 : Int).toNat + 1)).2.1 1 1 z0 w0 ⟨by omega, by omega⟩ ⟨by omega, by omega⟩ hst (rfl) (rfl) (rfl) (rfl) (rfl) (rfl) (rfl) (rfl) (rfl) (rfl) (by first | exact ⟨rfl, rfl⟩ | exact asz) (by first | exact asx | omega) (by first | exact asp | exact Or.inr ⟨by omega, asp⟩ | exact Or.inl ⟨by omega, by omega, by omega, by omega⟩) (by first | omega | (obtain ⟨e1, e2⟩ := asz; subst e1; subst e2; omega)) (by omega))
          · skip
            refine r_ld (pc' := 58) rfl rfl rfl rfl ?_
            refine r_gi (pc' := 61) rfl rfl sh_225 rfl rfl ?_
            refine r_cb (pc' := 63) rfl (by decide) rfl ?_
            refine r_ilt (pc' := 66) rfl rfl ⟨by omega, by omega⟩ ⟨by decide, by decide⟩ (fun hc565 => ?_) (fun hc565 => ?_)
            · skip
              have hb566 := rd_225_2 hz
              have hb567 := rd_225_3 hz
              have hb568 := rd_225_4 hz
              have hb569 := rd_225_7 hz
              have hb570 := rd_225_8 hz
              exact w_lv (sub_c rfl (sub_c rfl (sub_c rfl sub_n))) rfl ((key ((55 : Int).toNat + 1)).2.2.1 1 1 z0 w0 ⟨by omega, by omega⟩ ⟨by omega, by omega⟩ hst (rfl) (rfl) (rfl) (rfl) (rfl) (rfl) (rfl) (rfl) (rfl) (rfl) (by first | exact ⟨rfl, rfl⟩ | exact asz) (by first | exact asx | omega) (by first | exact asp | exact Or.inr ⟨by omega, asp⟩ | exact Or.inl ⟨by omega, by omega, by omega, by omega⟩) (by first | omega | (obtain ⟨e1, e2⟩ := asz; subst e1; subst e2; omega)) (by omega))
            · exfalso; omega
/-- LoopGroundModel readAll -/
abbrev S_170x  : mS := [(225, 225, 5, 5), (225, 225, 1, 1), (225, 225, 4, 4), (225, 225, 2, 2), (225, 225, 3, 3), (225, 225, 23, 23), (225, 225, 24, 24), (225, 225, 25, 25), (225, 225, 7, 7), (225, 225, 9, 9), (225, 225, 8, 8), (225, 225, 6, 6), (230, 230, 0, 17), (232, 232, 0, 47), (233, 233, 0, 47), (228, 228, 0, 5), (234, 234, 0, 5), (231, 231, 0, 143), (227, 227, 0, 7), (229, 229, 0, 35)]
abbrev E_170x (h : Int → Int) (z0 w0 : mZ) (x y tx it mt tt ct : Option Nat) : mZ → mZ → mP → Prop := fun z w p => p = (pq x y tx it mt tt ct) ∧ ((z 225 2 = 0 → REz h z w ∧ z 225 3 = -1) ∧ (0 < z 225 2 → RF h z) ∧ z 225 1 = 0)
theorem m_170x {d : Nat} {z0 w0 : mZ} {x y tx it mt tt ct : Option Nat} (h : Int → Int) (hz : rz z0) (hw : rw_ w0) (hhx : hr (z0 226) (z0 225 1) = h) : wc (d + 6) 170 [.ref 225] (mk z0 w0 (pq x y tx it mt tt ct)) (poV S_170x z0 w0 (E_170x h z0 w0 x y tx it mt tt ct)) := by
  have hst : st_ S_170x z0 w0 z0 w0 := st_rf hz hw
  have hz90 := rd_225_1 hz
  have key : ∀ N : Nat, (∀ (x1 : Int) (z w : mZ), 0 ≤ x1 ∧ x1 ≤ 18 → st_ S_170x z0 w0 z w → w 225 9 = w0 225 9 → z 225 6 = z0 225 6 → z 225 7 = z0 225 7 → z 225 8 = z0 225 8 → (z 225 4 = 0 ∧ z 225 2 = 0 ∧ z 225 3 = -1 ∧ z 225 1 = 0) → (z 225 23 = 0 ∧ z 225 24 = 0 ∧ z 225 25 = 0) → (∀ e : Nat, (e : Int) < x1 → z 230 e = 0) → (tr8 z = h) → 64 * (18 - x1) + 20036 < (N : Int) → wp_ (d + 5) 170 2 none (45, [(0, .ref 225), (1, .int (Int32.ofInt x1))], [], mk z w (pq x y tx it mt tt ct)) (poV S_170x z0 w0 (E_170x h z0 w0 x y tx it mt tt ct))) ∧ (∀ (z w : mZ), st_ S_170x z0 w0 z w → ((z 225 2 = 0 → RAz h z w ∧ z 225 3 = -1) ∧ (0 < z 225 2 → RF h z)) → (z 225 1 = 0) → (tr8 z = h) → 1000 + 7 * (1601 - z 225 7) - z 225 2 < (N : Int) → wp_ (d + 5) 170 2 none (68, [(0, .ref 225)], [], mk z w (pq x y tx it mt tt ct)) (poV S_170x z0 w0 (E_170x h z0 w0 x y tx it mt tt ct))) ∧ (∀ (z w : mZ), st_ S_170x z0 w0 z w → ((z 225 2 = 0 → RAz h z w ∧ z 225 3 = -1) ∧ (0 < z 225 2 → RF h z)) → (z 225 1 = 0) → (z 225 2 = 0 → z 225 6 = 0) → 15 < (N : Int) → wp_ (d + 5) 170 2 none (89, [(0, .ref 225)], [], mk z w (pq x y tx it mt tt ct)) (poV S_170x z0 w0 (E_170x h z0 w0 x y tx it mt tt ct))) := by
    intro N
    induction N with
    | zero =>
      refine ⟨?_, ?_, ?_⟩
      · intro x1 z w
        intros; exfalso; omega
      · intro  z w
        intro hst
        have hb91 := rd_225_7 hst.1
        have hb92 := rd_225_2 hst.1
        have hb7 := rd_225_7 hst.1; have hb2 := rd_225_2 hst.1
        intros; exfalso; omega
      · intro  z w
        intros; exfalso; omega
    | succ N ih =>
      obtain ⟨ih0, ih1, ih2⟩ := ih
      refine ⟨?_, ?_, ?_⟩
      · intro x1 z w  hx1 hst un_w_225_9 un_z_225_6 un_z_225_7 un_z_225_8 as1 as2 as3 ash hM
        refine r_ld (pc' := 46) rfl rfl rfl rfl ?_
        refine r_cb (pc' := 48) rfl (by decide) rfl ?_
        refine r_ige (pc' := 51) rfl rfl ⟨by omega, by omega⟩ ⟨by decide, by decide⟩ (fun hc93 => ?_) (fun hc93 => ?_)
        · skip
          have hb5 := rd_225_5 hst.1
          refine r_ld (pc' := 65) rfl rfl rfl rfl ?_
          have hb94 := rd_225_4 hst.1
          have hb95 := rd_225_5 hst.1
          refine r_cVV (pc' := 68) rfl rfl rfl rfl rfl sh_225 (m_152x (d := d + 3) h hst.1 hst.2.1 (by exact ash) (by first | omega | assumption)) (fun z97 w98 p99 hs101 hE102 => ?_)
          have hs103 := st_tr hst hs101 (sub_B rfl)
          obtain ⟨rfl, hE102⟩ := hE102
          have htt := hE102
          have hb104 := rd_225_2 hst.1
          have hf105 : z97 225 2 = z 225 2 := (hs101.2.2.1 _ _ (notS_c (by omega) (notS_c (by omega) (notS_c (by omega) (notS_c (by omega) (notS_c (by omega) notS_n))))))
          have hb106 := rd_225_3 hst.1
          have hf107 : z97 225 3 = z 225 3 := (hs101.2.2.1 _ _ (notS_c (by omega) (notS_c (by omega) (notS_c (by omega) (notS_c (by omega) (notS_c (by omega) notS_n))))))
          have hb108 := rd_225_1 hst.1
          have hf109 : z97 225 1 = z 225 1 := (hs101.2.2.1 _ _ (notS_c (by omega) (notS_c (by omega) (notS_c (by omega) (notS_c (by omega) (notS_c (by omega) notS_n))))))
          have hb110 := rd_225_7 hs103.1
          have hb111 := rd_225_4 hs103.1
          have hb112 := rd_225_6 hs103.1
          have hb113 := rd_225_23 hst.1
          have hf114 : z97 225 23 = z 225 23 := (hs101.2.2.1 _ _ (notS_c (by omega) (notS_c (by omega) (notS_c (by omega) (notS_c (by omega) (notS_c (by omega) notS_n))))))
          have hb115 := rd_225_24 hst.1
          have hf116 : z97 225 24 = z 225 24 := (hs101.2.2.1 _ _ (notS_c (by omega) (notS_c (by omega) (notS_c (by omega) (notS_c (by omega) (notS_c (by omega) notS_n))))))
          have hb117 := rd_225_25 hst.1
          have hf118 : z97 225 25 = z 225 25 := (hs101.2.2.1 _ _ (notS_c (by omega) (notS_c (by omega) (notS_c (by omega) (notS_c (by omega) (notS_c (by omega) notS_n))))))
          have hf119 : z97 225 5 = z 225 5 := (hs101.2.2.1 _ _ (notS_c (by omega) (notS_c (by omega) (notS_c (by omega) (notS_c (by omega) (notS_c (by omega) notS_n))))))
          have hb7 := rd_225_7 hs103.1
          exact w_lv (sub_c rfl sub_n) rfl (ih1 z97 w98 hs103 (by first | (refine ⟨fun q => ?_, hrl.2.1⟩; have g := hrl.1 q; exact ⟨g.1, by omega⟩) | exact ⟨fun _ => ⟨RAz_0 (by have q9 := htt.1; rw [as1.1] at q9; exact q9) (by omega) (by omega) (by omega) (fun e he => ((hs101.2.2.1 _ _ (notS_c (by omega) (notS_c (by omega) (notS_c (by omega) (notS_c (by omega) (notS_c (by omega) notS_n))))))).trans (as3 e (by omega))), by omega⟩, fun q => absurd q (by omega)⟩) (by first | omega | exact ((hs101.2.2.1 _ _ (notS_c (by omega) (notS_c (by omega) (notS_c (by omega) (notS_c (by omega) (notS_c (by omega) notS_n))))))).trans as9) (by first | exact ash | exact (tr8_f (fun i => (hs101.2.2.1 _ _ (notS_c (by omega) (notS_c (by omega) (notS_c (by omega) (notS_c (by omega) (notS_c (by omega) notS_n))))))) ((hs101.2.2.1 _ _ (notS_c (by omega) (notS_c (by omega) (notS_c (by omega) (notS_c (by omega) (notS_c (by omega) notS_n)))))))).trans ash) (by omega))
        · skip
          refine r_ld (pc' := 52) rfl rfl rfl rfl ?_
          refine r_gr (b := 230) (pc' := 55) rfl rfl sh_225 rfl pp_225_13 ?_
          refine r_ld (pc' := 56) rfl rfl rfl rfl ?_
          refine r_c0 (pc' := 57) rfl rfl ?_
          refine r_is (pc' := 58) rfl rfl sh_230 rfl (by omega) (by omega) hst (inS_s (inS_s (inS_s (inS_s (inS_s (inS_s (inS_s (inS_s (inS_s (inS_s (inS_s (inS_s (inS_0 (by omega) (by omega) (by omega) (by omega)))))))))))))) (wr_230 ⟨by omega, by omega⟩) (fun z120 hq121 hs122 => ?_)
          have hqz := hq121
          refine r_inc (pc' := 61) (lv' := [(0, _)]) rfl rfl rfl rfl rfl ?_
          refine r_go rfl ?_
          have hb123 := rd_225_4 hst.1
          have hf124 : z120 225 4 = z 225 4 := ((congrFun (congrFun hq121 _) _).trans (mu_ne (by omega)))
          have hb125 := rd_225_2 hst.1
          have hf126 : z120 225 2 = z 225 2 := ((congrFun (congrFun hq121 _) _).trans (mu_ne (by omega)))
          have hb127 := rd_225_3 hst.1
          have hf128 : z120 225 3 = z 225 3 := ((congrFun (congrFun hq121 _) _).trans (mu_ne (by omega)))
          have hb129 := rd_225_1 hst.1
          have hf130 : z120 225 1 = z 225 1 := ((congrFun (congrFun hq121 _) _).trans (mu_ne (by omega)))
          have hb131 := rd_225_23 hst.1
          have hf132 : z120 225 23 = z 225 23 := ((congrFun (congrFun hq121 _) _).trans (mu_ne (by omega)))
          have hb133 := rd_225_24 hst.1
          have hf134 : z120 225 24 = z 225 24 := ((congrFun (congrFun hq121 _) _).trans (mu_ne (by omega)))
          have hb135 := rd_225_25 hst.1
          have hf136 : z120 225 25 = z 225 25 := ((congrFun (congrFun hq121 _) _).trans (mu_ne (by omega)))
          have hb137 := rd_225_7 hz
          have hf138 : z120 225 7 = z0 225 7 := (((congrFun (congrFun hq121 _) _).trans (mu_ne (by omega))).trans un_z_225_7)
          have hb139 := rd_225_6 hz
          have hf140 : z120 225 6 = z0 225 6 := (((congrFun (congrFun hq121 _) _).trans (mu_ne (by omega))).trans un_z_225_6)
          have hb141 := rd_225_5 hst.1
          have hf142 : z120 225 5 = z 225 5 := ((congrFun (congrFun hq121 _) _).trans (mu_ne (by omega)))
          have hb143 := rd_225_9 hw
          have hb144 := rd_225_8 hz
          exact w_lv (sub_c rfl (sub_c rfl sub_n)) rfl (ih0 (x1 + 1) z120 w ⟨by omega, by omega⟩ hs122 (un_w_225_9) ((((congrFun (congrFun hq121 _) _).trans (mu_ne (by omega))).trans un_z_225_6)) ((((congrFun (congrFun hq121 _) _).trans (mu_ne (by omega))).trans un_z_225_7)) ((((congrFun (congrFun hq121 _) _).trans (mu_ne (by omega))).trans un_z_225_8)) (by first | omega | assumption | (simp only [hf124, hf126, hf128, hf130, hf132, hf134, hf136, hf138, hf140, hf142]; assumption)) (by first | omega | assumption | (simp only [hf124, hf126, hf128, hf130, hf132, hf134, hf136, hf138, hf140, hf142]; assumption)) (by first | (intro e he; exfalso; omega) | (intro e he; rw [hqz]; by_cases c : e = x1.toNat; (subst c; exact mu_eq); (rw [mu_ne (by omega)]; exact as3 e (by omega)))) (by first | exact hh0 | exact (tr8_f (fun i => ((congrFun (congrFun hq121 _) _).trans (mu_ne (by omega)))) (((congrFun (congrFun hq121 _) _).trans (mu_ne (by omega))))).trans ash) (by omega))
      · intro  z w  hst as1 as9 ash hM
        have hb7 := rd_225_7 hst.1
        refine r_ld (pc' := 69) rfl rfl rfl rfl ?_
        have hb145 := rd_225_2 hst.1
        refine r_gi (pc' := 72) rfl rfl sh_225 rfl rfl ?_
        refine r_zne (pc' := 75) rfl rfl ⟨by omega, by omega⟩ (fun hc146 => ?_) (fun hc146 => ?_)
        · skip
          have hb147 := rd_225_3 hst.1
          have hb148 := rd_225_1 hst.1
          have hb149 := rd_225_6 hst.1
          have hb150 := rd_225_7 hst.1
          have hb151 := rd_225_4 hst.1
          have hb152 := rd_225_23 hst.1
          have hb153 := rd_225_24 hst.1
          have hb154 := rd_225_25 hst.1
          have hb155 := rd_225_5 hst.1
          exact w_lv (sub_c rfl sub_n) rfl (ih2 z w hst (by exact as1) (by first | omega | assumption) (by first | (intro q; omega) | (intro q; exfalso; omega)) (by omega))
        · skip
          refine r_ld (pc' := 76) rfl rfl rfl rfl ?_
          have hb156 := rd_225_6 hst.1
          refine r_gi (pc' := 79) rfl rfl sh_225 rfl rfl ?_
          refine r_zeq (pc' := 82) rfl rfl ⟨by omega, by omega⟩ (fun hc157 => ?_) (fun hc157 => ?_)
          · skip
            have hb158 := rd_225_3 hst.1
            have hb159 := rd_225_1 hst.1
            have hb160 := rd_225_7 hst.1
            have hb161 := rd_225_4 hst.1
            have hb162 := rd_225_23 hst.1
            have hb163 := rd_225_24 hst.1
            have hb164 := rd_225_25 hst.1
            have hb165 := rd_225_5 hst.1
            exact w_lv (sub_c rfl sub_n) rfl (ih2 z w hst (by exact as1) (by first | omega | assumption) (by first | (intro q; omega) | (intro q; exfalso; omega)) (by omega))
          · skip
            have c9 := as1.1 (by omega)
            have hta := TKr_a (RAz_t c9.1)
            refine r_ld (pc' := 83) rfl rfl rfl rfl ?_
            refine r_cVV (pc' := 86) rfl rfl rfl rfl rfl sh_225 (m_169x (d := d) h hst.1 hst.2.1 (by exact ash) (by exact c9.1) (by first | omega | assumption) (by first | omega | assumption)) (fun z167 w168 p169 hs171 hE172 => ?_)
            have hs173 := st_tr hst hs171 (sub_B rfl)
            obtain ⟨rfl, hE172⟩ := hE172
            have hrl := hE172
            have hg7 := hrl.2.2
            have hg8 : z167 225 2 = 0 → z 225 7 < z167 225 7 := fun q => (hrl.1 q).2.2
            refine r_go rfl ?_
            have hb174 := rd_225_2 hs173.1
            have hb175 := rd_225_3 hs173.1
            have hb176 := rd_225_1 hst.1
            have hf177 : z167 225 1 = z 225 1 := (hs171.2.2.1 _ _ (notS_c (by omega) (notS_c (by omega) (notS_c (by omega) (notS_c (by omega) (notS_c (by omega) (notS_c (by omega) (notS_c (by omega) (notS_c (by omega) (notS_c (by omega) (notS_c (by omega) (notS_c (by omega) (notS_c (by omega) (notS_c (by omega) (notS_c (by omega) (notS_c (by omega) (notS_c (by omega) (notS_c (by omega) (notS_c (by omega) notS_n)))))))))))))))))))
            have hb178 := rd_225_7 hs173.1
            have hb179 := rd_225_4 hs173.1
            have hb180 := rd_225_6 hs173.1
            have hb181 := rd_225_23 hs173.1
            have hb182 := rd_225_24 hs173.1
            have hb183 := rd_225_25 hs173.1
            have hb184 := rd_225_5 hst.1
            have hf185 : z167 225 5 = z 225 5 := (hs171.2.2.1 _ _ (notS_c (by omega) (notS_c (by omega) (notS_c (by omega) (notS_c (by omega) (notS_c (by omega) (notS_c (by omega) (notS_c (by omega) (notS_c (by omega) (notS_c (by omega) (notS_c (by omega) (notS_c (by omega) (notS_c (by omega) (notS_c (by omega) (notS_c (by omega) (notS_c (by omega) (notS_c (by omega) (notS_c (by omega) (notS_c (by omega) notS_n)))))))))))))))))))
            have hb7 := rd_225_7 hs173.1
            exact w_lv (sub_c rfl sub_n) rfl (ih1 z167 w168 hs173 (by first | (refine ⟨fun q => ?_, hrl.2.1⟩; have g := hrl.1 q; exact ⟨g.1, by omega⟩) | exact ⟨fun _ => ⟨RAz_0 (by have q9 := htt.1; rw [as1.1] at q9; exact q9) (by omega) (by omega) (by omega) (fun e he => ((hs171.2.2.1 _ _ (notS_c (by omega) (notS_c (by omega) (notS_c (by omega) (notS_c (by omega) (notS_c (by omega) (notS_c (by omega) (notS_c (by omega) (notS_c (by omega) (notS_c (by omega) (notS_c (by omega) (notS_c (by omega) (notS_c (by omega) (notS_c (by omega) (notS_c (by omega) (notS_c (by omega) (notS_c (by omega) (notS_c (by omega) (notS_c (by omega) notS_n)))))))))))))))))))).trans (as3 e (by omega))), by omega⟩, fun q => absurd q (by omega)⟩) (by first | omega | exact ((hs171.2.2.1 _ _ (notS_c (by omega) (notS_c (by omega) (notS_c (by omega) (notS_c (by omega) (notS_c (by omega) (notS_c (by omega) (notS_c (by omega) (notS_c (by omega) (notS_c (by omega) (notS_c (by omega) (notS_c (by omega) (notS_c (by omega) (notS_c (by omega) (notS_c (by omega) (notS_c (by omega) (notS_c (by omega) (notS_c (by omega) (notS_c (by omega) notS_n)))))))))))))))))))).trans as9) (by first | exact ash | exact (tr8_f (fun i => (hs171.2.2.1 _ _ (notS_c (by omega) (notS_c (by omega) (notS_c (by omega) (notS_c (by omega) (notS_c (by omega) (notS_c (by omega) (notS_c (by omega) (notS_c (by omega) (notS_c (by omega) (notS_c (by omega) (notS_c (by omega) (notS_c (by omega) (notS_c (by omega) (notS_c (by omega) (notS_c (by omega) (notS_c (by omega) (notS_c (by omega) (notS_c (by omega) notS_n)))))))))))))))))))) ((hs171.2.2.1 _ _ (notS_c (by omega) (notS_c (by omega) (notS_c (by omega) (notS_c (by omega) (notS_c (by omega) (notS_c (by omega) (notS_c (by omega) (notS_c (by omega) (notS_c (by omega) (notS_c (by omega) (notS_c (by omega) (notS_c (by omega) (notS_c (by omega) (notS_c (by omega) (notS_c (by omega) (notS_c (by omega) (notS_c (by omega) (notS_c (by omega) notS_n))))))))))))))))))))).trans ash) (by omega))
      · intro  z w  hst as1 as9 as3 hM
        refine r_ld (pc' := 90) rfl rfl rfl rfl ?_
        have hb186 := rd_225_2 hst.1
        refine r_gi (pc' := 93) rfl rfl sh_225 rfl rfl ?_
        refine r_zne (pc' := 96) rfl rfl ⟨by omega, by omega⟩ (fun hc187 => ?_) (fun hc187 => ?_)
        · skip
          have hb188 := rd_225_3 hst.1
          have hb189 := rd_225_1 hst.1
          have hb190 := rd_225_7 hst.1
          exact r_ret rfl (po_V hst ⟨rfl, (by first | exact ⟨fun q => absurd q (by omega), as1.2, by omega⟩ | exact ⟨fun q => ⟨REz_i c9.1 (by omega) (as3 (by omega)) (Or.inl (by omega)), by omega⟩, fun q => absurd q (by omega), by omega⟩ | exact ⟨fun q => ⟨REz_i c9.1 (by omega) (as3 (by omega)) (Or.inr (hiw.1 (by omega))), by omega⟩, fun q => absurd q (by omega), by omega⟩ | (obtain ⟨⟨k, c1, c2, c3⟩, _⟩ := c9; have g := RL_6 c1 c2 c3 (by omega) (by omega) (Or.inl ((tk0 c1.1).mp (as3 (by omega)))) (hiw.2 (by omega)) (by omega) hwr; exact ⟨fun q => absurd q (by obtain ⟨_, _, _, _, g2⟩ := g; omega), fun _ => g, by omega⟩))⟩)
        · skip
          have c9 := as1.1 (by omega)
          have hb23 := rd_225_23 hst.1
          have hb24 := rd_225_24 hst.1
          have hb25 := rd_225_25 hst.1
          refine r_ld (pc' := 97) rfl rfl rfl rfl ?_
          have hb191 := rd_225_24 hst.1
          refine r_gi (pc' := 100) rfl rfl sh_225 rfl rfl ?_
          refine r_ld (pc' := 101) rfl rfl rfl rfl ?_
          have hb192 := rd_225_25 hst.1
          refine r_gi (pc' := 104) rfl rfl sh_225 rfl rfl ?_
          refine r_add (pc' := 105) rfl rfl ?_
          refine r_zne (pc' := 108) rfl rfl ⟨by omega, by omega⟩ (fun hc193 => ?_) (fun hc193 => ?_)
          · skip
            have hb194 := rd_225_3 hst.1
            have hb195 := rd_225_1 hst.1
            have hb196 := rd_225_7 hst.1
            exact r_ret rfl (po_V hst ⟨rfl, (by first | exact ⟨fun q => absurd q (by omega), as1.2, by omega⟩ | exact ⟨fun q => ⟨REz_i c9.1 (by omega) (as3 (by omega)) (Or.inl (by omega)), by omega⟩, fun q => absurd q (by omega), by omega⟩ | exact ⟨fun q => ⟨REz_i c9.1 (by omega) (as3 (by omega)) (Or.inr (hiw.1 (by omega))), by omega⟩, fun q => absurd q (by omega), by omega⟩ | (obtain ⟨⟨k, c1, c2, c3⟩, _⟩ := c9; have g := RL_6 c1 c2 c3 (by omega) (by omega) (Or.inl ((tk0 c1.1).mp (as3 (by omega)))) (hiw.2 (by omega)) (by omega) hwr; exact ⟨fun q => absurd q (by obtain ⟨_, _, _, _, g2⟩ := g; omega), fun _ => g, by omega⟩))⟩)
          · skip
            refine r_ld (pc' := 109) rfl rfl rfl rfl ?_
            have hb197 := rd_225_23 hst.1
            refine r_cVI (pc' := 112) rfl rfl rfl rfl rfl sh_225 (m_163x (d := d + 3)  hst.1 hst.2.1 ) (fun v198 z199 w200 p201 h202 hs203 hE204 => ?_)
            obtain ⟨rfl, rfl, rfl, hE204⟩ := hE204
            have hiw := hE204.2.2
            refine r_zne (pc' := 115) rfl rfl ⟨by omega, by omega⟩ (fun hc206 => ?_) (fun hc206 => ?_)
            · skip
              have hb207 := rd_225_3 hst.1
              have hb208 := rd_225_1 hst.1
              have hb209 := rd_225_7 hst.1
              exact r_ret rfl (po_V hst ⟨rfl, (by first | exact ⟨fun q => absurd q (by omega), as1.2, by omega⟩ | exact ⟨fun q => ⟨REz_i c9.1 (by omega) (as3 (by omega)) (Or.inl (by omega)), by omega⟩, fun q => absurd q (by omega), by omega⟩ | exact ⟨fun q => ⟨REz_i c9.1 (by omega) (as3 (by omega)) (Or.inr (hiw.1 (by omega))), by omega⟩, fun q => absurd q (by omega), by omega⟩ | (obtain ⟨⟨k, c1, c2, c3⟩, _⟩ := c9; have g := RL_6 c1 c2 c3 (by omega) (by omega) (Or.inl ((tk0 c1.1).mp (as3 (by omega)))) (hiw.2 (by omega)) (by omega) hwr; exact ⟨fun q => absurd q (by obtain ⟨_, _, _, _, g2⟩ := g; omega), fun _ => g, by omega⟩))⟩)
            · skip
              refine r_ld (pc' := 116) rfl rfl rfl rfl ?_
              refine r_cb (pc' := 118) rfl (by decide) rfl ?_
              refine r_cVV (pc' := 121) rfl rfl rfl rfl rfl sh_225 (m_154x (d := d + 3) 6 hst.1 hst.2.1 ⟨by omega, by omega⟩) (fun z211 w212 p213 hs215 hE216 => ?_)
              have hs217 := st_tr hst hs215 (sub_B rfl)
              obtain ⟨rfl, hE216⟩ := hE216
              have hwr := hE216
              have hb218 := rd_225_2 hs217.1
              have hb219 := rd_225_3 hs217.1
              have hb220 := rd_225_1 hst.1
              have hf221 : z211 225 1 = z 225 1 := (hs215.2.2.1 _ _ (notS_c (by omega) (notS_c (by omega) notS_n)))
              have hb222 := rd_225_7 hst.1
              have hf223 : z211 225 7 = z 225 7 := (hs215.2.2.1 _ _ (notS_c (by omega) (notS_c (by omega) notS_n)))
              exact r_ret rfl (po_V hs217 ⟨rfl, (by first | exact ⟨fun q => absurd q (by omega), as1.2, by omega⟩ | exact ⟨fun q => ⟨REz_i c9.1 (by omega) (as3 (by omega)) (Or.inl (by omega)), by omega⟩, fun q => absurd q (by omega), by omega⟩ | exact ⟨fun q => ⟨REz_i c9.1 (by omega) (as3 (by omega)) (Or.inr (hiw.1 (by omega))), by omega⟩, fun q => absurd q (by omega), by omega⟩ | (obtain ⟨⟨k, c1, c2, c3⟩, _⟩ := c9; have g := RL_6 c1 c2 c3 (by omega) (by omega) (Or.inl ((tk0 c1.1).mp (as3 (by omega)))) (hiw.2 (by omega)) (by omega) hwr; exact ⟨fun q => absurd q (by obtain ⟨_, _, _, _, g2⟩ := g; omega), fun _ => g, by omega⟩))⟩)
  refine w_m rfl rfl ?_
  refine r_ld (pc' := 1) rfl rfl rfl rfl ?_
  refine r_ld (pc' := 2) rfl rfl rfl rfl ?_
  have hb224 := rd_225_1 hz
  refine r_gi (pc' := 5) rfl rfl sh_225 rfl rfl ?_
  refine r_pi (pc' := 8) rfl rfl sh_225 rfl rfl hst (inS_0 (by omega) (by omega) (by omega) (by omega)) (wr_225_5 ⟨by omega, by omega⟩) (fun z225 hq226 hs227 => ?_)
  have h55 : z225 225 5 = z0 225 1 := (congrFun (congrFun hq226 _) _).trans mu_eq
  refine r_ld (pc' := 9) rfl rfl rfl rfl ?_
  refine r_c0 (pc' := 10) rfl rfl ?_
  refine r_pi (pc' := 13) rfl rfl sh_225 rfl rfl hs227 (inS_s (inS_0 (by omega) (by omega) (by omega) (by omega))) (wr_225_1 ⟨by omega, by omega⟩) (fun z228 hq229 hs230 => ?_)
  refine r_ld (pc' := 14) rfl rfl rfl rfl ?_
  refine r_c0 (pc' := 15) rfl rfl ?_
  refine r_pi (pc' := 18) rfl rfl sh_225 rfl rfl hs230 (inS_s (inS_s (inS_0 (by omega) (by omega) (by omega) (by omega)))) (wr_225_4 ⟨by omega, by omega⟩) (fun z231 hq232 hs233 => ?_)
  refine r_ld (pc' := 19) rfl rfl rfl rfl ?_
  refine r_c0 (pc' := 20) rfl rfl ?_
  refine r_pi (pc' := 23) rfl rfl sh_225 rfl rfl hs233 (inS_s (inS_s (inS_s (inS_0 (by omega) (by omega) (by omega) (by omega))))) (wr_225_2 ⟨by omega, by omega⟩) (fun z234 hq235 hs236 => ?_)
  refine r_ld (pc' := 24) rfl rfl rfl rfl ?_
  refine r_c0 (pc' := 25) rfl rfl ?_
  refine r_pi (pc' := 28) rfl rfl sh_225 rfl rfl hs236 (inS_s (inS_s (inS_s (inS_s (inS_0 (by omega) (by omega) (by omega) (by omega)))))) (wr_225_3 ⟨by omega, by omega⟩) (fun z237 hq238 hs239 => ?_)
  refine r_ld (pc' := 29) rfl rfl rfl rfl ?_
  refine r_c0 (pc' := 30) rfl rfl ?_
  refine r_pi (pc' := 33) rfl rfl sh_225 rfl rfl hs239 (inS_s (inS_s (inS_s (inS_s (inS_s (inS_0 (by omega) (by omega) (by omega) (by omega))))))) (wr_225_23 ⟨by omega, by omega⟩) (fun z240 hq241 hs242 => ?_)
  refine r_ld (pc' := 34) rfl rfl rfl rfl ?_
  refine r_c0 (pc' := 35) rfl rfl ?_
  refine r_pi (pc' := 38) rfl rfl sh_225 rfl rfl hs242 (inS_s (inS_s (inS_s (inS_s (inS_s (inS_s (inS_0 (by omega) (by omega) (by omega) (by omega)))))))) (wr_225_24 ⟨by omega, by omega⟩) (fun z243 hq244 hs245 => ?_)
  refine r_ld (pc' := 39) rfl rfl rfl rfl ?_
  refine r_c0 (pc' := 40) rfl rfl ?_
  refine r_pi (pc' := 43) rfl rfl sh_225 rfl rfl hs245 (inS_s (inS_s (inS_s (inS_s (inS_s (inS_s (inS_s (inS_0 (by omega) (by omega) (by omega) (by omega))))))))) (wr_225_25 ⟨by omega, by omega⟩) (fun z246 hq247 hs248 => ?_)
  have hh0 : tr8 z246 = h := by rw [← hhx]; unfold tr8; rw [show z246 225 5 = z0 225 1 from ((((congrFun (congrFun hq247 _) _).trans (mu_ne (by omega))).trans (((congrFun (congrFun hq244 _) _).trans (mu_ne (by omega))).trans (((congrFun (congrFun hq241 _) _).trans (mu_ne (by omega))).trans (((congrFun (congrFun hq238 _) _).trans (mu_ne (by omega))).trans (((congrFun (congrFun hq235 _) _).trans (mu_ne (by omega))).trans (((congrFun (congrFun hq232 _) _).trans (mu_ne (by omega))).trans ((congrFun (congrFun hq229 _) _).trans (mu_ne (by omega)))))))))).trans h55, show z246 226 = z0 226 from funext fun i => (((congrFun (congrFun hq247 _) _).trans (mu_ne (by omega))).trans (((congrFun (congrFun hq244 _) _).trans (mu_ne (by omega))).trans (((congrFun (congrFun hq241 _) _).trans (mu_ne (by omega))).trans (((congrFun (congrFun hq238 _) _).trans (mu_ne (by omega))).trans (((congrFun (congrFun hq235 _) _).trans (mu_ne (by omega))).trans (((congrFun (congrFun hq232 _) _).trans (mu_ne (by omega))).trans (((congrFun (congrFun hq229 _) _).trans (mu_ne (by omega))).trans ((congrFun (congrFun hq226 _) _).trans (mu_ne (by omega))))))))))]
  refine r_c0 (pc' := 44) rfl rfl ?_
  refine r_st (pc' := 45) (lv' := [(1, _), (0, _)]) rfl rfl rfl rfl ?_
  have hf249 : z246 225 4 = 0 := (((congrFun (congrFun hq247 _) _).trans (mu_ne (by omega))).trans (((congrFun (congrFun hq244 _) _).trans (mu_ne (by omega))).trans (((congrFun (congrFun hq241 _) _).trans (mu_ne (by omega))).trans (((congrFun (congrFun hq238 _) _).trans (mu_ne (by omega))).trans (((congrFun (congrFun hq235 _) _).trans (mu_ne (by omega))).trans ((congrFun (congrFun hq232 _) _).trans mu_eq))))))
  have hf250 : z246 225 2 = 0 := (((congrFun (congrFun hq247 _) _).trans (mu_ne (by omega))).trans (((congrFun (congrFun hq244 _) _).trans (mu_ne (by omega))).trans (((congrFun (congrFun hq241 _) _).trans (mu_ne (by omega))).trans (((congrFun (congrFun hq238 _) _).trans (mu_ne (by omega))).trans ((congrFun (congrFun hq235 _) _).trans mu_eq)))))
  have hf251 : z246 225 3 = (-1) := (((congrFun (congrFun hq247 _) _).trans (mu_ne (by omega))).trans (((congrFun (congrFun hq244 _) _).trans (mu_ne (by omega))).trans (((congrFun (congrFun hq241 _) _).trans (mu_ne (by omega))).trans ((congrFun (congrFun hq238 _) _).trans mu_eq))))
  have hf252 : z246 225 1 = 0 := (((congrFun (congrFun hq247 _) _).trans (mu_ne (by omega))).trans (((congrFun (congrFun hq244 _) _).trans (mu_ne (by omega))).trans (((congrFun (congrFun hq241 _) _).trans (mu_ne (by omega))).trans (((congrFun (congrFun hq238 _) _).trans (mu_ne (by omega))).trans (((congrFun (congrFun hq235 _) _).trans (mu_ne (by omega))).trans (((congrFun (congrFun hq232 _) _).trans (mu_ne (by omega))).trans ((congrFun (congrFun hq229 _) _).trans mu_eq)))))))
  have hf253 : z246 225 23 = 0 := (((congrFun (congrFun hq247 _) _).trans (mu_ne (by omega))).trans (((congrFun (congrFun hq244 _) _).trans (mu_ne (by omega))).trans ((congrFun (congrFun hq241 _) _).trans mu_eq)))
  have hf254 : z246 225 24 = 0 := (((congrFun (congrFun hq247 _) _).trans (mu_ne (by omega))).trans ((congrFun (congrFun hq244 _) _).trans mu_eq))
  have hf255 : z246 225 25 = 0 := ((congrFun (congrFun hq247 _) _).trans mu_eq)
  have hb256 := rd_225_7 hz
  have hf257 : z246 225 7 = z0 225 7 := (((congrFun (congrFun hq247 _) _).trans (mu_ne (by omega))).trans (((congrFun (congrFun hq244 _) _).trans (mu_ne (by omega))).trans (((congrFun (congrFun hq241 _) _).trans (mu_ne (by omega))).trans (((congrFun (congrFun hq238 _) _).trans (mu_ne (by omega))).trans (((congrFun (congrFun hq235 _) _).trans (mu_ne (by omega))).trans (((congrFun (congrFun hq232 _) _).trans (mu_ne (by omega))).trans (((congrFun (congrFun hq229 _) _).trans (mu_ne (by omega))).trans ((congrFun (congrFun hq226 _) _).trans (mu_ne (by omega))))))))))
  have hb258 := rd_225_6 hz
  have hf259 : z246 225 6 = z0 225 6 := (((congrFun (congrFun hq247 _) _).trans (mu_ne (by omega))).trans (((congrFun (congrFun hq244 _) _).trans (mu_ne (by omega))).trans (((congrFun (congrFun hq241 _) _).trans (mu_ne (by omega))).trans (((congrFun (congrFun hq238 _) _).trans (mu_ne (by omega))).trans (((congrFun (congrFun hq235 _) _).trans (mu_ne (by omega))).trans (((congrFun (congrFun hq232 _) _).trans (mu_ne (by omega))).trans (((congrFun (congrFun hq229 _) _).trans (mu_ne (by omega))).trans ((congrFun (congrFun hq226 _) _).trans (mu_ne (by omega))))))))))
  have hf260 : z246 225 5 = z0 225 1 := (((congrFun (congrFun hq247 _) _).trans (mu_ne (by omega))).trans (((congrFun (congrFun hq244 _) _).trans (mu_ne (by omega))).trans (((congrFun (congrFun hq241 _) _).trans (mu_ne (by omega))).trans (((congrFun (congrFun hq238 _) _).trans (mu_ne (by omega))).trans (((congrFun (congrFun hq235 _) _).trans (mu_ne (by omega))).trans (((congrFun (congrFun hq232 _) _).trans (mu_ne (by omega))).trans (((congrFun (congrFun hq229 _) _).trans (mu_ne (by omega))).trans ((congrFun (congrFun hq226 _) _).trans mu_eq))))))))
  have hb261 := rd_225_9 hw
  have hb262 := rd_225_8 hz
  exact w_lv (sub_c rfl (sub_c rfl sub_n)) rfl ((key ((64 * (18 - 0) + 20036 : Int).toNat + 1)).1 0 z246 w0 ⟨by omega, by omega⟩ hs248 (rfl) ((((congrFun (congrFun hq247 _) _).trans (mu_ne (by omega))).trans (((congrFun (congrFun hq244 _) _).trans (mu_ne (by omega))).trans (((congrFun (congrFun hq241 _) _).trans (mu_ne (by omega))).trans (((congrFun (congrFun hq238 _) _).trans (mu_ne (by omega))).trans (((congrFun (congrFun hq235 _) _).trans (mu_ne (by omega))).trans (((congrFun (congrFun hq232 _) _).trans (mu_ne (by omega))).trans (((congrFun (congrFun hq229 _) _).trans (mu_ne (by omega))).trans ((congrFun (congrFun hq226 _) _).trans (mu_ne (by omega))))))))))) ((((congrFun (congrFun hq247 _) _).trans (mu_ne (by omega))).trans (((congrFun (congrFun hq244 _) _).trans (mu_ne (by omega))).trans (((congrFun (congrFun hq241 _) _).trans (mu_ne (by omega))).trans (((congrFun (congrFun hq238 _) _).trans (mu_ne (by omega))).trans (((congrFun (congrFun hq235 _) _).trans (mu_ne (by omega))).trans (((congrFun (congrFun hq232 _) _).trans (mu_ne (by omega))).trans (((congrFun (congrFun hq229 _) _).trans (mu_ne (by omega))).trans ((congrFun (congrFun hq226 _) _).trans (mu_ne (by omega))))))))))) ((((congrFun (congrFun hq247 _) _).trans (mu_ne (by omega))).trans (((congrFun (congrFun hq244 _) _).trans (mu_ne (by omega))).trans (((congrFun (congrFun hq241 _) _).trans (mu_ne (by omega))).trans (((congrFun (congrFun hq238 _) _).trans (mu_ne (by omega))).trans (((congrFun (congrFun hq235 _) _).trans (mu_ne (by omega))).trans (((congrFun (congrFun hq232 _) _).trans (mu_ne (by omega))).trans (((congrFun (congrFun hq229 _) _).trans (mu_ne (by omega))).trans ((congrFun (congrFun hq226 _) _).trans (mu_ne (by omega))))))))))) (by first | omega | assumption | (simp only [hf249, hf250, hf251, hf252, hf253, hf254, hf255, hf257, hf259, hf260]; assumption)) (by first | omega | assumption | (simp only [hf249, hf250, hf251, hf252, hf253, hf254, hf255, hf257, hf259, hf260]; assumption)) (by first | (intro e he; exfalso; omega) | (intro e he; rw [hqz]; by_cases c : e = x1.toNat; (subst c; exact mu_eq); (rw [mu_ne (by omega)]; exact as3 e (by omega)))) (by first | exact hh0 | exact (tr8_f (fun i => (((congrFun (congrFun hq247 _) _).trans (mu_ne (by omega))).trans (((congrFun (congrFun hq244 _) _).trans (mu_ne (by omega))).trans (((congrFun (congrFun hq241 _) _).trans (mu_ne (by omega))).trans (((congrFun (congrFun hq238 _) _).trans (mu_ne (by omega))).trans (((congrFun (congrFun hq235 _) _).trans (mu_ne (by omega))).trans (((congrFun (congrFun hq232 _) _).trans (mu_ne (by omega))).trans (((congrFun (congrFun hq229 _) _).trans (mu_ne (by omega))).trans ((congrFun (congrFun hq226 _) _).trans (mu_ne (by omega))))))))))) ((((congrFun (congrFun hq247 _) _).trans (mu_ne (by omega))).trans (((congrFun (congrFun hq244 _) _).trans (mu_ne (by omega))).trans (((congrFun (congrFun hq241 _) _).trans (mu_ne (by omega))).trans (((congrFun (congrFun hq238 _) _).trans (mu_ne (by omega))).trans (((congrFun (congrFun hq235 _) _).trans (mu_ne (by omega))).trans (((congrFun (congrFun hq232 _) _).trans (mu_ne (by omega))).trans (((congrFun (congrFun hq229 _) _).trans (mu_ne (by omega))).trans ((congrFun (congrFun hq226 _) _).trans (mu_ne (by omega)))))))))))).trans ash) (by omega))

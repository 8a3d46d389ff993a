section
/-! methods, printed by wip/tools/vcg.py -/
/-- LoopGroundModel readLine -/
abbrev S_169v  : mS := [(225, 225, 2, 2), (225, 225, 3, 3), (225, 225, 4, 4), (225, 225, 7, 7), (225, 225, 9, 9), (225, 225, 8, 8), (225, 225, 6, 6), (232, 232, 0, 47), (233, 233, 0, 47), (228, 228, 0, 5), (234, 234, 0, 5), (225, 225, 25, 25), (231, 231, 0, 143), (227, 227, 0, 7), (225, 225, 24, 24), (230, 230, 0, 17), (229, 229, 0, 35), (225, 225, 23, 23)]
abbrev E_169v  (z0 w0 : mZ) (x y tx it mt tt ct : Option Nat) : mZ → mZ → mP → Prop := fun z w p => p = (pq x y tx it mt tt ct) ∧ (z0 225 4 ≤ z 225 4 ∧ z 225 4 ≤ z0 225 5 ∧ (z 225 2 = 0 → z0 225 4 < z 225 4) ∧ (z 225 2 = 0 → RDr z))
theorem m_169v {d : Nat} {z0 w0 : mZ} {x y tx it mt tt ct : Option Nat}  (hz : rz z0) (hw : rw_ w0) (hat : z0 225 4 ≤ z0 225 5) (hrd : RDr z0) (hf0 : z0 225 2 = 0) : wc (d + 5) 169 [.ref 225] (mk z0 w0 (pq x y tx it mt tt ct)) (poV S_169v z0 w0 (E_169v  z0 w0 x y tx it mt tt ct)) := by
  have hst : st_ S_169v z0 w0 z0 w0 := st_rf hz hw
  have hz191 := rd_225_9 hw
  have hz192 := rd_225_2 hz
  have hz193 := rd_225_23 hz
  have hz194 := rd_225_24 hz
  have hz195 := rd_225_25 hz
  have hz196 := rd_225_4 hz
  have hz197 := rd_225_5 hz
  have hz198 := rd_225_6 hz
  have h23 := rd_225_23 hz
  have h24 := rd_225_24 hz
  have h25 := rd_225_25 hz
  have key : ∀ N : Nat, (∀ (x1 : Int) (z w : mZ), 0 ≤ x1 ∧ x1 ≤ 1 → st_ S_169v z0 w0 z w → w 225 9 = w0 225 9 → z 225 2 = z0 225 2 → z 225 3 = z0 225 3 → z 225 4 = z0 225 4 → z 225 6 = z0 225 6 → z 225 7 = z0 225 7 → z 225 8 = z0 225 8 → z 225 23 = z0 225 23 → z 225 24 = z0 225 24 → z 225 25 = z0 225 25 → (z = z0 ∧ w = w0) → ((x1 = 1 → z0 225 24 + z0 225 25 = 0) ∧ (x1 = 0 → 0 < z0 225 24 + z0 225 25)) → 73 < (N : Int) → wp_ (d + 4) 169 4 none (45, [(0, .ref 225), (1, .int (Int32.ofInt x1))], [], mk z w (pq x y tx it mt tt ct)) (poV S_169v z0 w0 (E_169v  z0 w0 x y tx it mt tt ct))) ∧ (∀ (x1 x2 : Int) (z w : mZ), 0 ≤ x1 ∧ x1 ≤ 1 → 0 ≤ x2 ∧ x2 ≤ 1 → st_ S_169v z0 w0 z w → w 225 9 = w0 225 9 → z 225 2 = z0 225 2 → z 225 3 = z0 225 3 → z 225 4 = z0 225 4 → z 225 6 = z0 225 6 → z 225 7 = z0 225 7 → z 225 8 = z0 225 8 → z 225 23 = z0 225 23 → z 225 24 = z0 225 24 → z 225 25 = z0 225 25 → ((x2 = 1 → z0 225 23 ≤ 11)) → (z = z0 ∧ w = w0) → ((x1 = 1 → z0 225 24 + z0 225 25 = 0) ∧ (x1 = 0 → 0 < z0 225 24 + z0 225 25)) → (x2 = 1 → x1 = 1) → 63 < (N : Int) → wp_ (d + 4) 169 4 none (66, [(0, .ref 225), (1, .int (Int32.ofInt x1)), (2, .int (Int32.ofInt x2))], [], mk z w (pq x y tx it mt tt ct)) (poV S_169v z0 w0 (E_169v  z0 w0 x y tx it mt tt ct))) ∧ (∀ (x1 x2 : Int) (z w : mZ), 0 ≤ x1 ∧ x1 ≤ 1 → 0 ≤ x2 ∧ x2 ≤ 1 → st_ S_169v z0 w0 z w → w 225 9 = w0 225 9 → z 225 2 = z0 225 2 → z 225 3 = z0 225 3 → z 225 4 = z0 225 4 → z 225 6 = z0 225 6 → z 225 7 = z0 225 7 → z 225 8 = z0 225 8 → z 225 23 = z0 225 23 → z 225 24 = z0 225 24 → z 225 25 = z0 225 25 → ((x2 = 1 → z0 225 23 ≤ 11)) → (((z0 225 6 = 1 ∧ w0 225 9 = 1818848869 ∧ z0 225 24 ≤ 7) ∨ (z0 225 6 = 1 ∧ w0 225 9 = 2003792484 ∧ z0 225 25 ≤ 5))) → (z = z0 ∧ w = w0) → ((x1 = 1 → z0 225 24 + z0 225 25 = 0) ∧ (x1 = 0 → 0 < z0 225 24 + z0 225 25)) → (x2 = 1 → x1 = 1) → 55 < (N : Int) → wp_ (d + 4) 169 4 none (85, [(0, .ref 225), (1, .int (Int32.ofInt x1)), (2, .int (Int32.ofInt x2))], [], mk z w (pq x y tx it mt tt ct)) (poV S_169v z0 w0 (E_169v  z0 w0 x y tx it mt tt ct))) ∧ (∀ (x1 x2 : Int) (z w : mZ), 0 ≤ x1 ∧ x1 ≤ 1 → 0 ≤ x2 ∧ x2 ≤ 1 → st_ S_169v z0 w0 z w → w 225 9 = w0 225 9 → z 225 2 = z0 225 2 → z 225 3 = z0 225 3 → z 225 4 = z0 225 4 → z 225 6 = z0 225 6 → z 225 7 = z0 225 7 → z 225 8 = z0 225 8 → z 225 23 = z0 225 23 → z 225 24 = z0 225 24 → z 225 25 = z0 225 25 → ((x2 = 1 → z0 225 23 ≤ 11)) → (z = z0 ∧ w = w0) → ((x1 = 1 → z0 225 24 + z0 225 25 = 0) ∧ (x1 = 0 → 0 < z0 225 24 + z0 225 25)) → (x2 = 1 → x1 = 1) → 53 < (N : Int) → wp_ (d + 4) 169 4 none (89, [(0, .ref 225), (1, .int (Int32.ofInt x1)), (2, .int (Int32.ofInt x2))], [], mk z w (pq x y tx it mt tt ct)) (poV S_169v z0 w0 (E_169v  z0 w0 x y tx it mt tt ct))) ∧ (∀ (x1 x2 x3 : Int) (z w : mZ), 0 ≤ x1 ∧ x1 ≤ 1 → 0 ≤ x2 ∧ x2 ≤ 1 → 0 ≤ x3 ∧ x3 ≤ 1 → st_ S_169v z0 w0 z w → w 225 9 = w0 225 9 → z 225 2 = z0 225 2 → z 225 3 = z0 225 3 → z 225 4 = z0 225 4 → z 225 6 = z0 225 6 → z 225 7 = z0 225 7 → z 225 8 = z0 225 8 → z 225 23 = z0 225 23 → z 225 24 = z0 225 24 → z 225 25 = z0 225 25 → ((x2 = 1 → z0 225 23 ≤ 11)) → ((x3 = 1 → ((z0 225 6 = 1 ∧ w0 225 9 = 1818848869 ∧ z0 225 24 ≤ 7) ∨ (z0 225 6 = 1 ∧ w0 225 9 = 2003792484 ∧ z0 225 25 ≤ 5)))) → (x2 = 1 ∨ x3 = 1) → (z = z0 ∧ w = w0) → ((x1 = 1 → z0 225 24 + z0 225 25 = 0) ∧ (x1 = 0 → 0 < z0 225 24 + z0 225 25)) → (x2 = 1 → x1 = 1) → 43 < (N : Int) → wp_ (d + 4) 169 4 none (107, [(0, .ref 225), (1, .int (Int32.ofInt x1)), (2, .int (Int32.ofInt x2)), (3, .int (Int32.ofInt x3))], [], mk z w (pq x y tx it mt tt ct)) (poV S_169v z0 w0 (E_169v  z0 w0 x y tx it mt tt ct))) ∧ (∀ (x2 : Int) (z w : mZ), 0 ≤ x2 ∧ x2 ≤ 1 → st_ S_169v z0 w0 z w → w 225 9 = w0 225 9 → z 225 4 = z0 225 4 → z 225 6 = z0 225 6 → z 225 7 = z0 225 7 → z 225 8 = z0 225 8 → z 225 23 = z0 225 23 → z 225 24 = z0 225 24 → z 225 25 = z0 225 25 → ((z 225 2 = 0 → (x2 = 1 → z0 225 23 ≤ 11) ∧ (x2 = 0 → ((z0 225 6 = 1 ∧ w0 225 9 = 1818848869 ∧ z0 225 24 ≤ 7) ∨ (z0 225 6 = 1 ∧ w0 225 9 = 2003792484 ∧ z0 225 25 ≤ 5))))) → (z 225 2 = 0 → RDr z ∧ (x2 = 0 → WHn z) ∧ (x2 = 1 → z 225 24 + z 225 25 = 0)) → 33 < (N : Int) → wp_ (d + 4) 169 4 none (128, [(0, .ref 225), (2, .int (Int32.ofInt x2))], [], mk z w (pq x y tx it mt tt ct)) (poV S_169v z0 w0 (E_169v  z0 w0 x y tx it mt tt ct))) ∧ (∀ (z w : mZ), st_ S_169v z0 w0 z w → (z0 225 4 ≤ z 225 4 ∧ z 225 4 ≤ z0 225 5 ∧ (z 225 6 = 59 → z0 225 4 < z 225 4)) → (z 225 2 = 0 → z 225 6 = 59 → RDr z) → 15 < (N : Int) → wp_ (d + 4) 169 4 none (168, [(0, .ref 225)], [], mk z w (pq x y tx it mt tt ct)) (poV S_169v z0 w0 (E_169v  z0 w0 x y tx it mt tt ct))) ∧ (∀ (z w : mZ), st_ S_169v z0 w0 z w → (z0 225 4 ≤ z 225 4 ∧ z 225 4 ≤ z0 225 5 ∧ (z 225 2 = 0 → z0 225 4 < z 225 4)) → (z 225 2 = 0 → RDr z) → 5 < (N : Int) → wp_ (d + 4) 169 4 none (189, [(0, .ref 225)], [], mk z w (pq x y tx it mt tt ct)) (poV S_169v z0 w0 (E_169v  z0 w0 x y tx it mt tt ct))) := by
    intro N
    induction N with
    | zero =>
      refine ⟨?_, ?_, ?_, ?_, ?_, ?_, ?_, ?_⟩
      · intro x1 z w
        intros; exfalso; omega
      · intro x1 x2 z w
        intros; exfalso; omega
      · intro x1 x2 z w
        intros; exfalso; omega
      · intro x1 x2 z w
        intros; exfalso; omega
      · intro x1 x2 x3 z w
        intros; exfalso; omega
      · intro x2 z w
        intros; exfalso; omega
      · intro  z w
        intros; exfalso; omega
      · intro  z w
        intros; exfalso; omega
    | succ N ih =>
      obtain ⟨ih0, ih1, ih2, ih3, ih4, ih5, ih6, ih7⟩ := ih
      refine ⟨?_, ?_, ?_, ?_, ?_, ?_, ?_, ?_⟩
      · intro x1 z w  hx1 hst un_w_225_9 un_z_225_2 un_z_225_3 un_z_225_4 un_z_225_6 un_z_225_7 un_z_225_8 un_z_225_23 un_z_225_24 un_z_225_25 asz asx hM
        refine r_c0 (pc' := 46) rfl rfl ?_
        refine r_st (pc' := 47) (lv' := [(2, _), (0, _), (1, _)]) rfl rfl rfl rfl ?_
        refine r_ld (pc' := 48) rfl rfl rfl rfl ?_
        refine r_al (pc' := 51) rfl rfl rfl rfl ?_
        have hb199 := rd_225_6 hz
        have hf200 : z 225 6 = z0 225 6 := un_z_225_6
        have hb201 := rd_225_9 hw
        have hf202 : w 225 9 = w0 225 9 := un_w_225_9
        refine r_cVI (pc' := 54) rfl rfl rfl rfl rfl sh_225 (m_155 (d := d + 3) 1818848869 hst.1 hst.2.1 ⟨by omega, by omega⟩) (fun v203 z204 w205 p206 h207 hs208 hE209 => ?_)
        obtain ⟨rfl, rfl, rfl, hE209⟩ := hE209
        refine r_zeq (pc' := 57) rfl rfl ⟨by omega, by omega⟩ (fun hc211 => ?_) (fun hc211 => ?_)
        · skip
          have hb212 := rd_225_2 hz
          have hb213 := rd_225_3 hz
          have hb214 := rd_225_4 hz
          have hb215 := rd_225_7 hz
          have hb216 := rd_225_8 hz
          have hb217 := rd_225_23 hz
          have hb218 := rd_225_24 hz
          have hb219 := rd_225_25 hz
          exact w_lv (sub_c rfl (sub_c rfl (sub_c rfl sub_n))) rfl (ih1 x1 0 z w ⟨by omega, by omega⟩ ⟨by omega, by omega⟩ hst (un_w_225_9) (un_z_225_2) (un_z_225_3) (un_z_225_4) (un_z_225_6) (un_z_225_7) (un_z_225_8) (un_z_225_23) (un_z_225_24) (un_z_225_25) (by first | omega | assumption) (by first | exact ⟨rfl, rfl⟩ | exact asz) (by first | exact asx | exact ⟨fun h => by omega, fun h => by omega⟩) (by first | exact asy | (intro h; omega)) (by omega))
        · skip
          refine r_ld (pc' := 58) rfl rfl rfl rfl ?_
          have hb220 := rd_225_24 hz
          refine r_gi (pc' := 61) rfl rfl sh_225 rfl un_z_225_24 ?_
          refine r_cb (pc' := 63) rfl (by decide) rfl ?_
          refine r_ilt (pc' := 66) rfl rfl ⟨by omega, by omega⟩ ⟨by decide, by decide⟩ (fun hc221 => ?_) (fun hc221 => ?_)
          · skip
            have hb222 := rd_225_2 hz
            have hb223 := rd_225_3 hz
            have hb224 := rd_225_4 hz
            have hb225 := rd_225_7 hz
            have hb226 := rd_225_8 hz
            have hb227 := rd_225_23 hz
            have hb228 := rd_225_25 hz
            exact w_lv (sub_c rfl (sub_c rfl (sub_c rfl sub_n))) rfl (ih2 x1 0 z w ⟨by omega, by omega⟩ ⟨by omega, by omega⟩ hst (un_w_225_9) (un_z_225_2) (un_z_225_3) (un_z_225_4) (un_z_225_6) (un_z_225_7) (un_z_225_8) (un_z_225_23) (un_z_225_24) (un_z_225_25) (by first | omega | assumption) (by first | omega | assumption) (by first | exact ⟨rfl, rfl⟩ | exact asz) (by first | exact asx | exact ⟨fun h => by omega, fun h => by omega⟩) (by first | exact asy | (intro h; omega)) (by omega))
          · skip
            have hb229 := rd_225_2 hz
            have hb230 := rd_225_3 hz
            have hb231 := rd_225_4 hz
            have hb232 := rd_225_7 hz
            have hb233 := rd_225_8 hz
            have hb234 := rd_225_23 hz
            have hb235 := rd_225_25 hz
            exact w_lv (sub_c rfl (sub_c rfl (sub_c rfl sub_n))) rfl (ih1 x1 0 z w ⟨by omega, by omega⟩ ⟨by omega, by omega⟩ hst (un_w_225_9) (un_z_225_2) (un_z_225_3) (un_z_225_4) (un_z_225_6) (un_z_225_7) (un_z_225_8) (un_z_225_23) (un_z_225_24) (un_z_225_25) (by first | omega | assumption) (by first | exact ⟨rfl, rfl⟩ | exact asz) (by first | exact asx | exact ⟨fun h => by omega, fun h => by omega⟩) (by first | exact asy | (intro h; omega)) (by omega))
      · intro x1 x2 z w  hx1 hx2 hst un_w_225_9 un_z_225_2 un_z_225_3 un_z_225_4 un_z_225_6 un_z_225_7 un_z_225_8 un_z_225_23 un_z_225_24 un_z_225_25 as1 asz asx asy hM
        refine r_ld (pc' := 67) rfl rfl rfl rfl ?_
        refine r_al (pc' := 70) rfl rfl rfl rfl ?_
        have hb236 := rd_225_6 hz
        have hf237 : z 225 6 = z0 225 6 := un_z_225_6
        have hb238 := rd_225_9 hw
        have hf239 : w 225 9 = w0 225 9 := un_w_225_9
        refine r_cVI (pc' := 73) rfl rfl rfl rfl rfl sh_225 (m_155 (d := d + 3) 2003792484 hst.1 hst.2.1 ⟨by omega, by omega⟩) (fun v240 z241 w242 p243 h244 hs245 hE246 => ?_)
        obtain ⟨rfl, rfl, rfl, hE246⟩ := hE246
        refine r_zeq (pc' := 76) rfl rfl ⟨by omega, by omega⟩ (fun hc248 => ?_) (fun hc248 => ?_)
        · skip
          have hb249 := rd_225_2 hz
          have hb250 := rd_225_3 hz
          have hb251 := rd_225_4 hz
          have hb252 := rd_225_7 hz
          have hb253 := rd_225_8 hz
          have hb254 := rd_225_23 hz
          have hb255 := rd_225_24 hz
          have hb256 := rd_225_25 hz
          exact w_lv (sub_c rfl (sub_c rfl (sub_c rfl sub_n))) rfl (ih3 x1 x2 z w ⟨by omega, by omega⟩ ⟨by omega, by omega⟩ hst (un_w_225_9) (un_z_225_2) (un_z_225_3) (un_z_225_4) (un_z_225_6) (un_z_225_7) (un_z_225_8) (un_z_225_23) (un_z_225_24) (un_z_225_25) (by first | omega | assumption) (by first | exact ⟨rfl, rfl⟩ | exact asz) (by first | exact asx | exact ⟨fun h => by omega, fun h => by omega⟩) (by first | exact asy | (intro h; omega)) (by omega))
        · skip
          refine r_ld (pc' := 77) rfl rfl rfl rfl ?_
          have hb257 := rd_225_25 hz
          refine r_gi (pc' := 80) rfl rfl sh_225 rfl un_z_225_25 ?_
          refine r_cb (pc' := 82) rfl (by decide) rfl ?_
          refine r_ige (pc' := 85) rfl rfl ⟨by omega, by omega⟩ ⟨by decide, by decide⟩ (fun hc258 => ?_) (fun hc258 => ?_)
          · skip
            have hb259 := rd_225_2 hz
            have hb260 := rd_225_3 hz
            have hb261 := rd_225_4 hz
            have hb262 := rd_225_7 hz
            have hb263 := rd_225_8 hz
            have hb264 := rd_225_23 hz
            have hb265 := rd_225_24 hz
            exact w_lv (sub_c rfl (sub_c rfl (sub_c rfl sub_n))) rfl (ih3 x1 x2 z w ⟨by omega, by omega⟩ ⟨by omega, by omega⟩ hst (un_w_225_9) (un_z_225_2) (un_z_225_3) (un_z_225_4) (un_z_225_6) (un_z_225_7) (un_z_225_8) (un_z_225_23) (un_z_225_24) (un_z_225_25) (by first | omega | assumption) (by first | exact ⟨rfl, rfl⟩ | exact asz) (by first | exact asx | exact ⟨fun h => by omega, fun h => by omega⟩) (by first | exact asy | (intro h; omega)) (by omega))
          · skip
            have hb266 := rd_225_2 hz
            have hb267 := rd_225_3 hz
            have hb268 := rd_225_4 hz
            have hb269 := rd_225_7 hz
            have hb270 := rd_225_8 hz
            have hb271 := rd_225_23 hz
            have hb272 := rd_225_24 hz
            exact w_lv (sub_c rfl (sub_c rfl (sub_c rfl sub_n))) rfl (ih2 x1 x2 z w ⟨by omega, by omega⟩ ⟨by omega, by omega⟩ hst (un_w_225_9) (un_z_225_2) (un_z_225_3) (un_z_225_4) (un_z_225_6) (un_z_225_7) (un_z_225_8) (un_z_225_23) (un_z_225_24) (un_z_225_25) (by first | omega | assumption) (by first | omega | assumption) (by first | exact ⟨rfl, rfl⟩ | exact asz) (by first | exact asx | exact ⟨fun h => by omega, fun h => by omega⟩) (by first | exact asy | (intro h; omega)) (by omega))
      · intro x1 x2 z w  hx1 hx2 hst un_w_225_9 un_z_225_2 un_z_225_3 un_z_225_4 un_z_225_6 un_z_225_7 un_z_225_8 un_z_225_23 un_z_225_24 un_z_225_25 as1 as2 asz asx asy hM
        refine r_c0 (pc' := 86) rfl rfl ?_
        refine r_go rfl ?_
        refine r_st (pc' := 91) (lv' := [(3, _), (0, _), (1, _), (2, _)]) rfl rfl rfl rfl ?_
        refine r_ld (pc' := 92) rfl rfl rfl rfl ?_
        refine r_zne (pc' := 95) rfl rfl ⟨by omega, by omega⟩ (fun hc273 => ?_) (fun hc273 => ?_)
        · skip
          have hb274 := rd_225_9 hw
          have hb275 := rd_225_2 hz
          have hb276 := rd_225_3 hz
          have hb277 := rd_225_4 hz
          have hb278 := rd_225_6 hz
          have hb279 := rd_225_7 hz
          have hb280 := rd_225_8 hz
          have hb281 := rd_225_23 hz
          have hb282 := rd_225_24 hz
          have hb283 := rd_225_25 hz
          exact w_lv (sub_c rfl (sub_c rfl (sub_c rfl (sub_c rfl sub_n)))) rfl (ih4 x1 x2 1 z w ⟨by omega, by omega⟩ ⟨by omega, by omega⟩ ⟨by omega, by omega⟩ hst (un_w_225_9) (un_z_225_2) (un_z_225_3) (un_z_225_4) (un_z_225_6) (un_z_225_7) (un_z_225_8) (un_z_225_23) (un_z_225_24) (un_z_225_25) (by first | omega | assumption) (by first | omega | assumption) (by first | omega | assumption) (by first | exact ⟨rfl, rfl⟩ | exact asz) (by first | exact asx | exact ⟨fun h => by omega, fun h => by omega⟩) (by first | exact asy | (intro h; omega)) (by omega))
        · skip
          refine r_ld (pc' := 96) rfl rfl rfl rfl ?_
          refine r_zne (pc' := 99) rfl rfl ⟨by decide, by decide⟩ (fun hc284 => ?_) (fun hc284 => ?_)
          · skip
            have hb285 := rd_225_9 hw
            have hb286 := rd_225_2 hz
            have hb287 := rd_225_3 hz
            have hb288 := rd_225_4 hz
            have hb289 := rd_225_6 hz
            have hb290 := rd_225_7 hz
            have hb291 := rd_225_8 hz
            have hb292 := rd_225_23 hz
            have hb293 := rd_225_24 hz
            have hb294 := rd_225_25 hz
            exact w_lv (sub_c rfl (sub_c rfl (sub_c rfl (sub_c rfl sub_n)))) rfl (ih4 x1 x2 1 z w ⟨by omega, by omega⟩ ⟨by omega, by omega⟩ ⟨by omega, by omega⟩ hst (un_w_225_9) (un_z_225_2) (un_z_225_3) (un_z_225_4) (un_z_225_6) (un_z_225_7) (un_z_225_8) (un_z_225_23) (un_z_225_24) (un_z_225_25) (by first | omega | assumption) (by first | omega | assumption) (by first | omega | assumption) (by first | exact ⟨rfl, rfl⟩ | exact asz) (by first | exact asx | exact ⟨fun h => by omega, fun h => by omega⟩) (by first | exact asy | (intro h; omega)) (by omega))
          · exfalso; omega
      · intro x1 x2 z w  hx1 hx2 hst un_w_225_9 un_z_225_2 un_z_225_3 un_z_225_4 un_z_225_6 un_z_225_7 un_z_225_8 un_z_225_23 un_z_225_24 un_z_225_25 as1 asz asx asy hM
        refine r_c0 (pc' := 90) rfl rfl ?_
        refine r_st (pc' := 91) (lv' := [(3, _), (0, _), (1, _), (2, _)]) rfl rfl rfl rfl ?_
        refine r_ld (pc' := 92) rfl rfl rfl rfl ?_
        refine r_zne (pc' := 95) rfl rfl ⟨by omega, by omega⟩ (fun hc295 => ?_) (fun hc295 => ?_)
        · skip
          have hb296 := rd_225_9 hw
          have hb297 := rd_225_2 hz
          have hb298 := rd_225_3 hz
          have hb299 := rd_225_4 hz
          have hb300 := rd_225_6 hz
          have hb301 := rd_225_7 hz
          have hb302 := rd_225_8 hz
          have hb303 := rd_225_23 hz
          have hb304 := rd_225_24 hz
          have hb305 := rd_225_25 hz
          exact w_lv (sub_c rfl (sub_c rfl (sub_c rfl (sub_c rfl sub_n)))) rfl (ih4 x1 x2 0 z w ⟨by omega, by omega⟩ ⟨by omega, by omega⟩ ⟨by omega, by omega⟩ hst (un_w_225_9) (un_z_225_2) (un_z_225_3) (un_z_225_4) (un_z_225_6) (un_z_225_7) (un_z_225_8) (un_z_225_23) (un_z_225_24) (un_z_225_25) (by first | omega | assumption) (by first | omega | assumption) (by first | omega | assumption) (by first | exact ⟨rfl, rfl⟩ | exact asz) (by first | exact asx | exact ⟨fun h => by omega, fun h => by omega⟩) (by first | exact asy | (intro h; omega)) (by omega))
        · skip
          refine r_ld (pc' := 96) rfl rfl rfl rfl ?_
          refine r_zne (pc' := 99) rfl rfl ⟨by decide, by decide⟩ (fun hc306 => ?_) (fun hc306 => ?_)
          · exfalso; omega
          · skip
            refine r_ld (pc' := 100) rfl rfl rfl rfl ?_
            refine r_c0 (pc' := 101) rfl rfl ?_
            refine r_cVV (pc' := 104) rfl rfl rfl rfl rfl sh_225 (m_154 (d := d + 2) 2 hst.1 hst.2.1 ⟨by omega, by omega⟩) (fun z308 w309 p310 hs312 hE313 => ?_)
            have hs314 := st_tr hst hs312 (sub_B rfl)
            obtain ⟨rfl, hE313⟩ := hE313
            refine r_go rfl ?_
            have hb315 := rd_225_2 hs314.1
            have hb316 := rd_225_24 hz
            have hf317 : z308 225 24 = z0 225 24 := ((hs312.2.2.1 _ _ (notS_c (by omega) (notS_c (by omega) notS_n))).trans un_z_225_24)
            have hb318 := rd_225_25 hz
            have hf319 : z308 225 25 = z0 225 25 := ((hs312.2.2.1 _ _ (notS_c (by omega) (notS_c (by omega) notS_n))).trans un_z_225_25)
            have hb320 := rd_225_9 hw
            have hb321 := rd_225_4 hz
            have hb322 := rd_225_6 hz
            have hb323 := rd_225_7 hz
            have hb324 := rd_225_8 hz
            have hb325 := rd_225_23 hz
            exact w_lv (sub_c rfl (sub_c rfl sub_n)) rfl (ih5 x2 z308 w309 ⟨by omega, by omega⟩ hs314 (((hs312.2.2.2 _ _ (notS_c (by omega) (notS_c (by omega) notS_n))).trans un_w_225_9)) (((hs312.2.2.1 _ _ (notS_c (by omega) (notS_c (by omega) notS_n))).trans un_z_225_4)) (((hs312.2.2.1 _ _ (notS_c (by omega) (notS_c (by omega) notS_n))).trans un_z_225_6)) (((hs312.2.2.1 _ _ (notS_c (by omega) (notS_c (by omega) notS_n))).trans un_z_225_7)) (((hs312.2.2.1 _ _ (notS_c (by omega) (notS_c (by omega) notS_n))).trans un_z_225_8)) (((hs312.2.2.1 _ _ (notS_c (by omega) (notS_c (by omega) notS_n))).trans un_z_225_23)) (((hs312.2.2.1 _ _ (notS_c (by omega) (notS_c (by omega) notS_n))).trans un_z_225_24)) (((hs312.2.2.1 _ _ (notS_c (by omega) (notS_c (by omega) notS_n))).trans un_z_225_25)) (by first | omega | assumption | (simp only [hf317, hf319]; assumption)) (by first | (intro h; exfalso; omega) | (intro h; refine ⟨by rw [asz.1]; exact hrd, fun q => ?_, fun q => by rw [asz.1]; omega⟩; first | (exfalso; omega) | (rw [asz.1]; exact hrd.2.1 (by omega)) | exact WHn_p (by rw [asz.1]; exact hrd.1 (by omega)) (hiw (by omega)))) (by omega))
      · intro x1 x2 x3 z w  hx1 hx2 hx3 hst un_w_225_9 un_z_225_2 un_z_225_3 un_z_225_4 un_z_225_6 un_z_225_7 un_z_225_8 un_z_225_23 un_z_225_24 un_z_225_25 as1 as2 as3 asz asx asy hM
        refine r_ld (pc' := 108) rfl rfl rfl rfl ?_
        refine r_zeq (pc' := 111) rfl rfl ⟨by omega, by omega⟩ (fun hc326 => ?_) (fun hc326 => ?_)
        · skip
          have hb327 := rd_225_2 hz
          have hf328 : z 225 2 = z0 225 2 := un_z_225_2
          have hb329 := rd_225_24 hz
          have hf330 : z 225 24 = z0 225 24 := un_z_225_24
          have hb331 := rd_225_25 hz
          have hf332 : z 225 25 = z0 225 25 := un_z_225_25
          have hb333 := rd_225_9 hw
          have hb334 := rd_225_4 hz
          have hb335 := rd_225_6 hz
          have hb336 := rd_225_7 hz
          have hb337 := rd_225_8 hz
          have hb338 := rd_225_23 hz
          exact w_lv (sub_c rfl (sub_c rfl sub_n)) rfl (ih5 x2 z w ⟨by omega, by omega⟩ hst (un_w_225_9) (un_z_225_4) (un_z_225_6) (un_z_225_7) (un_z_225_8) (un_z_225_23) (un_z_225_24) (un_z_225_25) (by first | omega | assumption | (simp only [hf328, hf330, hf332]; assumption)) (by first | (intro h; exfalso; omega) | (intro h; refine ⟨by rw [asz.1]; exact hrd, fun q => ?_, fun q => by rw [asz.1]; omega⟩; first | (exfalso; omega) | (rw [asz.1]; exact hrd.2.1 (by omega)) | exact WHn_p (by rw [asz.1]; exact hrd.1 (by omega)) (hiw (by omega)))) (by omega))
        · skip
          refine r_ld (pc' := 112) rfl rfl rfl rfl ?_
          refine r_zeq (pc' := 115) rfl rfl ⟨by omega, by omega⟩ (fun hc339 => ?_) (fun hc339 => ?_)
          · skip
            have hb340 := rd_225_2 hz
            have hf341 : z 225 2 = z0 225 2 := un_z_225_2
            have hb342 := rd_225_24 hz
            have hf343 : z 225 24 = z0 225 24 := un_z_225_24
            have hb344 := rd_225_25 hz
            have hf345 : z 225 25 = z0 225 25 := un_z_225_25
            have hb346 := rd_225_9 hw
            have hb347 := rd_225_4 hz
            have hb348 := rd_225_6 hz
            have hb349 := rd_225_7 hz
            have hb350 := rd_225_8 hz
            have hb351 := rd_225_23 hz
            exact w_lv (sub_c rfl (sub_c rfl sub_n)) rfl (ih5 x2 z w ⟨by omega, by omega⟩ hst (un_w_225_9) (un_z_225_4) (un_z_225_6) (un_z_225_7) (un_z_225_8) (un_z_225_23) (un_z_225_24) (un_z_225_25) (by first | omega | assumption | (simp only [hf341, hf343, hf345]; assumption)) (by first | (intro h; exfalso; omega) | (intro h; refine ⟨by rw [asz.1]; exact hrd, fun q => ?_, fun q => by rw [asz.1]; omega⟩; first | (exfalso; omega) | (rw [asz.1]; exact hrd.2.1 (by omega)) | exact WHn_p (by rw [asz.1]; exact hrd.1 (by omega)) (hiw (by omega)))) (by omega))
          · skip
            refine r_ld (pc' := 116) rfl rfl rfl rfl ?_
            have hb352 := rd_225_23 hz
            have hf353 : z 225 23 = z0 225 23 := un_z_225_23
            refine r_cVI (pc' := 119) rfl rfl rfl rfl rfl sh_225 (m_163v (d := d + 2)  hst.1 hst.2.1 ) (fun v354 z355 w356 p357 h358 hs359 hE360 => ?_)
            obtain ⟨rfl, rfl, rfl, hE360⟩ := hE360
            have hiw := hE360.2.2
            refine r_zne (pc' := 122) rfl rfl ⟨by omega, by omega⟩ (fun hc362 => ?_) (fun hc362 => ?_)
            · skip
              have hb363 := rd_225_2 hz
              have hf364 : z 225 2 = z0 225 2 := un_z_225_2
              have hb365 := rd_225_24 hz
              have hf366 : z 225 24 = z0 225 24 := un_z_225_24
              have hb367 := rd_225_25 hz
              have hf368 : z 225 25 = z0 225 25 := un_z_225_25
              have hb369 := rd_225_9 hw
              have hb370 := rd_225_4 hz
              have hb371 := rd_225_6 hz
              have hb372 := rd_225_7 hz
              have hb373 := rd_225_8 hz
              exact w_lv (sub_c rfl (sub_c rfl sub_n)) rfl (ih5 x2 z w ⟨by omega, by omega⟩ hst (un_w_225_9) (un_z_225_4) (un_z_225_6) (un_z_225_7) (un_z_225_8) (un_z_225_23) (un_z_225_24) (un_z_225_25) (by first | omega | assumption | (simp only [hf364, hf366, hf368]; assumption)) (by first | (intro h; exfalso; omega) | (intro h; refine ⟨by rw [asz.1]; exact hrd, fun q => ?_, fun q => by rw [asz.1]; omega⟩; first | (exfalso; omega) | (rw [asz.1]; exact hrd.2.1 (by omega)) | exact WHn_p (by rw [asz.1]; exact hrd.1 (by omega)) (hiw (by omega)))) (by omega))
            · skip
              refine r_ld (pc' := 123) rfl rfl rfl rfl ?_
              refine r_cb (pc' := 125) rfl (by decide) rfl ?_
              refine r_cVV (pc' := 128) rfl rfl rfl rfl rfl sh_225 (m_154 (d := d + 2) 6 hst.1 hst.2.1 ⟨by omega, by omega⟩) (fun z375 w376 p377 hs379 hE380 => ?_)
              have hs381 := st_tr hst hs379 (sub_B rfl)
              obtain ⟨rfl, hE380⟩ := hE380
              have hb382 := rd_225_2 hs381.1
              have hb383 := rd_225_24 hz
              have hf384 : z375 225 24 = z0 225 24 := ((hs379.2.2.1 _ _ (notS_c (by omega) (notS_c (by omega) notS_n))).trans un_z_225_24)
              have hb385 := rd_225_25 hz
              have hf386 : z375 225 25 = z0 225 25 := ((hs379.2.2.1 _ _ (notS_c (by omega) (notS_c (by omega) notS_n))).trans un_z_225_25)
              have hb387 := rd_225_9 hw
              have hb388 := rd_225_4 hz
              have hb389 := rd_225_6 hz
              have hb390 := rd_225_7 hz
              have hb391 := rd_225_8 hz
              exact w_lv (sub_c rfl (sub_c rfl sub_n)) rfl (ih5 x2 z375 w376 ⟨by omega, by omega⟩ hs381 (((hs379.2.2.2 _ _ (notS_c (by omega) (notS_c (by omega) notS_n))).trans un_w_225_9)) (((hs379.2.2.1 _ _ (notS_c (by omega) (notS_c (by omega) notS_n))).trans un_z_225_4)) (((hs379.2.2.1 _ _ (notS_c (by omega) (notS_c (by omega) notS_n))).trans un_z_225_6)) (((hs379.2.2.1 _ _ (notS_c (by omega) (notS_c (by omega) notS_n))).trans un_z_225_7)) (((hs379.2.2.1 _ _ (notS_c (by omega) (notS_c (by omega) notS_n))).trans un_z_225_8)) (((hs379.2.2.1 _ _ (notS_c (by omega) (notS_c (by omega) notS_n))).trans un_z_225_23)) (((hs379.2.2.1 _ _ (notS_c (by omega) (notS_c (by omega) notS_n))).trans un_z_225_24)) (((hs379.2.2.1 _ _ (notS_c (by omega) (notS_c (by omega) notS_n))).trans un_z_225_25)) (by first | omega | assumption | (simp only [hf384, hf386]; assumption)) (by first | (intro h; exfalso; omega) | (intro h; refine ⟨by rw [asz.1]; exact hrd, fun q => ?_, fun q => by rw [asz.1]; omega⟩; first | (exfalso; omega) | (rw [asz.1]; exact hrd.2.1 (by omega)) | exact WHn_p (by rw [asz.1]; exact hrd.1 (by omega)) (hiw (by omega)))) (by omega))
      · intro x2 z w  hx2 hst un_w_225_9 un_z_225_4 un_z_225_6 un_z_225_7 un_z_225_8 un_z_225_23 un_z_225_24 un_z_225_25 as1 as4 hM
        refine r_ld (pc' := 129) rfl rfl rfl rfl ?_
        have hb392 := rd_225_2 hst.1
        refine r_gi (pc' := 132) rfl rfl sh_225 rfl rfl ?_
        refine r_zle (pc' := 135) rfl rfl ⟨by omega, by omega⟩ (fun hc393 => ?_) (fun hc393 => ?_)
        · skip
          refine r_ld (pc' := 137) rfl rfl rfl rfl ?_
          refine r_zeq (pc' := 140) rfl rfl ⟨by omega, by omega⟩ (fun hc394 => ?_) (fun hc394 => ?_)
          · skip
            refine r_ld (pc' := 148) rfl rfl rfl rfl ?_
            refine r_al (pc' := 151) rfl rfl rfl rfl ?_
            have hb395 := rd_225_6 hz
            have hf396 : z 225 6 = z0 225 6 := un_z_225_6
            have hb397 := rd_225_9 hw
            have hf398 : w 225 9 = w0 225 9 := un_w_225_9
            refine r_cVI (pc' := 154) rfl rfl rfl rfl rfl sh_225 (m_155 (d := d + 3) 1818848869 hst.1 hst.2.1 ⟨by omega, by omega⟩) (fun v399 z400 w401 p402 h403 hs404 hE405 => ?_)
            obtain ⟨rfl, rfl, rfl, hE405⟩ := hE405
            refine r_zeq (pc' := 157) rfl rfl ⟨by omega, by omega⟩ (fun hc407 => ?_) (fun hc407 => ?_)
            · skip
              refine r_ld (pc' := 165) rfl rfl rfl rfl ?_
              have hb408 := rd_225_4 hz
              have hf409 : z 225 4 = z0 225 4 := un_z_225_4
              have hb410 := rd_225_5 hz
              have hf411 : z 225 5 = z0 225 5 := (hst.2.2.1 _ _ (notS_c (by omega) (notS_c (by omega) (notS_c (by omega) (notS_c (by omega) (notS_c (by omega) (notS_c (by omega) (notS_c (by omega) (notS_c (by omega) (notS_c (by omega) (notS_c (by omega) (notS_c (by omega) (notS_c (by omega) (notS_c (by omega) (notS_c (by omega) (notS_c (by omega) (notS_c (by omega) (notS_c (by omega) (notS_c (by omega) notS_n)))))))))))))))))))
              have hb412 := rd_225_25 hz
              have hf413 : z 225 25 = z0 225 25 := un_z_225_25
              refine r_cVV (pc' := 168) rfl rfl rfl rfl rfl sh_225 (m_168v (d := d)  hst.1 hst.2.1 (by first | omega | assumption | (simp only [hf409, hf411, hf413]; assumption)) (by exact (as4 (by omega)).2.1 (by omega)) (by exact (as4 (by omega)).1.2.2.1) (by exact (as4 (by omega)).1.2.2.2) (by first | omega | assumption | (simp only [hf409, hf411, hf413]; assumption))) (fun z415 w416 p417 hs419 hE420 => ?_)
              have hs421 := st_tr hst hs419 (sub_B rfl)
              obtain ⟨rfl, hE420⟩ := hE420
              have hrx := hE420.2.2.2
              have hb422 := rd_225_4 hs421.1
              have hb423 := rd_225_6 hs421.1
              have hb424 := rd_225_2 hs421.1
              have hb425 := rd_225_24 hz
              have hf426 : z415 225 24 = z0 225 24 := ((hs419.2.2.1 _ _ (notS_c (by omega) (notS_c (by omega) (notS_c (by omega) (notS_c (by omega) (notS_c (by omega) (notS_c (by omega) (notS_c (by omega) (notS_c (by omega) (notS_c (by omega) (notS_c (by omega) (notS_c (by omega) (notS_c (by omega) notS_n))))))))))))).trans un_z_225_24)
              have hb427 := rd_225_25 hs421.1
              exact w_lv (sub_c rfl sub_n) rfl (ih6 z415 w416 hs421 (by first | omega | assumption | (simp only [hf426]; assumption)) (by first | (intro h g; exact ⟨fun _ => hrp h, fun q => absurd q (by have := (as4 (by omega)).2.2 (by omega); omega), fun l hl => absurd hl (by have := (as4 (by omega)).2.2 (by omega); omega), fun a ha => absurd ha (by have := (as4 (by omega)).2.2 (by omega); omega)⟩) | (intro h g; have k := hrl h g; exact ⟨fun q => absurd q (by omega), fun _ => k.2.2.1, k.1, k.2.1⟩) | (intro h g; have k := hrx h; exact ⟨fun q => absurd q (by omega), fun _ => k.2.2.1, k.1, k.2.1⟩)) (by omega))
            · skip
              refine r_ld (pc' := 158) rfl rfl rfl rfl ?_
              have hb428 := rd_225_4 hz
              have hf429 : z 225 4 = z0 225 4 := un_z_225_4
              have hb430 := rd_225_5 hz
              have hf431 : z 225 5 = z0 225 5 := (hst.2.2.1 _ _ (notS_c (by omega) (notS_c (by omega) (notS_c (by omega) (notS_c (by omega) (notS_c (by omega) (notS_c (by omega) (notS_c (by omega) (notS_c (by omega) (notS_c (by omega) (notS_c (by omega) (notS_c (by omega) (notS_c (by omega) (notS_c (by omega) (notS_c (by omega) (notS_c (by omega) (notS_c (by omega) (notS_c (by omega) (notS_c (by omega) notS_n)))))))))))))))))))
              have hb432 := rd_225_24 hz
              have hf433 : z 225 24 = z0 225 24 := un_z_225_24
              refine r_cVV (pc' := 161) rfl rfl rfl rfl rfl sh_225 (m_167v (d := d)  hst.1 hst.2.1 (by first | omega | assumption | (simp only [hf429, hf431, hf433]; assumption)) (by exact (as4 (by omega)).2.1 (by omega)) (by exact (as4 (by omega)).1.2.2.1) (by exact (as4 (by omega)).1.2.2.2) (by first | omega | assumption | (simp only [hf429, hf431, hf433]; assumption))) (fun z435 w436 p437 hs439 hE440 => ?_)
              have hs441 := st_tr hst hs439 (sub_B rfl)
              obtain ⟨rfl, hE440⟩ := hE440
              have hrl := hE440.2.2.2
              refine r_go rfl ?_
              have hb442 := rd_225_4 hs441.1
              have hb443 := rd_225_6 hs441.1
              have hb444 := rd_225_2 hs441.1
              have hb445 := rd_225_24 hs441.1
              have hb446 := rd_225_25 hz
              have hf447 : z435 225 25 = z0 225 25 := ((hs439.2.2.1 _ _ (notS_c (by omega) (notS_c (by omega) (notS_c (by omega) (notS_c (by omega) (notS_c (by omega) (notS_c (by omega) (notS_c (by omega) (notS_c (by omega) (notS_c (by omega) (notS_c (by omega) notS_n))))))))))).trans un_z_225_25)
              exact w_lv (sub_c rfl sub_n) rfl (ih6 z435 w436 hs441 (by first | omega | assumption | (simp only [hf447]; assumption)) (by first | (intro h g; exact ⟨fun _ => hrp h, fun q => absurd q (by have := (as4 (by omega)).2.2 (by omega); omega), fun l hl => absurd hl (by have := (as4 (by omega)).2.2 (by omega); omega), fun a ha => absurd ha (by have := (as4 (by omega)).2.2 (by omega); omega)⟩) | (intro h g; have k := hrl h g; exact ⟨fun q => absurd q (by omega), fun _ => k.2.2.1, k.1, k.2.1⟩) | (intro h g; have k := hrx h; exact ⟨fun q => absurd q (by omega), fun _ => k.2.2.1, k.1, k.2.1⟩)) (by omega))
          · skip
            refine r_ld (pc' := 141) rfl rfl rfl rfl ?_
            have hb448 := rd_225_4 hz
            have hf449 : z 225 4 = z0 225 4 := un_z_225_4
            have hb450 := rd_225_5 hz
            have hf451 : z 225 5 = z0 225 5 := (hst.2.2.1 _ _ (notS_c (by omega) (notS_c (by omega) (notS_c (by omega) (notS_c (by omega) (notS_c (by omega) (notS_c (by omega) (notS_c (by omega) (notS_c (by omega) (notS_c (by omega) (notS_c (by omega) (notS_c (by omega) (notS_c (by omega) (notS_c (by omega) (notS_c (by omega) (notS_c (by omega) (notS_c (by omega) (notS_c (by omega) (notS_c (by omega) notS_n)))))))))))))))))))
            have hb452 := rd_225_23 hz
            have hf453 : z 225 23 = z0 225 23 := un_z_225_23
            refine r_cVV (pc' := 144) rfl rfl rfl rfl rfl sh_225 (m_162v (d := d)  hst.1 hst.2.1 (by first | omega | assumption | (simp only [hf449, hf451, hf453]; assumption)) (by exact ((as4 (by omega)).1).1 (by have := (as4 (by omega)).2.2 (by omega); omega)) (by first | omega | assumption | (simp only [hf449, hf451, hf453]; assumption))) (fun z455 w456 p457 hs459 hE460 => ?_)
            have hs461 := st_tr hst hs459 (sub_B rfl)
            obtain ⟨rfl, hE460⟩ := hE460
            have hrp := hE460.2.2.2
            refine r_go rfl ?_
            have hb462 := rd_225_4 hs461.1
            have hb463 := rd_225_6 hs461.1
            have hb464 := rd_225_2 hs461.1
            have hb465 := rd_225_24 hz
            have hf466 : z455 225 24 = z0 225 24 := ((hs459.2.2.1 _ _ (notS_c (by omega) (notS_c (by omega) (notS_c (by omega) (notS_c (by omega) (notS_c (by omega) (notS_c (by omega) (notS_c (by omega) (notS_c (by omega) (notS_c (by omega) (notS_c (by omega) notS_n))))))))))).trans un_z_225_24)
            have hb467 := rd_225_25 hz
            have hf468 : z455 225 25 = z0 225 25 := ((hs459.2.2.1 _ _ (notS_c (by omega) (notS_c (by omega) (notS_c (by omega) (notS_c (by omega) (notS_c (by omega) (notS_c (by omega) (notS_c (by omega) (notS_c (by omega) (notS_c (by omega) (notS_c (by omega) notS_n))))))))))).trans un_z_225_25)
            exact w_lv (sub_c rfl sub_n) rfl (ih6 z455 w456 hs461 (by first | omega | assumption | (simp only [hf466, hf468]; assumption)) (by first | (intro h g; exact ⟨fun _ => hrp h, fun q => absurd q (by have := (as4 (by omega)).2.2 (by omega); omega), fun l hl => absurd hl (by have := (as4 (by omega)).2.2 (by omega); omega), fun a ha => absurd ha (by have := (as4 (by omega)).2.2 (by omega); omega)⟩) | (intro h g; have k := hrl h g; exact ⟨fun q => absurd q (by omega), fun _ => k.2.2.1, k.1, k.2.1⟩) | (intro h g; have k := hrx h; exact ⟨fun q => absurd q (by omega), fun _ => k.2.2.1, k.1, k.2.1⟩)) (by omega))
        · skip
          have hb469 := rd_225_4 hz
          have hf470 : z 225 4 = z0 225 4 := un_z_225_4
          exact r_ret rfl (po_V hst ⟨rfl, (by refine ⟨by omega, by omega, by omega, ?_⟩; first | (intro h; exfalso; omega) | exact as4 | exact fun h => RDr_c (rfl) (rfl) (rfl) (funext fun i => rfl) (funext fun i => rfl) (funext fun i => rfl) (funext fun i => rfl) (funext fun i => rfl) (as4 (by omega)))⟩)
      · intro  z w  hst as1 as4 hM
        refine r_ld (pc' := 169) rfl rfl rfl rfl ?_
        have hb471 := rd_225_2 hst.1
        refine r_gi (pc' := 172) rfl rfl sh_225 rfl rfl ?_
        refine r_zne (pc' := 175) rfl rfl ⟨by omega, by omega⟩ (fun hc472 => ?_) (fun hc472 => ?_)
        · skip
          have hb473 := rd_225_4 hst.1
          exact w_lv (sub_c rfl sub_n) rfl (ih7 z w hst (by first | omega | assumption) (by first | (intro h; exfalso; omega) | exact fun h => as4 h (by omega)) (by omega))
        · skip
          refine r_ld (pc' := 176) rfl rfl rfl rfl ?_
          have hb474 := rd_225_6 hst.1
          refine r_gi (pc' := 179) rfl rfl sh_225 rfl rfl ?_
          refine r_cb (pc' := 181) rfl (by decide) rfl ?_
          refine r_ieq (pc' := 184) rfl rfl ⟨by omega, by omega⟩ ⟨by decide, by decide⟩ (fun hc475 => ?_) (fun hc475 => ?_)
          · skip
            have hb476 := rd_225_4 hst.1
            exact w_lv (sub_c rfl sub_n) rfl (ih7 z w hst (by first | omega | assumption) (by first | (intro h; exfalso; omega) | exact fun h => as4 h (by omega)) (by omega))
          · skip
            refine r_ld (pc' := 185) rfl rfl rfl rfl ?_
            refine r_c0 (pc' := 186) rfl rfl ?_
            refine r_cVV (pc' := 189) rfl rfl rfl rfl rfl sh_225 (m_154 (d := d + 2) 2 hst.1 hst.2.1 ⟨by omega, by omega⟩) (fun z478 w479 p480 hs482 hE483 => ?_)
            have hs484 := st_tr hst hs482 (sub_B rfl)
            obtain ⟨rfl, hE483⟩ := hE483
            have hb485 := rd_225_4 hst.1
            have hf486 : z478 225 4 = z 225 4 := (hs482.2.2.1 _ _ (notS_c (by omega) (notS_c (by omega) notS_n)))
            have hb487 := rd_225_2 hs484.1
            exact w_lv (sub_c rfl sub_n) rfl (ih7 z478 w479 hs484 (by first | omega | assumption | (simp only [hf486]; assumption)) (by first | (intro h; exfalso; omega) | exact fun h => as4 h (by omega)) (by omega))
      · intro  z w  hst as1 as4 hM
        refine r_ld (pc' := 190) rfl rfl rfl rfl ?_
        have hb488 := rd_225_2 hst.1
        refine r_gi (pc' := 193) rfl rfl sh_225 rfl rfl ?_
        refine r_zne (pc' := 196) rfl rfl ⟨by omega, by omega⟩ (fun hc489 => ?_) (fun hc489 => ?_)
        · skip
          have hb490 := rd_225_4 hst.1
          exact r_ret rfl (po_V hst ⟨rfl, (by refine ⟨by omega, by omega, by omega, ?_⟩; first | (intro h; exfalso; omega) | exact as4 | exact fun h => RDr_c (rfl) (rfl) (rfl) (funext fun i => rfl) (funext fun i => rfl) (funext fun i => rfl) (funext fun i => rfl) (funext fun i => rfl) (as4 (by omega)))⟩)
        · skip
          refine r_ld (pc' := 197) rfl rfl rfl rfl ?_
          have hb491 := rd_225_4 hst.1
          have hb492 := rd_225_5 hz
          have hf493 : z 225 5 = z0 225 5 := (hst.2.2.1 _ _ (notS_c (by omega) (notS_c (by omega) (notS_c (by omega) (notS_c (by omega) (notS_c (by omega) (notS_c (by omega) (notS_c (by omega) (notS_c (by omega) (notS_c (by omega) (notS_c (by omega) (notS_c (by omega) (notS_c (by omega) (notS_c (by omega) (notS_c (by omega) (notS_c (by omega) (notS_c (by omega) (notS_c (by omega) (notS_c (by omega) notS_n)))))))))))))))))))
          refine r_cVV (pc' := 200) rfl rfl rfl rfl rfl sh_225 (m_152 (d := d + 2)  hst.1 hst.2.1 (by first | omega | assumption | (simp only [hf493]; assumption))) (fun z495 w496 p497 hs499 hE500 => ?_)
          have hs501 := st_tr hst hs499 (sub_B rfl)
          obtain ⟨rfl, hE500⟩ := hE500
          have hb502 := rd_225_4 hs501.1
          have hf503 : z495 225 2 = z 225 2 := (hs499.2.2.1 _ _ (notS_c (by omega) (notS_c (by omega) (notS_c (by omega) (notS_c (by omega) (notS_c (by omega) notS_n))))))
          exact r_ret rfl (po_V hs501 ⟨rfl, (by refine ⟨by omega, by omega, by omega, ?_⟩; first | (intro h; exfalso; omega) | exact as4 | exact fun h => RDr_c ((hs499.2.2.1 _ _ (notS_c (by omega) (notS_c (by omega) (notS_c (by omega) (notS_c (by omega) (notS_c (by omega) notS_n))))))) ((hs499.2.2.1 _ _ (notS_c (by omega) (notS_c (by omega) (notS_c (by omega) (notS_c (by omega) (notS_c (by omega) notS_n))))))) ((hs499.2.2.1 _ _ (notS_c (by omega) (notS_c (by omega) (notS_c (by omega) (notS_c (by omega) (notS_c (by omega) notS_n))))))) (funext fun i => (hs499.2.2.1 _ _ (notS_c (by omega) (notS_c (by omega) (notS_c (by omega) (notS_c (by omega) (notS_c (by omega) notS_n))))))) (funext fun i => (hs499.2.2.1 _ _ (notS_c (by omega) (notS_c (by omega) (notS_c (by omega) (notS_c (by omega) (notS_c (by omega) notS_n))))))) (funext fun i => (hs499.2.2.1 _ _ (notS_c (by omega) (notS_c (by omega) (notS_c (by omega) (notS_c (by omega) (notS_c (by omega) notS_n))))))) (funext fun i => (hs499.2.2.1 _ _ (notS_c (by omega) (notS_c (by omega) (notS_c (by omega) (notS_c (by omega) (notS_c (by omega) notS_n))))))) (funext fun i => (hs499.2.2.1 _ _ (notS_c (by omega) (notS_c (by omega) (notS_c (by omega) (notS_c (by omega) (notS_c (by omega) notS_n))))))) (as4 (by omega)))⟩)
  refine w_m rfl rfl ?_
  refine r_ld (pc' := 1) rfl rfl rfl rfl ?_
  have hb504 := rd_225_24 hz
  refine r_gi (pc' := 4) rfl rfl sh_225 rfl rfl ?_
  refine r_ld (pc' := 5) rfl rfl rfl rfl ?_
  have hb505 := rd_225_25 hz
  refine r_gi (pc' := 8) rfl rfl sh_225 rfl rfl ?_
  refine r_add (pc' := 9) rfl rfl ?_
  refine r_zne (pc' := 12) rfl rfl ⟨by omega, by omega⟩ (fun hc506 => ?_) (fun hc506 => ?_)
  · skip
    refine r_c0 (pc' := 17) rfl rfl ?_
    refine r_st (pc' := 18) (lv' := [(1, _), (0, _)]) rfl rfl rfl rfl ?_
    refine r_ld (pc' := 19) rfl rfl rfl rfl ?_
    refine r_al (pc' := 22) rfl rfl rfl rfl ?_
    have hb507 := rd_225_6 hz
    have hb508 := rd_225_9 hw
    refine r_cVI (pc' := 25) rfl rfl rfl rfl rfl sh_225 (m_155 (d := d + 3) 482804589413 hst.1 hst.2.1 ⟨by omega, by omega⟩) (fun v509 z510 w511 p512 h513 hs514 hE515 => ?_)
    obtain ⟨rfl, rfl, rfl, hE515⟩ := hE515
    refine r_zeq (pc' := 28) rfl rfl ⟨by omega, by omega⟩ (fun hc517 => ?_) (fun hc517 => ?_)
    · skip
      have hb518 := rd_225_2 hz
      have hb519 := rd_225_3 hz
      have hb520 := rd_225_4 hz
      have hb521 := rd_225_7 hz
      have hb522 := rd_225_8 hz
      have hb523 := rd_225_23 hz
      exact w_lv (sub_c rfl (sub_c rfl sub_n)) rfl ((key ((73 : Int).toNat + 1)).1 0 z0 w0 ⟨by omega, by omega⟩ hst (rfl) (rfl) (rfl) (rfl) (rfl) (rfl) (rfl) (rfl) (rfl) (rfl) (by first | exact ⟨rfl, rfl⟩ | exact asz) (by first | exact asx | exact ⟨fun h => by omega, fun h => by omega⟩) (by omega))
    · skip
      refine r_ld (pc' := 29) rfl rfl rfl rfl ?_
      refine r_zeq (pc' := 32) rfl rfl ⟨by decide, by decide⟩ (fun hc524 => ?_) (fun hc524 => ?_)
      · skip
        have hb525 := rd_225_2 hz
        have hb526 := rd_225_3 hz
        have hb527 := rd_225_4 hz
        have hb528 := rd_225_7 hz
        have hb529 := rd_225_8 hz
        have hb530 := rd_225_23 hz
        exact w_lv (sub_c rfl (sub_c rfl sub_n)) rfl ((key ((73 : Int).toNat + 1)).1 0 z0 w0 ⟨by omega, by omega⟩ hst (rfl) (rfl) (rfl) (rfl) (rfl) (rfl) (rfl) (rfl) (rfl) (rfl) (by first | exact ⟨rfl, rfl⟩ | exact asz) (by first | exact asx | exact ⟨fun h => by omega, fun h => by omega⟩) (by omega))
      · exfalso; omega
  · skip
    refine r_c0 (pc' := 13) rfl rfl ?_
    refine r_go rfl ?_
    refine r_st (pc' := 18) (lv' := [(1, _), (0, _)]) rfl rfl rfl rfl ?_
    refine r_ld (pc' := 19) rfl rfl rfl rfl ?_
    refine r_al (pc' := 22) rfl rfl rfl rfl ?_
    have hb531 := rd_225_6 hz
    have hb532 := rd_225_9 hw
    refine r_cVI (pc' := 25) rfl rfl rfl rfl rfl sh_225 (m_155 (d := d + 3) 482804589413 hst.1 hst.2.1 ⟨by omega, by omega⟩) (fun v533 z534 w535 p536 h537 hs538 hE539 => ?_)
    obtain ⟨rfl, rfl, rfl, hE539⟩ := hE539
    refine r_zeq (pc' := 28) rfl rfl ⟨by omega, by omega⟩ (fun hc541 => ?_) (fun hc541 => ?_)
    · skip
      have hb542 := rd_225_2 hz
      have hb543 := rd_225_3 hz
      have hb544 := rd_225_4 hz
      have hb545 := rd_225_7 hz
      have hb546 := rd_225_8 hz
      have hb547 := rd_225_23 hz
      exact w_lv (sub_c rfl (sub_c rfl sub_n)) rfl ((key ((73 : Int).toNat + 1)).1 1 z0 w0 ⟨by omega, by omega⟩ hst (rfl) (rfl) (rfl) (rfl) (rfl) (rfl) (rfl) (rfl) (rfl) (rfl) (by first | exact ⟨rfl, rfl⟩ | exact asz) (by first | exact asx | exact ⟨fun h => by omega, fun h => by omega⟩) (by omega))
    · skip
      refine r_ld (pc' := 29) rfl rfl rfl rfl ?_
      refine r_zeq (pc' := 32) rfl rfl ⟨by decide, by decide⟩ (fun hc548 => ?_) (fun hc548 => ?_)
      · exfalso; omega
      · skip
        refine r_ld (pc' := 33) rfl rfl rfl rfl ?_
        have hb549 := rd_225_23 hz
        refine r_gi (pc' := 36) rfl rfl sh_225 rfl rfl ?_
        refine r_cb (pc' := 38) rfl (by decide) rfl ?_
        refine r_ige (pc' := 41) rfl rfl ⟨by omega, by omega⟩ ⟨by decide, by decide⟩ (fun hc550 => ?_) (fun hc550 => ?_)
        · skip
          have hb551 := rd_225_2 hz
          have hb552 := rd_225_3 hz
          have hb553 := rd_225_4 hz
          have hb554 := rd_225_7 hz
          have hb555 := rd_225_8 hz
          exact w_lv (sub_c rfl (sub_c rfl sub_n)) rfl ((key ((73 : Int).toNat + 1)).1 1 z0 w0 ⟨by omega, by omega⟩ hst (rfl) (rfl) (rfl) (rfl) (rfl) (rfl) (rfl) (rfl) (rfl) (rfl) (by first | exact ⟨rfl, rfl⟩ | exact asz) (by first | exact asx | exact ⟨fun h => by omega, fun h => by omega⟩) (by omega))
        · skip
          refine r_c0 (pc' := 42) rfl rfl ?_
          refine r_go rfl ?_
          refine r_st (pc' := 47) (lv' := [(2, _), (1, _), (0, _)]) rfl rfl rfl rfl ?_
          refine r_ld (pc' := 48) rfl rfl rfl rfl ?_
          refine r_al (pc' := 51) rfl rfl rfl rfl ?_
          refine r_cVI (pc' := 54) rfl rfl rfl rfl rfl sh_225 (m_155 (d := d + 3) 1818848869 hst.1 hst.2.1 ⟨by omega, by omega⟩) (fun v556 z557 w558 p559 h560 hs561 hE562 => ?_)
          obtain ⟨rfl, rfl, rfl, hE562⟩ := hE562
          refine r_zeq (pc' := 57) rfl rfl ⟨by omega, by omega⟩ (fun hc564 => ?_) (fun hc564 => ?_)
          · skip
            have hb565 := rd_225_2 hz
            have hb566 := rd_225_3 hz
            have hb567 := rd_225_4 hz
            have hb568 := rd_225_7 hz
            have hb569 := rd_225_8 hz
            exact w_lv (sub_c rfl (sub_c rfl (sub_c rfl sub_n))) rfl ((key ((63 : Int).toNat + 1)).2.1 1 1 z0 w0 ⟨by omega, by omega⟩ ⟨by omega, by omega⟩ hst (rfl) (rfl) (rfl) (rfl) (rfl) (rfl) (rfl) (rfl) (rfl) (rfl) (by first | omega | assumption) (by first | exact ⟨rfl, rfl⟩ | exact asz) (by first | exact asx | exact ⟨fun h => by omega, fun h => by omega⟩) (by first | exact asy | (intro h; omega)) (by omega))
          · skip
            refine r_ld (pc' := 58) rfl rfl rfl rfl ?_
            refine r_gi (pc' := 61) rfl rfl sh_225 rfl rfl ?_
            refine r_cb (pc' := 63) rfl (by decide) rfl ?_
            refine r_ilt (pc' := 66) rfl rfl ⟨by omega, by omega⟩ ⟨by decide, by decide⟩ (fun hc570 => ?_) (fun hc570 => ?_)
            · skip
              have hb571 := rd_225_2 hz
              have hb572 := rd_225_3 hz
              have hb573 := rd_225_4 hz
              have hb574 := rd_225_7 hz
              have hb575 := rd_225_8 hz
              exact w_lv (sub_c rfl (sub_c rfl (sub_c rfl sub_n))) rfl ((key ((55 : Int).toNat + 1)).2.2.1 1 1 z0 w0 ⟨by omega, by omega⟩ ⟨by omega, by omega⟩ hst (rfl) (rfl) (rfl) (rfl) (rfl) (rfl) (rfl) (rfl) (rfl) (rfl) (by first | omega | assumption) (by first | omega | assumption) (by first | exact ⟨rfl, rfl⟩ | exact asz) (by first | exact asx | exact ⟨fun h => by omega, fun h => by omega⟩) (by first | exact asy | (intro h; omega)) (by omega))
            · exfalso; omega
/-- LoopGroundModel readAll -/
abbrev S_170v  : mS := [(225, 225, 5, 5), (225, 225, 1, 1), (225, 225, 4, 4), (225, 225, 2, 2), (225, 225, 3, 3), (225, 225, 23, 23), (225, 225, 24, 24), (225, 225, 25, 25), (225, 225, 7, 7), (225, 225, 9, 9), (225, 225, 8, 8), (225, 225, 6, 6), (230, 230, 0, 17), (232, 232, 0, 47), (233, 233, 0, 47), (228, 228, 0, 5), (234, 234, 0, 5), (231, 231, 0, 143), (227, 227, 0, 7), (229, 229, 0, 35)]
abbrev E_170v  (z0 w0 : mZ) (x y tx it mt tt ct : Option Nat) : mZ → mZ → mP → Prop := fun z w p => p = (pq x y tx it mt tt ct) ∧ ((z 225 2 = 0 → WHn z ∧ LFn z ∧ WDn z) ∧ z 225 1 = 0)
theorem m_170v {d : Nat} {z0 w0 : mZ} {x y tx it mt tt ct : Option Nat}  (hz : rz z0) (hw : rw_ w0) : wc (d + 6) 170 [.ref 225] (mk z0 w0 (pq x y tx it mt tt ct)) (poV S_170v z0 w0 (E_170v  z0 w0 x y tx it mt tt ct)) := by
  have hst : st_ S_170v z0 w0 z0 w0 := st_rf hz hw
  have key : ∀ N : Nat, (∀ (x1 : Int) (z w : mZ), 0 ≤ x1 ∧ x1 ≤ 18 → st_ S_170v z0 w0 z w → w 225 9 = w0 225 9 → z 225 6 = z0 225 6 → z 225 7 = z0 225 7 → z 225 8 = z0 225 8 → (z 225 4 = 0 ∧ z 225 2 = 0) → (z 225 23 = 0 ∧ z 225 24 = 0 ∧ z 225 25 = 0) → (∀ e : Nat, (e : Int) < x1 → z 230 e = 0) → (z 225 1 = 0) → 64 * (18 - x1) + 20036 < (N : Int) → wp_ (d + 5) 170 2 none (45, [(0, .ref 225), (1, .int (Int32.ofInt x1))], [], mk z w (pq x y tx it mt tt ct)) (poV S_170v z0 w0 (E_170v  z0 w0 x y tx it mt tt ct))) ∧ (∀ (z w : mZ), st_ S_170v z0 w0 z w → (z 225 4 ≤ z 225 5) → (z 225 2 = 0 → RDr z) → (z 225 1 = 0) → 1000 + 7 * (1601 - z 225 4) - z 225 2 < (N : Int) → wp_ (d + 5) 170 2 none (68, [(0, .ref 225)], [], mk z w (pq x y tx it mt tt ct)) (poV S_170v z0 w0 (E_170v  z0 w0 x y tx it mt tt ct))) ∧ (∀ (z w : mZ), st_ S_170v z0 w0 z w → (z 225 2 = 0 → RDr z) → (z 225 1 = 0) → 15 < (N : Int) → wp_ (d + 5) 170 2 none (89, [(0, .ref 225)], [], mk z w (pq x y tx it mt tt ct)) (poV S_170v z0 w0 (E_170v  z0 w0 x y tx it mt tt ct))) := by
    intro N
    induction N with
    | zero =>
      refine ⟨?_, ?_, ?_⟩
      · intro x1 z w
        intros; exfalso; omega
      · intro  z w
        intro hst
        have hb83 := rd_225_4 hst.1
        have hb84 := rd_225_2 hst.1
        intros; exfalso; omega
      · intro  z w
        intros; exfalso; omega
    | succ N ih =>
      obtain ⟨ih0, ih1, ih2⟩ := ih
      refine ⟨?_, ?_, ?_⟩
      · intro x1 z w  hx1 hst un_w_225_9 un_z_225_6 un_z_225_7 un_z_225_8 as1 as2 as3 as9 hM
        refine r_ld (pc' := 46) rfl rfl rfl rfl ?_
        refine r_cb (pc' := 48) rfl (by decide) rfl ?_
        refine r_ige (pc' := 51) rfl rfl ⟨by omega, by omega⟩ ⟨by decide, by decide⟩ (fun hc85 => ?_) (fun hc85 => ?_)
        · skip
          refine r_ld (pc' := 65) rfl rfl rfl rfl ?_
          have hb86 := rd_225_4 hst.1
          have hb87 := rd_225_5 hst.1
          refine r_cVV (pc' := 68) rfl rfl rfl rfl rfl sh_225 (m_152 (d := d + 3)  hst.1 hst.2.1 (by first | omega | assumption)) (fun z89 w90 p91 hs93 hE94 => ?_)
          have hs95 := st_tr hst hs93 (sub_B rfl)
          obtain ⟨rfl, hE94⟩ := hE94
          have hb96 := rd_225_4 hs95.1
          have hf97 : z89 225 5 = z 225 5 := (hs93.2.2.1 _ _ (notS_c (by omega) (notS_c (by omega) (notS_c (by omega) (notS_c (by omega) (notS_c (by omega) notS_n))))))
          have hb98 := rd_225_2 hst.1
          have hf99 : z89 225 2 = z 225 2 := (hs93.2.2.1 _ _ (notS_c (by omega) (notS_c (by omega) (notS_c (by omega) (notS_c (by omega) (notS_c (by omega) notS_n))))))
          have hb100 := rd_225_1 hst.1
          have hf101 : z89 225 1 = z 225 1 := (hs93.2.2.1 _ _ (notS_c (by omega) (notS_c (by omega) (notS_c (by omega) (notS_c (by omega) (notS_c (by omega) notS_n))))))
          have hb102 := rd_225_23 hst.1
          have hf103 : z89 225 23 = z 225 23 := (hs93.2.2.1 _ _ (notS_c (by omega) (notS_c (by omega) (notS_c (by omega) (notS_c (by omega) (notS_c (by omega) notS_n))))))
          have hb104 := rd_225_24 hst.1
          have hf105 : z89 225 24 = z 225 24 := (hs93.2.2.1 _ _ (notS_c (by omega) (notS_c (by omega) (notS_c (by omega) (notS_c (by omega) (notS_c (by omega) notS_n))))))
          have hb106 := rd_225_25 hst.1
          have hf107 : z89 225 25 = z 225 25 := (hs93.2.2.1 _ _ (notS_c (by omega) (notS_c (by omega) (notS_c (by omega) (notS_c (by omega) (notS_c (by omega) notS_n))))))
          exact w_lv (sub_c rfl sub_n) rfl (ih1 z89 w90 hs95 (by first | omega | assumption | (simp only [hf97, hf99, hf101, hf103, hf105, hf107]; assumption)) (by first | exact hrl.2.2.2 | (intro h; refine ⟨fun _ => PIR_c (funext fun i => (hs93.2.2.1 _ _ (notS_c (by omega) (notS_c (by omega) (notS_c (by omega) (notS_c (by omega) (notS_c (by omega) notS_n))))))) (funext fun i => (hs93.2.2.1 _ _ (notS_c (by omega) (notS_c (by omega) (notS_c (by omega) (notS_c (by omega) (notS_c (by omega) notS_n))))))) (by omega) (PIR_0 (z := z) (fun e he => as3 e (by omega))), fun q => absurd q (by omega), fun l hl => absurd hl (by omega), fun a ha => absurd ha (by omega)⟩)) (by first | omega | assumption | (simp only [hf97, hf99, hf101, hf103, hf105, hf107]; assumption)) (by omega))
        · skip
          refine r_ld (pc' := 52) rfl rfl rfl rfl ?_
          refine r_gr (b := 230) (pc' := 55) rfl rfl sh_225 rfl pp_225_13 ?_
          refine r_ld (pc' := 56) rfl rfl rfl rfl ?_
          refine r_c0 (pc' := 57) rfl rfl ?_
          refine r_is (pc' := 58) rfl rfl sh_230 rfl (by omega) (by omega) hst (inS_s (inS_s (inS_s (inS_s (inS_s (inS_s (inS_s (inS_s (inS_s (inS_s (inS_s (inS_s (inS_0 (by omega) (by omega) (by omega) (by omega)))))))))))))) (wr_230 ⟨by omega, by omega⟩) (fun z108 hq109 hs110 => ?_)
          have hqz := hq109
          refine r_inc (pc' := 61) (lv' := [(0, _)]) rfl rfl rfl rfl rfl ?_
          refine r_go rfl ?_
          have hb111 := rd_225_4 hst.1
          have hf112 : z108 225 4 = z 225 4 := ((congrFun (congrFun hq109 _) _).trans (mu_ne (by omega)))
          have hb113 := rd_225_2 hst.1
          have hf114 : z108 225 2 = z 225 2 := ((congrFun (congrFun hq109 _) _).trans (mu_ne (by omega)))
          have hb115 := rd_225_23 hst.1
          have hf116 : z108 225 23 = z 225 23 := ((congrFun (congrFun hq109 _) _).trans (mu_ne (by omega)))
          have hb117 := rd_225_24 hst.1
          have hf118 : z108 225 24 = z 225 24 := ((congrFun (congrFun hq109 _) _).trans (mu_ne (by omega)))
          have hb119 := rd_225_25 hst.1
          have hf120 : z108 225 25 = z 225 25 := ((congrFun (congrFun hq109 _) _).trans (mu_ne (by omega)))
          have hb121 := rd_225_1 hst.1
          have hf122 : z108 225 1 = z 225 1 := ((congrFun (congrFun hq109 _) _).trans (mu_ne (by omega)))
          have hb123 := rd_225_9 hw
          have hb124 := rd_225_6 hz
          have hb125 := rd_225_7 hz
          have hb126 := rd_225_8 hz
          exact w_lv (sub_c rfl (sub_c rfl sub_n)) rfl (ih0 (x1 + 1) z108 w ⟨by omega, by omega⟩ hs110 (un_w_225_9) ((((congrFun (congrFun hq109 _) _).trans (mu_ne (by omega))).trans un_z_225_6)) ((((congrFun (congrFun hq109 _) _).trans (mu_ne (by omega))).trans un_z_225_7)) ((((congrFun (congrFun hq109 _) _).trans (mu_ne (by omega))).trans un_z_225_8)) (by first | omega | assumption | (simp only [hf112, hf114, hf116, hf118, hf120, hf122]; assumption)) (by first | omega | assumption | (simp only [hf112, hf114, hf116, hf118, hf120, hf122]; assumption)) (by first | (intro e he; exfalso; omega) | (intro e he; rw [hqz]; by_cases c : e = x1.toNat; (subst c; exact mu_eq); (rw [mu_ne (by omega)]; exact as3 e (by omega)))) (by first | omega | assumption | (simp only [hf112, hf114, hf116, hf118, hf120, hf122]; assumption)) (by omega))
      · intro  z w  hst as1 as4 as9 hM
        have hb4 := rd_225_4 hst.1
        refine r_ld (pc' := 69) rfl rfl rfl rfl ?_
        have hb127 := rd_225_2 hst.1
        refine r_gi (pc' := 72) rfl rfl sh_225 rfl rfl ?_
        refine r_zne (pc' := 75) rfl rfl ⟨by omega, by omega⟩ (fun hc128 => ?_) (fun hc128 => ?_)
        · skip
          have hb129 := rd_225_1 hst.1
          exact w_lv (sub_c rfl sub_n) rfl (ih2 z w hst (by exact as4) (by first | omega | assumption) (by omega))
        · skip
          refine r_ld (pc' := 76) rfl rfl rfl rfl ?_
          have hb130 := rd_225_6 hst.1
          refine r_gi (pc' := 79) rfl rfl sh_225 rfl rfl ?_
          refine r_zeq (pc' := 82) rfl rfl ⟨by omega, by omega⟩ (fun hc131 => ?_) (fun hc131 => ?_)
          · skip
            have hb132 := rd_225_1 hst.1
            exact w_lv (sub_c rfl sub_n) rfl (ih2 z w hst (by exact as4) (by first | omega | assumption) (by omega))
          · skip
            refine r_ld (pc' := 83) rfl rfl rfl rfl ?_
            have hb133 := rd_225_4 hst.1
            have hb134 := rd_225_5 hst.1
            refine r_cVV (pc' := 86) rfl rfl rfl rfl rfl sh_225 (m_169v (d := d)  hst.1 hst.2.1 (by first | omega | assumption) (by exact as4 (by omega)) (by first | omega | assumption)) (fun z136 w137 p138 hs140 hE141 => ?_)
            have hs142 := st_tr hst hs140 (sub_B rfl)
            obtain ⟨rfl, hE141⟩ := hE141
            have hrl := hE141
            refine r_go rfl ?_
            have hb143 := rd_225_4 hs142.1
            have hf144 : z136 225 5 = z 225 5 := (hs140.2.2.1 _ _ (notS_c (by omega) (notS_c (by omega) (notS_c (by omega) (notS_c (by omega) (notS_c (by omega) (notS_c (by omega) (notS_c (by omega) (notS_c (by omega) (notS_c (by omega) (notS_c (by omega) (notS_c (by omega) (notS_c (by omega) (notS_c (by omega) (notS_c (by omega) (notS_c (by omega) (notS_c (by omega) (notS_c (by omega) (notS_c (by omega) notS_n)))))))))))))))))))
            have hb145 := rd_225_2 hs142.1
            have hb146 := rd_225_1 hst.1
            have hf147 : z136 225 1 = z 225 1 := (hs140.2.2.1 _ _ (notS_c (by omega) (notS_c (by omega) (notS_c (by omega) (notS_c (by omega) (notS_c (by omega) (notS_c (by omega) (notS_c (by omega) (notS_c (by omega) (notS_c (by omega) (notS_c (by omega) (notS_c (by omega) (notS_c (by omega) (notS_c (by omega) (notS_c (by omega) (notS_c (by omega) (notS_c (by omega) (notS_c (by omega) (notS_c (by omega) notS_n)))))))))))))))))))
            have hb148 := rd_225_23 hs142.1
            have hb149 := rd_225_24 hs142.1
            have hb150 := rd_225_25 hs142.1
            exact w_lv (sub_c rfl sub_n) rfl (ih1 z136 w137 hs142 (by first | omega | assumption | (simp only [hf144, hf147]; assumption)) (by first | exact hrl.2.2.2 | (intro h; refine ⟨fun _ => PIR_c (funext fun i => (hs140.2.2.1 _ _ (notS_c (by omega) (notS_c (by omega) (notS_c (by omega) (notS_c (by omega) (notS_c (by omega) (notS_c (by omega) (notS_c (by omega) (notS_c (by omega) (notS_c (by omega) (notS_c (by omega) (notS_c (by omega) (notS_c (by omega) (notS_c (by omega) (notS_c (by omega) (notS_c (by omega) (notS_c (by omega) (notS_c (by omega) (notS_c (by omega) notS_n)))))))))))))))))))) (funext fun i => (hs140.2.2.1 _ _ (notS_c (by omega) (notS_c (by omega) (notS_c (by omega) (notS_c (by omega) (notS_c (by omega) (notS_c (by omega) (notS_c (by omega) (notS_c (by omega) (notS_c (by omega) (notS_c (by omega) (notS_c (by omega) (notS_c (by omega) (notS_c (by omega) (notS_c (by omega) (notS_c (by omega) (notS_c (by omega) (notS_c (by omega) (notS_c (by omega) notS_n)))))))))))))))))))) (by omega) (PIR_0 (z := z) (fun e he => as3 e (by omega))), fun q => absurd q (by omega), fun l hl => absurd hl (by omega), fun a ha => absurd ha (by omega)⟩)) (by first | omega | assumption | (simp only [hf144, hf147]; assumption)) (by omega))
      · intro  z w  hst as4 as9 hM
        refine r_ld (pc' := 90) rfl rfl rfl rfl ?_
        have hb151 := rd_225_2 hst.1
        refine r_gi (pc' := 93) rfl rfl sh_225 rfl rfl ?_
        refine r_zne (pc' := 96) rfl rfl ⟨by omega, by omega⟩ (fun hc152 => ?_) (fun hc152 => ?_)
        · skip
          have hb153 := rd_225_1 hst.1
          exact r_ret rfl (po_V hst ⟨rfl, (by refine ⟨?_, by omega⟩; first | (intro h; exfalso; omega) | (intro h; have k := as4 (by omega); exact ⟨k.2.1 (by omega), k.2.2.1, k.2.2.2⟩) | (intro h; have k := as4 (by omega); exact ⟨WHn_p (k.1 (by omega)) (hiw (by omega)), k.2.2.1, k.2.2.2⟩))⟩)
        · skip
          refine r_ld (pc' := 97) rfl rfl rfl rfl ?_
          have hb154 := rd_225_24 hst.1
          refine r_gi (pc' := 100) rfl rfl sh_225 rfl rfl ?_
          refine r_ld (pc' := 101) rfl rfl rfl rfl ?_
          have hb155 := rd_225_25 hst.1
          refine r_gi (pc' := 104) rfl rfl sh_225 rfl rfl ?_
          refine r_add (pc' := 105) rfl rfl ?_
          refine r_zne (pc' := 108) rfl rfl ⟨by omega, by omega⟩ (fun hc156 => ?_) (fun hc156 => ?_)
          · skip
            have hb157 := rd_225_1 hst.1
            exact r_ret rfl (po_V hst ⟨rfl, (by refine ⟨?_, by omega⟩; first | (intro h; exfalso; omega) | (intro h; have k := as4 (by omega); exact ⟨k.2.1 (by omega), k.2.2.1, k.2.2.2⟩) | (intro h; have k := as4 (by omega); exact ⟨WHn_p (k.1 (by omega)) (hiw (by omega)), k.2.2.1, k.2.2.2⟩))⟩)
          · skip
            refine r_ld (pc' := 109) rfl rfl rfl rfl ?_
            have hb158 := rd_225_23 hst.1
            refine r_cVI (pc' := 112) rfl rfl rfl rfl rfl sh_225 (m_163v (d := d + 3)  hst.1 hst.2.1 ) (fun v159 z160 w161 p162 h163 hs164 hE165 => ?_)
            obtain ⟨rfl, rfl, rfl, hE165⟩ := hE165
            have hiw := hE165.2.2
            refine r_zne (pc' := 115) rfl rfl ⟨by omega, by omega⟩ (fun hc167 => ?_) (fun hc167 => ?_)
            · skip
              have hb168 := rd_225_1 hst.1
              exact r_ret rfl (po_V hst ⟨rfl, (by refine ⟨?_, by omega⟩; first | (intro h; exfalso; omega) | (intro h; have k := as4 (by omega); exact ⟨k.2.1 (by omega), k.2.2.1, k.2.2.2⟩) | (intro h; have k := as4 (by omega); exact ⟨WHn_p (k.1 (by omega)) (hiw (by omega)), k.2.2.1, k.2.2.2⟩))⟩)
            · skip
              refine r_ld (pc' := 116) rfl rfl rfl rfl ?_
              refine r_cb (pc' := 118) rfl (by decide) rfl ?_
              refine r_cVV (pc' := 121) rfl rfl rfl rfl rfl sh_225 (m_154 (d := d + 3) 6 hst.1 hst.2.1 ⟨by omega, by omega⟩) (fun z170 w171 p172 hs174 hE175 => ?_)
              have hs176 := st_tr hst hs174 (sub_B rfl)
              obtain ⟨rfl, hE175⟩ := hE175
              have hb177 := rd_225_2 hs176.1
              have hb178 := rd_225_1 hst.1
              have hf179 : z170 225 1 = z 225 1 := (hs174.2.2.1 _ _ (notS_c (by omega) (notS_c (by omega) notS_n)))
              exact r_ret rfl (po_V hs176 ⟨rfl, (by refine ⟨?_, by omega⟩; first | (intro h; exfalso; omega) | (intro h; have k := as4 (by omega); exact ⟨k.2.1 (by omega), k.2.2.1, k.2.2.2⟩) | (intro h; have k := as4 (by omega); exact ⟨WHn_p (k.1 (by omega)) (hiw (by omega)), k.2.2.1, k.2.2.2⟩))⟩)
  refine w_m rfl rfl ?_
  refine r_ld (pc' := 1) rfl rfl rfl rfl ?_
  refine r_ld (pc' := 2) rfl rfl rfl rfl ?_
  have hb180 := rd_225_1 hz
  refine r_gi (pc' := 5) rfl rfl sh_225 rfl rfl ?_
  refine r_pi (pc' := 8) rfl rfl sh_225 rfl rfl hst (inS_0 (by omega) (by omega) (by omega) (by omega)) (wr_225_5 ⟨by omega, by omega⟩) (fun z181 hq182 hs183 => ?_)
  refine r_ld (pc' := 9) rfl rfl rfl rfl ?_
  refine r_c0 (pc' := 10) rfl rfl ?_
  refine r_pi (pc' := 13) rfl rfl sh_225 rfl rfl hs183 (inS_s (inS_0 (by omega) (by omega) (by omega) (by omega))) (wr_225_1 ⟨by omega, by omega⟩) (fun z184 hq185 hs186 => ?_)
  refine r_ld (pc' := 14) rfl rfl rfl rfl ?_
  refine r_c0 (pc' := 15) rfl rfl ?_
  refine r_pi (pc' := 18) rfl rfl sh_225 rfl rfl hs186 (inS_s (inS_s (inS_0 (by omega) (by omega) (by omega) (by omega)))) (wr_225_4 ⟨by omega, by omega⟩) (fun z187 hq188 hs189 => ?_)
  refine r_ld (pc' := 19) rfl rfl rfl rfl ?_
  refine r_c0 (pc' := 20) rfl rfl ?_
  refine r_pi (pc' := 23) rfl rfl sh_225 rfl rfl hs189 (inS_s (inS_s (inS_s (inS_0 (by omega) (by omega) (by omega) (by omega))))) (wr_225_2 ⟨by omega, by omega⟩) (fun z190 hq191 hs192 => ?_)
  refine r_ld (pc' := 24) rfl rfl rfl rfl ?_
  refine r_c0 (pc' := 25) rfl rfl ?_
  refine r_pi (pc' := 28) rfl rfl sh_225 rfl rfl hs192 (inS_s (inS_s (inS_s (inS_s (inS_0 (by omega) (by omega) (by omega) (by omega)))))) (wr_225_3 ⟨by omega, by omega⟩) (fun z193 hq194 hs195 => ?_)
  refine r_ld (pc' := 29) rfl rfl rfl rfl ?_
  refine r_c0 (pc' := 30) rfl rfl ?_
  refine r_pi (pc' := 33) rfl rfl sh_225 rfl rfl hs195 (inS_s (inS_s (inS_s (inS_s (inS_s (inS_0 (by omega) (by omega) (by omega) (by omega))))))) (wr_225_23 ⟨by omega, by omega⟩) (fun z196 hq197 hs198 => ?_)
  refine r_ld (pc' := 34) rfl rfl rfl rfl ?_
  refine r_c0 (pc' := 35) rfl rfl ?_
  refine r_pi (pc' := 38) rfl rfl sh_225 rfl rfl hs198 (inS_s (inS_s (inS_s (inS_s (inS_s (inS_s (inS_0 (by omega) (by omega) (by omega) (by omega)))))))) (wr_225_24 ⟨by omega, by omega⟩) (fun z199 hq200 hs201 => ?_)
  refine r_ld (pc' := 39) rfl rfl rfl rfl ?_
  refine r_c0 (pc' := 40) rfl rfl ?_
  refine r_pi (pc' := 43) rfl rfl sh_225 rfl rfl hs201 (inS_s (inS_s (inS_s (inS_s (inS_s (inS_s (inS_s (inS_0 (by omega) (by omega) (by omega) (by omega))))))))) (wr_225_25 ⟨by omega, by omega⟩) (fun z202 hq203 hs204 => ?_)
  refine r_c0 (pc' := 44) rfl rfl ?_
  refine r_st (pc' := 45) (lv' := [(1, _), (0, _)]) rfl rfl rfl rfl ?_
  have hf205 : z202 225 4 = 0 := (((congrFun (congrFun hq203 _) _).trans (mu_ne (by omega))).trans (((congrFun (congrFun hq200 _) _).trans (mu_ne (by omega))).trans (((congrFun (congrFun hq197 _) _).trans (mu_ne (by omega))).trans (((congrFun (congrFun hq194 _) _).trans (mu_ne (by omega))).trans (((congrFun (congrFun hq191 _) _).trans (mu_ne (by omega))).trans ((congrFun (congrFun hq188 _) _).trans mu_eq))))))
  have hf206 : z202 225 2 = 0 := (((congrFun (congrFun hq203 _) _).trans (mu_ne (by omega))).trans (((congrFun (congrFun hq200 _) _).trans (mu_ne (by omega))).trans (((congrFun (congrFun hq197 _) _).trans (mu_ne (by omega))).trans (((congrFun (congrFun hq194 _) _).trans (mu_ne (by omega))).trans ((congrFun (congrFun hq191 _) _).trans mu_eq)))))
  have hf207 : z202 225 23 = 0 := (((congrFun (congrFun hq203 _) _).trans (mu_ne (by omega))).trans (((congrFun (congrFun hq200 _) _).trans (mu_ne (by omega))).trans ((congrFun (congrFun hq197 _) _).trans mu_eq)))
  have hf208 : z202 225 24 = 0 := (((congrFun (congrFun hq203 _) _).trans (mu_ne (by omega))).trans ((congrFun (congrFun hq200 _) _).trans mu_eq))
  have hf209 : z202 225 25 = 0 := ((congrFun (congrFun hq203 _) _).trans mu_eq)
  have hf210 : z202 225 1 = 0 := (((congrFun (congrFun hq203 _) _).trans (mu_ne (by omega))).trans (((congrFun (congrFun hq200 _) _).trans (mu_ne (by omega))).trans (((congrFun (congrFun hq197 _) _).trans (mu_ne (by omega))).trans (((congrFun (congrFun hq194 _) _).trans (mu_ne (by omega))).trans (((congrFun (congrFun hq191 _) _).trans (mu_ne (by omega))).trans (((congrFun (congrFun hq188 _) _).trans (mu_ne (by omega))).trans ((congrFun (congrFun hq185 _) _).trans mu_eq)))))))
  have hb211 := rd_225_9 hw
  have hb212 := rd_225_6 hz
  have hb213 := rd_225_7 hz
  have hb214 := rd_225_8 hz
  exact w_lv (sub_c rfl (sub_c rfl sub_n)) rfl ((key ((64 * (18 - 0) + 20036 : Int).toNat + 1)).1 0 z202 w0 ⟨by omega, by omega⟩ hs204 (rfl) ((((congrFun (congrFun hq203 _) _).trans (mu_ne (by omega))).trans (((congrFun (congrFun hq200 _) _).trans (mu_ne (by omega))).trans (((congrFun (congrFun hq197 _) _).trans (mu_ne (by omega))).trans (((congrFun (congrFun hq194 _) _).trans (mu_ne (by omega))).trans (((congrFun (congrFun hq191 _) _).trans (mu_ne (by omega))).trans (((congrFun (congrFun hq188 _) _).trans (mu_ne (by omega))).trans (((congrFun (congrFun hq185 _) _).trans (mu_ne (by omega))).trans ((congrFun (congrFun hq182 _) _).trans (mu_ne (by omega))))))))))) ((((congrFun (congrFun hq203 _) _).trans (mu_ne (by omega))).trans (((congrFun (congrFun hq200 _) _).trans (mu_ne (by omega))).trans (((congrFun (congrFun hq197 _) _).trans (mu_ne (by omega))).trans (((congrFun (congrFun hq194 _) _).trans (mu_ne (by omega))).trans (((congrFun (congrFun hq191 _) _).trans (mu_ne (by omega))).trans (((congrFun (congrFun hq188 _) _).trans (mu_ne (by omega))).trans (((congrFun (congrFun hq185 _) _).trans (mu_ne (by omega))).trans ((congrFun (congrFun hq182 _) _).trans (mu_ne (by omega))))))))))) ((((congrFun (congrFun hq203 _) _).trans (mu_ne (by omega))).trans (((congrFun (congrFun hq200 _) _).trans (mu_ne (by omega))).trans (((congrFun (congrFun hq197 _) _).trans (mu_ne (by omega))).trans (((congrFun (congrFun hq194 _) _).trans (mu_ne (by omega))).trans (((congrFun (congrFun hq191 _) _).trans (mu_ne (by omega))).trans (((congrFun (congrFun hq188 _) _).trans (mu_ne (by omega))).trans (((congrFun (congrFun hq185 _) _).trans (mu_ne (by omega))).trans ((congrFun (congrFun hq182 _) _).trans (mu_ne (by omega))))))))))) (by first | omega | assumption | (simp only [hf205, hf206, hf207, hf208, hf209, hf210]; assumption)) (by first | omega | assumption | (simp only [hf205, hf206, hf207, hf208, hf209, hf210]; assumption)) (by first | (intro e he; exfalso; omega) | (intro e he; rw [hqz]; by_cases c : e = x1.toNat; (subst c; exact mu_eq); (rw [mu_ne (by omega)]; exact as3 e (by omega)))) (by first | omega | assumption | (simp only [hf205, hf206, hf207, hf208, hf209, hf210]; assumption)) (by omega))
end
section
theorem LO_lt {E x : Int} {T o fs : Nat → Int} (h : LO E T o fs x) {e : Nat} (he : (e : Int) < E) (h1 : 0 ≤ fs e) : fs e < x := by
  rcases h e he with ⟨a1, _⟩ | ⟨_, a2, _⟩ | ⟨b, a1, a2, a3, _⟩ <;> omega
end
section
/-! the reference: the ground as it is told, the line, what is kept -/
def WHr (z : mZ) : Prop := z 225 26 % 2 = 0 ∧ ∀ e : Nat, e < 18 → ct (z 235) e (3 * z 225 26).toNat = if (e : Int) < rE z then 2 else 0
def LFr (z : mZ) : Prop := ∀ l : Nat, (l : Int) < z 225 27 → FT (z 225 26).toNat (vT (z 235)) (tr (rE z) (lnR z l)) ∧ ∀ e : Nat, (e : Int) < rE z → lnR z l e ≤ 99
def WDr (z : mZ) : Prop := ∀ a : Nat, (a : Int) < z 225 28 → ∀ i : Nat, (i : Int) < z 239 a → z 237 (8 * a + i) < z 225 27
def FTw (z : mZ) (n : Nat → Int) : Prop := FT (z 225 26).toNat (vT (z 235)) (tr (rE z) n)
def RGd (z : mZ) : Prop := RW z ∧ LFr z ∧ WDr z ∧ GAr z
def RV (z w : mZ) : Prop := RGd z ∧ FTw z (w 270) ∧ (z 225 73 + z 225 74 ≤ 60 ∧ ∀ k : Nat, (k : Int) < z 225 73 + z 225 74 → FTw z (fun e => w 271 (18 * k + e))) ∧ ∀ b : Nat, b < 3 → z 274 b = 1 → FTw z (fun e => w 275 (18 * b + e))
theorem LY_r {z : mZ} (hz : rz z) (w : WHr z) : LY (z 225 26) (rE z) (z 235) := by
  have h26 := rd_225_26 hz
  refine LY_ct (by omega) (by omega) w.1 (fun s hs => rd_235 hz (i := s) (by omega)) (fun e he => ?_)
  have := w.2 e he
  rw [show (3 * z 225 26).toNat = 3 * (z 225 26).toNat by omega] at this
  exact this
theorem WHr_n {z : mZ} (hz : rz z) (e : z 225 26 = z 225 23) (h : ∀ s : Nat, s < 36 → z 235 s = z 229 s) (w : WHn z) : WHr z := by
  have h23 := rd_225_23 hz
  unfold WHr rE
  rw [e]
  refine ⟨w.1, fun k hk => ?_⟩
  rw [ct_c (T := z 229) _ (fun s hs => h s (by omega))]
  exact w.2 k hk
theorem FT_T {m : Nat} {T T' : Nat → Nat} {n : Nat → Int} (h : ∀ s, s < 3 * m → T' s = T s) (f : FT m T n) : FT m T' n := by
  refine ⟨f.1, fun s hs => ?_⟩
  rw [h s hs, h (bh s) (by have := bh_cases s; omega), h (ah s) (by have := ah_cases s; omega)]
  exact f.2 s hs
theorem LFr_n {z : mZ} (hz : rz z) (e : z 225 26 = z 225 23) (e7 : z 225 27 = z 225 24) (h : ∀ s : Nat, s < 36 → z 235 s = z 229 s) (g : ∀ i : Nat, i < 144 → z 236 i = z 231 i) (w : LFn z) : LFr z := by
  have h23 := rd_225_23 hz
  have h24 := rd_225_24 hz
  intro l hl
  obtain ⟨w1, w2⟩ := w l (by omega)
  have hE : rE z = nE z := by unfold rE nE; rw [e]
  have hn : nE z ≤ 18 := by unfold nE; omega
  rw [hE, e]
  have f : tr (nE z) (lnR z l) = tr (nE z) (fun e => z 231 (18 * l + e)) := by
    funext k
    by_cases c : (k : Int) < nE z
    · rw [tr_l c, tr_l c]; exact g _ (by omega)
    · rw [tr_g (by omega), tr_g (by omega)]
  rw [f]
  refine ⟨FT_T (fun s hs => ?_) w1, fun k hk => ?_⟩
  · show (z 235 s).toNat = (z 229 s).toNat
    rw [h s (by omega)]
  · show z 236 (18 * l + k) ≤ 99
    rw [g _ (by omega)]; exact w2 k hk
theorem WDr_n {z : mZ} (hz : rz z) (e7 : z 225 27 = z 225 24) (e8 : z 225 28 = z 225 25) (h : ∀ i : Nat, i < 48 → z 237 i = z 232 i) (g : ∀ i : Nat, i < 6 → z 239 i = z 234 i) (w : WDn z) : WDr z := by
  have h25 := rd_225_25 hz
  intro a ha i hi
  have h6 : a < 6 := by omega
  rw [g a h6] at hi
  have h8 := rd_234 hz (i := a) (by omega)
  rw [h _ (by omega), e7]
  exact w a (by omega) i hi
theorem FTw_c {z z' : mZ} {n n' : Nat → Int} (e26 : z' 225 26 = z 225 26) (e235 : z' 235 = z 235) (h18 : rE z ≤ 18) (en : ∀ e : Nat, e < 18 → n' e = n e) (h : FTw z n) : FTw z' n' := by
  have hE : rE z' = rE z := by unfold rE; rw [e26]
  unfold FTw at *
  rw [hE, e26, e235]
  have f : tr (rE z) n' = tr (rE z) n := by
    funext k
    by_cases c : (k : Int) < rE z
    · rw [tr_l c, tr_l c]; exact en _ (by omega)
    · rw [tr_g (by omega), tr_g (by omega)]
  rw [f]; exact h
theorem RGd_c {z z' : mZ} (e1 : ∀ i, 26 ≤ i → i ≤ 28 → z' 225 i = z 225 i) (e2 : ∀ a, 235 ≤ a → a ≤ 241 → a ≠ 238 → z' a = z a) (e3 : ∀ a, 247 ≤ a → a ≤ 254 → z' a = z a) (h : RGd z) : RGd z' := by
  have q26 := e1 26 (by omega) (by omega)
  have q27 := e1 27 (by omega) (by omega)
  have q28 := e1 28 (by omega) (by omega)
  have q235 := e2 235 (by omega) (by omega) (by omega)
  have q236 := e2 236 (by omega) (by omega) (by omega)
  have q237 := e2 237 (by omega) (by omega) (by omega)
  have q239 := e2 239 (by omega) (by omega) (by omega)
  have q240 := e2 240 (by omega) (by omega) (by omega)
  have q241 := e2 241 (by omega) (by omega) (by omega)
  have hE : rE z' = rE z := by unfold rE; rw [q26]
  obtain ⟨h1, h2, h3, h4⟩ := h
  refine ⟨?_, ?_, ?_, ?_⟩
  · unfold RW at *; rw [hE, q26, q235, q240, q241]; exact h1
  · intro l hl
    rw [q27] at hl
    have := h2 l hl
    unfold lnR at *
    rw [hE, q26, q235, q236]; exact this
  · unfold WDr at *; rw [q27, q28, q237, q239]; exact h3
  · intro l hl
    rw [q27] at hl
    exact GRq_c q26 q235 e3 (h4 l hl)
theorem RV_c {z z' w w' : mZ} (hz : rz z) (e1 : ∀ i, 26 ≤ i → i ≤ 28 → z' 225 i = z 225 i) (e2 : ∀ a, 235 ≤ a → a ≤ 241 → a ≠ 238 → z' a = z a) (e3 : ∀ a, 247 ≤ a → a ≤ 254 → z' a = z a) (e4 : z' 225 73 = z 225 73) (e5 : z' 225 74 = z 225 74) (e6 : z' 274 = z 274)
    (f : ∀ a, a = 270 ∨ a = 271 ∨ a = 275 → w' a = w a) (h : RV z w) : RV z' w' := by
  obtain ⟨h1, h2, ⟨h3, h4⟩, h5⟩ := h
  have q26 := e1 26 (by omega) (by omega)
  have q235 := e2 235 (by omega) (by omega) (by omega)
  have h26 := rd_225_26 hz
  have h18 : rE z ≤ 18 := by unfold rE; omega
  refine ⟨RGd_c e1 e2 e3 h1, FTw_c q26 q235 h18 (fun e _ => by rw [f 270 (by omega)]) h2, ⟨by omega, fun k hk => FTw_c q26 q235 h18 (fun e _ => by rw [f 271 (by omega)]) (h4 k (by omega))⟩, fun b hb q => FTw_c q26 q235 h18 (fun e _ => by rw [f 275 (by omega)]) (h5 b hb (by rw [← e6]; exact q))⟩
theorem GAr_s {z z' : mZ} {x : Int} (hz : rz z) (x0 : 0 ≤ x) (x7 : x ≤ 7) (e26 : z' 225 26 = z 225 26) (e235 : z' 235 = z 235) (h : ∀ l : Nat, (l : Int) < x → GRq z z l) (g : GRq z z' x.toNat) (o : OTH z z' x.toNat) : ∀ l : Nat, (l : Int) < x + 1 → GRq z' z' l := by
  have hE : rE z' = rE z := by unfold rE; rw [e26]
  intro l hl
  have k : GRq z z' l := by
    by_cases c : l = x.toNat
    · rw [c]; exact g
    · have := rd_248 hz (i := l) (by omega)
      exact OTH_g o c (by omega) (by omega) (by omega) (h l (by omega))
  unfold GRq at *
  rw [hE, e26, e235]; exact k
theorem FTw_0 {z : mZ} {n : Nat → Int} (h : ∀ e : Nat, e < 18 → n e = 0) (hr : RW z) (h18 : rE z ≤ 18) : FTw z n := by
  unfold FTw
  refine FT_0 (WT.lt hr) (fun j hj => ?_)
  by_cases c : (j : Int) < rE z
  · rw [tr_l c]; exact h j (by omega)
  · rw [tr_g (by omega)]
def NGd (z : mZ) : Prop := WHn z ∧ LFn z ∧ WDn z
theorem NGd_c {z z' : mZ} (e23 : z' 225 23 = z 225 23) (e24 : z' 225 24 = z 225 24) (e25 : z' 225 25 = z 225 25) (e229 : z' 229 = z 229) (e231 : z' 231 = z 231) (e232 : z' 232 = z 232) (e234 : z' 234 = z 234) (h : NGd z) : NGd z' := by
  unfold NGd WHn LFn WDn nE at *
  rw [e23, e24, e25, e229, e231, e232, e234]; exact h
theorem RW_c {z z' : mZ} (e26 : z' 225 26 = z 225 26) (e235 : z' 235 = z 235) (e240 : z' 240 = z 240) (e241 : z' 241 = z 241) (h : RW z) : RW z' := by
  unfold RW rE at *; rw [e26, e235, e240, e241]; exact h
theorem LFr_c {z z' : mZ} (e26 : z' 225 26 = z 225 26) (e27 : z' 225 27 = z 225 27) (e235 : z' 235 = z 235) (e236 : z' 236 = z 236) (h : LFr z) : LFr z' := by
  unfold LFr lnR rE at *; rw [e26, e27, e235, e236]; exact h
theorem WDr_c {z z' : mZ} (e27 : z' 225 27 = z 225 27) (e28 : z' 225 28 = z 225 28) (e237 : z' 237 = z 237) (e239 : z' 239 = z 239) (h : WDr z) : WDr z' := by
  unfold WDr at *; rw [e27, e28, e237, e239]; exact h
end

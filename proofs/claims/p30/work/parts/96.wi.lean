/-! methods, printed by wip/tools/vcg.py -/
/-- LoopGroundModel greater -/
abbrev S_205e  : mS := [(259, 259, 0, 17), (258, 258, 0, 323), (257, 257, 0, 17), (225, 225, 58, 58)]
abbrev E_205e (a1 : Int) (a2 : Int) (a3 : Int) (a4 : Int) (a5 : Int) (a6 : Int) (z0 w0 : mZ) (x y tx it mt tt ct : Option Nat) : mZ → mZ → mP → Prop := fun z w p => p = (pq x y tx it mt tt ct) ∧ (w 257 = (fun j => if j = a1.toNat then max (w0 257 a2.toNat + w0 257 a3.toNat) (w0 257 a4.toNat + w0 257 a5.toNat) - w0 257 a6.toNat else w0 257 j) ∧ (z 225 58 = 0 → z0 225 58 = 0 ∧ w 257 a1.toNat ≤ 100000000000000) ∧ (z 225 58 = 1 → z0 225 58 = 1 ∨ 100000000000000 < w 257 a1.toNat))
theorem m_205e {d : Nat} {z0 w0 : mZ} {x y tx it mt tt ct : Option Nat} (a1 : Int) (a2 : Int) (a3 : Int) (a4 : Int) (a5 : Int) (a6 : Int) (hz : rz z0) (hw : rw_ w0) (ha1 : 0 ≤ a1 ∧ a1 ≤ 17) (ha2 : 0 ≤ a2 ∧ a2 ≤ 17) (ha3 : 0 ≤ a3 ∧ a3 ≤ 17) (ha4 : 0 ≤ a4 ∧ a4 ≤ 17) (ha5 : 0 ≤ a5 ∧ a5 ≤ 17) (ha6 : 0 ≤ a6 ∧ a6 ≤ 17) (hnb : NBr w0 257) : wc (d + 2) 205 [.ref 225, .int (Int32.ofInt a1), .int (Int32.ofInt a2), .int (Int32.ofInt a3), .int (Int32.ofInt a4), .int (Int32.ofInt a5), .int (Int32.ofInt a6)] (mk z0 w0 (pq x y tx it mt tt ct)) (poV S_205e z0 w0 (E_205e a1 a2 a3 a4 a5 a6 z0 w0 x y tx it mt tt ct)) := by
  have hst : st_ S_205e z0 w0 z0 w0 := st_rf hz hw
  have hz126 := rd_225_58 hz
  have hn2 := hnb a2.toNat (by omega)
  have hn3 := hnb a3.toNat (by omega)
  have hn4 := hnb a4.toNat (by omega)
  have hn5 := hnb a5.toNat (by omega)
  have hn6 := hnb a6.toNat (by omega)
  refine w_m rfl rfl ?_
  refine r_ld (pc' := 1) rfl rfl rfl rfl ?_
  refine r_gr (b := 257) (pc' := 4) rfl rfl sh_225 rfl pp_225_55 ?_
  refine r_ld (pc' := 5) rfl rfl rfl rfl ?_
  have hb127 := rd_257 hw (i := a2.toNat) (by omega)
  refine r_la (pc' := 6) rfl rfl sh_257 rfl (by omega) (by omega) rfl ?_
  refine r_ld (pc' := 7) rfl rfl rfl rfl ?_
  refine r_gr (b := 257) (pc' := 10) rfl rfl sh_225 rfl pp_225_55 ?_
  refine r_ld (pc' := 11) rfl rfl rfl rfl ?_
  have hb128 := rd_257 hw (i := a3.toNat) (by omega)
  refine r_la (pc' := 12) rfl rfl sh_257 rfl (by omega) (by omega) rfl ?_
  refine r_ladd (pc' := 13) rfl rfl ?_
  refine w_hxl (fun v129 h130 h131 => ?_)
  refine r_st (pc' := 15) (lv' := [(7, _), (0, _), (1, _), (2, _), (3, _), (4, _), (5, _), (6, _)]) rfl rfl rfl rfl ?_
  refine r_ld (pc' := 16) rfl rfl rfl rfl ?_
  refine r_gr (b := 257) (pc' := 19) rfl rfl sh_225 rfl pp_225_55 ?_
  refine r_ld (pc' := 21) rfl rfl rfl rfl ?_
  have hb132 := rd_257 hw (i := a4.toNat) (by omega)
  refine r_la (pc' := 22) rfl rfl sh_257 rfl (by omega) (by omega) rfl ?_
  refine r_ld (pc' := 23) rfl rfl rfl rfl ?_
  refine r_gr (b := 257) (pc' := 26) rfl rfl sh_225 rfl pp_225_55 ?_
  refine r_ld (pc' := 28) rfl rfl rfl rfl ?_
  have hb133 := rd_257 hw (i := a5.toNat) (by omega)
  refine r_la (pc' := 29) rfl rfl sh_257 rfl (by omega) (by omega) rfl ?_
  refine r_ladd (pc' := 30) rfl rfl ?_
  refine w_hxl (fun v134 h135 h136 => ?_)
  refine r_st (pc' := 32) (lv' := [(9, _), (7, _), (0, _), (1, _), (2, _), (3, _), (4, _), (5, _), (6, _)]) rfl rfl rfl rfl ?_
  refine r_ld (pc' := 34) rfl rfl rfl rfl ?_
  refine r_ld (pc' := 36) rfl rfl rfl rfl ?_
  refine r_lge (pc' := 40) rfl rfl rfl ⟨by omega, by omega⟩ ⟨by omega, by omega⟩ (fun hc137 => ?_) (fun hc137 => ?_)
  · skip
    refine r_ld (pc' := 47) rfl rfl rfl rfl ?_
    refine r_ld (pc' := 48) rfl rfl rfl rfl ?_
    refine r_gr (b := 257) (pc' := 51) rfl rfl sh_225 rfl pp_225_55 ?_
    refine r_ld (pc' := 53) rfl rfl rfl rfl ?_
    have hb138 := rd_257 hw (i := a6.toNat) (by omega)
    refine r_la (pc' := 54) rfl rfl sh_257 rfl (by omega) (by omega) rfl ?_
    refine r_lsub (pc' := 55) rfl rfl ?_
    refine w_hxl (fun v139 h140 h141 => ?_)
    refine r_st (pc' := 57) (lv' := [(11, _), (9, _), (7, _), (0, _), (1, _), (2, _), (3, _), (4, _), (5, _), (6, _)]) rfl rfl rfl rfl ?_
    refine r_ld (pc' := 58) rfl rfl rfl rfl ?_
    refine r_ld (pc' := 59) rfl rfl rfl rfl ?_
    refine r_ld (pc' := 61) rfl rfl rfl rfl ?_
    refine r_ld (pc' := 63) rfl rfl rfl rfl ?_
    refine r_lge (pc' := 67) rfl rfl rfl ⟨by omega, by omega⟩ ⟨by omega, by omega⟩ (fun hc142 => ?_) (fun hc142 => ?_)
    · skip
      refine r_c0 (pc' := 72) rfl rfl ?_
      refine r_ld (pc' := 73) rfl rfl rfl rfl ?_
      refine r_ld (pc' := 74) rfl rfl rfl rfl ?_
      refine r_ld (pc' := 76) rfl rfl rfl rfl ?_
      refine r_ld (pc' := 78) rfl rfl rfl rfl ?_
      refine r_ld (pc' := 80) rfl rfl rfl rfl ?_
      have hwz := True.intro
      refine r_cVV (pc' := 83) rfl rfl rfl rfl rfl sh_225 (m_204 (d := d) a1 0 a2 a3 a4 a5 a6 hst.1 hst.2.1 ⟨by omega, by omega⟩ ⟨by omega, by omega⟩ ⟨by omega, by omega⟩ ⟨by omega, by omega⟩ ⟨by omega, by omega⟩ ⟨by omega, by omega⟩ ⟨by omega, by omega⟩) (fun z144 w145 p146 hs148 hE149 => ?_)
      have hs150 := st_tr hst hs148 (sub_B rfl)
      obtain rfl := hE149
      have hwf : ∀ j, w145 257 j = w0 257 j := fun j => (hs148.2.2.2 _ _ (notS_c (by omega) (notS_c (by omega) notS_n)))
      refine r_ld (pc' := 84) rfl rfl rfl rfl ?_
      refine r_gr (b := 257) (pc' := 87) rfl rfl sh_225 rfl pp_225_55 ?_
      refine r_ld (pc' := 88) rfl rfl rfl rfl ?_
      refine r_ld (pc' := 90) rfl rfl rfl rfl ?_
      refine r_ls (pc' := 91) rfl rfl sh_257 rfl (by omega) (by omega) hs150 (inS_s (inS_s (inS_0 (by omega) (by omega) (by omega) (by omega)))) (wr_257 ⟨by omega, by omega⟩) (fun w151 hq152 hs153 => ?_)
      have hqw := hq152
      refine r_ld (pc' := 92) rfl rfl rfl rfl ?_
      refine r_ld (pc' := 93) rfl rfl rfl rfl ?_
      have hb154 := rd_225_58 hz
      refine r_gi (pc' := 96) rfl rfl sh_225 rfl (hs148.2.2.1 _ _ (notS_c (by omega) (notS_c (by omega) notS_n))) ?_
      refine r_zne (pc' := 99) rfl rfl ⟨by omega, by omega⟩ (fun hc155 => ?_) (fun hc155 => ?_)
      · skip
        refine r_c0 (pc' := 109) rfl rfl ?_
        refine r_go rfl ?_
        refine r_pi (pc' := 116) rfl rfl sh_225 rfl (fit_b (by omega)) hs153 (inS_s (inS_s (inS_s (inS_0 (by omega) (by omega) (by omega) (by omega))))) (wr_225_58 ⟨by omega, by omega⟩) (fun z156 hq157 hs158 => ?_)
        have hf159 : z156 225 58 = 1 := ((congrFun (congrFun hq157 _) _).trans mu_eq)
        exact r_ret rfl (po_V hs158 ⟨rfl, (by have hw9 : w151 257 = (fun j => if j = a1.toNat then max (w0 257 a2.toNat + w0 257 a3.toNat) (w0 257 a4.toNat + w0 257 a5.toNat) - w0 257 a6.toNat else w0 257 j) := (by funext j; rw [show w151 257 j = w151 257 j from rfl, hqw, mu_sf]; dsimp only; by_cases c : j = a1.toNat; (rw [if_pos c, if_pos c]; omega); (rw [if_neg c, if_neg c]; exact hwf j)); (have hv9 : w151 257 a1.toNat = w151 257 a1.toNat := rfl); (have hv8 : w151 257 a1.toNat = _ := (congrFun (congrFun hqw _) _).trans mu_eq); exact ⟨hw9, fun h => ⟨by omega, by omega⟩, fun h => by omega⟩)⟩)
      · skip
        refine r_ld (pc' := 101) rfl rfl rfl rfl ?_
        refine r_al (pc' := 104) rfl rfl rfl rfl ?_
        refine r_lle (pc' := 108) rfl rfl rfl ⟨by omega, by omega⟩ ⟨by decide, by decide⟩ (fun hc160 => ?_) (fun hc160 => ?_)
        · skip
          refine r_c0 (pc' := 113) rfl rfl ?_
          refine r_pi (pc' := 116) rfl rfl sh_225 rfl (fit_b (by omega)) hs153 (inS_s (inS_s (inS_s (inS_0 (by omega) (by omega) (by omega) (by omega))))) (wr_225_58 ⟨by omega, by omega⟩) (fun z161 hq162 hs163 => ?_)
          have hf164 : z161 225 58 = 0 := ((congrFun (congrFun hq162 _) _).trans mu_eq)
          exact r_ret rfl (po_V hs163 ⟨rfl, (by have hw9 : w151 257 = (fun j => if j = a1.toNat then max (w0 257 a2.toNat + w0 257 a3.toNat) (w0 257 a4.toNat + w0 257 a5.toNat) - w0 257 a6.toNat else w0 257 j) := (by funext j; rw [show w151 257 j = w151 257 j from rfl, hqw, mu_sf]; dsimp only; by_cases c : j = a1.toNat; (rw [if_pos c, if_pos c]; omega); (rw [if_neg c, if_neg c]; exact hwf j)); (have hv9 : w151 257 a1.toNat = w151 257 a1.toNat := rfl); (have hv8 : w151 257 a1.toNat = _ := (congrFun (congrFun hqw _) _).trans mu_eq); exact ⟨hw9, fun h => ⟨by omega, by omega⟩, fun h => by omega⟩)⟩)
        · skip
          refine r_c0 (pc' := 109) rfl rfl ?_
          refine r_go rfl ?_
          refine r_pi (pc' := 116) rfl rfl sh_225 rfl (fit_b (by omega)) hs153 (inS_s (inS_s (inS_s (inS_0 (by omega) (by omega) (by omega) (by omega))))) (wr_225_58 ⟨by omega, by omega⟩) (fun z165 hq166 hs167 => ?_)
          have hf168 : z165 225 58 = 1 := ((congrFun (congrFun hq166 _) _).trans mu_eq)
          exact r_ret rfl (po_V hs167 ⟨rfl, (by have hw9 : w151 257 = (fun j => if j = a1.toNat then max (w0 257 a2.toNat + w0 257 a3.toNat) (w0 257 a4.toNat + w0 257 a5.toNat) - w0 257 a6.toNat else w0 257 j) := (by funext j; rw [show w151 257 j = w151 257 j from rfl, hqw, mu_sf]; dsimp only; by_cases c : j = a1.toNat; (rw [if_pos c, if_pos c]; omega); (rw [if_neg c, if_neg c]; exact hwf j)); (have hv9 : w151 257 a1.toNat = w151 257 a1.toNat := rfl); (have hv8 : w151 257 a1.toNat = _ := (congrFun (congrFun hqw _) _).trans mu_eq); exact ⟨hw9, fun h => ⟨by omega, by omega⟩, fun h => by omega⟩)⟩)
    · skip
      refine r_c0 (pc' := 68) rfl rfl ?_
      refine r_go rfl ?_
      refine r_ld (pc' := 73) rfl rfl rfl rfl ?_
      refine r_ld (pc' := 74) rfl rfl rfl rfl ?_
      refine r_ld (pc' := 76) rfl rfl rfl rfl ?_
      refine r_ld (pc' := 78) rfl rfl rfl rfl ?_
      refine r_ld (pc' := 80) rfl rfl rfl rfl ?_
      have hwz := True.intro
      refine r_cVV (pc' := 83) rfl rfl rfl rfl rfl sh_225 (m_204 (d := d) a1 1 a2 a3 a4 a5 a6 hst.1 hst.2.1 ⟨by omega, by omega⟩ ⟨by omega, by omega⟩ ⟨by omega, by omega⟩ ⟨by omega, by omega⟩ ⟨by omega, by omega⟩ ⟨by omega, by omega⟩ ⟨by omega, by omega⟩) (fun z170 w171 p172 hs174 hE175 => ?_)
      have hs176 := st_tr hst hs174 (sub_B rfl)
      obtain rfl := hE175
      have hwf : ∀ j, w171 257 j = w0 257 j := fun j => (hs174.2.2.2 _ _ (notS_c (by omega) (notS_c (by omega) notS_n)))
      refine r_ld (pc' := 84) rfl rfl rfl rfl ?_
      refine r_gr (b := 257) (pc' := 87) rfl rfl sh_225 rfl pp_225_55 ?_
      refine r_ld (pc' := 88) rfl rfl rfl rfl ?_
      refine r_ld (pc' := 90) rfl rfl rfl rfl ?_
      refine r_ls (pc' := 91) rfl rfl sh_257 rfl (by omega) (by omega) hs176 (inS_s (inS_s (inS_0 (by omega) (by omega) (by omega) (by omega)))) (wr_257 ⟨by omega, by omega⟩) (fun w177 hq178 hs179 => ?_)
      have hqw := hq178
      refine r_ld (pc' := 92) rfl rfl rfl rfl ?_
      refine r_ld (pc' := 93) rfl rfl rfl rfl ?_
      have hb180 := rd_225_58 hz
      refine r_gi (pc' := 96) rfl rfl sh_225 rfl (hs174.2.2.1 _ _ (notS_c (by omega) (notS_c (by omega) notS_n))) ?_
      refine r_zne (pc' := 99) rfl rfl ⟨by omega, by omega⟩ (fun hc181 => ?_) (fun hc181 => ?_)
      · skip
        refine r_c0 (pc' := 109) rfl rfl ?_
        refine r_go rfl ?_
        refine r_pi (pc' := 116) rfl rfl sh_225 rfl (fit_b (by omega)) hs179 (inS_s (inS_s (inS_s (inS_0 (by omega) (by omega) (by omega) (by omega))))) (wr_225_58 ⟨by omega, by omega⟩) (fun z182 hq183 hs184 => ?_)
        have hf185 : z182 225 58 = 1 := ((congrFun (congrFun hq183 _) _).trans mu_eq)
        exact r_ret rfl (po_V hs184 ⟨rfl, (by have hw9 : w177 257 = (fun j => if j = a1.toNat then max (w0 257 a2.toNat + w0 257 a3.toNat) (w0 257 a4.toNat + w0 257 a5.toNat) - w0 257 a6.toNat else w0 257 j) := (by funext j; rw [show w177 257 j = w177 257 j from rfl, hqw, mu_sf]; dsimp only; by_cases c : j = a1.toNat; (rw [if_pos c, if_pos c]; omega); (rw [if_neg c, if_neg c]; exact hwf j)); (have hv9 : w177 257 a1.toNat = w177 257 a1.toNat := rfl); (have hv8 : w177 257 a1.toNat = _ := (congrFun (congrFun hqw _) _).trans mu_eq); exact ⟨hw9, fun h => ⟨by omega, by omega⟩, fun h => by omega⟩)⟩)
      · skip
        refine r_ld (pc' := 101) rfl rfl rfl rfl ?_
        refine r_al (pc' := 104) rfl rfl rfl rfl ?_
        refine r_lle (pc' := 108) rfl rfl rfl ⟨by omega, by omega⟩ ⟨by decide, by decide⟩ (fun hc186 => ?_) (fun hc186 => ?_)
        · skip
          refine r_c0 (pc' := 113) rfl rfl ?_
          refine r_pi (pc' := 116) rfl rfl sh_225 rfl (fit_b (by omega)) hs179 (inS_s (inS_s (inS_s (inS_0 (by omega) (by omega) (by omega) (by omega))))) (wr_225_58 ⟨by omega, by omega⟩) (fun z187 hq188 hs189 => ?_)
          have hf190 : z187 225 58 = 0 := ((congrFun (congrFun hq188 _) _).trans mu_eq)
          exact r_ret rfl (po_V hs189 ⟨rfl, (by have hw9 : w177 257 = (fun j => if j = a1.toNat then max (w0 257 a2.toNat + w0 257 a3.toNat) (w0 257 a4.toNat + w0 257 a5.toNat) - w0 257 a6.toNat else w0 257 j) := (by funext j; rw [show w177 257 j = w177 257 j from rfl, hqw, mu_sf]; dsimp only; by_cases c : j = a1.toNat; (rw [if_pos c, if_pos c]; omega); (rw [if_neg c, if_neg c]; exact hwf j)); (have hv9 : w177 257 a1.toNat = w177 257 a1.toNat := rfl); (have hv8 : w177 257 a1.toNat = _ := (congrFun (congrFun hqw _) _).trans mu_eq); exact ⟨hw9, fun h => ⟨by omega, by omega⟩, fun h => by omega⟩)⟩)
        · skip
          refine r_c0 (pc' := 109) rfl rfl ?_
          refine r_go rfl ?_
          refine r_pi (pc' := 116) rfl rfl sh_225 rfl (fit_b (by omega)) hs179 (inS_s (inS_s (inS_s (inS_0 (by omega) (by omega) (by omega) (by omega))))) (wr_225_58 ⟨by omega, by omega⟩) (fun z191 hq192 hs193 => ?_)
          have hf194 : z191 225 58 = 1 := ((congrFun (congrFun hq192 _) _).trans mu_eq)
          exact r_ret rfl (po_V hs193 ⟨rfl, (by have hw9 : w177 257 = (fun j => if j = a1.toNat then max (w0 257 a2.toNat + w0 257 a3.toNat) (w0 257 a4.toNat + w0 257 a5.toNat) - w0 257 a6.toNat else w0 257 j) := (by funext j; rw [show w177 257 j = w177 257 j from rfl, hqw, mu_sf]; dsimp only; by_cases c : j = a1.toNat; (rw [if_pos c, if_pos c]; omega); (rw [if_neg c, if_neg c]; exact hwf j)); (have hv9 : w177 257 a1.toNat = w177 257 a1.toNat := rfl); (have hv8 : w177 257 a1.toNat = _ := (congrFun (congrFun hqw _) _).trans mu_eq); exact ⟨hw9, fun h => ⟨by omega, by omega⟩, fun h => by omega⟩)⟩)
  · skip
    refine r_ld (pc' := 42) rfl rfl rfl rfl ?_
    refine r_go rfl ?_
    refine r_ld (pc' := 48) rfl rfl rfl rfl ?_
    refine r_gr (b := 257) (pc' := 51) rfl rfl sh_225 rfl pp_225_55 ?_
    refine r_ld (pc' := 53) rfl rfl rfl rfl ?_
    have hb195 := rd_257 hw (i := a6.toNat) (by omega)
    refine r_la (pc' := 54) rfl rfl sh_257 rfl (by omega) (by omega) rfl ?_
    refine r_lsub (pc' := 55) rfl rfl ?_
    refine w_hxl (fun v196 h197 h198 => ?_)
    refine r_st (pc' := 57) (lv' := [(11, _), (9, _), (7, _), (0, _), (1, _), (2, _), (3, _), (4, _), (5, _), (6, _)]) rfl rfl rfl rfl ?_
    refine r_ld (pc' := 58) rfl rfl rfl rfl ?_
    refine r_ld (pc' := 59) rfl rfl rfl rfl ?_
    refine r_ld (pc' := 61) rfl rfl rfl rfl ?_
    refine r_ld (pc' := 63) rfl rfl rfl rfl ?_
    refine r_lge (pc' := 67) rfl rfl rfl ⟨by omega, by omega⟩ ⟨by omega, by omega⟩ (fun hc199 => ?_) (fun hc199 => ?_)
    · skip
      refine r_c0 (pc' := 72) rfl rfl ?_
      refine r_ld (pc' := 73) rfl rfl rfl rfl ?_
      refine r_ld (pc' := 74) rfl rfl rfl rfl ?_
      refine r_ld (pc' := 76) rfl rfl rfl rfl ?_
      refine r_ld (pc' := 78) rfl rfl rfl rfl ?_
      refine r_ld (pc' := 80) rfl rfl rfl rfl ?_
      have hwz := True.intro
      refine r_cVV (pc' := 83) rfl rfl rfl rfl rfl sh_225 (m_204 (d := d) a1 0 a2 a3 a4 a5 a6 hst.1 hst.2.1 ⟨by omega, by omega⟩ ⟨by omega, by omega⟩ ⟨by omega, by omega⟩ ⟨by omega, by omega⟩ ⟨by omega, by omega⟩ ⟨by omega, by omega⟩ ⟨by omega, by omega⟩) (fun z201 w202 p203 hs205 hE206 => ?_)
      have hs207 := st_tr hst hs205 (sub_B rfl)
      obtain rfl := hE206
      have hwf : ∀ j, w202 257 j = w0 257 j := fun j => (hs205.2.2.2 _ _ (notS_c (by omega) (notS_c (by omega) notS_n)))
      refine r_ld (pc' := 84) rfl rfl rfl rfl ?_
      refine r_gr (b := 257) (pc' := 87) rfl rfl sh_225 rfl pp_225_55 ?_
      refine r_ld (pc' := 88) rfl rfl rfl rfl ?_
      refine r_ld (pc' := 90) rfl rfl rfl rfl ?_
      refine r_ls (pc' := 91) rfl rfl sh_257 rfl (by omega) (by omega) hs207 (inS_s (inS_s (inS_0 (by omega) (by omega) (by omega) (by omega)))) (wr_257 ⟨by omega, by omega⟩) (fun w208 hq209 hs210 => ?_)
      have hqw := hq209
      refine r_ld (pc' := 92) rfl rfl rfl rfl ?_
      refine r_ld (pc' := 93) rfl rfl rfl rfl ?_
      have hb211 := rd_225_58 hz
      refine r_gi (pc' := 96) rfl rfl sh_225 rfl (hs205.2.2.1 _ _ (notS_c (by omega) (notS_c (by omega) notS_n))) ?_
      refine r_zne (pc' := 99) rfl rfl ⟨by omega, by omega⟩ (fun hc212 => ?_) (fun hc212 => ?_)
      · skip
        refine r_c0 (pc' := 109) rfl rfl ?_
        refine r_go rfl ?_
        refine r_pi (pc' := 116) rfl rfl sh_225 rfl (fit_b (by omega)) hs210 (inS_s (inS_s (inS_s (inS_0 (by omega) (by omega) (by omega) (by omega))))) (wr_225_58 ⟨by omega, by omega⟩) (fun z213 hq214 hs215 => ?_)
        have hf216 : z213 225 58 = 1 := ((congrFun (congrFun hq214 _) _).trans mu_eq)
        exact r_ret rfl (po_V hs215 ⟨rfl, (by have hw9 : w208 257 = (fun j => if j = a1.toNat then max (w0 257 a2.toNat + w0 257 a3.toNat) (w0 257 a4.toNat + w0 257 a5.toNat) - w0 257 a6.toNat else w0 257 j) := (by funext j; rw [show w208 257 j = w208 257 j from rfl, hqw, mu_sf]; dsimp only; by_cases c : j = a1.toNat; (rw [if_pos c, if_pos c]; omega); (rw [if_neg c, if_neg c]; exact hwf j)); (have hv9 : w208 257 a1.toNat = w208 257 a1.toNat := rfl); (have hv8 : w208 257 a1.toNat = _ := (congrFun (congrFun hqw _) _).trans mu_eq); exact ⟨hw9, fun h => ⟨by omega, by omega⟩, fun h => by omega⟩)⟩)
      · skip
        refine r_ld (pc' := 101) rfl rfl rfl rfl ?_
        refine r_al (pc' := 104) rfl rfl rfl rfl ?_
        refine r_lle (pc' := 108) rfl rfl rfl ⟨by omega, by omega⟩ ⟨by decide, by decide⟩ (fun hc217 => ?_) (fun hc217 => ?_)
        · skip
          refine r_c0 (pc' := 113) rfl rfl ?_
          refine r_pi (pc' := 116) rfl rfl sh_225 rfl (fit_b (by omega)) hs210 (inS_s (inS_s (inS_s (inS_0 (by omega) (by omega) (by omega) (by omega))))) (wr_225_58 ⟨by omega, by omega⟩) (fun z218 hq219 hs220 => ?_)
          have hf221 : z218 225 58 = 0 := ((congrFun (congrFun hq219 _) _).trans mu_eq)
          exact r_ret rfl (po_V hs220 ⟨rfl, (by have hw9 : w208 257 = (fun j => if j = a1.toNat then max (w0 257 a2.toNat + w0 257 a3.toNat) (w0 257 a4.toNat + w0 257 a5.toNat) - w0 257 a6.toNat else w0 257 j) := (by funext j; rw [show w208 257 j = w208 257 j from rfl, hqw, mu_sf]; dsimp only; by_cases c : j = a1.toNat; (rw [if_pos c, if_pos c]; omega); (rw [if_neg c, if_neg c]; exact hwf j)); (have hv9 : w208 257 a1.toNat = w208 257 a1.toNat := rfl); (have hv8 : w208 257 a1.toNat = _ := (congrFun (congrFun hqw _) _).trans mu_eq); exact ⟨hw9, fun h => ⟨by omega, by omega⟩, fun h => by omega⟩)⟩)
        · skip
          refine r_c0 (pc' := 109) rfl rfl ?_
          refine r_go rfl ?_
          refine r_pi (pc' := 116) rfl rfl sh_225 rfl (fit_b (by omega)) hs210 (inS_s (inS_s (inS_s (inS_0 (by omega) (by omega) (by omega) (by omega))))) (wr_225_58 ⟨by omega, by omega⟩) (fun z222 hq223 hs224 => ?_)
          have hf225 : z222 225 58 = 1 := ((congrFun (congrFun hq223 _) _).trans mu_eq)
          exact r_ret rfl (po_V hs224 ⟨rfl, (by have hw9 : w208 257 = (fun j => if j = a1.toNat then max (w0 257 a2.toNat + w0 257 a3.toNat) (w0 257 a4.toNat + w0 257 a5.toNat) - w0 257 a6.toNat else w0 257 j) := (by funext j; rw [show w208 257 j = w208 257 j from rfl, hqw, mu_sf]; dsimp only; by_cases c : j = a1.toNat; (rw [if_pos c, if_pos c]; omega); (rw [if_neg c, if_neg c]; exact hwf j)); (have hv9 : w208 257 a1.toNat = w208 257 a1.toNat := rfl); (have hv8 : w208 257 a1.toNat = _ := (congrFun (congrFun hqw _) _).trans mu_eq); exact ⟨hw9, fun h => ⟨by omega, by omega⟩, fun h => by omega⟩)⟩)
    · skip
      refine r_c0 (pc' := 68) rfl rfl ?_
      refine r_go rfl ?_
      refine r_ld (pc' := 73) rfl rfl rfl rfl ?_
      refine r_ld (pc' := 74) rfl rfl rfl rfl ?_
      refine r_ld (pc' := 76) rfl rfl rfl rfl ?_
      refine r_ld (pc' := 78) rfl rfl rfl rfl ?_
      refine r_ld (pc' := 80) rfl rfl rfl rfl ?_
      have hwz := True.intro
      refine r_cVV (pc' := 83) rfl rfl rfl rfl rfl sh_225 (m_204 (d := d) a1 1 a2 a3 a4 a5 a6 hst.1 hst.2.1 ⟨by omega, by omega⟩ ⟨by omega, by omega⟩ ⟨by omega, by omega⟩ ⟨by omega, by omega⟩ ⟨by omega, by omega⟩ ⟨by omega, by omega⟩ ⟨by omega, by omega⟩) (fun z227 w228 p229 hs231 hE232 => ?_)
      have hs233 := st_tr hst hs231 (sub_B rfl)
      obtain rfl := hE232
      have hwf : ∀ j, w228 257 j = w0 257 j := fun j => (hs231.2.2.2 _ _ (notS_c (by omega) (notS_c (by omega) notS_n)))
      refine r_ld (pc' := 84) rfl rfl rfl rfl ?_
      refine r_gr (b := 257) (pc' := 87) rfl rfl sh_225 rfl pp_225_55 ?_
      refine r_ld (pc' := 88) rfl rfl rfl rfl ?_
      refine r_ld (pc' := 90) rfl rfl rfl rfl ?_
      refine r_ls (pc' := 91) rfl rfl sh_257 rfl (by omega) (by omega) hs233 (inS_s (inS_s (inS_0 (by omega) (by omega) (by omega) (by omega)))) (wr_257 ⟨by omega, by omega⟩) (fun w234 hq235 hs236 => ?_)
      have hqw := hq235
      refine r_ld (pc' := 92) rfl rfl rfl rfl ?_
      refine r_ld (pc' := 93) rfl rfl rfl rfl ?_
      have hb237 := rd_225_58 hz
      refine r_gi (pc' := 96) rfl rfl sh_225 rfl (hs231.2.2.1 _ _ (notS_c (by omega) (notS_c (by omega) notS_n))) ?_
      refine r_zne (pc' := 99) rfl rfl ⟨by omega, by omega⟩ (fun hc238 => ?_) (fun hc238 => ?_)
      · skip
        refine r_c0 (pc' := 109) rfl rfl ?_
        refine r_go rfl ?_
        refine r_pi (pc' := 116) rfl rfl sh_225 rfl (fit_b (by omega)) hs236 (inS_s (inS_s (inS_s (inS_0 (by omega) (by omega) (by omega) (by omega))))) (wr_225_58 ⟨by omega, by omega⟩) (fun z239 hq240 hs241 => ?_)
        have hf242 : z239 225 58 = 1 := ((congrFun (congrFun hq240 _) _).trans mu_eq)
        exact r_ret rfl (po_V hs241 ⟨rfl, (by have hw9 : w234 257 = (fun j => if j = a1.toNat then max (w0 257 a2.toNat + w0 257 a3.toNat) (w0 257 a4.toNat + w0 257 a5.toNat) - w0 257 a6.toNat else w0 257 j) := (by funext j; rw [show w234 257 j = w234 257 j from rfl, hqw, mu_sf]; dsimp only; by_cases c : j = a1.toNat; (rw [if_pos c, if_pos c]; omega); (rw [if_neg c, if_neg c]; exact hwf j)); (have hv9 : w234 257 a1.toNat = w234 257 a1.toNat := rfl); (have hv8 : w234 257 a1.toNat = _ := (congrFun (congrFun hqw _) _).trans mu_eq); exact ⟨hw9, fun h => ⟨by omega, by omega⟩, fun h => by omega⟩)⟩)
      · skip
        refine r_ld (pc' := 101) rfl rfl rfl rfl ?_
        refine r_al (pc' := 104) rfl rfl rfl rfl ?_
        refine r_lle (pc' := 108) rfl rfl rfl ⟨by omega, by omega⟩ ⟨by decide, by decide⟩ (fun hc243 => ?_) (fun hc243 => ?_)
        · skip
          refine r_c0 (pc' := 113) rfl rfl ?_
          refine r_pi (pc' := 116) rfl rfl sh_225 rfl (fit_b (by omega)) hs236 (inS_s (inS_s (inS_s (inS_0 (by omega) (by omega) (by omega) (by omega))))) (wr_225_58 ⟨by omega, by omega⟩) (fun z244 hq245 hs246 => ?_)
          have hf247 : z244 225 58 = 0 := ((congrFun (congrFun hq245 _) _).trans mu_eq)
          exact r_ret rfl (po_V hs246 ⟨rfl, (by have hw9 : w234 257 = (fun j => if j = a1.toNat then max (w0 257 a2.toNat + w0 257 a3.toNat) (w0 257 a4.toNat + w0 257 a5.toNat) - w0 257 a6.toNat else w0 257 j) := (by funext j; rw [show w234 257 j = w234 257 j from rfl, hqw, mu_sf]; dsimp only; by_cases c : j = a1.toNat; (rw [if_pos c, if_pos c]; omega); (rw [if_neg c, if_neg c]; exact hwf j)); (have hv9 : w234 257 a1.toNat = w234 257 a1.toNat := rfl); (have hv8 : w234 257 a1.toNat = _ := (congrFun (congrFun hqw _) _).trans mu_eq); exact ⟨hw9, fun h => ⟨by omega, by omega⟩, fun h => by omega⟩)⟩)
        · skip
          refine r_c0 (pc' := 109) rfl rfl ?_
          refine r_go rfl ?_
          refine r_pi (pc' := 116) rfl rfl sh_225 rfl (fit_b (by omega)) hs236 (inS_s (inS_s (inS_s (inS_0 (by omega) (by omega) (by omega) (by omega))))) (wr_225_58 ⟨by omega, by omega⟩) (fun z248 hq249 hs250 => ?_)
          have hf251 : z248 225 58 = 1 := ((congrFun (congrFun hq249 _) _).trans mu_eq)
          exact r_ret rfl (po_V hs250 ⟨rfl, (by have hw9 : w234 257 = (fun j => if j = a1.toNat then max (w0 257 a2.toNat + w0 257 a3.toNat) (w0 257 a4.toNat + w0 257 a5.toNat) - w0 257 a6.toNat else w0 257 j) := (by funext j; rw [show w234 257 j = w234 257 j from rfl, hqw, mu_sf]; dsimp only; by_cases c : j = a1.toNat; (rw [if_pos c, if_pos c]; omega); (rw [if_neg c, if_neg c]; exact hwf j)); (have hv9 : w234 257 a1.toNat = w234 257 a1.toNat := rfl); (have hv8 : w234 257 a1.toNat = _ := (congrFun (congrFun hqw _) _).trans mu_eq); exact ⟨hw9, fun h => ⟨by omega, by omega⟩, fun h => by omega⟩)⟩)
/-- LoopGroundModel goFlip -/
abbrev S_207e  : mS := [(259, 259, 0, 17), (258, 258, 0, 323), (257, 257, 0, 17), (225, 225, 58, 58)]
abbrev E_207e (a1 : Int) (z0 w0 : mZ) (x y tx it mt tt ct : Option Nat) : mZ → mZ → mP → Prop := fun z w p => p = (pq x y tx it mt tt ct) ∧ (w 257 = fl (z0 247 a1.toNat).toNat (z0 247 (a1 + 1).toNat).toNat (z0 247 (a1 + 2).toNat).toNat (z0 247 (a1 + 3).toNat).toNat (z0 247 (a1 + 4).toNat).toNat (w0 257) ∧ (z 225 58 = 0 → z0 225 58 = 0 ∧ w 257 (z0 247 a1.toNat).toNat ≤ 100000000000000) ∧ (z 225 58 = 1 → z0 225 58 = 1 ∨ 100000000000000 < w 257 (z0 247 a1.toNat).toNat))
theorem m_207e {d : Nat} {z0 w0 : mZ} {x y tx it mt tt ct : Option Nat} (a1 : Int) (hz : rz z0) (hw : rw_ w0) (ha1 : 0 ≤ a1 ∧ a1 ≤ 71275) (hnb : NBr w0 257) : wc (d + 3) 207 [.ref 225, .int (Int32.ofInt a1)] (mk z0 w0 (pq x y tx it mt tt ct)) (poV S_207e z0 w0 (E_207e a1 z0 w0 x y tx it mt tt ct)) := by
  have hst : st_ S_207e z0 w0 z0 w0 := st_rf hz hw
  have hz16 := rd_225_58 hz
  refine w_m rfl rfl ?_
  refine r_ld (pc' := 1) rfl rfl rfl rfl ?_
  refine r_ld (pc' := 2) rfl rfl rfl rfl ?_
  refine r_gr (b := 247) (pc' := 5) rfl rfl sh_225 rfl pp_225_43 ?_
  refine r_ld (pc' := 6) rfl rfl rfl rfl ?_
  have hb17 := rd_247 hz (i := a1.toNat) (by omega)
  refine r_ia (pc' := 7) rfl rfl sh_247 rfl (by omega) (by omega) rfl ?_
  refine r_ld (pc' := 8) rfl rfl rfl rfl ?_
  refine r_gr (b := 247) (pc' := 11) rfl rfl sh_225 rfl pp_225_43 ?_
  refine r_ld (pc' := 12) rfl rfl rfl rfl ?_
  refine r_c0 (pc' := 13) rfl rfl ?_
  refine r_add (pc' := 14) rfl rfl ?_
  have hb18 := rd_247 hz (i := (a1 + 1).toNat) (by omega)
  refine r_ia (pc' := 15) rfl rfl sh_247 rfl (by omega) (by omega) rfl ?_
  refine r_ld (pc' := 16) rfl rfl rfl rfl ?_
  refine r_gr (b := 247) (pc' := 19) rfl rfl sh_225 rfl pp_225_43 ?_
  refine r_ld (pc' := 20) rfl rfl rfl rfl ?_
  refine r_c0 (pc' := 21) rfl rfl ?_
  refine r_add (pc' := 22) rfl rfl ?_
  have hb19 := rd_247 hz (i := (a1 + 3).toNat) (by omega)
  refine r_ia (pc' := 23) rfl rfl sh_247 rfl (by omega) (by omega) rfl ?_
  refine r_ld (pc' := 24) rfl rfl rfl rfl ?_
  refine r_gr (b := 247) (pc' := 27) rfl rfl sh_225 rfl pp_225_43 ?_
  refine r_ld (pc' := 28) rfl rfl rfl rfl ?_
  refine r_c0 (pc' := 29) rfl rfl ?_
  refine r_add (pc' := 30) rfl rfl ?_
  have hb20 := rd_247 hz (i := (a1 + 2).toNat) (by omega)
  refine r_ia (pc' := 31) rfl rfl sh_247 rfl (by omega) (by omega) rfl ?_
  refine r_ld (pc' := 32) rfl rfl rfl rfl ?_
  refine r_gr (b := 247) (pc' := 35) rfl rfl sh_225 rfl pp_225_43 ?_
  refine r_ld (pc' := 36) rfl rfl rfl rfl ?_
  refine r_c0 (pc' := 37) rfl rfl ?_
  refine r_add (pc' := 38) rfl rfl ?_
  have hb21 := rd_247 hz (i := (a1 + 4).toNat) (by omega)
  refine r_ia (pc' := 39) rfl rfl sh_247 rfl (by omega) (by omega) rfl ?_
  refine r_ld (pc' := 40) rfl rfl rfl rfl ?_
  refine r_gr (b := 247) (pc' := 43) rfl rfl sh_225 rfl pp_225_43 ?_
  refine r_ld (pc' := 44) rfl rfl rfl rfl ?_
  refine r_ia (pc' := 45) rfl rfl sh_247 rfl (by omega) (by omega) rfl ?_
  have hb22 := rd_225_58 hz
  refine r_cVV (pc' := 48) rfl rfl rfl rfl rfl sh_225 (m_205e (d := d) (z0 247 a1.toNat) (z0 247 (a1 + 1).toNat) (z0 247 (a1 + 3).toNat) (z0 247 (a1 + 2).toNat) (z0 247 (a1 + 4).toNat) (z0 247 a1.toNat) hst.1 hst.2.1 ⟨by omega, by omega⟩ ⟨by omega, by omega⟩ ⟨by omega, by omega⟩ ⟨by omega, by omega⟩ ⟨by omega, by omega⟩ ⟨by omega, by omega⟩ (by exact hnb)) (fun z24 w25 p26 hs28 hE29 => ?_)
  have hs30 := st_tr hst hs28 (sub_B rfl)
  obtain ⟨rfl, hE29⟩ := hE29
  have hgr := hE29
  have hb31 := rd_225_58 hs30.1
  exact r_ret rfl (po_V hs30 ⟨rfl, (by unfold fl; exact hgr)⟩)
/-- LoopGroundModel turnOnce -/
abbrev S_209e  : mS := [(260, 260, 0, 17), (259, 259, 0, 17), (258, 258, 0, 323), (257, 257, 0, 17), (225, 225, 58, 58)]
abbrev E_209e (a1 : Int) (a2 : Int) (a3 : Int) (z0 w0 : mZ) (x y tx it mt tt ct : Option Nat) : mZ → mZ → mP → Prop := fun z w p => p = (pq x y tx it mt tt ct) ∧ (w 257 = tw (z0 251 a1.toNat).toNat (z0 252 a1.toNat).toNat a3.toNat a2.toNat (w0 257) ∧ (z 225 58 = 0 → z0 225 58 = 0 ∧ w 257 a2.toNat ≤ 100000000000000) ∧ (z 225 58 = 1 → z0 225 58 = 1 ∨ 100000000000000 < w 257 a2.toNat))
theorem m_209e {d : Nat} {z0 w0 : mZ} {x y tx it mt tt ct : Option Nat} (a1 : Int) (a2 : Int) (a3 : Int) (hz : rz z0) (hw : rw_ w0) (ha1 : 0 ≤ a1 ∧ a1 ≤ 7) (ha2 : 0 ≤ a2 ∧ a2 ≤ 17) (ha3 : 0 ≤ a3 ∧ a3 ≤ 17) (hnb : NBr w0 257) (hne : a2 ≠ a3) : wc (d + 3) 209 [.ref 225, .int (Int32.ofInt a1), .int (Int32.ofInt a2), .int (Int32.ofInt a3)] (mk z0 w0 (pq x y tx it mt tt ct)) (poV S_209e z0 w0 (E_209e a1 a2 a3 z0 w0 x y tx it mt tt ct)) := by
  have hst : st_ S_209e z0 w0 z0 w0 := st_rf hz hw
  have hz33 := rd_225_58 hz
  have hna := hnb a2.toNat (by omega)
  have key : ∀ N : Nat, (∀ (x4 : Int) (z w : mZ), 0 ≤ x4 ∧ x4 ≤ 18 → st_ S_209e z0 w0 z w → z 225 58 = z0 225 58 → (∀ j, w 257 j = w0 257 j) → 69 * (18 - x4) + 1446 < (N : Int) → wp_ (d + 2) 209 7 none (3, [(0, .ref 225), (1, .int (Int32.ofInt a1)), (2, .int (Int32.ofInt a2)), (3, .int (Int32.ofInt a3)), (4, .int (Int32.ofInt x4))], [], mk z w (pq x y tx it mt tt ct)) (poV S_209e z0 w0 (E_209e a1 a2 a3 z0 w0 x y tx it mt tt ct))) ∧ (∀ (z w : mZ), st_ S_209e z0 w0 z w → z 225 58 = z0 225 58 → (∀ j, w 257 j = w0 257 j) → 1426 < (N : Int) → wp_ (d + 2) 209 7 none (42, [(0, .ref 225), (1, .int (Int32.ofInt a1)), (2, .int (Int32.ofInt a2)), (3, .int (Int32.ofInt a3))], [], mk z w (pq x y tx it mt tt ct)) (poV S_209e z0 w0 (E_209e a1 a2 a3 z0 w0 x y tx it mt tt ct))) ∧ (∀ (x6 : Int) (z w : mZ), 0 ≤ x6 ∧ x6 ≤ 18 → st_ S_209e z0 w0 z w → (w 257 = tw (z0 251 a1.toNat).toNat (z0 252 a1.toNat).toNat a3.toNat a2.toNat (w0 257)) → (z 225 58 = 0 → z0 225 58 = 0 ∧ w 257 a2.toNat ≤ 100000000000000) → (z 225 58 = 1 → z0 225 58 = 1 ∨ 100000000000000 < w 257 a2.toNat) → 69 * (18 - x6) + 20 < (N : Int) → wp_ (d + 2) 209 7 none (81, [(0, .ref 225), (3, .int (Int32.ofInt a3)), (6, .int (Int32.ofInt x6))], [], mk z w (pq x y tx it mt tt ct)) (poV S_209e z0 w0 (E_209e a1 a2 a3 z0 w0 x y tx it mt tt ct))) := by
    intro N
    induction N with
    | zero =>
      refine ⟨?_, ?_, ?_⟩
      · intro x4 z w
        intros; exfalso; omega
      · intro  z w
        intros; exfalso; omega
      · intro x6 z w
        intros; exfalso; omega
    | succ N ih =>
      obtain ⟨ih0, ih1, ih2⟩ := ih
      refine ⟨?_, ?_, ?_⟩
      · intro x4 z w  hx4 hst un_z_225_58 as1 hM
        refine r_ld (pc' := 5) rfl rfl rfl rfl ?_
        refine r_cb (pc' := 7) rfl (by decide) rfl ?_
        refine r_ige (pc' := 10) rfl rfl ⟨by omega, by omega⟩ ⟨by decide, by decide⟩ (fun hc34 => ?_) (fun hc34 => ?_)
        · skip
          have hb35 := rd_225_58 hz
          exact w_lv (sub_c rfl (sub_c rfl (sub_c rfl (sub_c rfl sub_n)))) rfl (ih1 z w hst (un_z_225_58) (by first | exact fun j => rfl | exact as1 | exact fun j => (rfl).trans (as1 j)) (by omega))
        · skip
          refine r_ld (pc' := 11) rfl rfl rfl rfl ?_
          have hb36 := rd_225_59 hz
          refine r_gi (pc' := 14) rfl rfl sh_225 rfl (hst.2.2.1 _ _ (notS_c (by omega) (notS_c (by omega) (notS_c (by omega) (notS_c (by omega) (notS_c (by omega) notS_n)))))) ?_
          refine r_zeq (pc' := 17) rfl rfl ⟨by omega, by omega⟩ (fun hc37 => ?_) (fun hc37 => ?_)
          · skip
            have hb38 := rd_225_58 hz
            exact w_lv (sub_c rfl (sub_c rfl (sub_c rfl (sub_c rfl sub_n)))) rfl (ih1 z w hst (un_z_225_58) (by first | exact fun j => rfl | exact as1 | exact fun j => (rfl).trans (as1 j)) (by omega))
          · skip
            refine r_ld (pc' := 18) rfl rfl rfl rfl ?_
            refine r_gr (b := 260) (pc' := 21) rfl rfl sh_225 rfl pp_225_60 ?_
            refine r_ld (pc' := 23) rfl rfl rfl rfl ?_
            refine r_ld (pc' := 24) rfl rfl rfl rfl ?_
            refine r_gr (b := 258) (pc' := 27) rfl rfl sh_225 rfl pp_225_56 ?_
            refine r_cb (pc' := 29) rfl (by decide) rfl ?_
            refine r_ld (pc' := 30) rfl rfl rfl rfl ?_
            refine r_mul (pc' := 31) rfl rfl ?_
            refine r_ld (pc' := 33) rfl rfl rfl rfl ?_
            refine r_add (pc' := 34) rfl rfl ?_
            have hb39 := rd_258 hst.2.1 (i := ((18 * a2) + x4).toNat) (by omega)
            refine r_la (pc' := 35) rfl rfl sh_258 rfl (by omega) (by omega) rfl ?_
            refine r_ls (pc' := 36) rfl rfl sh_260 rfl (by omega) (by omega) hst (inS_0 (by omega) (by omega) (by omega) (by omega)) (wr_260 ⟨by omega, by omega⟩) (fun w40 hq41 hs42 => ?_)
            refine r_inc (pc' := 39) (lv' := [(0, _), (1, _), (2, _), (3, _)]) rfl rfl rfl rfl rfl ?_
            refine r_go rfl ?_
            have hb43 := rd_225_58 hz
            exact w_lv (sub_c rfl (sub_c rfl (sub_c rfl (sub_c rfl (sub_c rfl sub_n))))) rfl (ih0 (x4 + 1) z w40 ⟨by omega, by omega⟩ hs42 (un_z_225_58) (by first | exact fun j => rfl | exact as1 | exact fun j => (((congrFun (congrFun hq41 _) _).trans (mu_ne (by omega)))).trans (as1 j)) (by omega))
      · intro  z w  hst un_z_225_58 as1 hM
        refine r_ld (pc' := 43) rfl rfl rfl rfl ?_
        refine r_gr (b := 257) (pc' := 46) rfl rfl sh_225 rfl pp_225_55 ?_
        refine r_ld (pc' := 47) rfl rfl rfl rfl ?_
        have hb44 := rd_257 hst.2.1 (i := a2.toNat) (by omega)
        refine r_la (pc' := 48) rfl rfl sh_257 rfl (by omega) (by omega) rfl ?_
        refine r_st (pc' := 50) (lv' := [(4, _), (0, _), (1, _), (2, _), (3, _)]) rfl rfl rfl rfl ?_
        refine r_ld (pc' := 51) rfl rfl rfl rfl ?_
        refine r_ld (pc' := 52) rfl rfl rfl rfl ?_
        refine r_ld (pc' := 53) rfl rfl rfl rfl ?_
        refine r_gr (b := 251) (pc' := 56) rfl rfl sh_225 rfl pp_225_47 ?_
        refine r_ld (pc' := 57) rfl rfl rfl rfl ?_
        have hb45 := rd_251 hz (i := a1.toNat) (by omega)
        refine r_ia (pc' := 58) rfl rfl sh_251 rfl (by omega) (by omega) (hst.2.2.1 _ _ (notS_c (by omega) (notS_c (by omega) (notS_c (by omega) (notS_c (by omega) (notS_c (by omega) notS_n)))))) ?_
        refine r_ld (pc' := 59) rfl rfl rfl rfl ?_
        refine r_gr (b := 252) (pc' := 62) rfl rfl sh_225 rfl pp_225_48 ?_
        refine r_ld (pc' := 63) rfl rfl rfl rfl ?_
        have hb46 := rd_252 hz (i := a1.toNat) (by omega)
        refine r_ia (pc' := 64) rfl rfl sh_252 rfl (by omega) (by omega) (hst.2.2.1 _ _ (notS_c (by omega) (notS_c (by omega) (notS_c (by omega) (notS_c (by omega) (notS_c (by omega) notS_n)))))) ?_
        refine r_ld (pc' := 65) rfl rfl rfl rfl ?_
        refine r_ld (pc' := 66) rfl rfl rfl rfl ?_
        refine r_ld (pc' := 67) rfl rfl rfl rfl ?_
        have e251 : z 251 = z0 251 := funext fun i => hst.2.2.1 _ _ (notS_c (by omega) (notS_c (by omega) (notS_c (by omega) (notS_c (by omega) (notS_c (by omega) (notS_n))))))
        have e252 : z 252 = z0 252 := funext fun i => hst.2.2.1 _ _ (notS_c (by omega) (notS_c (by omega) (notS_c (by omega) (notS_c (by omega) (notS_c (by omega) (notS_n))))))
        have ew : w 257 = w0 257 := funext fun j => as1 j
        have hb47 := rd_225_58 hz
        have hf48 : z 225 58 = z0 225 58 := un_z_225_58
        refine r_cVV (pc' := 70) rfl rfl rfl rfl rfl sh_225 (m_205e (d := d) a2 (z0 251 a1.toNat) (z0 252 a1.toNat) a2 a2 a3 hst.1 hst.2.1 ⟨by omega, by omega⟩ ⟨by omega, by omega⟩ ⟨by omega, by omega⟩ ⟨by omega, by omega⟩ ⟨by omega, by omega⟩ ⟨by omega, by omega⟩ (by exact fun e he => by rw [as1 e]; exact hnb e he)) (fun z50 w51 p52 hs54 hE55 => ?_)
        have hs56 := st_tr hst hs54 (sub_B rfl)
        obtain ⟨rfl, hE55⟩ := hE55
        have hgr := hE55
        rw [ew] at hgr
        refine r_ld (pc' := 71) rfl rfl rfl rfl ?_
        refine r_gr (b := 257) (pc' := 74) rfl rfl sh_225 rfl pp_225_55 ?_
        refine r_ld (pc' := 75) rfl rfl rfl rfl ?_
        refine r_ld (pc' := 77) rfl rfl rfl rfl ?_
        refine r_ls (pc' := 78) rfl rfl sh_257 rfl (by omega) (by omega) hs56 (inS_s (inS_s (inS_s (inS_0 (by omega) (by omega) (by omega) (by omega))))) (wr_257 ⟨by omega, by omega⟩) (fun w57 hq58 hs59 => ?_)
        have hqw := hq58
        have htw : w57 257 = tw (z0 251 a1.toNat).toNat (z0 252 a1.toNat).toNat a3.toNat a2.toNat (w0 257) := by refine tw_of2 (n := w0 257) (by omega) hgr.1 ?_; rw [hqw, mu_sf, as1]
        refine r_c0 (pc' := 79) rfl rfl ?_
        refine r_st (pc' := 81) (lv' := [(6, _), (4, _), (0, _), (1, _), (2, _), (3, _)]) rfl rfl rfl rfl ?_
        have hb60 := rd_225_58 hs56.1
        exact w_lv (sub_c rfl (sub_c rfl (sub_c rfl sub_n))) rfl (ih2 0 z50 w57 ⟨by omega, by omega⟩ hs59 (by first | exact htw | (rw [show w57 257 = w 257 from funext fun j => (((congrFun (congrFun hq58 _) _).trans (mu_ne (by omega))).trans (hs54.2.2.2 _ _ (notS_c (by omega) (notS_c (by omega) (notS_c (by omega) (notS_c (by omega) notS_n))))))]; exact as1)) (by first | (intro hs; have q := hgr.2.1 hs; exact ⟨by omega, by rw [hqw, mu_ne (by omega)]; exact q.2⟩) | exact as2 | (intro hs; rw [show w57 257 a2.toNat = w 257 a2.toNat from (((congrFun (congrFun hq58 _) _).trans (mu_ne (by omega))).trans (hs54.2.2.2 _ _ (notS_c (by omega) (notS_c (by omega) (notS_c (by omega) (notS_c (by omega) notS_n))))))]; exact as2 (by omega))) (by first | (intro hs; have q := hgr.2.2 hs; rw [hqw, mu_ne (by omega)]; omega) | exact as3 | (intro hs; rw [show w57 257 a2.toNat = w 257 a2.toNat from (((congrFun (congrFun hq58 _) _).trans (mu_ne (by omega))).trans (hs54.2.2.2 _ _ (notS_c (by omega) (notS_c (by omega) (notS_c (by omega) (notS_c (by omega) notS_n))))))]; exact as3 (by omega))) (by omega))
      · intro x6 z w  hx6 hst as1 as2 as3 hM
        refine r_ld (pc' := 83) rfl rfl rfl rfl ?_
        refine r_cb (pc' := 85) rfl (by decide) rfl ?_
        refine r_ige (pc' := 88) rfl rfl ⟨by omega, by omega⟩ ⟨by decide, by decide⟩ (fun hc61 => ?_) (fun hc61 => ?_)
        · skip
          have hb62 := rd_225_58 hst.1
          exact r_ret rfl (po_V hst ⟨rfl, (by exact ⟨as1, as2, as3⟩)⟩)
        · skip
          refine r_ld (pc' := 89) rfl rfl rfl rfl ?_
          have hb63 := rd_225_59 hz
          refine r_gi (pc' := 92) rfl rfl sh_225 rfl (hst.2.2.1 _ _ (notS_c (by omega) (notS_c (by omega) (notS_c (by omega) (notS_c (by omega) (notS_c (by omega) notS_n)))))) ?_
          refine r_zeq (pc' := 95) rfl rfl ⟨by omega, by omega⟩ (fun hc64 => ?_) (fun hc64 => ?_)
          · skip
            have hb65 := rd_225_58 hst.1
            exact r_ret rfl (po_V hst ⟨rfl, (by exact ⟨as1, as2, as3⟩)⟩)
          · skip
            refine r_ld (pc' := 96) rfl rfl rfl rfl ?_
            refine r_gr (b := 258) (pc' := 99) rfl rfl sh_225 rfl pp_225_56 ?_
            refine r_cb (pc' := 101) rfl (by decide) rfl ?_
            refine r_ld (pc' := 102) rfl rfl rfl rfl ?_
            refine r_mul (pc' := 103) rfl rfl ?_
            refine r_ld (pc' := 105) rfl rfl rfl rfl ?_
            refine r_add (pc' := 106) rfl rfl ?_
            refine r_ld (pc' := 107) rfl rfl rfl rfl ?_
            refine r_gr (b := 260) (pc' := 110) rfl rfl sh_225 rfl pp_225_60 ?_
            refine r_ld (pc' := 112) rfl rfl rfl rfl ?_
            have hb66 := rd_260 hst.2.1 (i := x6.toNat) (by omega)
            refine r_la (pc' := 113) rfl rfl sh_260 rfl (by omega) (by omega) rfl ?_
            refine r_ls (pc' := 114) rfl rfl sh_258 rfl (by omega) (by omega) hst (inS_s (inS_s (inS_0 (by omega) (by omega) (by omega) (by omega)))) (wr_258 ⟨by omega, by omega⟩) (fun w67 hq68 hs69 => ?_)
            refine r_inc (pc' := 117) (lv' := [(0, _), (3, _)]) rfl rfl rfl rfl rfl ?_
            refine r_go rfl ?_
            have hb70 := rd_225_58 hst.1
            exact w_lv (sub_c rfl (sub_c rfl (sub_c rfl sub_n))) rfl (ih2 (x6 + 1) z w67 ⟨by omega, by omega⟩ hs69 (by first | exact htw | (rw [show w67 257 = w 257 from funext fun j => ((congrFun (congrFun hq68 _) _).trans (mu_ne (by omega)))]; exact as1)) (by first | (intro hs; have q := hgr.2.1 hs; exact ⟨by omega, by rw [hqw, mu_ne (by omega)]; exact q.2⟩) | exact as2 | (intro hs; rw [show w67 257 a2.toNat = w 257 a2.toNat from ((congrFun (congrFun hq68 _) _).trans (mu_ne (by omega)))]; exact as2 (by omega))) (by first | (intro hs; have q := hgr.2.2 hs; rw [hqw, mu_ne (by omega)]; omega) | exact as3 | (intro hs; rw [show w67 257 a2.toNat = w 257 a2.toNat from ((congrFun (congrFun hq68 _) _).trans (mu_ne (by omega)))]; exact as3 (by omega))) (by omega))
  refine w_m rfl rfl ?_
  refine r_c0 (pc' := 1) rfl rfl ?_
  refine r_st (pc' := 3) (lv' := [(4, _), (0, _), (1, _), (2, _), (3, _)]) rfl rfl rfl rfl ?_
  have hb71 := rd_225_58 hz
  exact w_lv (sub_c rfl (sub_c rfl (sub_c rfl (sub_c rfl (sub_c rfl sub_n))))) rfl ((key ((69 * (18 - 0) + 1446 : Int).toNat + 1)).1 0 z0 w0 ⟨by omega, by omega⟩ hst (rfl) (by first | exact fun j => rfl | exact as1 | exact fun j => (rfl).trans (as1 j)) (by omega))
/-- LoopGroundModel goFlips -/
abbrev S_206e  : mS := [(259, 259, 0, 17), (258, 258, 0, 323), (257, 257, 0, 17), (225, 225, 58, 58)]
abbrev E_206e (m : Nat) (T : Nat → Nat) (G : Nat → (Nat → Int) → Prop) (a1 : Int) (z0 w0 : mZ) (x y tx it mt tt ct : Option Nat) : mZ → mZ → mP → Prop := fun z w p => p = (pq x y tx it mt tt ct) ∧ ((z 225 58 = 0 → GOk z0 w0 w (fun n => G (z0 248 a1.toNat).toNat n)) ∧ (z 225 58 = 0 → gfw (cfQ z0 a1.toNat) (z0 248 a1.toNat).toNat (w0 257) = some (w 257)) ∧ (z 225 58 = 1 → gfw (cfQ z0 a1.toNat) (z0 248 a1.toNat).toNat (w0 257) = none))
theorem m_206e {d : Nat} {z0 w0 : mZ} {x y tx it mt tt ct : Option Nat} (m : Nat) (T : Nat → Nat) (G : Nat → (Nat → Int) → Prop) (a1 : Int) (hz : rz z0) (hw : rw_ w0) (ha1 : 0 ≤ a1 ∧ a1 ≤ 7) (hnb : NBr w0 257) (hsp : z0 225 58 = 0) (hgo : GRo m T (cfQ z0 a1.toNat) (z0 248 a1.toNat).toNat G) (hbe : ∀ i j, i < (z0 248 a1.toNat).toNat → j < 5 → ((cfQ z0 a1.toNat i j : Nat) : Int) < rE z0) (hG : G 0 (w0 257)) : wc (d + 4) 206 [.ref 225, .int (Int32.ofInt a1)] (mk z0 w0 (pq x y tx it mt tt ct)) (poV S_206e z0 w0 (E_206e m T G a1 z0 w0 x y tx it mt tt ct)) := by
  have hst : st_ S_206e z0 w0 z0 w0 := st_rf hz hw
  have hz14 := rd_225_58 hz
  have h248 := rd_248 hz (i := a1.toNat) (by omega)
  have key : ∀ N : Nat, (∀ (x2 : Int) (z w : mZ), 0 ≤ x2 ∧ x2 ≤ 1782 → st_ S_206e z0 w0 z w → (z 225 58 = 0 → GOk z0 w0 w (fun n => G x2.toNat n)) → (x2 ≤ z0 248 a1.toNat) → (z 225 58 = 0 → gfw (cfQ z0 a1.toNat) x2.toNat (w0 257) = some (w 257)) → (z 225 58 = 1 → gfw (cfQ z0 a1.toNat) (z0 248 a1.toNat).toNat (w0 257) = none) → 23 * (1782 - x2) + 20 < (N : Int) → wp_ (d + 3) 206 3 none (2, [(0, .ref 225), (1, .int (Int32.ofInt a1)), (2, .int (Int32.ofInt x2))], [], mk z w (pq x y tx it mt tt ct)) (poV S_206e z0 w0 (E_206e m T G a1 z0 w0 x y tx it mt tt ct))) := by
    intro N
    induction N with
    | zero =>
      intro x2 z w
      intros; exfalso; omega
    | succ N ih =>
      have ih0 := ih; clear ih
      intro x2 z w  hx2 hst as1 as2 as3 as4 hM
      have e247 : z 247 = z0 247 := funext fun i => hst.2.2.1 _ _ (notS_c (by omega) (notS_c (by omega) (notS_c (by omega) (notS_c (by omega) (notS_n)))))
      refine r_ld (pc' := 3) rfl rfl rfl rfl ?_
      refine r_ld (pc' := 4) rfl rfl rfl rfl ?_
      refine r_gr (b := 248) (pc' := 7) rfl rfl sh_225 rfl pp_225_44 ?_
      refine r_ld (pc' := 8) rfl rfl rfl rfl ?_
      have hb15 := rd_248 hz (i := a1.toNat) (by omega)
      refine r_ia (pc' := 9) rfl rfl sh_248 rfl (by omega) (by omega) (hst.2.2.1 _ _ (notS_c (by omega) (notS_c (by omega) (notS_c (by omega) (notS_c (by omega) notS_n))))) ?_
      refine r_ige (pc' := 12) rfl rfl ⟨by omega, by omega⟩ ⟨by omega, by omega⟩ (fun hc16 => ?_) (fun hc16 => ?_)
      · skip
        have hb17 := rd_225_58 hst.1
        exact r_ret rfl (po_V hst ⟨rfl, (by refine ⟨?_, ?_, ?_⟩; (intro hs; have g := as1 hs; (have e9 : x2.toNat = (z0 248 a1.toNat).toNat := by omega); rw [← e9]; exact g); (intro hs; have g := as3 (by omega); (have e9 : x2.toNat = (z0 248 a1.toNat).toNat := by omega); rw [← e9]; exact g); (intro hs; exact as4 (by omega)))⟩)
      · skip
        refine r_ld (pc' := 13) rfl rfl rfl rfl ?_
        have hb18 := rd_225_58 hst.1
        refine r_gi (pc' := 16) rfl rfl sh_225 rfl rfl ?_
        refine r_zne (pc' := 19) rfl rfl ⟨by omega, by omega⟩ (fun hc19 => ?_) (fun hc19 => ?_)
        · skip
          exact r_ret rfl (po_V hst ⟨rfl, (by refine ⟨?_, ?_, ?_⟩; (intro hs; have g := as1 hs; (have e9 : x2.toNat = (z0 248 a1.toNat).toNat := by omega); rw [← e9]; exact g); (intro hs; have g := as3 (by omega); (have e9 : x2.toNat = (z0 248 a1.toNat).toNat := by omega); rw [← e9]; exact g); (intro hs; exact as4 (by omega)))⟩)
        · skip
          refine r_ld (pc' := 20) rfl rfl rfl rfl ?_
          refine r_c0 (pc' := 21) rfl rfl ?_
          refine r_cs (pc' := 24) rfl (by decide) rfl ?_
          refine r_ld (pc' := 25) rfl rfl rfl rfl ?_
          refine r_mul (pc' := 26) rfl rfl ?_
          refine r_ld (pc' := 27) rfl rfl rfl rfl ?_
          refine r_add (pc' := 28) rfl rfl ?_
          refine r_mul (pc' := 29) rfl rfl ?_
          refine r_cVV (pc' := 32) rfl rfl rfl rfl rfl sh_225 (m_207e (d := d) (5 * ((1782 * a1) + x2)) hst.1 hst.2.1 ⟨by omega, by omega⟩ (by exact (as1 (by omega)).2.1)) (fun z21 w22 p23 hs25 hE26 => ?_)
          have hs27 := st_tr hst hs25 (sub_B rfl)
          obtain ⟨rfl, hE26⟩ := hE26
          have hgf := hE26
          have hfl : w22 257 = flc (cfQ z0 a1.toNat) x2.toNat (w 257) := by rw [hgf.1, e247]; unfold flc; rw [cfQ_v (z := z0) (l := a1) (i := x2.toNat) (j := 0) (by omega) (by omega), cfQ_v (z := z0) (l := a1) (i := x2.toNat) (j := 1) (by omega) (by omega), cfQ_v (z := z0) (l := a1) (i := x2.toNat) (j := 2) (by omega) (by omega), cfQ_v (z := z0) (l := a1) (i := x2.toNat) (j := 3) (by omega) (by omega), cfQ_v (z := z0) (l := a1) (i := x2.toNat) (j := 4) (by omega) (by omega)]
          have hce : ((z0 247 (5 * (1782 * a1 + x2)).toNat).toNat : Nat) = cfQ z0 a1.toNat x2.toNat 0 := cfQ_v (by omega) (by omega)
          have hnz : NZE (rE z0) (w 257) → NZE (rE z0) (w22 257) := fun q => NZE_fl hfl ⟨hbe x2.toNat 1 (by omega) (by omega), hgo.cn x2.toNat 1 (by omega) (by omega) (by omega)⟩ ⟨hbe x2.toNat 2 (by omega) (by omega), hgo.cn x2.toNat 2 (by omega) (by omega) (by omega)⟩ ⟨hbe x2.toNat 3 (by omega) (by omega), hgo.cn x2.toNat 3 (by omega) (by omega) (by omega)⟩ ⟨hbe x2.toNat 4 (by omega) (by omega), hgo.cn x2.toNat 4 (by omega) (by omega) (by omega)⟩ (hbe x2.toNat 0 (by omega) (by omega)) q
          have hgx : (z21 225 58 = 0 → gfw (cfQ z0 a1.toNat) (x2 + 1).toNat (w0 257) = some (w22 257)) ∧ (z21 225 58 = 1 → gfw (cfQ z0 a1.toNat) (z0 248 a1.toNat).toNat (w0 257) = none) := ⟨fun h => gfw_s (as3 (by omega)) hfl (by have q := (hgf.2.1 h).2; rw [e247, hce] at q; exact q) (by omega), fun h => gfw_X (as3 (by omega)) hfl (by have q := (hgf.2.2 h).resolve_left (by omega); rw [e247, hce] at q; omega) (by omega)⟩
          refine r_inc (pc' := 35) (lv' := [(0, _), (1, _)]) rfl rfl rfl rfl rfl ?_
          refine r_go rfl ?_
          have hb28 := rd_225_58 hs27.1
          exact w_lv (sub_c rfl (sub_c rfl (sub_c rfl sub_n))) rfl (ih0 (x2 + 1) z21 w22 ⟨by omega, by omega⟩ hs27 (by first | exact fun _ => ⟨hG, hnb, fun q => q⟩ | (intro hs; have g := as1 (hgf.2.1 hs).1; have gn : G (x2 + 1).toNat (w22 257) := (by rw [hfl, show (x2 + 1).toNat = x2.toNat + 1 by omega]; exact hgo.fw _ _ (by omega) g.1); exact ⟨gn, nb_fl g.2.1 hfl (hgo.nn _ _ (by omega) gn _ (hgo.cl _ _ (by omega) (by omega))) (by have q := (hgf.2.1 hs).2; rw [e247, hce] at q; exact q), fun q => hnz (g.2.2 q)⟩)) (by first | omega | assumption) (by first | exact hgx.1 | exact fun _ => rfl) (by first | exact hgx.2 | (intro h; exfalso; omega)) (by omega))
  refine w_m rfl rfl ?_
  refine r_c0 (pc' := 1) rfl rfl ?_
  refine r_st (pc' := 2) (lv' := [(2, _), (0, _), (1, _)]) rfl rfl rfl rfl ?_
  have hb29 := rd_225_58 hz
  exact w_lv (sub_c rfl (sub_c rfl (sub_c rfl sub_n))) rfl ((key ((23 * (1782 - 0) + 20 : Int).toNat + 1)) 0 z0 w0 ⟨by omega, by omega⟩ hst (by first | exact fun _ => ⟨hG, hnb, fun q => q⟩ | (intro hs; have g := as1 (hgf.2.1 hs).1; have gn : G (x2 + 1).toNat (w0 257) := (by rw [hfl, show (x2 + 1).toNat = x2.toNat + 1 by omega]; exact hgo.fw _ _ (by omega) g.1); exact ⟨gn, nb_fl g.2.1 hfl (hgo.nn _ _ (by omega) gn _ (hgo.cl _ _ (by omega) (by omega))) (by have q := (hgf.2.1 hs).2; rw [e247, hce] at q; exact q), fun q => hnz (g.2.2 q)⟩)) (by first | omega | assumption) (by first | exact hgx.1 | exact fun _ => rfl) (by first | exact hgx.2 | (intro h; exfalso; omega)) (by omega))
/-- LoopGroundModel goBack -/
abbrev S_208e  : mS := [(259, 259, 0, 17), (258, 258, 0, 323), (257, 257, 0, 17), (225, 225, 58, 58)]
abbrev E_208e (m : Nat) (T : Nat → Nat) (G : Nat → (Nat → Int) → Prop) (a1 : Int) (z0 w0 : mZ) (x y tx it mt tt ct : Option Nat) : mZ → mZ → mP → Prop := fun z w p => p = (pq x y tx it mt tt ct) ∧ (((z 225 58 = 0 → GOk z0 w0 w (fun n => G 0 n)) ∧ (z 225 58 = 0 → z0 225 58 = 0)) ∧ (z 225 58 = 0 → gbw (cfQ z0 a1.toNat) (z0 248 a1.toNat).toNat (z0 248 a1.toNat).toNat (w0 257) = some (w 257)) ∧ (z 225 58 = 1 → z0 225 58 = 1 ∨ gbw (cfQ z0 a1.toNat) (z0 248 a1.toNat).toNat (z0 248 a1.toNat).toNat (w0 257) = none))
theorem m_208e {d : Nat} {z0 w0 : mZ} {x y tx it mt tt ct : Option Nat} (m : Nat) (T : Nat → Nat) (G : Nat → (Nat → Int) → Prop) (a1 : Int) (hz : rz z0) (hw : rw_ w0) (ha1 : 0 ≤ a1 ∧ a1 ≤ 7) (hG : z0 225 58 = 0 → G (z0 248 a1.toNat).toNat (w0 257) ∧ NBr w0 257) (hgo : GRo m T (cfQ z0 a1.toNat) (z0 248 a1.toNat).toNat G) (hbe : ∀ i j, i < (z0 248 a1.toNat).toNat → j < 5 → ((cfQ z0 a1.toNat i j : Nat) : Int) < rE z0) : wc (d + 4) 208 [.ref 225, .int (Int32.ofInt a1)] (mk z0 w0 (pq x y tx it mt tt ct)) (poV S_208e z0 w0 (E_208e m T G a1 z0 w0 x y tx it mt tt ct)) := by
  have hst : st_ S_208e z0 w0 z0 w0 := st_rf hz hw
  have hz14 := rd_225_58 hz
  have h248 := rd_248 hz (i := a1.toNat) (by omega)
  have key : ∀ N : Nat, (∀ (x2 : Int) (z w : mZ), (-1) ≤ x2 ∧ x2 ≤ 1781 → st_ S_208e z0 w0 z w → (z 225 58 = 0 → GOk z0 w0 w (fun n => G (x2 + 1).toNat n)) → (x2 < z0 248 a1.toNat) → (z 225 58 = 0 → z0 225 58 = 0) → (z 225 58 = 0 → gbw (cfQ z0 a1.toNat) (z0 248 a1.toNat).toNat (z0 248 a1.toNat - 1 - x2).toNat (w0 257) = some (w 257)) → (z 225 58 = 1 → z0 225 58 = 1 ∨ gbw (cfQ z0 a1.toNat) (z0 248 a1.toNat).toNat (z0 248 a1.toNat).toNat (w0 257) = none) → 24 * (x2 - (-1)) + 16 < (N : Int) → wp_ (d + 3) 208 3 none (9, [(0, .ref 225), (1, .int (Int32.ofInt a1)), (2, .int (Int32.ofInt x2))], [], mk z w (pq x y tx it mt tt ct)) (poV S_208e z0 w0 (E_208e m T G a1 z0 w0 x y tx it mt tt ct))) := by
    intro N
    induction N with
    | zero =>
      intro x2 z w
      intros; exfalso; omega
    | succ N ih =>
      have ih0 := ih; clear ih
      intro x2 z w  hx2 hst as1 as2 as3 as4 as5 hM
      have e247 : z 247 = z0 247 := funext fun i => hst.2.2.1 _ _ (notS_c (by omega) (notS_c (by omega) (notS_c (by omega) (notS_c (by omega) (notS_n)))))
      refine r_ld (pc' := 10) rfl rfl rfl rfl ?_
      refine r_zlt (pc' := 13) rfl rfl ⟨by omega, by omega⟩ (fun hc15 => ?_) (fun hc15 => ?_)
      · skip
        have hb16 := rd_225_58 hst.1
        exact r_ret rfl (po_V hst ⟨rfl, (by refine ⟨?_, ?_, ?_⟩; (refine ⟨fun hs => ?_, as3⟩; have g := as1 hs; (have e9 : (x2 + 1).toNat = 0 := by omega); rw [e9] at g; exact g); (intro hs; have g := as4 (by omega); (have e9 : (z0 248 a1.toNat - 1 - x2).toNat = (z0 248 a1.toNat).toNat := by omega); rw [e9] at g; exact g); (intro hs; exact as5 (by omega)))⟩)
      · skip
        refine r_ld (pc' := 14) rfl rfl rfl rfl ?_
        have hb17 := rd_225_58 hst.1
        refine r_gi (pc' := 17) rfl rfl sh_225 rfl rfl ?_
        refine r_zne (pc' := 20) rfl rfl ⟨by omega, by omega⟩ (fun hc18 => ?_) (fun hc18 => ?_)
        · skip
          exact r_ret rfl (po_V hst ⟨rfl, (by refine ⟨?_, ?_, ?_⟩; (refine ⟨fun hs => ?_, as3⟩; have g := as1 hs; (have e9 : (x2 + 1).toNat = 0 := by omega); rw [e9] at g; exact g); (intro hs; have g := as4 (by omega); (have e9 : (z0 248 a1.toNat - 1 - x2).toNat = (z0 248 a1.toNat).toNat := by omega); rw [e9] at g; exact g); (intro hs; exact as5 (by omega)))⟩)
        · skip
          refine r_ld (pc' := 21) rfl rfl rfl rfl ?_
          refine r_c0 (pc' := 22) rfl rfl ?_
          refine r_cs (pc' := 25) rfl (by decide) rfl ?_
          refine r_ld (pc' := 26) rfl rfl rfl rfl ?_
          refine r_mul (pc' := 27) rfl rfl ?_
          refine r_ld (pc' := 28) rfl rfl rfl rfl ?_
          refine r_add (pc' := 29) rfl rfl ?_
          refine r_mul (pc' := 30) rfl rfl ?_
          refine r_cVV (pc' := 33) rfl rfl rfl rfl rfl sh_225 (m_207e (d := d) (5 * ((1782 * a1) + x2)) hst.1 hst.2.1 ⟨by omega, by omega⟩ (by exact (as1 (by omega)).2.1)) (fun z20 w21 p22 hs24 hE25 => ?_)
          have hs26 := st_tr hst hs24 (sub_B rfl)
          obtain ⟨rfl, hE25⟩ := hE25
          have hgf := hE25
          have hfl : w21 257 = flc (cfQ z0 a1.toNat) x2.toNat (w 257) := by rw [hgf.1, e247]; unfold flc; rw [cfQ_v (z := z0) (l := a1) (i := x2.toNat) (j := 0) (by omega) (by omega), cfQ_v (z := z0) (l := a1) (i := x2.toNat) (j := 1) (by omega) (by omega), cfQ_v (z := z0) (l := a1) (i := x2.toNat) (j := 2) (by omega) (by omega), cfQ_v (z := z0) (l := a1) (i := x2.toNat) (j := 3) (by omega) (by omega), cfQ_v (z := z0) (l := a1) (i := x2.toNat) (j := 4) (by omega) (by omega)]
          have hce : ((z0 247 (5 * (1782 * a1 + x2)).toNat).toNat : Nat) = cfQ z0 a1.toNat x2.toNat 0 := cfQ_v (by omega) (by omega)
          have hnz : NZE (rE z0) (w 257) → NZE (rE z0) (w21 257) := fun q => NZE_fl hfl ⟨hbe x2.toNat 1 (by omega) (by omega), hgo.cn x2.toNat 1 (by omega) (by omega) (by omega)⟩ ⟨hbe x2.toNat 2 (by omega) (by omega), hgo.cn x2.toNat 2 (by omega) (by omega) (by omega)⟩ ⟨hbe x2.toNat 3 (by omega) (by omega), hgo.cn x2.toNat 3 (by omega) (by omega) (by omega)⟩ ⟨hbe x2.toNat 4 (by omega) (by omega), hgo.cn x2.toNat 4 (by omega) (by omega) (by omega)⟩ (hbe x2.toNat 0 (by omega) (by omega)) q
          have hgx : (z20 225 58 = 0 → gbw (cfQ z0 a1.toNat) (z0 248 a1.toNat).toNat (z0 248 a1.toNat - 1 - (x2 + (-1))).toNat (w0 257) = some (w21 257)) ∧ (z20 225 58 = 1 → z0 225 58 = 1 ∨ gbw (cfQ z0 a1.toNat) (z0 248 a1.toNat).toNat (z0 248 a1.toNat).toNat (w0 257) = none) := ⟨fun h => gbw_s (i := x2.toNat) (as4 (by omega)) (by omega) hfl (by have q := (hgf.2.1 h).2; rw [e247, hce] at q; exact q) (by omega), fun h => Or.inr (gbw_X (i := x2.toNat) (as4 (by omega)) (by omega) hfl (by have q := (hgf.2.2 h).resolve_left (by omega); rw [e247, hce] at q; omega) (by omega))⟩
          refine r_inc (pc' := 36) (lv' := [(0, _), (1, _)]) rfl rfl rfl rfl rfl ?_
          refine r_go rfl ?_
          have hb27 := rd_225_58 hs26.1
          exact w_lv (sub_c rfl (sub_c rfl (sub_c rfl sub_n))) rfl (ih0 (x2 + ((-1))) z20 w21 ⟨by omega, by omega⟩ hs26 (by first | (intro hs; have g := hG hs; exact ⟨by rw [show (z0 248 a1.toNat - 1 + 1).toNat = (z0 248 a1.toNat).toNat by omega]; exact g.1, g.2, fun q => q⟩) | (intro hs; have g := as1 (hgf.2.1 hs).1; have gn : G (x2 + (-1) + 1).toNat (w21 257) := (by rw [hfl, show (x2 + (-1) + 1).toNat = x2.toNat by omega]; exact hgo.bw _ _ (by omega) (by rw [show x2.toNat + 1 = (x2 + 1).toNat by omega]; exact g.1)); exact ⟨gn, nb_fl g.2.1 hfl (hgo.nn _ _ (by omega) gn _ (hgo.cl _ _ (by omega) (by omega))) (by have q := (hgf.2.1 hs).2; rw [e247, hce] at q; exact q), fun q => hnz (g.2.2 q)⟩)) (by first | omega | assumption) (by first | exact fun h => h | exact fun hs => as3 (hgf.2.1 hs).1) (by first | exact hgx.1 | (intro h; rw [show (z0 248 a1.toNat - 1 - (z0 248 a1.toNat - 1)).toNat = 0 by omega]; rfl)) (by first | exact hgx.2 | exact fun h => Or.inl h) (by omega))
  refine w_m rfl rfl ?_
  refine r_ld (pc' := 1) rfl rfl rfl rfl ?_
  refine r_gr (b := 248) (pc' := 4) rfl rfl sh_225 rfl pp_225_44 ?_
  refine r_ld (pc' := 5) rfl rfl rfl rfl ?_
  have hb28 := rd_248 hz (i := a1.toNat) (by omega)
  refine r_ia (pc' := 6) rfl rfl sh_248 rfl (by omega) (by omega) rfl ?_
  refine r_c0 (pc' := 7) rfl rfl ?_
  refine r_sub (pc' := 8) rfl rfl ?_
  refine r_st (pc' := 9) (lv' := [(2, _), (0, _), (1, _)]) rfl rfl rfl rfl ?_
  have hb29 := rd_225_58 hz
  exact w_lv (sub_c rfl (sub_c rfl (sub_c rfl sub_n))) rfl ((key ((24 * (((z0 248 a1.toNat) - 1) - (-1)) + 16 : Int).toNat + 1)) ((z0 248 a1.toNat) - 1) z0 w0 ⟨by omega, by omega⟩ hst (by first | (intro hs; have g := hG hs; exact ⟨by rw [show (z0 248 a1.toNat - 1 + 1).toNat = (z0 248 a1.toNat).toNat by omega]; exact g.1, g.2, fun q => q⟩) | (intro hs; have g := as1 (hgf.2.1 hs).1; have gn : G (x2 + (-1) + 1).toNat (w0 257) := (by rw [hfl, show (x2 + (-1) + 1).toNat = x2.toNat by omega]; exact hgo.bw _ _ (by omega) (by rw [show x2.toNat + 1 = (x2 + 1).toNat by omega]; exact g.1)); exact ⟨gn, nb_fl g.2.1 hfl (hgo.nn _ _ (by omega) gn _ (hgo.cl _ _ (by omega) (by omega))) (by have q := (hgf.2.1 hs).2; rw [e247, hce] at q; exact q), fun q => hnz (g.2.2 q)⟩)) (by first | omega | assumption) (by first | exact fun h => h | exact fun hs => as3 (hgf.2.1 hs).1) (by first | exact hgx.1 | (intro h; rw [show (z0 248 a1.toNat - 1 - (z0 248 a1.toNat - 1)).toNat = 0 by omega]; rfl)) (by first | exact hgx.2 | exact fun h => Or.inl h) (by omega))
/-- LoopGroundModel goTwist -/
abbrev S_210e  : mS := [(259, 259, 0, 17), (258, 258, 0, 323), (257, 257, 0, 17), (225, 225, 58, 58), (260, 260, 0, 17)]
abbrev E_210e (a1 : Int) (a2 : Int) (z0 w0 : mZ) (x y tx it mt tt ct : Option Nat) : mZ → mZ → mP → Prop := fun z w p => p = (pq x y tx it mt tt ct) ∧ ((z 225 58 = 0 → GOk z0 w0 w (fun n => FT (z0 225 26).toNat (vT (z0 235)) n)) ∧ (z 225 58 = 0 → gal (rdr z0 a1.toNat) a2 (w0 257) = some (w 257)) ∧ (z 225 58 = 1 → gal (rdr z0 a1.toNat) a2 (w0 257) = none))
theorem m_210e {d : Nat} {z0 w0 : mZ} {x y tx it mt tt ct : Option Nat} (a1 : Int) (a2 : Int) (hz : rz z0) (hw : rw_ w0) (ha1 : 0 ≤ a1 ∧ a1 ≤ 7) (ha2 : (-99) ≤ a2 ∧ a2 ≤ 99) (hnb : NBr w0 257) (hsp : z0 225 58 = 0) (hft : FT (z0 225 26).toNat (vT (z0 235)) (w0 257)) (hgr : GRq z0 z0 a1.toNat) (hfa : z0 254 a1.toNat = 1) : wc (d + 5) 210 [.ref 225, .int (Int32.ofInt a1), .int (Int32.ofInt a2)] (mk z0 w0 (pq x y tx it mt tt ct)) (poV S_210e z0 w0 (E_210e a1 a2 z0 w0 x y tx it mt tt ct)) := by
  have hst : st_ S_210e z0 w0 z0 w0 := st_rf hz hw
  have hz46 := rd_225_26 hz
  have hz47 := rd_225_58 hz
  obtain ⟨⟨G, hgo, htw1, htw2, ga, gb, ge, gf, gae, gaf, gbe, gbf, gef⟩, hbe, bA, bB, bE, bF⟩ := hgr hfa
  obtain ⟨m, hm⟩ : ∃ m, m = (z0 225 26).toNat := ⟨_, rfl⟩
  obtain ⟨T, hT⟩ : ∃ T, T = vT (z0 235) := ⟨_, rfl⟩
  rw [← hm, ← hT] at hgo
  have h248 := rd_248 hz (i := a1.toNat) (by omega)
  have h249 := rd_249 hz (i := a1.toNat) (by omega)
  have h250 := rd_250 hz (i := a1.toNat) (by omega)
  have h251 := rd_251 hz (i := a1.toNat) (by omega)
  have h252 := rd_252 hz (i := a1.toNat) (by omega)
  have hm26 := rd_225_26 hz
  have hrE : rE z0 = 3 * z0 225 26 / 2 := rfl
  have key : ∀ N : Nat, (∀ (x3 : Int) (z w : mZ), 0 ≤ x3 ∧ x3 ≤ 99 → st_ S_210e z0 w0 z w → (z 225 58 = 0 → GOk z0 w0 w (fun n => G (z0 248 a1.toNat).toNat n)) → (z 225 58 = 0 → TG (rdr z0 a1.toNat) (z0 249 a1.toNat).toNat (z0 250 a1.toNat).toNat x3.toNat (w0 257) (w 257)) → (z 225 58 = 1 → gal (rdr z0 a1.toNat) a2 (w0 257) = none) → ((0 < a2 → x3 ≤ a2) ∧ (a2 ≤ 0 → x3 = 0)) → 49 * (99 - x3) + 4992 < (N : Int) → wp_ (d + 4) 210 4 none (7, [(0, .ref 225), (1, .int (Int32.ofInt a1)), (2, .int (Int32.ofInt a2)), (3, .int (Int32.ofInt x3))], [], mk z w (pq x y tx it mt tt ct)) (poV S_210e z0 w0 (E_210e a1 a2 z0 w0 x y tx it mt tt ct))) ∧ (∀ (x3 : Int) (z w : mZ), (-99) ≤ x3 ∧ x3 ≤ 0 → st_ S_210e z0 w0 z w → (z 225 58 = 0 → GOk z0 w0 w (fun n => G (z0 248 a1.toNat).toNat n)) → (z 225 58 = 0 → 0 < a2 → TM (rdr z0 a1.toNat) a2 (w0 257) (w 257)) → (z 225 58 = 0 → a2 ≤ 0 → TG (rdr z0 a1.toNat) (z0 250 a1.toNat).toNat (z0 249 a1.toNat).toNat (-x3).toNat (w0 257) (w 257)) → (z 225 58 = 1 → gal (rdr z0 a1.toNat) a2 (w0 257) = none) → ((a2 ≤ 0 → a2 ≤ x3) ∧ (0 < a2 → x3 = 0)) → 49 * (x3 - (-99)) + 22 < (N : Int) → wp_ (d + 4) 210 4 none (44, [(0, .ref 225), (1, .int (Int32.ofInt a1)), (2, .int (Int32.ofInt a2)), (3, .int (Int32.ofInt x3))], [], mk z w (pq x y tx it mt tt ct)) (poV S_210e z0 w0 (E_210e a1 a2 z0 w0 x y tx it mt tt ct))) ∧ (∀ (z w : mZ), st_ S_210e z0 w0 z w → (z 225 58 = 0 → GOk z0 w0 w (fun n => G (z0 248 a1.toNat).toNat n)) → (z 225 58 = 0 → TM (rdr z0 a1.toNat) a2 (w0 257) (w 257)) → (z 225 58 = 1 → gal (rdr z0 a1.toNat) a2 (w0 257) = none) → 3 < (N : Int) → wp_ (d + 4) 210 4 none (79, [(0, .ref 225), (1, .int (Int32.ofInt a1))], [], mk z w (pq x y tx it mt tt ct)) (poV S_210e z0 w0 (E_210e a1 a2 z0 w0 x y tx it mt tt ct))) := by
    intro N
    induction N with
    | zero =>
      refine ⟨?_, ?_, ?_⟩
      · intro x3 z w
        intros; exfalso; omega
      · intro x3 z w
        intros; exfalso; omega
      · intro  z w
        intros; exfalso; omega
    | succ N ih =>
      obtain ⟨ih0, ih1, ih2⟩ := ih
      refine ⟨?_, ?_, ?_⟩
      · intro x3 z w  hx3 hst as1 as2 as3 as4 hM
        refine r_ld (pc' := 8) rfl rfl rfl rfl ?_
        refine r_ld (pc' := 9) rfl rfl rfl rfl ?_
        refine r_ige (pc' := 12) rfl rfl ⟨by omega, by omega⟩ ⟨by omega, by omega⟩ (fun hc48 => ?_) (fun hc48 => ?_)
        · skip
          refine r_c0 (pc' := 43) rfl rfl ?_
          refine r_st (pc' := 44) (lv' := [(3, _), (0, _), (1, _), (2, _)]) rfl rfl rfl rfl ?_
          have hb49 := rd_225_58 hst.1
          exact w_lv (sub_c rfl (sub_c rfl (sub_c rfl (sub_c rfl sub_n)))) rfl (ih1 0 z w ⟨by omega, by omega⟩ hst (by first | exact as1 | exact hgn) (by first | (intro _ q; exfalso; omega) | exact fun h q => TG_m (r := (rdr z0 a1.toNat)) (t := a2) (as2 (by omega)) (fun q => by first | (exfalso; omega) | exact ⟨rfl, rfl⟩) (fun q => by first | (exfalso; omega) | exact ⟨rfl, rfl⟩) (by omega)) (by first | exact fun h _ => hgs.1 h | (intro _ q; exfalso; omega) | (intro h q; obtain ⟨n1, k1, k2⟩ := as2 (by omega); rw [show x3.toNat = 0 by omega] at k2; exact ⟨n1, k1, k2⟩)) (by first | exact hgs.2 | exact fun h => as3 (by omega)) (by first | omega | assumption) (by omega))
        · skip
          refine r_ld (pc' := 13) rfl rfl rfl rfl ?_
          have hb50 := rd_225_58 hst.1
          refine r_gi (pc' := 16) rfl rfl sh_225 rfl rfl ?_
          refine r_zne (pc' := 19) rfl rfl ⟨by omega, by omega⟩ (fun hc51 => ?_) (fun hc51 => ?_)
          · skip
            refine r_c0 (pc' := 43) rfl rfl ?_
            refine r_st (pc' := 44) (lv' := [(3, _), (0, _), (1, _), (2, _)]) rfl rfl rfl rfl ?_
            exact w_lv (sub_c rfl (sub_c rfl (sub_c rfl (sub_c rfl sub_n)))) rfl (ih1 0 z w ⟨by omega, by omega⟩ hst (by first | exact as1 | exact hgn) (by first | (intro _ q; exfalso; omega) | exact fun h q => TG_m (r := (rdr z0 a1.toNat)) (t := a2) (as2 (by omega)) (fun q => by first | (exfalso; omega) | exact ⟨rfl, rfl⟩) (fun q => by first | (exfalso; omega) | exact ⟨rfl, rfl⟩) (by omega)) (by first | exact fun h _ => hgs.1 h | (intro _ q; exfalso; omega) | (intro h q; obtain ⟨n1, k1, k2⟩ := as2 (by omega); rw [show x3.toNat = 0 by omega] at k2; exact ⟨n1, k1, k2⟩)) (by first | exact hgs.2 | exact fun h => as3 (by omega)) (by first | omega | assumption) (by omega))
          · skip
            refine r_ld (pc' := 20) rfl rfl rfl rfl ?_
            refine r_ld (pc' := 21) rfl rfl rfl rfl ?_
            refine r_ld (pc' := 22) rfl rfl rfl rfl ?_
            refine r_gr (b := 250) (pc' := 25) rfl rfl sh_225 rfl pp_225_46 ?_
            refine r_ld (pc' := 26) rfl rfl rfl rfl ?_
            have hb52 := rd_250 hz (i := a1.toNat) (by omega)
            refine r_ia (pc' := 27) rfl rfl sh_250 rfl (by omega) (by omega) (hst.2.2.1 _ _ (notS_c (by omega) (notS_c (by omega) (notS_c (by omega) (notS_c (by omega) (notS_c (by omega) notS_n)))))) ?_
            refine r_ld (pc' := 28) rfl rfl rfl rfl ?_
            refine r_gr (b := 249) (pc' := 31) rfl rfl sh_225 rfl pp_225_45 ?_
            refine r_ld (pc' := 32) rfl rfl rfl rfl ?_
            have hb53 := rd_249 hz (i := a1.toNat) (by omega)
            refine r_ia (pc' := 33) rfl rfl sh_249 rfl (by omega) (by omega) (hst.2.2.1 _ _ (notS_c (by omega) (notS_c (by omega) (notS_c (by omega) (notS_c (by omega) (notS_c (by omega) notS_n)))))) ?_
            have e251 : z 251 = z0 251 := funext fun i => hst.2.2.1 _ _ (notS_c (by omega) (notS_c (by omega) (notS_c (by omega) (notS_c (by omega) (notS_c (by omega) (notS_n))))))
            have e252 : z 252 = z0 252 := funext fun i => hst.2.2.1 _ _ (notS_c (by omega) (notS_c (by omega) (notS_c (by omega) (notS_c (by omega) (notS_c (by omega) (notS_n))))))
            refine r_cVV (pc' := 36) rfl rfl rfl rfl rfl sh_225 (m_209e (d := d + 1) a1 (z0 250 a1.toNat) (z0 249 a1.toNat) hst.1 hst.2.1 ⟨by omega, by omega⟩ ⟨by omega, by omega⟩ ⟨by omega, by omega⟩ (by exact (as1 (by omega)).2.1) (by omega)) (fun z55 w56 p57 hs59 hE60 => ?_)
            have hs61 := st_tr hst hs59 (sub_B rfl)
            obtain ⟨rfl, hE60⟩ := hE60
            have hto := hE60
            rw [e251, e252] at hto
            have hgn : z55 225 58 = 0 → GOk z0 w0 w56 (fun n => G (z0 248 a1.toNat).toNat n) := fun hs => by have g := as1 (hto.2.1 hs).1; have gg1 : G (z0 248 a1.toNat).toNat (w56 257) := (by rw [hto.1]; exact htw1 _ g.1); exact ⟨gg1, fun j hj => ⟨hgo.nn _ _ (by omega) gg1 j hj, by by_cases c : j = (z0 250 a1.toNat).toNat; (subst c; exact (hto.2.1 hs).2); (rw [hto.1]; unfold tw; rw [if_neg c]; by_cases c2 : j = (z0 249 a1.toNat).toNat; (rw [if_pos c2]; exact (g.2.1 _ (by omega)).2); (rw [if_neg c2]; exact (g.2.1 j hj).2))⟩, fun q => NZE_tw hto.1 ⟨by omega, by omega, by omega⟩ ⟨by omega, by omega, by omega⟩ (by omega) (by omega) (by omega) (g.2.2 q)⟩
            have hgs : (z55 225 58 = 0 → TG (rdr z0 a1.toNat) (z0 249 a1.toNat).toNat (z0 250 a1.toNat).toNat (x3 + 1).toNat (w0 257) (w56 257)) ∧ (z55 225 58 = 1 → gal (rdr z0 a1.toNat) a2 (w0 257) = none) := ⟨fun h => TG_s (r := (rdr z0 a1.toNat)) (as2 (by omega)) hto.1 (hto.2.1 h).2 (by omega), fun h => TG_x (r := (rdr z0 a1.toNat)) (t := a2) (as2 (by omega)) hto.1 ((hto.2.2 h).resolve_left (by omega)) (fun q => by first | (exfalso; omega) | exact ⟨rfl, rfl⟩) (fun q => by first | (exfalso; omega) | exact ⟨rfl, rfl⟩) (by omega)⟩
            refine r_inc (pc' := 39) (lv' := [(0, _), (1, _), (2, _)]) rfl rfl rfl rfl rfl ?_
            refine r_go rfl ?_
            have hb62 := rd_225_58 hs61.1
            exact w_lv (sub_c rfl (sub_c rfl (sub_c rfl (sub_c rfl sub_n)))) rfl (ih0 (x3 + 1) z55 w56 ⟨by omega, by omega⟩ hs61 (by first | exact hgf | exact hgn) (by first | exact hgs.1 | exact fun h => TG_0 (r := (rdr z0 a1.toNat)) (hge.1 h) rfl) (by first | exact hgs.2 | exact fun h => gal_1 (r := (rdr z0 a1.toNat)) (hge.2 h)) (by first | omega | assumption) (by omega))
      · intro x3 z w  hx3 hst as1 as2 as5 as3 as4 hM
        refine r_ld (pc' := 45) rfl rfl rfl rfl ?_
        refine r_ld (pc' := 46) rfl rfl rfl rfl ?_
        refine r_ile (pc' := 49) rfl rfl ⟨by omega, by omega⟩ ⟨by omega, by omega⟩ (fun hc63 => ?_) (fun hc63 => ?_)
        · skip
          have hb64 := rd_225_58 hst.1
          exact w_lv (sub_c rfl (sub_c rfl sub_n)) rfl (ih2 z w hst (by exact as1) (by intro h; rcases (show 0 < a2 ∨ a2 ≤ 0 by omega) with q | q; (exact as2 (by omega) q); (exact TG_m (r := (rdr z0 a1.toNat)) (t := a2) (as5 (by omega) q) (fun q => by first | (exfalso; omega) | exact ⟨rfl, rfl⟩) (fun q => by first | (exfalso; omega) | exact ⟨rfl, rfl⟩) (by omega))) (by exact fun h => as3 (by omega)) (by omega))
        · skip
          refine r_ld (pc' := 50) rfl rfl rfl rfl ?_
          have hb65 := rd_225_58 hst.1
          refine r_gi (pc' := 53) rfl rfl sh_225 rfl rfl ?_
          refine r_zne (pc' := 56) rfl rfl ⟨by omega, by omega⟩ (fun hc66 => ?_) (fun hc66 => ?_)
          · skip
            exact w_lv (sub_c rfl (sub_c rfl sub_n)) rfl (ih2 z w hst (by exact as1) (by intro h; rcases (show 0 < a2 ∨ a2 ≤ 0 by omega) with q | q; (exact as2 (by omega) q); (exact TG_m (r := (rdr z0 a1.toNat)) (t := a2) (as5 (by omega) q) (fun q => by first | (exfalso; omega) | exact ⟨rfl, rfl⟩) (fun q => by first | (exfalso; omega) | exact ⟨rfl, rfl⟩) (by omega))) (by exact fun h => as3 (by omega)) (by omega))
          · skip
            refine r_ld (pc' := 57) rfl rfl rfl rfl ?_
            refine r_ld (pc' := 58) rfl rfl rfl rfl ?_
            refine r_ld (pc' := 59) rfl rfl rfl rfl ?_
            refine r_gr (b := 249) (pc' := 62) rfl rfl sh_225 rfl pp_225_45 ?_
            refine r_ld (pc' := 63) rfl rfl rfl rfl ?_
            have hb67 := rd_249 hz (i := a1.toNat) (by omega)
            refine r_ia (pc' := 64) rfl rfl sh_249 rfl (by omega) (by omega) (hst.2.2.1 _ _ (notS_c (by omega) (notS_c (by omega) (notS_c (by omega) (notS_c (by omega) (notS_c (by omega) notS_n)))))) ?_
            refine r_ld (pc' := 65) rfl rfl rfl rfl ?_
            refine r_gr (b := 250) (pc' := 68) rfl rfl sh_225 rfl pp_225_46 ?_
            refine r_ld (pc' := 69) rfl rfl rfl rfl ?_
            have hb68 := rd_250 hz (i := a1.toNat) (by omega)
            refine r_ia (pc' := 70) rfl rfl sh_250 rfl (by omega) (by omega) (hst.2.2.1 _ _ (notS_c (by omega) (notS_c (by omega) (notS_c (by omega) (notS_c (by omega) (notS_c (by omega) notS_n)))))) ?_
            have e251 : z 251 = z0 251 := funext fun i => hst.2.2.1 _ _ (notS_c (by omega) (notS_c (by omega) (notS_c (by omega) (notS_c (by omega) (notS_c (by omega) (notS_n))))))
            have e252 : z 252 = z0 252 := funext fun i => hst.2.2.1 _ _ (notS_c (by omega) (notS_c (by omega) (notS_c (by omega) (notS_c (by omega) (notS_c (by omega) (notS_n))))))
            refine r_cVV (pc' := 73) rfl rfl rfl rfl rfl sh_225 (m_209e (d := d + 1) a1 (z0 249 a1.toNat) (z0 250 a1.toNat) hst.1 hst.2.1 ⟨by omega, by omega⟩ ⟨by omega, by omega⟩ ⟨by omega, by omega⟩ (by exact (as1 (by omega)).2.1) (by omega)) (fun z70 w71 p72 hs74 hE75 => ?_)
            have hs76 := st_tr hst hs74 (sub_B rfl)
            obtain ⟨rfl, hE75⟩ := hE75
            have hto := hE75
            rw [e251, e252] at hto
            have hgn : z70 225 58 = 0 → GOk z0 w0 w71 (fun n => G (z0 248 a1.toNat).toNat n) := fun hs => by have g := as1 (hto.2.1 hs).1; have gg1 : G (z0 248 a1.toNat).toNat (w71 257) := (by rw [hto.1]; exact htw2 _ g.1); exact ⟨gg1, fun j hj => ⟨hgo.nn _ _ (by omega) gg1 j hj, by by_cases c : j = (z0 249 a1.toNat).toNat; (subst c; exact (hto.2.1 hs).2); (rw [hto.1]; unfold tw; rw [if_neg c]; by_cases c2 : j = (z0 250 a1.toNat).toNat; (rw [if_pos c2]; exact (g.2.1 _ (by omega)).2); (rw [if_neg c2]; exact (g.2.1 j hj).2))⟩, fun q => NZE_tw hto.1 ⟨by omega, by omega, by omega⟩ ⟨by omega, by omega, by omega⟩ (by omega) (by omega) (by omega) (g.2.2 q)⟩
            have hgs : (z70 225 58 = 0 → TG (rdr z0 a1.toNat) (z0 250 a1.toNat).toNat (z0 249 a1.toNat).toNat (-(x3 + (-1))).toNat (w0 257) (w71 257)) ∧ (z70 225 58 = 1 → gal (rdr z0 a1.toNat) a2 (w0 257) = none) := ⟨fun h => TG_s (r := (rdr z0 a1.toNat)) (as5 (by omega) (by omega)) hto.1 (hto.2.1 h).2 (by omega), fun h => TG_x (r := (rdr z0 a1.toNat)) (t := a2) (as5 (by omega) (by omega)) hto.1 ((hto.2.2 h).resolve_left (by omega)) (fun q => by first | (exfalso; omega) | exact ⟨rfl, rfl⟩) (fun q => by first | (exfalso; omega) | exact ⟨rfl, rfl⟩) (by omega)⟩
            refine r_inc (pc' := 76) (lv' := [(0, _), (1, _), (2, _)]) rfl rfl rfl rfl rfl ?_
            refine r_go rfl ?_
            have hb77 := rd_225_58 hs76.1
            exact w_lv (sub_c rfl (sub_c rfl (sub_c rfl (sub_c rfl sub_n)))) rfl (ih1 (x3 + ((-1))) z70 w71 ⟨by omega, by omega⟩ hs76 (by first | exact as1 | exact hgn) (by first | (intro _ q; exfalso; omega) | exact fun h q => TG_m (r := (rdr z0 a1.toNat)) (t := a2) (as2 (by omega)) (fun q => by first | (exfalso; omega) | exact ⟨rfl, rfl⟩) (fun q => by first | (exfalso; omega) | exact ⟨rfl, rfl⟩) (by omega)) (by first | exact fun h _ => hgs.1 h | (intro _ q; exfalso; omega) | (intro h q; obtain ⟨n1, k1, k2⟩ := as2 (by omega); rw [show x3.toNat = 0 by omega] at k2; exact ⟨n1, k1, k2⟩)) (by first | exact hgs.2 | exact fun h => as3 (by omega)) (by first | omega | assumption) (by omega))
      · intro  z w  hst as1 as2 as3 hM
        refine r_ld (pc' := 80) rfl rfl rfl rfl ?_
        refine r_ld (pc' := 81) rfl rfl rfl rfl ?_
        have f247 : z 247 = z0 247 := funext fun i => hst.2.2.1 _ _ (notS_c (by omega) (notS_c (by omega) (notS_c (by omega) (notS_c (by omega) (notS_c (by omega) (notS_n))))))
        have f248 : z 248 = z0 248 := funext fun i => hst.2.2.1 _ _ (notS_c (by omega) (notS_c (by omega) (notS_c (by omega) (notS_c (by omega) (notS_c (by omega) (notS_n))))))
        have f26 : z 225 26 = z0 225 26 := hst.2.2.1 _ _ (notS_c (by omega) (notS_c (by omega) (notS_c (by omega) (notS_c (by omega) (notS_c (by omega) (notS_n))))))
        have fcq : cfQ z a1.toNat = cfQ z0 a1.toNat := by funext i j; unfold cfQ; rw [f247]
        have hb78 := rd_225_58 hst.1
        refine r_cVV (pc' := 84) rfl rfl rfl rfl rfl sh_225 (m_208e (d := d) m T G a1 hst.1 hst.2.1 ⟨by omega, by omega⟩ (by rw [f248]; exact fun hs => ⟨(as1 hs).1, (as1 hs).2.1⟩) (by rw [fcq, f248]; exact hgo) (by rw [fcq, f248]; unfold rE; rw [f26]; exact hbe)) (fun z80 w81 p82 hs84 hE85 => ?_)
        have hs86 := st_tr hst hs84 (sub_B rfl)
        obtain ⟨rfl, hE85⟩ := hE85
        have hgb := hE85.1
        unfold GOk rE at hgb
        rw [f26] at hgb
        have hgy := hE85.2
        rw [fcq, f248] at hgy
        have hb87 := rd_225_58 hs86.1
        exact r_ret rfl (po_V hs86 ⟨rfl, (by refine ⟨?_, ?_, ?_⟩; (intro hs; have g := hgb.1 hs; have g0 := as1 (hgb.2 hs); exact ⟨by have q := (hgo.g0 _).mpr g.1; rw [hm, hT] at q; exact q, g.2.1, fun q => g.2.2 (g0.2.2 q)⟩); (intro hs; rw [TM_b (as2 (hgb.2 hs))]; exact hgy.1 hs); (intro hs; rcases hgy.2 hs with q | q; (exact as3 q); (by_cases c9 : z 225 58 = 0; (rw [TM_b (as2 c9)]; exact q); exact as3 (by omega))))⟩)
  refine w_m rfl rfl ?_
  refine r_ld (pc' := 1) rfl rfl rfl rfl ?_
  refine r_ld (pc' := 2) rfl rfl rfl rfl ?_
  have hb88 := rd_225_58 hz
  refine r_cVV (pc' := 5) rfl rfl rfl rfl rfl sh_225 (m_206e (d := d) m T G a1 hst.1 hst.2.1 ⟨by omega, by omega⟩ (by exact hnb) (by first | omega | assumption) (by exact hgo) (by exact hbe) (by exact (hgo.g0 _).mp (by rw [hm, hT]; exact hft))) (fun z90 w91 p92 hs94 hE95 => ?_)
  have hs96 := st_tr hst hs94 (sub_B rfl)
  obtain ⟨rfl, hE95⟩ := hE95
  have hgf := hE95.1
  have hge := hE95.2
  refine r_c0 (pc' := 6) rfl rfl ?_
  refine r_st (pc' := 7) (lv' := [(3, _), (0, _), (1, _), (2, _)]) rfl rfl rfl rfl ?_
  have hb97 := rd_225_58 hs96.1
  exact w_lv (sub_c rfl (sub_c rfl (sub_c rfl (sub_c rfl sub_n)))) rfl ((key ((49 * (99 - 0) + 4992 : Int).toNat + 1)).1 0 z90 w91 ⟨by omega, by omega⟩ hs96 (by first | exact hgf | exact hgn) (by first | exact hgs.1 | exact fun h => TG_0 (r := (rdr z0 a1.toNat)) (hge.1 h) rfl) (by first | exact hgs.2 | exact fun h => gal_1 (r := (rdr z0 a1.toNat)) (hge.2 h)) (by first | omega | assumption) (by omega))
/-- LoopGroundModel goWord -/
abbrev S_211e  : mS := [(259, 259, 0, 17), (258, 258, 0, 323), (257, 257, 0, 17), (225, 225, 58, 58), (260, 260, 0, 17)]
abbrev E_211e (a1 : Int) (z0 w0 : mZ) (x y tx it mt tt ct : Option Nat) : mZ → mZ → mP → Prop := fun z w p => p = (pq x y tx it mt tt ct) ∧ ((z 225 58 = 0 → GOk z0 w0 w (fun n => FT (z0 225 26).toNat (vT (z0 235)) n)) ∧ (z 225 58 = 0 → gwr z0 a1.toNat (w0 257) = some (w 257)) ∧ (z 225 58 = 1 → gwr z0 a1.toNat (w0 257) = none))
theorem m_211e {d : Nat} {z0 w0 : mZ} {x y tx it mt tt ct : Option Nat} (a1 : Int) (hz : rz z0) (hw : rw_ w0) (ha1 : 0 ≤ a1 ∧ a1 ≤ 5) (hnb : NBr w0 257) (hsp : z0 225 58 = 0) (hft : FT (z0 225 26).toNat (vT (z0 235)) (w0 257)) (hga : GAr z0) (hfw : FWr z0 a1.toNat) : wc (d + 6) 211 [.ref 225, .int (Int32.ofInt a1)] (mk z0 w0 (pq x y tx it mt tt ct)) (poV S_211e z0 w0 (E_211e a1 z0 w0 x y tx it mt tt ct)) := by
  have hst : st_ S_211e z0 w0 z0 w0 := st_rf hz hw
  have hz19 := rd_225_26 hz
  have hz20 := rd_225_58 hz
  have hm26 := rd_225_26 hz
  have hrE : rE z0 = 3 * z0 225 26 / 2 := rfl
  have hln := rd_225_27 hz
  have key : ∀ N : Nat, (∀ (x2 : Int) (z w : mZ), 0 ≤ x2 ∧ x2 ≤ 8 → st_ S_211e z0 w0 z w → (z 225 58 = 0 → GOk z0 w0 w (fun n => FT (z0 225 26).toNat (vT (z0 235)) n)) → (z 225 58 = 0 → gwd (rdr z0) (fun i => (z0 237 (8 * a1.toNat + i)).toNat) (fun i => z0 238 (8 * a1.toNat + i)) x2.toNat (w0 257) = some (w 257)) → (z 225 58 = 1 → gwr z0 a1.toNat (w0 257) = none) → (x2 ≤ z0 239 a1.toNat) → 32 * (8 - x2) + 29 < (N : Int) → wp_ (d + 5) 211 3 none (2, [(0, .ref 225), (1, .int (Int32.ofInt a1)), (2, .int (Int32.ofInt x2))], [], mk z w (pq x y tx it mt tt ct)) (poV S_211e z0 w0 (E_211e a1 z0 w0 x y tx it mt tt ct))) := by
    intro N
    induction N with
    | zero =>
      intro x2 z w
      intros; exfalso; omega
    | succ N ih =>
      have ih0 := ih; clear ih
      intro x2 z w  hx2 hst as1 as2 as3 as4 hM
      have e26 : z 225 26 = z0 225 26 := hst.2.2.1 _ _ (notS_c (by omega) (notS_c (by omega) (notS_c (by omega) (notS_c (by omega) (notS_c (by omega) (notS_n))))))
      have e235 : z 235 = z0 235 := funext fun i => hst.2.2.1 _ _ (notS_c (by omega) (notS_c (by omega) (notS_c (by omega) (notS_c (by omega) (notS_c (by omega) (notS_n))))))
      refine r_ld (pc' := 3) rfl rfl rfl rfl ?_
      refine r_ld (pc' := 4) rfl rfl rfl rfl ?_
      refine r_gr (b := 239) (pc' := 7) rfl rfl sh_225 rfl pp_225_22 ?_
      refine r_ld (pc' := 8) rfl rfl rfl rfl ?_
      have hb21 := rd_239 hz (i := a1.toNat) (by omega)
      refine r_ia (pc' := 9) rfl rfl sh_239 rfl (by omega) (by omega) (hst.2.2.1 _ _ (notS_c (by omega) (notS_c (by omega) (notS_c (by omega) (notS_c (by omega) (notS_c (by omega) notS_n)))))) ?_
      refine r_ige (pc' := 12) rfl rfl ⟨by omega, by omega⟩ ⟨by omega, by omega⟩ (fun hc22 => ?_) (fun hc22 => ?_)
      · skip
        have hb23 := rd_225_58 hst.1
        exact r_ret rfl (po_V hst ⟨rfl, (by refine ⟨?_, ?_, ?_⟩; (exact as1); (intro hs; unfold gwr; rw [show (z0 239 a1.toNat).toNat = x2.toNat by omega]; exact as2 (by omega)); (intro hs; exact as3 (by omega)))⟩)
      · skip
        refine r_ld (pc' := 13) rfl rfl rfl rfl ?_
        have hb24 := rd_225_58 hst.1
        refine r_gi (pc' := 16) rfl rfl sh_225 rfl rfl ?_
        refine r_zne (pc' := 19) rfl rfl ⟨by omega, by omega⟩ (fun hc25 => ?_) (fun hc25 => ?_)
        · skip
          exact r_ret rfl (po_V hst ⟨rfl, (by refine ⟨?_, ?_, ?_⟩; (exact as1); (intro hs; unfold gwr; rw [show (z0 239 a1.toNat).toNat = x2.toNat by omega]; exact as2 (by omega)); (intro hs; exact as3 (by omega)))⟩)
        · skip
          refine r_ld (pc' := 20) rfl rfl rfl rfl ?_
          have hfi := hfw x2.toNat (by omega)
          have hfr := rd_237 hz (i := 8 * a1.toNat + x2.toNat) (by omega)
          have hix : (8 * a1 + x2).toNat = 8 * a1.toNat + x2.toNat := by omega
          rw [← hix] at hfi hfr
          have rdz : rdr z (z0 237 (8 * a1 + x2).toNat).toNat = rdr z0 (z0 237 (8 * a1.toNat + x2.toNat)).toNat := by rw [← hix]; exact rdr_f (fun a h1 h2 => funext fun i => hst.2.2.1 _ _ (notS_c (by omega) (notS_c (by omega) (notS_c (by omega) (notS_c (by omega) (notS_c (by omega) (notS_n)))))))
          have tmz : z0 238 (8 * a1 + x2).toNat = z0 238 (8 * a1.toNat + x2.toNat) := by rw [← hix]
          refine r_ld (pc' := 21) rfl rfl rfl rfl ?_
          refine r_gr (b := 237) (pc' := 24) rfl rfl sh_225 rfl pp_225_20 ?_
          refine r_cb (pc' := 26) rfl (by decide) rfl ?_
          refine r_ld (pc' := 27) rfl rfl rfl rfl ?_
          refine r_mul (pc' := 28) rfl rfl ?_
          refine r_ld (pc' := 29) rfl rfl rfl rfl ?_
          refine r_add (pc' := 30) rfl rfl ?_
          have hb26 := rd_237 hz (i := ((8 * a1) + x2).toNat) (by omega)
          refine r_ia (pc' := 31) rfl rfl sh_237 rfl (by omega) (by omega) (hst.2.2.1 _ _ (notS_c (by omega) (notS_c (by omega) (notS_c (by omega) (notS_c (by omega) (notS_c (by omega) notS_n)))))) ?_
          refine r_ld (pc' := 32) rfl rfl rfl rfl ?_
          refine r_gr (b := 238) (pc' := 35) rfl rfl sh_225 rfl pp_225_21 ?_
          refine r_cb (pc' := 37) rfl (by decide) rfl ?_
          refine r_ld (pc' := 38) rfl rfl rfl rfl ?_
          refine r_mul (pc' := 39) rfl rfl ?_
          refine r_ld (pc' := 40) rfl rfl rfl rfl ?_
          refine r_add (pc' := 41) rfl rfl ?_
          have hb27 := rd_238 hz (i := ((8 * a1) + x2).toNat) (by omega)
          refine r_ia (pc' := 42) rfl rfl sh_238 rfl (by omega) (by omega) (hst.2.2.1 _ _ (notS_c (by omega) (notS_c (by omega) (notS_c (by omega) (notS_c (by omega) (notS_c (by omega) notS_n)))))) ?_
          have hb28 := rd_225_26 hz
          have hf29 : z 225 26 = z0 225 26 := (hst.2.2.1 _ _ (notS_c (by omega) (notS_c (by omega) (notS_c (by omega) (notS_c (by omega) (notS_c (by omega) notS_n))))))
          have hF30 : z 235 = z0 235 := (funext fun _ => hst.2.2.1 _ _ (notS_c (by omega) (notS_c (by omega) (notS_c (by omega) (notS_c (by omega) (notS_c (by omega) notS_n))))))
          refine r_cVV (pc' := 45) rfl rfl rfl rfl rfl sh_225 (m_210e (d := d) (z0 237 ((8 * a1) + x2).toNat) (z0 238 ((8 * a1) + x2).toNat) hst.1 hst.2.1 ⟨by omega, by omega⟩ ⟨by omega, by omega⟩ (by exact (as1 (by omega)).2.1) (by first | omega | assumption | (simp only [hF30, hf29]; assumption)) (by rw [e26, e235]; exact (as1 (by omega)).1) (by exact GRq_c (hst.2.2.1 _ _ (notS_c (by omega) (notS_c (by omega) (notS_c (by omega) (notS_c (by omega) (notS_c (by omega) (notS_n))))))) (funext fun i => hst.2.2.1 _ _ (notS_c (by omega) (notS_c (by omega) (notS_c (by omega) (notS_c (by omega) (notS_c (by omega) (notS_n))))))) (fun a h1 h2 => funext fun i => hst.2.2.1 _ _ (notS_c (by omega) (notS_c (by omega) (notS_c (by omega) (notS_c (by omega) (notS_c (by omega) (notS_n))))))) (hga _ (by omega))) (by exact (hst.2.2.1 _ _ (notS_c (by omega) (notS_c (by omega) (notS_c (by omega) (notS_c (by omega) (notS_c (by omega) (notS_n))))))).trans hfi.2)) (fun z32 w33 p34 hs36 hE37 => ?_)
          have hs38 := st_tr hst hs36 (sub_B rfl)
          obtain ⟨rfl, hE37⟩ := hE37
          have hgt := hE37.1
          unfold GOk rE at hgt
          rw [e26, e235] at hgt
          have hte := hE37.2
          rw [rdz, tmz] at hte
          have hgx : (z32 225 58 = 0 → gwd (rdr z0) (fun i => (z0 237 (8 * a1.toNat + i)).toNat) (fun i => z0 238 (8 * a1.toNat + i)) (x2 + 1).toNat (w0 257) = some (w33 257)) ∧ (z32 225 58 = 1 → gwr z0 a1.toNat (w0 257) = none) := ⟨fun h => gwd_s (as2 (by omega)) (hte.1 h) (by omega), fun h => gwd_X (as2 (by omega)) (hte.2 h) (by omega)⟩
          refine r_inc (pc' := 48) (lv' := [(0, _), (1, _)]) rfl rfl rfl rfl rfl ?_
          refine r_go rfl ?_
          have hb39 := rd_225_58 hs38.1
          exact w_lv (sub_c rfl (sub_c rfl (sub_c rfl sub_n))) rfl (ih0 (x2 + 1) z32 w33 ⟨by omega, by omega⟩ hs38 (by first | exact fun _ => ⟨hft, hnb, fun q => q⟩ | (intro hs; have g := hgt hs; have g0 := as1 (by omega); exact ⟨g.1, g.2.1, fun q => g.2.2 (g0.2.2 q)⟩)) (by first | exact hgx.1 | exact fun _ => rfl) (by first | exact hgx.2 | (intro h; exfalso; omega)) (by first | omega | (have h9 := rd_239 hz (i := a1.toNat) (by omega); omega)) (by omega))
  refine w_m rfl rfl ?_
  refine r_c0 (pc' := 1) rfl rfl ?_
  refine r_st (pc' := 2) (lv' := [(2, _), (0, _), (1, _)]) rfl rfl rfl rfl ?_
  have hb40 := rd_225_58 hz
  exact w_lv (sub_c rfl (sub_c rfl (sub_c rfl sub_n))) rfl ((key ((32 * (8 - 0) + 29 : Int).toNat + 1)) 0 z0 w0 ⟨by omega, by omega⟩ hst (by first | exact fun _ => ⟨hft, hnb, fun q => q⟩ | (intro hs; have g := hgt hs; have g0 := as1 (by omega); exact ⟨g.1, g.2.1, fun q => g.2.2 (g0.2.2 q)⟩)) (by first | exact hgx.1 | exact fun _ => rfl) (by first | exact hgx.2 | (intro h; exfalso; omega)) (by first | omega | (have h9 := rd_239 hz (i := a1.toNat) (by omega); omega)) (by omega))

/-! methods, printed by wip/tools/vcg.py -/
/-- LoopGroundModel greater -/
abbrev S_205v  : mS := [(259, 259, 0, 17), (258, 258, 0, 323), (257, 257, 0, 17), (225, 225, 58, 58)]
abbrev E_205v (a1 : Int) (a2 : Int) (a3 : Int) (a4 : Int) (a5 : Int) (a6 : Int) (z0 w0 : mZ) (x y tx it mt tt ct : Option Nat) : mZ → mZ → mP → Prop := fun z w p => p = (pq x y tx it mt tt ct) ∧ (w 257 = (fun j => if j = a1.toNat then max (w0 257 a2.toNat + w0 257 a3.toNat) (w0 257 a4.toNat + w0 257 a5.toNat) - w0 257 a6.toNat else w0 257 j) ∧ (z 225 58 = 0 → z0 225 58 = 0 ∧ w 257 a1.toNat ≤ 100000000000000))
theorem m_205v {d : Nat} {z0 w0 : mZ} {x y tx it mt tt ct : Option Nat} (a1 : Int) (a2 : Int) (a3 : Int) (a4 : Int) (a5 : Int) (a6 : Int) (hz : rz z0) (hw : rw_ w0) (ha1 : 0 ≤ a1 ∧ a1 ≤ 17) (ha2 : 0 ≤ a2 ∧ a2 ≤ 17) (ha3 : 0 ≤ a3 ∧ a3 ≤ 17) (ha4 : 0 ≤ a4 ∧ a4 ≤ 17) (ha5 : 0 ≤ a5 ∧ a5 ≤ 17) (ha6 : 0 ≤ a6 ∧ a6 ≤ 17) (hnb : NBr w0 257) : wc (d + 2) 205 [.ref 225, .int (Int32.ofInt a1), .int (Int32.ofInt a2), .int (Int32.ofInt a3), .int (Int32.ofInt a4), .int (Int32.ofInt a5), .int (Int32.ofInt a6)] (mk z0 w0 (pq x y tx it mt tt ct)) (poV S_205v z0 w0 (E_205v a1 a2 a3 a4 a5 a6 z0 w0 x y tx it mt tt ct)) := by
  have hst : st_ S_205v z0 w0 z0 w0 := st_rf hz hw
  have hz126 := rd_225_58 hz
  have hn2 := hnb a2.toNat (by omega)
  have hn3 := hnb a3.toNat (by omega)
  have hn4 := hnb a4.toNat (by omega)
  have hn5 := hnb a5.toNat (by omega)
  have hn6 := hnb a6.toNat (by omega)
  refine w_m rfl rfl ?_
  refine r_ld (pc' := 1) rfl rfl rfl rfl ?_
  refine r_gr (b := 257) (pc' := 4) rfl rfl sh_225 rfl pp_225_55 ?_
  refine r_ld (pc' := 5) rfl rfl rfl rfl ?_
  have hb127 := rd_257 hw (i := a2.toNat) (by omega)
  refine r_la (pc' := 6) rfl rfl sh_257 rfl (by omega) (by omega) rfl ?_
  refine r_ld (pc' := 7) rfl rfl rfl rfl ?_
  refine r_gr (b := 257) (pc' := 10) rfl rfl sh_225 rfl pp_225_55 ?_
  refine r_ld (pc' := 11) rfl rfl rfl rfl ?_
  have hb128 := rd_257 hw (i := a3.toNat) (by omega)
  refine r_la (pc' := 12) rfl rfl sh_257 rfl (by omega) (by omega) rfl ?_
  refine r_ladd (pc' := 13) rfl rfl ?_
  refine w_hxl (fun v129 h130 h131 => ?_)
  refine r_st (pc' := 15) (lv' := [(7, _), (0, _), (1, _), (2, _), (3, _), (4, _), (5, _), (6, _)]) rfl rfl rfl rfl ?_
  refine r_ld (pc' := 16) rfl rfl rfl rfl ?_
  refine r_gr (b := 257) (pc' := 19) rfl rfl sh_225 rfl pp_225_55 ?_
  refine r_ld (pc' := 21) rfl rfl rfl rfl ?_
  have hb132 := rd_257 hw (i := a4.toNat) (by omega)
  refine r_la (pc' := 22) rfl rfl sh_257 rfl (by omega) (by omega) rfl ?_
  refine r_ld (pc' := 23) rfl rfl rfl rfl ?_
  refine r_gr (b := 257) (pc' := 26) rfl rfl sh_225 rfl pp_225_55 ?_
  refine r_ld (pc' := 28) rfl rfl rfl rfl ?_
  have hb133 := rd_257 hw (i := a5.toNat) (by omega)
  refine r_la (pc' := 29) rfl rfl sh_257 rfl (by omega) (by omega) rfl ?_
  refine r_ladd (pc' := 30) rfl rfl ?_
  refine w_hxl (fun v134 h135 h136 => ?_)
  refine r_st (pc' := 32) (lv' := [(9, _), (7, _), (0, _), (1, _), (2, _), (3, _), (4, _), (5, _), (6, _)]) rfl rfl rfl rfl ?_
  refine r_ld (pc' := 34) rfl rfl rfl rfl ?_
  refine r_ld (pc' := 36) rfl rfl rfl rfl ?_
  refine r_lge (pc' := 40) rfl rfl rfl ⟨by omega, by omega⟩ ⟨by omega, by omega⟩ (fun hc137 => ?_) (fun hc137 => ?_)
  · skip
    refine r_ld (pc' := 47) rfl rfl rfl rfl ?_
    refine r_ld (pc' := 48) rfl rfl rfl rfl ?_
    refine r_gr (b := 257) (pc' := 51) rfl rfl sh_225 rfl pp_225_55 ?_
    refine r_ld (pc' := 53) rfl rfl rfl rfl ?_
    have hb138 := rd_257 hw (i := a6.toNat) (by omega)
    refine r_la (pc' := 54) rfl rfl sh_257 rfl (by omega) (by omega) rfl ?_
    refine r_lsub (pc' := 55) rfl rfl ?_
    refine w_hxl (fun v139 h140 h141 => ?_)
    refine r_st (pc' := 57) (lv' := [(11, _), (9, _), (7, _), (0, _), (1, _), (2, _), (3, _), (4, _), (5, _), (6, _)]) rfl rfl rfl rfl ?_
    refine r_ld (pc' := 58) rfl rfl rfl rfl ?_
    refine r_ld (pc' := 59) rfl rfl rfl rfl ?_
    refine r_ld (pc' := 61) rfl rfl rfl rfl ?_
    refine r_ld (pc' := 63) rfl rfl rfl rfl ?_
    refine r_lge (pc' := 67) rfl rfl rfl ⟨by omega, by omega⟩ ⟨by omega, by omega⟩ (fun hc142 => ?_) (fun hc142 => ?_)
    · skip
      refine r_c0 (pc' := 72) rfl rfl ?_
      refine r_ld (pc' := 73) rfl rfl rfl rfl ?_
      refine r_ld (pc' := 74) rfl rfl rfl rfl ?_
      refine r_ld (pc' := 76) rfl rfl rfl rfl ?_
      refine r_ld (pc' := 78) rfl rfl rfl rfl ?_
      refine r_ld (pc' := 80) rfl rfl rfl rfl ?_
      have hwz := True.intro
      refine r_cVV (pc' := 83) rfl rfl rfl rfl rfl sh_225 (m_204 (d := d) a1 0 a2 a3 a4 a5 a6 hst.1 hst.2.1 ⟨by omega, by omega⟩ ⟨by omega, by omega⟩ ⟨by omega, by omega⟩ ⟨by omega, by omega⟩ ⟨by omega, by omega⟩ ⟨by omega, by omega⟩ ⟨by omega, by omega⟩) (fun z144 w145 p146 hs148 hE149 => ?_)
      have hs150 := st_tr hst hs148 (sub_B rfl)
      obtain rfl := hE149
      have hwf : ∀ j, w145 257 j = w0 257 j := fun j => (hs148.2.2.2 _ _ (notS_c (by omega) (notS_c (by omega) notS_n)))
      refine r_ld (pc' := 84) rfl rfl rfl rfl ?_
      refine r_gr (b := 257) (pc' := 87) rfl rfl sh_225 rfl pp_225_55 ?_
      refine r_ld (pc' := 88) rfl rfl rfl rfl ?_
      refine r_ld (pc' := 90) rfl rfl rfl rfl ?_
      refine r_ls (pc' := 91) rfl rfl sh_257 rfl (by omega) (by omega) hs150 (inS_s (inS_s (inS_0 (by omega) (by omega) (by omega) (by omega)))) (wr_257 ⟨by omega, by omega⟩) (fun w151 hq152 hs153 => ?_)
      have hqw := hq152
      refine r_ld (pc' := 92) rfl rfl rfl rfl ?_
      refine r_ld (pc' := 93) rfl rfl rfl rfl ?_
      have hb154 := rd_225_58 hz
      refine r_gi (pc' := 96) rfl rfl sh_225 rfl (hs148.2.2.1 _ _ (notS_c (by omega) (notS_c (by omega) notS_n))) ?_
      refine r_zne (pc' := 99) rfl rfl ⟨by omega, by omega⟩ (fun hc155 => ?_) (fun hc155 => ?_)
      · skip
        refine r_c0 (pc' := 109) rfl rfl ?_
        refine r_go rfl ?_
        refine r_pi (pc' := 116) rfl rfl sh_225 rfl (fit_b (by omega)) hs153 (inS_s (inS_s (inS_s (inS_0 (by omega) (by omega) (by omega) (by omega))))) (wr_225_58 ⟨by omega, by omega⟩) (fun z156 hq157 hs158 => ?_)
        have hf159 : z156 225 58 = 1 := ((congrFun (congrFun hq157 _) _).trans mu_eq)
        exact r_ret rfl (po_V hs158 ⟨rfl, (by have hw9 : w151 257 = (fun j => if j = a1.toNat then max (w0 257 a2.toNat + w0 257 a3.toNat) (w0 257 a4.toNat + w0 257 a5.toNat) - w0 257 a6.toNat else w0 257 j) := (by funext j; rw [show w151 257 j = w151 257 j from rfl, hqw, mu_sf]; dsimp only; by_cases c : j = a1.toNat; (rw [if_pos c, if_pos c]; omega); (rw [if_neg c, if_neg c]; exact hwf j)); refine ⟨hw9, fun h => ?_⟩; (have hv9 : w151 257 a1.toNat = w151 257 a1.toNat := rfl); (have hv8 : w151 257 a1.toNat = _ := (congrFun (congrFun hqw _) _).trans mu_eq); exact ⟨by omega, by omega⟩)⟩)
      · skip
        refine r_ld (pc' := 101) rfl rfl rfl rfl ?_
        refine r_al (pc' := 104) rfl rfl rfl rfl ?_
        refine r_lle (pc' := 108) rfl rfl rfl ⟨by omega, by omega⟩ ⟨by decide, by decide⟩ (fun hc160 => ?_) (fun hc160 => ?_)
        · skip
          refine r_c0 (pc' := 113) rfl rfl ?_
          refine r_pi (pc' := 116) rfl rfl sh_225 rfl (fit_b (by omega)) hs153 (inS_s (inS_s (inS_s (inS_0 (by omega) (by omega) (by omega) (by omega))))) (wr_225_58 ⟨by omega, by omega⟩) (fun z161 hq162 hs163 => ?_)
          have hf164 : z161 225 58 = 0 := ((congrFun (congrFun hq162 _) _).trans mu_eq)
          exact r_ret rfl (po_V hs163 ⟨rfl, (by have hw9 : w151 257 = (fun j => if j = a1.toNat then max (w0 257 a2.toNat + w0 257 a3.toNat) (w0 257 a4.toNat + w0 257 a5.toNat) - w0 257 a6.toNat else w0 257 j) := (by funext j; rw [show w151 257 j = w151 257 j from rfl, hqw, mu_sf]; dsimp only; by_cases c : j = a1.toNat; (rw [if_pos c, if_pos c]; omega); (rw [if_neg c, if_neg c]; exact hwf j)); refine ⟨hw9, fun h => ?_⟩; (have hv9 : w151 257 a1.toNat = w151 257 a1.toNat := rfl); (have hv8 : w151 257 a1.toNat = _ := (congrFun (congrFun hqw _) _).trans mu_eq); exact ⟨by omega, by omega⟩)⟩)
        · skip
          refine r_c0 (pc' := 109) rfl rfl ?_
          refine r_go rfl ?_
          refine r_pi (pc' := 116) rfl rfl sh_225 rfl (fit_b (by omega)) hs153 (inS_s (inS_s (inS_s (inS_0 (by omega) (by omega) (by omega) (by omega))))) (wr_225_58 ⟨by omega, by omega⟩) (fun z165 hq166 hs167 => ?_)
          have hf168 : z165 225 58 = 1 := ((congrFun (congrFun hq166 _) _).trans mu_eq)
          exact r_ret rfl (po_V hs167 ⟨rfl, (by have hw9 : w151 257 = (fun j => if j = a1.toNat then max (w0 257 a2.toNat + w0 257 a3.toNat) (w0 257 a4.toNat + w0 257 a5.toNat) - w0 257 a6.toNat else w0 257 j) := (by funext j; rw [show w151 257 j = w151 257 j from rfl, hqw, mu_sf]; dsimp only; by_cases c : j = a1.toNat; (rw [if_pos c, if_pos c]; omega); (rw [if_neg c, if_neg c]; exact hwf j)); refine ⟨hw9, fun h => ?_⟩; (have hv9 : w151 257 a1.toNat = w151 257 a1.toNat := rfl); (have hv8 : w151 257 a1.toNat = _ := (congrFun (congrFun hqw _) _).trans mu_eq); exact ⟨by omega, by omega⟩)⟩)
    · skip
      refine r_c0 (pc' := 68) rfl rfl ?_
      refine r_go rfl ?_
      refine r_ld (pc' := 73) rfl rfl rfl rfl ?_
      refine r_ld (pc' := 74) rfl rfl rfl rfl ?_
      refine r_ld (pc' := 76) rfl rfl rfl rfl ?_
      refine r_ld (pc' := 78) rfl rfl rfl rfl ?_
      refine r_ld (pc' := 80) rfl rfl rfl rfl ?_
      have hwz := True.intro
      refine r_cVV (pc' := 83) rfl rfl rfl rfl rfl sh_225 (m_204 (d := d) a1 1 a2 a3 a4 a5 a6 hst.1 hst.2.1 ⟨by omega, by omega⟩ ⟨by omega, by omega⟩ ⟨by omega, by omega⟩ ⟨by omega, by omega⟩ ⟨by omega, by omega⟩ ⟨by omega, by omega⟩ ⟨by omega, by omega⟩) (fun z170 w171 p172 hs174 hE175 => ?_)
      have hs176 := st_tr hst hs174 (sub_B rfl)
      obtain rfl := hE175
      have hwf : ∀ j, w171 257 j = w0 257 j := fun j => (hs174.2.2.2 _ _ (notS_c (by omega) (notS_c (by omega) notS_n)))
      refine r_ld (pc' := 84) rfl rfl rfl rfl ?_
      refine r_gr (b := 257) (pc' := 87) rfl rfl sh_225 rfl pp_225_55 ?_
      refine r_ld (pc' := 88) rfl rfl rfl rfl ?_
      refine r_ld (pc' := 90) rfl rfl rfl rfl ?_
      refine r_ls (pc' := 91) rfl rfl sh_257 rfl (by omega) (by omega) hs176 (inS_s (inS_s (inS_0 (by omega) (by omega) (by omega) (by omega)))) (wr_257 ⟨by omega, by omega⟩) (fun w177 hq178 hs179 => ?_)
      have hqw := hq178
      refine r_ld (pc' := 92) rfl rfl rfl rfl ?_
      refine r_ld (pc' := 93) rfl rfl rfl rfl ?_
      have hb180 := rd_225_58 hz
      refine r_gi (pc' := 96) rfl rfl sh_225 rfl (hs174.2.2.1 _ _ (notS_c (by omega) (notS_c (by omega) notS_n))) ?_
      refine r_zne (pc' := 99) rfl rfl ⟨by omega, by omega⟩ (fun hc181 => ?_) (fun hc181 => ?_)
      · skip
        refine r_c0 (pc' := 109) rfl rfl ?_
        refine r_go rfl ?_
        refine r_pi (pc' := 116) rfl rfl sh_225 rfl (fit_b (by omega)) hs179 (inS_s (inS_s (inS_s (inS_0 (by omega) (by omega) (by omega) (by omega))))) (wr_225_58 ⟨by omega, by omega⟩) (fun z182 hq183 hs184 => ?_)
        have hf185 : z182 225 58 = 1 := ((congrFun (congrFun hq183 _) _).trans mu_eq)
        exact r_ret rfl (po_V hs184 ⟨rfl, (by have hw9 : w177 257 = (fun j => if j = a1.toNat then max (w0 257 a2.toNat + w0 257 a3.toNat) (w0 257 a4.toNat + w0 257 a5.toNat) - w0 257 a6.toNat else w0 257 j) := (by funext j; rw [show w177 257 j = w177 257 j from rfl, hqw, mu_sf]; dsimp only; by_cases c : j = a1.toNat; (rw [if_pos c, if_pos c]; omega); (rw [if_neg c, if_neg c]; exact hwf j)); refine ⟨hw9, fun h => ?_⟩; (have hv9 : w177 257 a1.toNat = w177 257 a1.toNat := rfl); (have hv8 : w177 257 a1.toNat = _ := (congrFun (congrFun hqw _) _).trans mu_eq); exact ⟨by omega, by omega⟩)⟩)
      · skip
        refine r_ld (pc' := 101) rfl rfl rfl rfl ?_
        refine r_al (pc' := 104) rfl rfl rfl rfl ?_
        refine r_lle (pc' := 108) rfl rfl rfl ⟨by omega, by omega⟩ ⟨by decide, by decide⟩ (fun hc186 => ?_) (fun hc186 => ?_)
        · skip
          refine r_c0 (pc' := 113) rfl rfl ?_
          refine r_pi (pc' := 116) rfl rfl sh_225 rfl (fit_b (by omega)) hs179 (inS_s (inS_s (inS_s (inS_0 (by omega) (by omega) (by omega) (by omega))))) (wr_225_58 ⟨by omega, by omega⟩) (fun z187 hq188 hs189 => ?_)
          have hf190 : z187 225 58 = 0 := ((congrFun (congrFun hq188 _) _).trans mu_eq)
          exact r_ret rfl (po_V hs189 ⟨rfl, (by have hw9 : w177 257 = (fun j => if j = a1.toNat then max (w0 257 a2.toNat + w0 257 a3.toNat) (w0 257 a4.toNat + w0 257 a5.toNat) - w0 257 a6.toNat else w0 257 j) := (by funext j; rw [show w177 257 j = w177 257 j from rfl, hqw, mu_sf]; dsimp only; by_cases c : j = a1.toNat; (rw [if_pos c, if_pos c]; omega); (rw [if_neg c, if_neg c]; exact hwf j)); refine ⟨hw9, fun h => ?_⟩; (have hv9 : w177 257 a1.toNat = w177 257 a1.toNat := rfl); (have hv8 : w177 257 a1.toNat = _ := (congrFun (congrFun hqw _) _).trans mu_eq); exact ⟨by omega, by omega⟩)⟩)
        · skip
          refine r_c0 (pc' := 109) rfl rfl ?_
          refine r_go rfl ?_
          refine r_pi (pc' := 116) rfl rfl sh_225 rfl (fit_b (by omega)) hs179 (inS_s (inS_s (inS_s (inS_0 (by omega) (by omega) (by omega) (by omega))))) (wr_225_58 ⟨by omega, by omega⟩) (fun z191 hq192 hs193 => ?_)
          have hf194 : z191 225 58 = 1 := ((congrFun (congrFun hq192 _) _).trans mu_eq)
          exact r_ret rfl (po_V hs193 ⟨rfl, (by have hw9 : w177 257 = (fun j => if j = a1.toNat then max (w0 257 a2.toNat + w0 257 a3.toNat) (w0 257 a4.toNat + w0 257 a5.toNat) - w0 257 a6.toNat else w0 257 j) := (by funext j; rw [show w177 257 j = w177 257 j from rfl, hqw, mu_sf]; dsimp only; by_cases c : j = a1.toNat; (rw [if_pos c, if_pos c]; omega); (rw [if_neg c, if_neg c]; exact hwf j)); refine ⟨hw9, fun h => ?_⟩; (have hv9 : w177 257 a1.toNat = w177 257 a1.toNat := rfl); (have hv8 : w177 257 a1.toNat = _ := (congrFun (congrFun hqw _) _).trans mu_eq); exact ⟨by omega, by omega⟩)⟩)
  · skip
    refine r_ld (pc' := 42) rfl rfl rfl rfl ?_
    refine r_go rfl ?_
    refine r_ld (pc' := 48) rfl rfl rfl rfl ?_
    refine r_gr (b := 257) (pc' := 51) rfl rfl sh_225 rfl pp_225_55 ?_
    refine r_ld (pc' := 53) rfl rfl rfl rfl ?_
    have hb195 := rd_257 hw (i := a6.toNat) (by omega)
    refine r_la (pc' := 54) rfl rfl sh_257 rfl (by omega) (by omega) rfl ?_
    refine r_lsub (pc' := 55) rfl rfl ?_
    refine w_hxl (fun v196 h197 h198 => ?_)
    refine r_st (pc' := 57) (lv' := [(11, _), (9, _), (7, _), (0, _), (1, _), (2, _), (3, _), (4, _), (5, _), (6, _)]) rfl rfl rfl rfl ?_
    refine r_ld (pc' := 58) rfl rfl rfl rfl ?_
    refine r_ld (pc' := 59) rfl rfl rfl rfl ?_
    refine r_ld (pc' := 61) rfl rfl rfl rfl ?_
    refine r_ld (pc' := 63) rfl rfl rfl rfl ?_
    refine r_lge (pc' := 67) rfl rfl rfl ⟨by omega, by omega⟩ ⟨by omega, by omega⟩ (fun hc199 => ?_) (fun hc199 => ?_)
    · skip
      refine r_c0 (pc' := 72) rfl rfl ?_
      refine r_ld (pc' := 73) rfl rfl rfl rfl ?_
      refine r_ld (pc' := 74) rfl rfl rfl rfl ?_
      refine r_ld (pc' := 76) rfl rfl rfl rfl ?_
      refine r_ld (pc' := 78) rfl rfl rfl rfl ?_
      refine r_ld (pc' := 80) rfl rfl rfl rfl ?_
      have hwz := True.intro
      refine r_cVV (pc' := 83) rfl rfl rfl rfl rfl sh_225 (m_204 (d := d) a1 0 a2 a3 a4 a5 a6 hst.1 hst.2.1 ⟨by omega, by omega⟩ ⟨by omega, by omega⟩ ⟨by omega, by omega⟩ ⟨by omega, by omega⟩ ⟨by omega, by omega⟩ ⟨by omega, by omega⟩ ⟨by omega, by omega⟩) (fun z201 w202 p203 hs205 hE206 => ?_)
      have hs207 := st_tr hst hs205 (sub_B rfl)
      obtain rfl := hE206
      have hwf : ∀ j, w202 257 j = w0 257 j := fun j => (hs205.2.2.2 _ _ (notS_c (by omega) (notS_c (by omega) notS_n)))
      refine r_ld (pc' := 84) rfl rfl rfl rfl ?_
      refine r_gr (b := 257) (pc' := 87) rfl rfl sh_225 rfl pp_225_55 ?_
      refine r_ld (pc' := 88) rfl rfl rfl rfl ?_
      refine r_ld (pc' := 90) rfl rfl rfl rfl ?_
      refine r_ls (pc' := 91) rfl rfl sh_257 rfl (by omega) (by omega) hs207 (inS_s (inS_s (inS_0 (by omega) (by omega) (by omega) (by omega)))) (wr_257 ⟨by omega, by omega⟩) (fun w208 hq209 hs210 => ?_)
      have hqw := hq209
      refine r_ld (pc' := 92) rfl rfl rfl rfl ?_
      refine r_ld (pc' := 93) rfl rfl rfl rfl ?_
      have hb211 := rd_225_58 hz
      refine r_gi (pc' := 96) rfl rfl sh_225 rfl (hs205.2.2.1 _ _ (notS_c (by omega) (notS_c (by omega) notS_n))) ?_
      refine r_zne (pc' := 99) rfl rfl ⟨by omega, by omega⟩ (fun hc212 => ?_) (fun hc212 => ?_)
      · skip
        refine r_c0 (pc' := 109) rfl rfl ?_
        refine r_go rfl ?_
        refine r_pi (pc' := 116) rfl rfl sh_225 rfl (fit_b (by omega)) hs210 (inS_s (inS_s (inS_s (inS_0 (by omega) (by omega) (by omega) (by omega))))) (wr_225_58 ⟨by omega, by omega⟩) (fun z213 hq214 hs215 => ?_)
        have hf216 : z213 225 58 = 1 := ((congrFun (congrFun hq214 _) _).trans mu_eq)
        exact r_ret rfl (po_V hs215 ⟨rfl, (by have hw9 : w208 257 = (fun j => if j = a1.toNat then max (w0 257 a2.toNat + w0 257 a3.toNat) (w0 257 a4.toNat + w0 257 a5.toNat) - w0 257 a6.toNat else w0 257 j) := (by funext j; rw [show w208 257 j = w208 257 j from rfl, hqw, mu_sf]; dsimp only; by_cases c : j = a1.toNat; (rw [if_pos c, if_pos c]; omega); (rw [if_neg c, if_neg c]; exact hwf j)); refine ⟨hw9, fun h => ?_⟩; (have hv9 : w208 257 a1.toNat = w208 257 a1.toNat := rfl); (have hv8 : w208 257 a1.toNat = _ := (congrFun (congrFun hqw _) _).trans mu_eq); exact ⟨by omega, by omega⟩)⟩)
      · skip
        refine r_ld (pc' := 101) rfl rfl rfl rfl ?_
        refine r_al (pc' := 104) rfl rfl rfl rfl ?_
        refine r_lle (pc' := 108) rfl rfl rfl ⟨by omega, by omega⟩ ⟨by decide, by decide⟩ (fun hc217 => ?_) (fun hc217 => ?_)
        · skip
          refine r_c0 (pc' := 113) rfl rfl ?_
          refine r_pi (pc' := 116) rfl rfl sh_225 rfl (fit_b (by omega)) hs210 (inS_s (inS_s (inS_s (inS_0 (by omega) (by omega) (by omega) (by omega))))) (wr_225_58 ⟨by omega, by omega⟩) (fun z218 hq219 hs220 => ?_)
          have hf221 : z218 225 58 = 0 := ((congrFun (congrFun hq219 _) _).trans mu_eq)
          exact r_ret rfl (po_V hs220 ⟨rfl, (by have hw9 : w208 257 = (fun j => if j = a1.toNat then max (w0 257 a2.toNat + w0 257 a3.toNat) (w0 257 a4.toNat + w0 257 a5.toNat) - w0 257 a6.toNat else w0 257 j) := (by funext j; rw [show w208 257 j = w208 257 j from rfl, hqw, mu_sf]; dsimp only; by_cases c : j = a1.toNat; (rw [if_pos c, if_pos c]; omega); (rw [if_neg c, if_neg c]; exact hwf j)); refine ⟨hw9, fun h => ?_⟩; (have hv9 : w208 257 a1.toNat = w208 257 a1.toNat := rfl); (have hv8 : w208 257 a1.toNat = _ := (congrFun (congrFun hqw _) _).trans mu_eq); exact ⟨by omega, by omega⟩)⟩)
        · skip
          refine r_c0 (pc' := 109) rfl rfl ?_
          refine r_go rfl ?_
          refine r_pi (pc' := 116) rfl rfl sh_225 rfl (fit_b (by omega)) hs210 (inS_s (inS_s (inS_s (inS_0 (by omega) (by omega) (by omega) (by omega))))) (wr_225_58 ⟨by omega, by omega⟩) (fun z222 hq223 hs224 => ?_)
          have hf225 : z222 225 58 = 1 := ((congrFun (congrFun hq223 _) _).trans mu_eq)
          exact r_ret rfl (po_V hs224 ⟨rfl, (by have hw9 : w208 257 = (fun j => if j = a1.toNat then max (w0 257 a2.toNat + w0 257 a3.toNat) (w0 257 a4.toNat + w0 257 a5.toNat) - w0 257 a6.toNat else w0 257 j) := (by funext j; rw [show w208 257 j = w208 257 j from rfl, hqw, mu_sf]; dsimp only; by_cases c : j = a1.toNat; (rw [if_pos c, if_pos c]; omega); (rw [if_neg c, if_neg c]; exact hwf j)); refine ⟨hw9, fun h => ?_⟩; (have hv9 : w208 257 a1.toNat = w208 257 a1.toNat := rfl); (have hv8 : w208 257 a1.toNat = _ := (congrFun (congrFun hqw _) _).trans mu_eq); exact ⟨by omega, by omega⟩)⟩)
    · skip
      refine r_c0 (pc' := 68) rfl rfl ?_
      refine r_go rfl ?_
      refine r_ld (pc' := 73) rfl rfl rfl rfl ?_
      refine r_ld (pc' := 74) rfl rfl rfl rfl ?_
      refine r_ld (pc' := 76) rfl rfl rfl rfl ?_
      refine r_ld (pc' := 78) rfl rfl rfl rfl ?_
      refine r_ld (pc' := 80) rfl rfl rfl rfl ?_
      have hwz := True.intro
      refine r_cVV (pc' := 83) rfl rfl rfl rfl rfl sh_225 (m_204 (d := d) a1 1 a2 a3 a4 a5 a6 hst.1 hst.2.1 ⟨by omega, by omega⟩ ⟨by omega, by omega⟩ ⟨by omega, by omega⟩ ⟨by omega, by omega⟩ ⟨by omega, by omega⟩ ⟨by omega, by omega⟩ ⟨by omega, by omega⟩) (fun z227 w228 p229 hs231 hE232 => ?_)
      have hs233 := st_tr hst hs231 (sub_B rfl)
      obtain rfl := hE232
      have hwf : ∀ j, w228 257 j = w0 257 j := fun j => (hs231.2.2.2 _ _ (notS_c (by omega) (notS_c (by omega) notS_n)))
      refine r_ld (pc' := 84) rfl rfl rfl rfl ?_
      refine r_gr (b := 257) (pc' := 87) rfl rfl sh_225 rfl pp_225_55 ?_
      refine r_ld (pc' := 88) rfl rfl rfl rfl ?_
      refine r_ld (pc' := 90) rfl rfl rfl rfl ?_
      refine r_ls (pc' := 91) rfl rfl sh_257 rfl (by omega) (by omega) hs233 (inS_s (inS_s (inS_0 (by omega) (by omega) (by omega) (by omega)))) (wr_257 ⟨by omega, by omega⟩) (fun w234 hq235 hs236 => ?_)
      have hqw := hq235
      refine r_ld (pc' := 92) rfl rfl rfl rfl ?_
      refine r_ld (pc' := 93) rfl rfl rfl rfl ?_
      have hb237 := rd_225_58 hz
      refine r_gi (pc' := 96) rfl rfl sh_225 rfl (hs231.2.2.1 _ _ (notS_c (by omega) (notS_c (by omega) notS_n))) ?_
      refine r_zne (pc' := 99) rfl rfl ⟨by omega, by omega⟩ (fun hc238 => ?_) (fun hc238 => ?_)
      · skip
        refine r_c0 (pc' := 109) rfl rfl ?_
        refine r_go rfl ?_
        refine r_pi (pc' := 116) rfl rfl sh_225 rfl (fit_b (by omega)) hs236 (inS_s (inS_s (inS_s (inS_0 (by omega) (by omega) (by omega) (by omega))))) (wr_225_58 ⟨by omega, by omega⟩) (fun z239 hq240 hs241 => ?_)
        have hf242 : z239 225 58 = 1 := ((congrFun (congrFun hq240 _) _).trans mu_eq)
        exact r_ret rfl (po_V hs241 ⟨rfl, (by have hw9 : w234 257 = (fun j => if j = a1.toNat then max (w0 257 a2.toNat + w0 257 a3.toNat) (w0 257 a4.toNat + w0 257 a5.toNat) - w0 257 a6.toNat else w0 257 j) := (by funext j; rw [show w234 257 j = w234 257 j from rfl, hqw, mu_sf]; dsimp only; by_cases c : j = a1.toNat; (rw [if_pos c, if_pos c]; omega); (rw [if_neg c, if_neg c]; exact hwf j)); refine ⟨hw9, fun h => ?_⟩; (have hv9 : w234 257 a1.toNat = w234 257 a1.toNat := rfl); (have hv8 : w234 257 a1.toNat = _ := (congrFun (congrFun hqw _) _).trans mu_eq); exact ⟨by omega, by omega⟩)⟩)
      · skip
        refine r_ld (pc' := 101) rfl rfl rfl rfl ?_
        refine r_al (pc' := 104) rfl rfl rfl rfl ?_
        refine r_lle (pc' := 108) rfl rfl rfl ⟨by omega, by omega⟩ ⟨by decide, by decide⟩ (fun hc243 => ?_) (fun hc243 => ?_)
        · skip
          refine r_c0 (pc' := 113) rfl rfl ?_
          refine r_pi (pc' := 116) rfl rfl sh_225 rfl (fit_b (by omega)) hs236 (inS_s (inS_s (inS_s (inS_0 (by omega) (by omega) (by omega) (by omega))))) (wr_225_58 ⟨by omega, by omega⟩) (fun z244 hq245 hs246 => ?_)
          have hf247 : z244 225 58 = 0 := ((congrFun (congrFun hq245 _) _).trans mu_eq)
          exact r_ret rfl (po_V hs246 ⟨rfl, (by have hw9 : w234 257 = (fun j => if j = a1.toNat then max (w0 257 a2.toNat + w0 257 a3.toNat) (w0 257 a4.toNat + w0 257 a5.toNat) - w0 257 a6.toNat else w0 257 j) := (by funext j; rw [show w234 257 j = w234 257 j from rfl, hqw, mu_sf]; dsimp only; by_cases c : j = a1.toNat; (rw [if_pos c, if_pos c]; omega); (rw [if_neg c, if_neg c]; exact hwf j)); refine ⟨hw9, fun h => ?_⟩; (have hv9 : w234 257 a1.toNat = w234 257 a1.toNat := rfl); (have hv8 : w234 257 a1.toNat = _ := (congrFun (congrFun hqw _) _).trans mu_eq); exact ⟨by omega, by omega⟩)⟩)
        · skip
          refine r_c0 (pc' := 109) rfl rfl ?_
          refine r_go rfl ?_
          refine r_pi (pc' := 116) rfl rfl sh_225 rfl (fit_b (by omega)) hs236 (inS_s (inS_s (inS_s (inS_0 (by omega) (by omega) (by omega) (by omega))))) (wr_225_58 ⟨by omega, by omega⟩) (fun z248 hq249 hs250 => ?_)
          have hf251 : z248 225 58 = 1 := ((congrFun (congrFun hq249 _) _).trans mu_eq)
          exact r_ret rfl (po_V hs250 ⟨rfl, (by have hw9 : w234 257 = (fun j => if j = a1.toNat then max (w0 257 a2.toNat + w0 257 a3.toNat) (w0 257 a4.toNat + w0 257 a5.toNat) - w0 257 a6.toNat else w0 257 j) := (by funext j; rw [show w234 257 j = w234 257 j from rfl, hqw, mu_sf]; dsimp only; by_cases c : j = a1.toNat; (rw [if_pos c, if_pos c]; omega); (rw [if_neg c, if_neg c]; exact hwf j)); refine ⟨hw9, fun h => ?_⟩; (have hv9 : w234 257 a1.toNat = w234 257 a1.toNat := rfl); (have hv8 : w234 257 a1.toNat = _ := (congrFun (congrFun hqw _) _).trans mu_eq); exact ⟨by omega, by omega⟩)⟩)
/-- LoopGroundModel goFlip -/
abbrev S_207v  : mS := [(259, 259, 0, 17), (258, 258, 0, 323), (257, 257, 0, 17), (225, 225, 58, 58)]
abbrev E_207v (a1 : Int) (z0 w0 : mZ) (x y tx it mt tt ct : Option Nat) : mZ → mZ → mP → Prop := fun z w p => p = (pq x y tx it mt tt ct) ∧ (w 257 = fl (z0 247 a1.toNat).toNat (z0 247 (a1 + 1).toNat).toNat (z0 247 (a1 + 2).toNat).toNat (z0 247 (a1 + 3).toNat).toNat (z0 247 (a1 + 4).toNat).toNat (w0 257) ∧ (z 225 58 = 0 → z0 225 58 = 0 ∧ w 257 (z0 247 a1.toNat).toNat ≤ 100000000000000))
theorem m_207v {d : Nat} {z0 w0 : mZ} {x y tx it mt tt ct : Option Nat} (a1 : Int) (hz : rz z0) (hw : rw_ w0) (ha1 : 0 ≤ a1 ∧ a1 ≤ 71275) (hnb : NBr w0 257) : wc (d + 3) 207 [.ref 225, .int (Int32.ofInt a1)] (mk z0 w0 (pq x y tx it mt tt ct)) (poV S_207v z0 w0 (E_207v a1 z0 w0 x y tx it mt tt ct)) := by
  have hst : st_ S_207v z0 w0 z0 w0 := st_rf hz hw
  have hz16 := rd_225_58 hz
  refine w_m rfl rfl ?_
  refine r_ld (pc' := 1) rfl rfl rfl rfl ?_
  refine r_ld (pc' := 2) rfl rfl rfl rfl ?_
  refine r_gr (b := 247) (pc' := 5) rfl rfl sh_225 rfl pp_225_43 ?_
  refine r_ld (pc' := 6) rfl rfl rfl rfl ?_
  have hb17 := rd_247 hz (i := a1.toNat) (by omega)
  refine r_ia (pc' := 7) rfl rfl sh_247 rfl (by omega) (by omega) rfl ?_
  refine r_ld (pc' := 8) rfl rfl rfl rfl ?_
  refine r_gr (b := 247) (pc' := 11) rfl rfl sh_225 rfl pp_225_43 ?_
  refine r_ld (pc' := 12) rfl rfl rfl rfl ?_
  refine r_c0 (pc' := 13) rfl rfl ?_
  refine r_add (pc' := 14) rfl rfl ?_
  have hb18 := rd_247 hz (i := (a1 + 1).toNat) (by omega)
  refine r_ia (pc' := 15) rfl rfl sh_247 rfl (by omega) (by omega) rfl ?_
  refine r_ld (pc' := 16) rfl rfl rfl rfl ?_
  refine r_gr (b := 247) (pc' := 19) rfl rfl sh_225 rfl pp_225_43 ?_
  refine r_ld (pc' := 20) rfl rfl rfl rfl ?_
  refine r_c0 (pc' := 21) rfl rfl ?_
  refine r_add (pc' := 22) rfl rfl ?_
  have hb19 := rd_247 hz (i := (a1 + 3).toNat) (by omega)
  refine r_ia (pc' := 23) rfl rfl sh_247 rfl (by omega) (by omega) rfl ?_
  refine r_ld (pc' := 24) rfl rfl rfl rfl ?_
  refine r_gr (b := 247) (pc' := 27) rfl rfl sh_225 rfl pp_225_43 ?_
  refine r_ld (pc' := 28) rfl rfl rfl rfl ?_
  refine r_c0 (pc' := 29) rfl rfl ?_
  refine r_add (pc' := 30) rfl rfl ?_
  have hb20 := rd_247 hz (i := (a1 + 2).toNat) (by omega)
  refine r_ia (pc' := 31) rfl rfl sh_247 rfl (by omega) (by omega) rfl ?_
  refine r_ld (pc' := 32) rfl rfl rfl rfl ?_
  refine r_gr (b := 247) (pc' := 35) rfl rfl sh_225 rfl pp_225_43 ?_
  refine r_ld (pc' := 36) rfl rfl rfl rfl ?_
  refine r_c0 (pc' := 37) rfl rfl ?_
  refine r_add (pc' := 38) rfl rfl ?_
  have hb21 := rd_247 hz (i := (a1 + 4).toNat) (by omega)
  refine r_ia (pc' := 39) rfl rfl sh_247 rfl (by omega) (by omega) rfl ?_
  refine r_ld (pc' := 40) rfl rfl rfl rfl ?_
  refine r_gr (b := 247) (pc' := 43) rfl rfl sh_225 rfl pp_225_43 ?_
  refine r_ld (pc' := 44) rfl rfl rfl rfl ?_
  refine r_ia (pc' := 45) rfl rfl sh_247 rfl (by omega) (by omega) rfl ?_
  have hb22 := rd_225_58 hz
  refine r_cVV (pc' := 48) rfl rfl rfl rfl rfl sh_225 (m_205v (d := d) (z0 247 a1.toNat) (z0 247 (a1 + 1).toNat) (z0 247 (a1 + 3).toNat) (z0 247 (a1 + 2).toNat) (z0 247 (a1 + 4).toNat) (z0 247 a1.toNat) hst.1 hst.2.1 ⟨by omega, by omega⟩ ⟨by omega, by omega⟩ ⟨by omega, by omega⟩ ⟨by omega, by omega⟩ ⟨by omega, by omega⟩ ⟨by omega, by omega⟩ (by exact hnb)) (fun z24 w25 p26 hs28 hE29 => ?_)
  have hs30 := st_tr hst hs28 (sub_B rfl)
  obtain ⟨rfl, hE29⟩ := hE29
  have hgr := hE29
  have hb31 := rd_225_58 hs30.1
  exact r_ret rfl (po_V hs30 ⟨rfl, (by unfold fl; exact hgr)⟩)
/-- LoopGroundModel goFlips -/
abbrev S_206v  : mS := [(259, 259, 0, 17), (258, 258, 0, 323), (257, 257, 0, 17), (225, 225, 58, 58)]
abbrev E_206v (m : Nat) (T : Nat → Nat) (G : Nat → (Nat → Int) → Prop) (a1 : Int) (z0 w0 : mZ) (x y tx it mt tt ct : Option Nat) : mZ → mZ → mP → Prop := fun z w p => p = (pq x y tx it mt tt ct) ∧ (z 225 58 = 0 → GOk z0 w0 w (fun n => G (z0 248 a1.toNat).toNat n))
theorem m_206v {d : Nat} {z0 w0 : mZ} {x y tx it mt tt ct : Option Nat} (m : Nat) (T : Nat → Nat) (G : Nat → (Nat → Int) → Prop) (a1 : Int) (hz : rz z0) (hw : rw_ w0) (ha1 : 0 ≤ a1 ∧ a1 ≤ 7) (hnb : NBr w0 257) (hsp : z0 225 58 = 0) (hgo : GRo m T (cfQ z0 a1.toNat) (z0 248 a1.toNat).toNat G) (hbe : ∀ i j, i < (z0 248 a1.toNat).toNat → j < 5 → ((cfQ z0 a1.toNat i j : Nat) : Int) < rE z0) (hG : G 0 (w0 257)) : wc (d + 4) 206 [.ref 225, .int (Int32.ofInt a1)] (mk z0 w0 (pq x y tx it mt tt ct)) (poV S_206v z0 w0 (E_206v m T G a1 z0 w0 x y tx it mt tt ct)) := by
  have hst : st_ S_206v z0 w0 z0 w0 := st_rf hz hw
  have hz14 := rd_225_58 hz
  have h248 := rd_248 hz (i := a1.toNat) (by omega)
  have key : ∀ N : Nat, (∀ (x2 : Int) (z w : mZ), 0 ≤ x2 ∧ x2 ≤ 1782 → st_ S_206v z0 w0 z w → (z 225 58 = 0 → GOk z0 w0 w (fun n => G x2.toNat n)) → (x2 ≤ z0 248 a1.toNat) → 23 * (1782 - x2) + 20 < (N : Int) → wp_ (d + 3) 206 3 none (2, [(0, .ref 225), (1, .int (Int32.ofInt a1)), (2, .int (Int32.ofInt x2))], [], mk z w (pq x y tx it mt tt ct)) (poV S_206v z0 w0 (E_206v m T G a1 z0 w0 x y tx it mt tt ct))) := by
    intro N
    induction N with
    | zero =>
      intro x2 z w
      intros; exfalso; omega
    | succ N ih =>
      have ih0 := ih; clear ih
      intro x2 z w  hx2 hst as1 as2 hM
      have e247 : z 247 = z0 247 := funext fun i => hst.2.2.1 _ _ (notS_c (by omega) (notS_c (by omega) (notS_c (by omega) (notS_c (by omega) (notS_n)))))
      refine r_ld (pc' := 3) rfl rfl rfl rfl ?_
      refine r_ld (pc' := 4) rfl rfl rfl rfl ?_
      refine r_gr (b := 248) (pc' := 7) rfl rfl sh_225 rfl pp_225_44 ?_
      refine r_ld (pc' := 8) rfl rfl rfl rfl ?_
      have hb15 := rd_248 hz (i := a1.toNat) (by omega)
      refine r_ia (pc' := 9) rfl rfl sh_248 rfl (by omega) (by omega) (hst.2.2.1 _ _ (notS_c (by omega) (notS_c (by omega) (notS_c (by omega) (notS_c (by omega) notS_n))))) ?_
      refine r_ige (pc' := 12) rfl rfl ⟨by omega, by omega⟩ ⟨by omega, by omega⟩ (fun hc16 => ?_) (fun hc16 => ?_)
      · skip
        have hb17 := rd_225_58 hst.1
        exact r_ret rfl (po_V hst ⟨rfl, (by intro hs; have g := as1 hs; (have e9 : x2.toNat = (z0 248 a1.toNat).toNat := by omega); rw [← e9]; exact g)⟩)
      · skip
        refine r_ld (pc' := 13) rfl rfl rfl rfl ?_
        have hb18 := rd_225_58 hst.1
        refine r_gi (pc' := 16) rfl rfl sh_225 rfl rfl ?_
        refine r_zne (pc' := 19) rfl rfl ⟨by omega, by omega⟩ (fun hc19 => ?_) (fun hc19 => ?_)
        · skip
          exact r_ret rfl (po_V hst ⟨rfl, (by intro hs; have g := as1 hs; (have e9 : x2.toNat = (z0 248 a1.toNat).toNat := by omega); rw [← e9]; exact g)⟩)
        · skip
          refine r_ld (pc' := 20) rfl rfl rfl rfl ?_
          refine r_c0 (pc' := 21) rfl rfl ?_
          refine r_cs (pc' := 24) rfl (by decide) rfl ?_
          refine r_ld (pc' := 25) rfl rfl rfl rfl ?_
          refine r_mul (pc' := 26) rfl rfl ?_
          refine r_ld (pc' := 27) rfl rfl rfl rfl ?_
          refine r_add (pc' := 28) rfl rfl ?_
          refine r_mul (pc' := 29) rfl rfl ?_
          refine r_cVV (pc' := 32) rfl rfl rfl rfl rfl sh_225 (m_207v (d := d) (5 * ((1782 * a1) + x2)) hst.1 hst.2.1 ⟨by omega, by omega⟩ (by exact (as1 (by omega)).2.1)) (fun z21 w22 p23 hs25 hE26 => ?_)
          have hs27 := st_tr hst hs25 (sub_B rfl)
          obtain ⟨rfl, hE26⟩ := hE26
          have hgf := hE26
          have hfl : w22 257 = flc (cfQ z0 a1.toNat) x2.toNat (w 257) := by rw [hgf.1, e247]; unfold flc; rw [cfQ_v (z := z0) (l := a1) (i := x2.toNat) (j := 0) (by omega) (by omega), cfQ_v (z := z0) (l := a1) (i := x2.toNat) (j := 1) (by omega) (by omega), cfQ_v (z := z0) (l := a1) (i := x2.toNat) (j := 2) (by omega) (by omega), cfQ_v (z := z0) (l := a1) (i := x2.toNat) (j := 3) (by omega) (by omega), cfQ_v (z := z0) (l := a1) (i := x2.toNat) (j := 4) (by omega) (by omega)]
          have hce : ((z0 247 (5 * (1782 * a1 + x2)).toNat).toNat : Nat) = cfQ z0 a1.toNat x2.toNat 0 := cfQ_v (by omega) (by omega)
          have hnz : NZE (rE z0) (w 257) → NZE (rE z0) (w22 257) := fun q => NZE_fl hfl ⟨hbe x2.toNat 1 (by omega) (by omega), hgo.cn x2.toNat 1 (by omega) (by omega) (by omega)⟩ ⟨hbe x2.toNat 2 (by omega) (by omega), hgo.cn x2.toNat 2 (by omega) (by omega) (by omega)⟩ ⟨hbe x2.toNat 3 (by omega) (by omega), hgo.cn x2.toNat 3 (by omega) (by omega) (by omega)⟩ ⟨hbe x2.toNat 4 (by omega) (by omega), hgo.cn x2.toNat 4 (by omega) (by omega) (by omega)⟩ (hbe x2.toNat 0 (by omega) (by omega)) q
          refine r_inc (pc' := 35) (lv' := [(0, _), (1, _)]) rfl rfl rfl rfl rfl ?_
          refine r_go rfl ?_
          have hb28 := rd_225_58 hs27.1
          exact w_lv (sub_c rfl (sub_c rfl (sub_c rfl sub_n))) rfl (ih0 (x2 + 1) z21 w22 ⟨by omega, by omega⟩ hs27 (by first | exact fun _ => ⟨hG, hnb, fun q => q⟩ | (intro hs; have g := as1 (hgf.2 hs).1; have gn : G (x2 + 1).toNat (w22 257) := (by rw [hfl, show (x2 + 1).toNat = x2.toNat + 1 by omega]; exact hgo.fw _ _ (by omega) g.1); exact ⟨gn, nb_fl g.2.1 hfl (hgo.nn _ _ (by omega) gn _ (hgo.cl _ _ (by omega) (by omega))) (by have q := (hgf.2 hs).2; rw [e247, hce] at q; exact q), fun q => hnz (g.2.2 q)⟩)) (by first | omega | assumption) (by omega))
  refine w_m rfl rfl ?_
  refine r_c0 (pc' := 1) rfl rfl ?_
  refine r_st (pc' := 2) (lv' := [(2, _), (0, _), (1, _)]) rfl rfl rfl rfl ?_
  have hb29 := rd_225_58 hz
  exact w_lv (sub_c rfl (sub_c rfl (sub_c rfl sub_n))) rfl ((key ((23 * (1782 - 0) + 20 : Int).toNat + 1)) 0 z0 w0 ⟨by omega, by omega⟩ hst (by first | exact fun _ => ⟨hG, hnb, fun q => q⟩ | (intro hs; have g := as1 (hgf.2 hs).1; have gn : G (x2 + 1).toNat (w0 257) := (by rw [hfl, show (x2 + 1).toNat = x2.toNat + 1 by omega]; exact hgo.fw _ _ (by omega) g.1); exact ⟨gn, nb_fl g.2.1 hfl (hgo.nn _ _ (by omega) gn _ (hgo.cl _ _ (by omega) (by omega))) (by have q := (hgf.2 hs).2; rw [e247, hce] at q; exact q), fun q => hnz (g.2.2 q)⟩)) (by first | omega | assumption) (by omega))
/-- LoopGroundModel goBack -/
abbrev S_208v  : mS := [(259, 259, 0, 17), (258, 258, 0, 323), (257, 257, 0, 17), (225, 225, 58, 58)]
abbrev E_208v (m : Nat) (T : Nat → Nat) (G : Nat → (Nat → Int) → Prop) (a1 : Int) (z0 w0 : mZ) (x y tx it mt tt ct : Option Nat) : mZ → mZ → mP → Prop := fun z w p => p = (pq x y tx it mt tt ct) ∧ ((z 225 58 = 0 → GOk z0 w0 w (fun n => G 0 n)) ∧ (z 225 58 = 0 → z0 225 58 = 0))
theorem m_208v {d : Nat} {z0 w0 : mZ} {x y tx it mt tt ct : Option Nat} (m : Nat) (T : Nat → Nat) (G : Nat → (Nat → Int) → Prop) (a1 : Int) (hz : rz z0) (hw : rw_ w0) (ha1 : 0 ≤ a1 ∧ a1 ≤ 7) (hG : z0 225 58 = 0 → G (z0 248 a1.toNat).toNat (w0 257) ∧ NBr w0 257) (hgo : GRo m T (cfQ z0 a1.toNat) (z0 248 a1.toNat).toNat G) (hbe : ∀ i j, i < (z0 248 a1.toNat).toNat → j < 5 → ((cfQ z0 a1.toNat i j : Nat) : Int) < rE z0) : wc (d + 4) 208 [.ref 225, .int (Int32.ofInt a1)] (mk z0 w0 (pq x y tx it mt tt ct)) (poV S_208v z0 w0 (E_208v m T G a1 z0 w0 x y tx it mt tt ct)) := by
  have hst : st_ S_208v z0 w0 z0 w0 := st_rf hz hw
  have hz14 := rd_225_58 hz
  have h248 := rd_248 hz (i := a1.toNat) (by omega)
  have key : ∀ N : Nat, (∀ (x2 : Int) (z w : mZ), (-1) ≤ x2 ∧ x2 ≤ 1781 → st_ S_208v z0 w0 z w → (z 225 58 = 0 → GOk z0 w0 w (fun n => G (x2 + 1).toNat n)) → (x2 < z0 248 a1.toNat) → (z 225 58 = 0 → z0 225 58 = 0) → 24 * (x2 - (-1)) + 16 < (N : Int) → wp_ (d + 3) 208 3 none (9, [(0, .ref 225), (1, .int (Int32.ofInt a1)), (2, .int (Int32.ofInt x2))], [], mk z w (pq x y tx it mt tt ct)) (poV S_208v z0 w0 (E_208v m T G a1 z0 w0 x y tx it mt tt ct))) := by
    intro N
    induction N with
    | zero =>
      intro x2 z w
      intros; exfalso; omega
    | succ N ih =>
      have ih0 := ih; clear ih
      intro x2 z w  hx2 hst as1 as2 as3 hM
      have e247 : z 247 = z0 247 := funext fun i => hst.2.2.1 _ _ (notS_c (by omega) (notS_c (by omega) (notS_c (by omega) (notS_c (by omega) (notS_n)))))
      refine r_ld (pc' := 10) rfl rfl rfl rfl ?_
      refine r_zlt (pc' := 13) rfl rfl ⟨by omega, by omega⟩ (fun hc15 => ?_) (fun hc15 => ?_)
      · skip
        have hb16 := rd_225_58 hst.1
        exact r_ret rfl (po_V hst ⟨rfl, (by refine ⟨fun hs => ?_, as3⟩; have g := as1 hs; (have e9 : (x2 + 1).toNat = 0 := by omega); rw [e9] at g; exact g)⟩)
      · skip
        refine r_ld (pc' := 14) rfl rfl rfl rfl ?_
        have hb17 := rd_225_58 hst.1
        refine r_gi (pc' := 17) rfl rfl sh_225 rfl rfl ?_
        refine r_zne (pc' := 20) rfl rfl ⟨by omega, by omega⟩ (fun hc18 => ?_) (fun hc18 => ?_)
        · skip
          exact r_ret rfl (po_V hst ⟨rfl, (by refine ⟨fun hs => ?_, as3⟩; have g := as1 hs; (have e9 : (x2 + 1).toNat = 0 := by omega); rw [e9] at g; exact g)⟩)
        · skip
          refine r_ld (pc' := 21) rfl rfl rfl rfl ?_
          refine r_c0 (pc' := 22) rfl rfl ?_
          refine r_cs (pc' := 25) rfl (by decide) rfl ?_
          refine r_ld (pc' := 26) rfl rfl rfl rfl ?_
          refine r_mul (pc' := 27) rfl rfl ?_
          refine r_ld (pc' := 28) rfl rfl rfl rfl ?_
          refine r_add (pc' := 29) rfl rfl ?_
          refine r_mul (pc' := 30) rfl rfl ?_
          refine r_cVV (pc' := 33) rfl rfl rfl rfl rfl sh_225 (m_207v (d := d) (5 * ((1782 * a1) + x2)) hst.1 hst.2.1 ⟨by omega, by omega⟩ (by exact (as1 (by omega)).2.1)) (fun z20 w21 p22 hs24 hE25 => ?_)
          have hs26 := st_tr hst hs24 (sub_B rfl)
          obtain ⟨rfl, hE25⟩ := hE25
          have hgf := hE25
          have hfl : w21 257 = flc (cfQ z0 a1.toNat) x2.toNat (w 257) := by rw [hgf.1, e247]; unfold flc; rw [cfQ_v (z := z0) (l := a1) (i := x2.toNat) (j := 0) (by omega) (by omega), cfQ_v (z := z0) (l := a1) (i := x2.toNat) (j := 1) (by omega) (by omega), cfQ_v (z := z0) (l := a1) (i := x2.toNat) (j := 2) (by omega) (by omega), cfQ_v (z := z0) (l := a1) (i := x2.toNat) (j := 3) (by omega) (by omega), cfQ_v (z := z0) (l := a1) (i := x2.toNat) (j := 4) (by omega) (by omega)]
          have hce : ((z0 247 (5 * (1782 * a1 + x2)).toNat).toNat : Nat) = cfQ z0 a1.toNat x2.toNat 0 := cfQ_v (by omega) (by omega)
          have hnz : NZE (rE z0) (w 257) → NZE (rE z0) (w21 257) := fun q => NZE_fl hfl ⟨hbe x2.toNat 1 (by omega) (by omega), hgo.cn x2.toNat 1 (by omega) (by omega) (by omega)⟩ ⟨hbe x2.toNat 2 (by omega) (by omega), hgo.cn x2.toNat 2 (by omega) (by omega) (by omega)⟩ ⟨hbe x2.toNat 3 (by omega) (by omega), hgo.cn x2.toNat 3 (by omega) (by omega) (by omega)⟩ ⟨hbe x2.toNat 4 (by omega) (by omega), hgo.cn x2.toNat 4 (by omega) (by omega) (by omega)⟩ (hbe x2.toNat 0 (by omega) (by omega)) q
          refine r_inc (pc' := 36) (lv' := [(0, _), (1, _)]) rfl rfl rfl rfl rfl ?_
          refine r_go rfl ?_
          have hb27 := rd_225_58 hs26.1
          exact w_lv (sub_c rfl (sub_c rfl (sub_c rfl sub_n))) rfl (ih0 (x2 + ((-1))) z20 w21 ⟨by omega, by omega⟩ hs26 (by first | (intro hs; have g := hG hs; exact ⟨by rw [show (z0 248 a1.toNat - 1 + 1).toNat = (z0 248 a1.toNat).toNat by omega]; exact g.1, g.2, fun q => q⟩) | (intro hs; have g := as1 (hgf.2 hs).1; have gn : G (x2 + (-1) + 1).toNat (w21 257) := (by rw [hfl, show (x2 + (-1) + 1).toNat = x2.toNat by omega]; exact hgo.bw _ _ (by omega) (by rw [show x2.toNat + 1 = (x2 + 1).toNat by omega]; exact g.1)); exact ⟨gn, nb_fl g.2.1 hfl (hgo.nn _ _ (by omega) gn _ (hgo.cl _ _ (by omega) (by omega))) (by have q := (hgf.2 hs).2; rw [e247, hce] at q; exact q), fun q => hnz (g.2.2 q)⟩)) (by first | omega | assumption) (by first | exact fun h => h | exact fun hs => as3 (hgf.2 hs).1) (by omega))
  refine w_m rfl rfl ?_
  refine r_ld (pc' := 1) rfl rfl rfl rfl ?_
  refine r_gr (b := 248) (pc' := 4) rfl rfl sh_225 rfl pp_225_44 ?_
  refine r_ld (pc' := 5) rfl rfl rfl rfl ?_
  have hb28 := rd_248 hz (i := a1.toNat) (by omega)
  refine r_ia (pc' := 6) rfl rfl sh_248 rfl (by omega) (by omega) rfl ?_
  refine r_c0 (pc' := 7) rfl rfl ?_
  refine r_sub (pc' := 8) rfl rfl ?_
  refine r_st (pc' := 9) (lv' := [(2, _), (0, _), (1, _)]) rfl rfl rfl rfl ?_
  have hb29 := rd_225_58 hz
  exact w_lv (sub_c rfl (sub_c rfl (sub_c rfl sub_n))) rfl ((key ((24 * (((z0 248 a1.toNat) - 1) - (-1)) + 16 : Int).toNat + 1)) ((z0 248 a1.toNat) - 1) z0 w0 ⟨by omega, by omega⟩ hst (by first | (intro hs; have g := hG hs; exact ⟨by rw [show (z0 248 a1.toNat - 1 + 1).toNat = (z0 248 a1.toNat).toNat by omega]; exact g.1, g.2, fun q => q⟩) | (intro hs; have g := as1 (hgf.2 hs).1; have gn : G (x2 + (-1) + 1).toNat (w0 257) := (by rw [hfl, show (x2 + (-1) + 1).toNat = x2.toNat by omega]; exact hgo.bw _ _ (by omega) (by rw [show x2.toNat + 1 = (x2 + 1).toNat by omega]; exact g.1)); exact ⟨gn, nb_fl g.2.1 hfl (hgo.nn _ _ (by omega) gn _ (hgo.cl _ _ (by omega) (by omega))) (by have q := (hgf.2 hs).2; rw [e247, hce] at q; exact q), fun q => hnz (g.2.2 q)⟩)) (by first | omega | assumption) (by first | exact fun h => h | exact fun hs => as3 (hgf.2 hs).1) (by omega))

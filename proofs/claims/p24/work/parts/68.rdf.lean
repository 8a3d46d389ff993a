/-! methods, printed by wip/tools/vcg.py -/
/-- LoopGroundModel doFlip -/
abbrev S_198  : mS := [(225, 225, 53, 53), (225, 225, 54, 54), (256, 256, 0, 17), (247, 247, 0, 71279), (248, 248, 0, 7), (255, 255, 0, 35)]
abbrev E_198 (a1 : Int) (a2 : Int) (z0 w0 : mZ) (x y tx it mt tt ct : Option Nat) : mZ → mZ → mP → Prop := fun z w p => p = (pq x y tx it mt tt ct) ∧ (∃ s1 s2, SQ (z0 225 26) (z0 255) a2 s1 s2 ∧ DF z0 z a1 a2 s1 s2 ∧ FQ z0 s1 s2 a2 < z0 256 a2.toNat)
theorem m_198 {d : Nat} {z0 w0 : mZ} {x y tx it mt tt ct : Option Nat} (a1 : Int) (a2 : Int) (hz : rz z0) (hw : rw_ w0) (ha1 : 0 ≤ a1 ∧ a1 ≤ 7) (ha2 : 0 ≤ a2 ∧ a2 ≤ 17) (hly : LY (z0 225 26) (rE z0) (z0 255)) (he : a2 < rE z0) (hex : ∃ s1 s2, SQ (z0 225 26) (z0 255) a2 s1 s2 ∧ s1 / 3 ≠ s2 / 3 ∧ 0 ≤ FQ z0 s1 s2 a2 ∧ FQ z0 s1 s2 a2 < z0 256 a2.toNat) (hfm : z0 248 a1.toNat ≤ 1781) : wc (d + 3) 198 [.ref 225, .int (Int32.ofInt a1), .int (Int32.ofInt a2)] (mk z0 w0 (pq x y tx it mt tt ct)) (poV S_198 z0 w0 (E_198 a1 a2 z0 w0 x y tx it mt tt ct)) := by
  have hst : st_ S_198 z0 w0 z0 w0 := st_rf hz hw
  have hz104 := rd_225_26 hz
  have hm26 := rd_225_26 hz
  have hrE : rE z0 = 3 * z0 225 26 / 2 := rfl
  have h256 := rd_256 hz (i := a2.toNat) (by omega)
  have h248 := rd_248 hz (i := a1.toNat) (by omega)
  refine w_m rfl rfl ?_
  refine r_ld (pc' := 1) rfl rfl rfl rfl ?_
  refine r_ld (pc' := 2) rfl rfl rfl rfl ?_
  have hb105 := rd_225_26 hz
  refine r_cVI (pc' := 5) rfl rfl rfl rfl rfl sh_225 (m_195v (d := d + 1) a2 hst.1 hst.2.1 ⟨by omega, by omega⟩ (by first | omega | assumption) (by first | omega | assumption)) (fun v106 z107 w108 p109 h110 hs111 hE112 => ?_)
  have hs113 := st_tr hst hs111 (sub_B rfl)
  obtain ⟨rfl, hE112⟩ := hE112
  have h256f : ∀ j, z107 256 j = z0 256 j := fun j => (hs111.2.2.1 _ _ (notS_c (by omega) (notS_c (by omega) notS_n)))
  have hsq := hE112.2.2.1
  obtain ⟨u1, u2, hu, hune, hu0, hu1⟩ := hex
  obtain ⟨y1, y2⟩ := SQ_u hsq hu
  subst y1 y2
  have g1 := hsq.1
  have g2 := hsq.2.1
  have g3 := hsq.2.2.1
  refine r_al (pc' := 6) rfl rfl rfl rfl ?_
  refine r_c0 (pc' := 7) rfl rfl ?_
  refine r_cs (pc' := 10) rfl (by decide) rfl ?_
  refine r_ld (pc' := 11) rfl rfl rfl rfl ?_
  refine r_mul (pc' := 12) rfl rfl ?_
  refine r_ld (pc' := 13) rfl rfl rfl rfl ?_
  refine r_gr (b := 248) (pc' := 16) rfl rfl sh_225 rfl pp_225_44 ?_
  refine r_ld (pc' := 17) rfl rfl rfl rfl ?_
  have hb114 := rd_248 hz (i := a1.toNat) (by omega)
  refine r_ia (pc' := 18) rfl rfl sh_248 rfl (by omega) (by omega) (hs111.2.2.1 _ _ (notS_c (by omega) (notS_c (by omega) notS_n))) ?_
  refine r_add (pc' := 19) rfl rfl ?_
  refine r_mul (pc' := 20) rfl rfl ?_
  refine r_st (pc' := 21) (lv' := [(3, _), (0, _), (1, _), (2, _)]) rfl rfl rfl rfl ?_
  refine r_ld (pc' := 22) rfl rfl rfl rfl ?_
  refine r_gr (b := 255) (pc' := 25) rfl rfl sh_225 rfl pp_225_51 ?_
  refine r_ld (pc' := 26) rfl rfl rfl rfl ?_
  have hb115 := rd_225_53 hs113.1
  refine r_gi (pc' := 29) rfl rfl sh_225 rfl rfl ?_
  refine r_c0 (pc' := 30) rfl rfl ?_
  refine r_cSI (pc' := 33) rfl rfl rfl rfl rfl (m_177v (d := d + 1) (z107 225 53) 1 hs113.1 hs113.2.1 ⟨by omega, by omega⟩ ⟨by omega, by omega⟩) (fun v116 z117 w118 p119 h120 hs121 hE122 => ?_)
  obtain ⟨rfl, rfl, rfl, hE122⟩ := hE122
  have h30 := (hE122.2.2).1 rfl
  have hb124 := rd_255 hz (i := v116.toNat) (by omega)
  refine r_ia (pc' := 34) rfl rfl sh_255 rfl (by omega) (by omega) (hs111.2.2.1 _ _ (notS_c (by omega) (notS_c (by omega) notS_n))) ?_
  refine r_st (pc' := 36) (lv' := [(4, _), (3, _), (0, _), (1, _), (2, _)]) rfl rfl rfl rfl ?_
  refine r_ld (pc' := 37) rfl rfl rfl rfl ?_
  refine r_gr (b := 255) (pc' := 40) rfl rfl sh_225 rfl pp_225_51 ?_
  refine r_ld (pc' := 41) rfl rfl rfl rfl ?_
  refine r_gi (pc' := 44) rfl rfl sh_225 rfl rfl ?_
  refine r_c0 (pc' := 45) rfl rfl ?_
  refine r_cSI (pc' := 48) rfl rfl rfl rfl rfl (m_177v (d := d + 1) (z107 225 53) 2 hs113.1 hs113.2.1 ⟨by omega, by omega⟩ ⟨by omega, by omega⟩) (fun v125 z126 w127 p128 h129 hs130 hE131 => ?_)
  obtain ⟨rfl, rfl, rfl, hE131⟩ := hE131
  have h45 := (hE131.2.2).2 rfl
  have hb133 := rd_255 hz (i := v125.toNat) (by omega)
  refine r_ia (pc' := 49) rfl rfl sh_255 rfl (by omega) (by omega) (hs111.2.2.1 _ _ (notS_c (by omega) (notS_c (by omega) notS_n))) ?_
  refine r_st (pc' := 51) (lv' := [(5, _), (4, _), (3, _), (0, _), (1, _), (2, _)]) rfl rfl rfl rfl ?_
  refine r_ld (pc' := 52) rfl rfl rfl rfl ?_
  refine r_gr (b := 255) (pc' := 55) rfl rfl sh_225 rfl pp_225_51 ?_
  refine r_ld (pc' := 56) rfl rfl rfl rfl ?_
  have hb134 := rd_225_54 hs113.1
  refine r_gi (pc' := 59) rfl rfl sh_225 rfl rfl ?_
  refine r_c0 (pc' := 60) rfl rfl ?_
  refine r_cSI (pc' := 63) rfl rfl rfl rfl rfl (m_177v (d := d + 1) (z107 225 54) 1 hs113.1 hs113.2.1 ⟨by omega, by omega⟩ ⟨by omega, by omega⟩) (fun v135 z136 w137 p138 h139 hs140 hE141 => ?_)
  obtain ⟨rfl, rfl, rfl, hE141⟩ := hE141
  have h60 := (hE141.2.2).1 rfl
  have hb143 := rd_255 hz (i := v135.toNat) (by omega)
  refine r_ia (pc' := 64) rfl rfl sh_255 rfl (by omega) (by omega) (hs111.2.2.1 _ _ (notS_c (by omega) (notS_c (by omega) notS_n))) ?_
  refine r_st (pc' := 66) (lv' := [(6, _), (5, _), (4, _), (3, _), (0, _), (1, _), (2, _)]) rfl rfl rfl rfl ?_
  refine r_ld (pc' := 67) rfl rfl rfl rfl ?_
  refine r_gr (b := 255) (pc' := 70) rfl rfl sh_225 rfl pp_225_51 ?_
  refine r_ld (pc' := 71) rfl rfl rfl rfl ?_
  refine r_gi (pc' := 74) rfl rfl sh_225 rfl rfl ?_
  refine r_c0 (pc' := 75) rfl rfl ?_
  refine r_cSI (pc' := 78) rfl rfl rfl rfl rfl (m_177v (d := d + 1) (z107 225 54) 2 hs113.1 hs113.2.1 ⟨by omega, by omega⟩ ⟨by omega, by omega⟩) (fun v144 z145 w146 p147 h148 hs149 hE150 => ?_)
  obtain ⟨rfl, rfl, rfl, hE150⟩ := hE150
  have h75 := (hE150.2.2).2 rfl
  have hb152 := rd_255 hz (i := v144.toNat) (by omega)
  refine r_ia (pc' := 79) rfl rfl sh_255 rfl (by omega) (by omega) (hs111.2.2.1 _ _ (notS_c (by omega) (notS_c (by omega) notS_n))) ?_
  refine r_st (pc' := 81) (lv' := [(7, _), (6, _), (5, _), (4, _), (3, _), (0, _), (1, _), (2, _)]) rfl rfl rfl rfl ?_
  refine r_ld (pc' := 82) rfl rfl rfl rfl ?_
  refine r_gr (b := 256) (pc' := 85) rfl rfl sh_225 rfl pp_225_52 ?_
  refine r_ld (pc' := 86) rfl rfl rfl rfl ?_
  refine r_ld (pc' := 87) rfl rfl rfl rfl ?_
  refine r_ld (pc' := 88) rfl rfl rfl rfl ?_
  have f26 : z107 225 26 = z0 225 26 := hs113.2.2.1 _ _ (notS_c (by omega) (notS_c (by omega) (notS_c (by omega) (notS_c (by omega) (notS_c (by omega) (notS_c (by omega) (notS_n)))))))
  have f255 : z107 255 = z0 255 := funext fun i => (hs111.2.2.1 _ _ (notS_c (by omega) (notS_c (by omega) notS_n)))
  have f256 : z107 256 = z0 256 := funext fun i => (hs111.2.2.1 _ _ (notS_c (by omega) (notS_c (by omega) notS_n)))
  have hf153 : z107 225 26 = z0 225 26 := (hs111.2.2.1 _ _ (notS_c (by omega) (notS_c (by omega) notS_n)))
  have hF154 : z107 255 = z0 255 := (funext fun _ => hs111.2.2.1 _ _ (notS_c (by omega) (notS_c (by omega) notS_n)))
  refine r_cVI (pc' := 91) rfl rfl rfl rfl rfl sh_225 (m_196v (d := d) a2 hs113.1 hs113.2.1 ⟨by omega, by omega⟩ (by rw [f26, f255]; exact hsq)) (fun v155 z156 w157 p158 h159 hs160 hE161 => ?_)
  obtain ⟨rfl, rfl, rfl, hE161⟩ := hE161
  have h88 := hE161.2.2
  unfold FQ at h88
  rw [f255, f256] at h88
  have h88 : v155 = FQ z0 (z107 225 53) (z107 225 54) a2 := h88
  refine r_is (pc' := 92) rfl rfl sh_256 rfl (by omega) (by omega) hs113 (inS_s (inS_s (inS_0 (by omega) (by omega) (by omega) (by omega)))) (wr_256 ⟨by omega, by omega⟩) (fun z163 hq164 hs165 => ?_)
  have hqs := hq164
  have h247f : ∀ i, z163 247 i = z0 247 i := fun i => (((congrFun (congrFun hq164 _) _).trans (mu_ne (by omega))).trans (hs111.2.2.1 _ _ (notS_c (by omega) (notS_c (by omega) notS_n))))
  refine r_ld (pc' := 93) rfl rfl rfl rfl ?_
  refine r_gr (b := 247) (pc' := 96) rfl rfl sh_225 rfl pp_225_43 ?_
  refine r_ld (pc' := 97) rfl rfl rfl rfl ?_
  refine r_ld (pc' := 98) rfl rfl rfl rfl ?_
  refine r_is (pc' := 99) rfl rfl sh_247 rfl (by omega) (by omega) hs165 (inS_s (inS_s (inS_s (inS_0 (by omega) (by omega) (by omega) (by omega))))) (wr_247 ⟨by omega, by omega⟩) (fun z166 hq167 hs168 => ?_)
  have hf0 := hq167
  refine r_ld (pc' := 100) rfl rfl rfl rfl ?_
  refine r_gr (b := 247) (pc' := 103) rfl rfl sh_225 rfl pp_225_43 ?_
  refine r_ld (pc' := 104) rfl rfl rfl rfl ?_
  refine r_c0 (pc' := 105) rfl rfl ?_
  refine r_add (pc' := 106) rfl rfl ?_
  refine r_ld (pc' := 108) rfl rfl rfl rfl ?_
  refine r_is (pc' := 109) rfl rfl sh_247 rfl (by omega) (by omega) hs168 (inS_s (inS_s (inS_s (inS_0 (by omega) (by omega) (by omega) (by omega))))) (wr_247 ⟨by omega, by omega⟩) (fun z169 hq170 hs171 => ?_)
  have hf1 := hq170
  refine r_ld (pc' := 110) rfl rfl rfl rfl ?_
  refine r_gr (b := 247) (pc' := 113) rfl rfl sh_225 rfl pp_225_43 ?_
  refine r_ld (pc' := 114) rfl rfl rfl rfl ?_
  refine r_c0 (pc' := 115) rfl rfl ?_
  refine r_add (pc' := 116) rfl rfl ?_
  refine r_ld (pc' := 118) rfl rfl rfl rfl ?_
  refine r_is (pc' := 119) rfl rfl sh_247 rfl (by omega) (by omega) hs171 (inS_s (inS_s (inS_s (inS_0 (by omega) (by omega) (by omega) (by omega))))) (wr_247 ⟨by omega, by omega⟩) (fun z172 hq173 hs174 => ?_)
  have hf2 := hq173
  refine r_ld (pc' := 120) rfl rfl rfl rfl ?_
  refine r_gr (b := 247) (pc' := 123) rfl rfl sh_225 rfl pp_225_43 ?_
  refine r_ld (pc' := 124) rfl rfl rfl rfl ?_
  refine r_c0 (pc' := 125) rfl rfl ?_
  refine r_add (pc' := 126) rfl rfl ?_
  refine r_ld (pc' := 128) rfl rfl rfl rfl ?_
  refine r_is (pc' := 129) rfl rfl sh_247 rfl (by omega) (by omega) hs174 (inS_s (inS_s (inS_s (inS_0 (by omega) (by omega) (by omega) (by omega))))) (wr_247 ⟨by omega, by omega⟩) (fun z175 hq176 hs177 => ?_)
  have hf3 := hq176
  refine r_ld (pc' := 130) rfl rfl rfl rfl ?_
  refine r_gr (b := 247) (pc' := 133) rfl rfl sh_225 rfl pp_225_43 ?_
  refine r_ld (pc' := 134) rfl rfl rfl rfl ?_
  refine r_c0 (pc' := 135) rfl rfl ?_
  refine r_add (pc' := 136) rfl rfl ?_
  refine r_ld (pc' := 138) rfl rfl rfl rfl ?_
  refine r_is (pc' := 139) rfl rfl sh_247 rfl (by omega) (by omega) hs177 (inS_s (inS_s (inS_s (inS_0 (by omega) (by omega) (by omega) (by omega))))) (wr_247 ⟨by omega, by omega⟩) (fun z178 hq179 hs180 => ?_)
  have hf4 := hq179
  have h248g : ∀ i, z178 248 i = z0 248 i := fun i => (((congrFun (congrFun hq179 _) _).trans (mu_ne (by omega))).trans (((congrFun (congrFun hq176 _) _).trans (mu_ne (by omega))).trans (((congrFun (congrFun hq173 _) _).trans (mu_ne (by omega))).trans (((congrFun (congrFun hq170 _) _).trans (mu_ne (by omega))).trans (((congrFun (congrFun hq167 _) _).trans (mu_ne (by omega))).trans (((congrFun (congrFun hq164 _) _).trans (mu_ne (by omega))).trans (hs111.2.2.1 _ _ (notS_c (by omega) (notS_c (by omega) notS_n)))))))))
  refine r_ld (pc' := 140) rfl rfl rfl rfl ?_
  refine r_gr (b := 248) (pc' := 143) rfl rfl sh_225 rfl pp_225_44 ?_
  refine r_ld (pc' := 144) rfl rfl rfl rfl ?_
  refine r_al (pc' := 145) rfl rfl rfl rfl ?_
  refine r_ia (pc' := 146) rfl rfl sh_248 rfl (by omega) (by omega) (((congrFun (congrFun hq179 _) _).trans (mu_ne (by omega))).trans (((congrFun (congrFun hq176 _) _).trans (mu_ne (by omega))).trans (((congrFun (congrFun hq173 _) _).trans (mu_ne (by omega))).trans (((congrFun (congrFun hq170 _) _).trans (mu_ne (by omega))).trans (((congrFun (congrFun hq167 _) _).trans (mu_ne (by omega))).trans (((congrFun (congrFun hq164 _) _).trans (mu_ne (by omega))).trans (hs111.2.2.1 _ _ (notS_c (by omega) (notS_c (by omega) notS_n))))))))) ?_
  refine r_c0 (pc' := 147) rfl rfl ?_
  refine r_add (pc' := 148) rfl rfl ?_
  refine r_is (pc' := 149) rfl rfl sh_248 rfl (by omega) (by omega) hs180 (inS_s (inS_s (inS_s (inS_s (inS_0 (by omega) (by omega) (by omega) (by omega)))))) (wr_248 ⟨by omega, by omega⟩) (fun z181 hq182 hs183 => ?_)
  have hqn := hq182
  have h255 : ∀ i, z181 255 i = z0 255 i := fun i => (((congrFun (congrFun hq182 _) _).trans (mu_ne (by omega))).trans (((congrFun (congrFun hq179 _) _).trans (mu_ne (by omega))).trans (((congrFun (congrFun hq176 _) _).trans (mu_ne (by omega))).trans (((congrFun (congrFun hq173 _) _).trans (mu_ne (by omega))).trans (((congrFun (congrFun hq170 _) _).trans (mu_ne (by omega))).trans (((congrFun (congrFun hq167 _) _).trans (mu_ne (by omega))).trans (((congrFun (congrFun hq164 _) _).trans (mu_ne (by omega))).trans (hs111.2.2.1 _ _ (notS_c (by omega) (notS_c (by omega) notS_n))))))))))
  refine r_ld (pc' := 150) rfl rfl rfl rfl ?_
  refine r_gi (pc' := 153) rfl rfl sh_225 rfl (((congrFun (congrFun hq182 _) _).trans (mu_ne (by omega))).trans (((congrFun (congrFun hq179 _) _).trans (mu_ne (by omega))).trans (((congrFun (congrFun hq176 _) _).trans (mu_ne (by omega))).trans (((congrFun (congrFun hq173 _) _).trans (mu_ne (by omega))).trans (((congrFun (congrFun hq170 _) _).trans (mu_ne (by omega))).trans (((congrFun (congrFun hq167 _) _).trans (mu_ne (by omega))).trans ((congrFun (congrFun hq164 _) _).trans (mu_ne (by omega))))))))) ?_
  refine r_c0 (pc' := 154) rfl rfl ?_
  refine r_dvg (pc' := 155) rfl rfl ⟨by omega, by omega⟩ ⟨by decide, by decide⟩ (by decide) (fun v184 h185 h186 => ?_)
  refine r_c0 (pc' := 156) rfl rfl ?_
  refine r_mul (pc' := 157) rfl rfl ?_
  refine r_st (pc' := 159) (lv' := [(8, _), (7, _), (6, _), (5, _), (4, _), (3, _), (0, _), (1, _), (2, _)]) rfl rfl rfl rfl ?_
  refine r_ld (pc' := 160) rfl rfl rfl rfl ?_
  refine r_gi (pc' := 163) rfl rfl sh_225 rfl (((congrFun (congrFun hq182 _) _).trans (mu_ne (by omega))).trans (((congrFun (congrFun hq179 _) _).trans (mu_ne (by omega))).trans (((congrFun (congrFun hq176 _) _).trans (mu_ne (by omega))).trans (((congrFun (congrFun hq173 _) _).trans (mu_ne (by omega))).trans (((congrFun (congrFun hq170 _) _).trans (mu_ne (by omega))).trans (((congrFun (congrFun hq167 _) _).trans (mu_ne (by omega))).trans ((congrFun (congrFun hq164 _) _).trans (mu_ne (by omega))))))))) ?_
  refine r_c0 (pc' := 164) rfl rfl ?_
  refine r_dvg (pc' := 165) rfl rfl ⟨by omega, by omega⟩ ⟨by decide, by decide⟩ (by decide) (fun v187 h188 h189 => ?_)
  refine r_c0 (pc' := 166) rfl rfl ?_
  refine r_mul (pc' := 167) rfl rfl ?_
  refine r_st (pc' := 169) (lv' := [(9, _), (8, _), (7, _), (6, _), (5, _), (4, _), (3, _), (0, _), (1, _), (2, _)]) rfl rfl rfl rfl ?_
  refine r_ld (pc' := 170) rfl rfl rfl rfl ?_
  refine r_gr (b := 255) (pc' := 173) rfl rfl sh_225 rfl pp_225_51 ?_
  refine r_ld (pc' := 175) rfl rfl rfl rfl ?_
  refine r_ld (pc' := 176) rfl rfl rfl rfl ?_
  refine r_is (pc' := 177) rfl rfl sh_255 rfl (by omega) (by omega) hs183 (inS_s (inS_s (inS_s (inS_s (inS_s (inS_0 (by omega) (by omega) (by omega) (by omega))))))) (wr_255 ⟨by omega, by omega⟩) (fun z190 hq191 hs192 => ?_)
  have hw0 := hq191
  refine r_ld (pc' := 178) rfl rfl rfl rfl ?_
  refine r_gr (b := 255) (pc' := 181) rfl rfl sh_225 rfl pp_225_51 ?_
  refine r_ld (pc' := 183) rfl rfl rfl rfl ?_
  refine r_c0 (pc' := 184) rfl rfl ?_
  refine r_add (pc' := 185) rfl rfl ?_
  refine r_ld (pc' := 187) rfl rfl rfl rfl ?_
  refine r_is (pc' := 188) rfl rfl sh_255 rfl (by omega) (by omega) hs192 (inS_s (inS_s (inS_s (inS_s (inS_s (inS_0 (by omega) (by omega) (by omega) (by omega))))))) (wr_255 ⟨by omega, by omega⟩) (fun z193 hq194 hs195 => ?_)
  have hw1 := hq194
  refine r_ld (pc' := 189) rfl rfl rfl rfl ?_
  refine r_gr (b := 255) (pc' := 192) rfl rfl sh_225 rfl pp_225_51 ?_
  refine r_ld (pc' := 194) rfl rfl rfl rfl ?_
  refine r_c0 (pc' := 195) rfl rfl ?_
  refine r_add (pc' := 196) rfl rfl ?_
  refine r_ld (pc' := 198) rfl rfl rfl rfl ?_
  refine r_is (pc' := 199) rfl rfl sh_255 rfl (by omega) (by omega) hs195 (inS_s (inS_s (inS_s (inS_s (inS_s (inS_0 (by omega) (by omega) (by omega) (by omega))))))) (wr_255 ⟨by omega, by omega⟩) (fun z196 hq197 hs198 => ?_)
  have hw2 := hq197
  refine r_ld (pc' := 200) rfl rfl rfl rfl ?_
  refine r_gr (b := 255) (pc' := 203) rfl rfl sh_225 rfl pp_225_51 ?_
  refine r_ld (pc' := 205) rfl rfl rfl rfl ?_
  refine r_ld (pc' := 206) rfl rfl rfl rfl ?_
  refine r_is (pc' := 207) rfl rfl sh_255 rfl (by omega) (by omega) hs198 (inS_s (inS_s (inS_s (inS_s (inS_s (inS_0 (by omega) (by omega) (by omega) (by omega))))))) (wr_255 ⟨by omega, by omega⟩) (fun z199 hq200 hs201 => ?_)
  have hw3 := hq200
  refine r_ld (pc' := 208) rfl rfl rfl rfl ?_
  refine r_gr (b := 255) (pc' := 211) rfl rfl sh_225 rfl pp_225_51 ?_
  refine r_ld (pc' := 213) rfl rfl rfl rfl ?_
  refine r_c0 (pc' := 214) rfl rfl ?_
  refine r_add (pc' := 215) rfl rfl ?_
  refine r_ld (pc' := 217) rfl rfl rfl rfl ?_
  refine r_is (pc' := 218) rfl rfl sh_255 rfl (by omega) (by omega) hs201 (inS_s (inS_s (inS_s (inS_s (inS_s (inS_0 (by omega) (by omega) (by omega) (by omega))))))) (wr_255 ⟨by omega, by omega⟩) (fun z202 hq203 hs204 => ?_)
  have hw4 := hq203
  refine r_ld (pc' := 219) rfl rfl rfl rfl ?_
  refine r_gr (b := 255) (pc' := 222) rfl rfl sh_225 rfl pp_225_51 ?_
  refine r_ld (pc' := 224) rfl rfl rfl rfl ?_
  refine r_c0 (pc' := 225) rfl rfl ?_
  refine r_add (pc' := 226) rfl rfl ?_
  refine r_ld (pc' := 228) rfl rfl rfl rfl ?_
  refine r_is (pc' := 229) rfl rfl sh_255 rfl (by omega) (by omega) hs204 (inS_s (inS_s (inS_s (inS_s (inS_s (inS_0 (by omega) (by omega) (by omega) (by omega))))))) (wr_255 ⟨by omega, by omega⟩) (fun z205 hq206 hs207 => ?_)
  have hw5 := hq206
  have hP : (v184 * 3) = z107 225 53 / 3 * 3 := by omega
  have hQ : (v187 * 3) = z107 225 54 / 3 * 3 := by omega
  exact r_ret rfl (po_V hs207 ⟨rfl, (by refine ⟨z107 225 53, z107 225 54, hsq, ⟨?_, ?_, ?_, ?_, ?_, ?_, ?_, ?_, ?_, ?_⟩, hu1⟩; (rw [← hP, ← hQ, ← h30, ← h45, ← h60, ← h75]; exact FLQ_of hly (by omega) hsq hune hP hQ (by rw [h30]) (by rw [h45]) (by rw [h60]) (by rw [h75]) (fun s => by rw [hw5, mu_sf, hw4, mu_sf, hw3, mu_sf, hw2, mu_sf, hw1, mu_sf, hw0, mu_sf, show z181 255 = z0 255 from funext fun i => h255 i])); (intro j; rw [show z205 256 j = z163 256 j from (((congrFun (congrFun hq206 _) _).trans (mu_ne (by omega))).trans (((congrFun (congrFun hq203 _) _).trans (mu_ne (by omega))).trans (((congrFun (congrFun hq200 _) _).trans (mu_ne (by omega))).trans (((congrFun (congrFun hq197 _) _).trans (mu_ne (by omega))).trans (((congrFun (congrFun hq194 _) _).trans (mu_ne (by omega))).trans (((congrFun (congrFun hq191 _) _).trans (mu_ne (by omega))).trans (((congrFun (congrFun hq182 _) _).trans (mu_ne (by omega))).trans (((congrFun (congrFun hq179 _) _).trans (mu_ne (by omega))).trans (((congrFun (congrFun hq176 _) _).trans (mu_ne (by omega))).trans (((congrFun (congrFun hq173 _) _).trans (mu_ne (by omega))).trans (((congrFun (congrFun hq170 _) _).trans (mu_ne (by omega))).trans ((congrFun (congrFun hq167 _) _).trans (mu_ne (by omega)))))))))))))), hqs, mu_sf, h88]; dsimp only; rw [h256f j]); (exact ((((congrFun (congrFun hq206 _) _).trans (mu_ne (by omega))).trans (((congrFun (congrFun hq203 _) _).trans (mu_ne (by omega))).trans (((congrFun (congrFun hq200 _) _).trans (mu_ne (by omega))).trans (((congrFun (congrFun hq197 _) _).trans (mu_ne (by omega))).trans (((congrFun (congrFun hq194 _) _).trans (mu_ne (by omega))).trans ((congrFun (congrFun hq191 _) _).trans (mu_ne (by omega))))))))).trans ((congrFun (congrFun hqn _) _).trans mu_eq)); (intro j hj; rw [show ∀ j, z205 248 j = z181 248 j from fun j => (((congrFun (congrFun hq206 _) _).trans (mu_ne (by omega))).trans (((congrFun (congrFun hq203 _) _).trans (mu_ne (by omega))).trans (((congrFun (congrFun hq200 _) _).trans (mu_ne (by omega))).trans (((congrFun (congrFun hq197 _) _).trans (mu_ne (by omega))).trans (((congrFun (congrFun hq194 _) _).trans (mu_ne (by omega))).trans ((congrFun (congrFun hq191 _) _).trans (mu_ne (by omega)))))))), hqn, mu_ne (by omega)]; exact h248g j); (rw [show ∀ j, z205 247 j = z178 247 j from fun j => (((congrFun (congrFun hq206 _) _).trans (mu_ne (by omega))).trans (((congrFun (congrFun hq203 _) _).trans (mu_ne (by omega))).trans (((congrFun (congrFun hq200 _) _).trans (mu_ne (by omega))).trans (((congrFun (congrFun hq197 _) _).trans (mu_ne (by omega))).trans (((congrFun (congrFun hq194 _) _).trans (mu_ne (by omega))).trans (((congrFun (congrFun hq191 _) _).trans (mu_ne (by omega))).trans ((congrFun (congrFun hq182 _) _).trans (mu_ne (by omega))))))))), hf4, mu_ne (by omega), hf3, mu_ne (by omega), hf2, mu_ne (by omega), hf1, mu_ne (by omega), hf0]; exact mu_eq); (rw [show ∀ j, z205 247 j = z178 247 j from fun j => (((congrFun (congrFun hq206 _) _).trans (mu_ne (by omega))).trans (((congrFun (congrFun hq203 _) _).trans (mu_ne (by omega))).trans (((congrFun (congrFun hq200 _) _).trans (mu_ne (by omega))).trans (((congrFun (congrFun hq197 _) _).trans (mu_ne (by omega))).trans (((congrFun (congrFun hq194 _) _).trans (mu_ne (by omega))).trans (((congrFun (congrFun hq191 _) _).trans (mu_ne (by omega))).trans ((congrFun (congrFun hq182 _) _).trans (mu_ne (by omega))))))))), hf4, mu_ne (by omega), hf3, mu_ne (by omega), hf2, mu_ne (by omega), hf1, mu_eq, h30]); (rw [show ∀ j, z205 247 j = z178 247 j from fun j => (((congrFun (congrFun hq206 _) _).trans (mu_ne (by omega))).trans (((congrFun (congrFun hq203 _) _).trans (mu_ne (by omega))).trans (((congrFun (congrFun hq200 _) _).trans (mu_ne (by omega))).trans (((congrFun (congrFun hq197 _) _).trans (mu_ne (by omega))).trans (((congrFun (congrFun hq194 _) _).trans (mu_ne (by omega))).trans (((congrFun (congrFun hq191 _) _).trans (mu_ne (by omega))).trans ((congrFun (congrFun hq182 _) _).trans (mu_ne (by omega))))))))), hf4, mu_ne (by omega), hf3, mu_ne (by omega), hf2, mu_eq, h45]); (rw [show ∀ j, z205 247 j = z178 247 j from fun j => (((congrFun (congrFun hq206 _) _).trans (mu_ne (by omega))).trans (((congrFun (congrFun hq203 _) _).trans (mu_ne (by omega))).trans (((congrFun (congrFun hq200 _) _).trans (mu_ne (by omega))).trans (((congrFun (congrFun hq197 _) _).trans (mu_ne (by omega))).trans (((congrFun (congrFun hq194 _) _).trans (mu_ne (by omega))).trans (((congrFun (congrFun hq191 _) _).trans (mu_ne (by omega))).trans ((congrFun (congrFun hq182 _) _).trans (mu_ne (by omega))))))))), hf4, mu_ne (by omega), hf3, mu_eq, h60]); (rw [show ∀ j, z205 247 j = z178 247 j from fun j => (((congrFun (congrFun hq206 _) _).trans (mu_ne (by omega))).trans (((congrFun (congrFun hq203 _) _).trans (mu_ne (by omega))).trans (((congrFun (congrFun hq200 _) _).trans (mu_ne (by omega))).trans (((congrFun (congrFun hq197 _) _).trans (mu_ne (by omega))).trans (((congrFun (congrFun hq194 _) _).trans (mu_ne (by omega))).trans (((congrFun (congrFun hq191 _) _).trans (mu_ne (by omega))).trans ((congrFun (congrFun hq182 _) _).trans (mu_ne (by omega))))))))), hf4, mu_eq, h75]); (intro i hi; rw [show ∀ j, z205 247 j = z178 247 j from fun j => (((congrFun (congrFun hq206 _) _).trans (mu_ne (by omega))).trans (((congrFun (congrFun hq203 _) _).trans (mu_ne (by omega))).trans (((congrFun (congrFun hq200 _) _).trans (mu_ne (by omega))).trans (((congrFun (congrFun hq197 _) _).trans (mu_ne (by omega))).trans (((congrFun (congrFun hq194 _) _).trans (mu_ne (by omega))).trans (((congrFun (congrFun hq191 _) _).trans (mu_ne (by omega))).trans ((congrFun (congrFun hq182 _) _).trans (mu_ne (by omega))))))))), hf4, mu_ne (by omega), hf3, mu_ne (by omega), hf2, mu_ne (by omega), hf1, mu_ne (by omega), hf0, mu_ne (by omega)]; exact h247f i))⟩)

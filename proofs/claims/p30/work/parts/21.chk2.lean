set_option maxRecDepth 100000 in
theorem pk_112 : qd_one pd_112 := ⟨⟨pm_in (j := 4) (i := 48) rfl rfl, pm_in (j := 1) (i := 1) rfl rfl, plainFor_of_name pn_10, pe_10, ps_28, by decide⟩, 10, false, rfl, fun h => Bool.noConfusion h, by decide +kernel⟩
set_option maxRecDepth 100000 in
theorem pk_113 : qd_one pd_113 := ⟨⟨pm_in (j := 4) (i := 56) rfl rfl, pm_in (j := 1) (i := 1) rfl rfl, plainFor_of_name pn_10, pe_10, ps_39, by decide⟩, 10, false, rfl, fun h => Bool.noConfusion h, by decide +kernel⟩
set_option maxRecDepth 100000 in
theorem pk_114 : qd_one pd_114 := ⟨⟨pm_in (j := 4) (i := 90) rfl rfl, pm_in (j := 1) (i := 1) rfl rfl, plainFor_of_name pn_10, pe_10, ps_28, by decide⟩, 10, false, rfl, fun h => Bool.noConfusion h, by decide +kernel⟩
set_option maxRecDepth 100000 in
theorem pk_115 : qd_one pd_115 := ⟨⟨pm_in (j := 4) (i := 105) rfl rfl, pm_in (j := 1) (i := 1) rfl rfl, plainFor_of_name pn_10, pe_10, ps_22, by decide⟩, 10, false, rfl, fun h => Bool.noConfusion h, by decide +kernel⟩
set_option maxRecDepth 100000 in
theorem pk_116 : qd_one pd_116 := ⟨⟨pm_in (j := 4) (i := 140) rfl rfl, pm_in (j := 1) (i := 1) rfl rfl, plainFor_of_name pn_10, pe_10, ps_28, by decide⟩, 10, false, rfl, fun h => Bool.noConfusion h, by decide +kernel⟩
set_option maxRecDepth 100000 in
theorem pk_117 : qd_one pd_117 := ⟨⟨pm_in (j := 4) (i := 144) rfl rfl, pm_in (j := 1) (i := 1) rfl rfl, plainFor_of_name pn_10, pe_10, ps_22, by decide⟩, 10, false, rfl, fun h => Bool.noConfusion h, by decide +kernel⟩
set_option maxRecDepth 100000 in
theorem pk_118 : qd_one pd_118 := ⟨⟨pm_in (j := 4) (i := 148) rfl rfl, pm_in (j := 1) (i := 1) rfl rfl, plainFor_of_name pn_10, pe_10, ps_40, by decide⟩, 10, false, rfl, fun h => Bool.noConfusion h, by decide +kernel⟩
set_option maxRecDepth 100000 in
theorem pk_119 : qd_one pd_119 := ⟨⟨pm_in (j := 4) (i := 158) rfl rfl, pm_in (j := 1) (i := 1) rfl rfl, plainFor_of_name pn_10, pe_10, ps_41, by decide⟩, 10, false, rfl, fun h => Bool.noConfusion h, by decide +kernel⟩
set_option maxRecDepth 100000 in
theorem pk_120 : qd_one pd_120 := ⟨⟨pm_in (j := 4) (i := 182) rfl rfl, pm_in (j := 1) (i := 1) rfl rfl, plainFor_of_name pn_10, pe_10, ps_42, by decide⟩, 10, false, rfl, fun h => Bool.noConfusion h, by decide +kernel⟩
set_option maxRecDepth 100000 in
theorem pk_121 : qd_one pd_121 := ⟨⟨pm_in (j := 4) (i := 205) rfl rfl, pm_in (j := 1) (i := 1) rfl rfl, plainFor_of_name pn_10, pe_10, ps_28, by decide⟩, 10, false, rfl, fun h => Bool.noConfusion h, by decide +kernel⟩
set_option maxRecDepth 100000 in
theorem pk_122 : qd_one pd_122 := ⟨⟨pm_in (j := 5) (i := 0) rfl rfl, pm_in (j := 1) (i := 1) rfl rfl, plainFor_of_name pn_10, pe_10, ps_22, by decide⟩, 10, false, rfl, fun h => Bool.noConfusion h, by decide +kernel⟩
set_option maxRecDepth 100000 in
theorem pk_123 : qd_one pd_123 := ⟨⟨pm_in (j := 5) (i := 4) rfl rfl, pm_in (j := 1) (i := 1) rfl rfl, plainFor_of_name pn_10, pe_10, ps_29, by decide⟩, 10, false, rfl, fun h => Bool.noConfusion h, by decide +kernel⟩
set_option maxRecDepth 100000 in
theorem pk_124 : qd_one pd_124 := ⟨⟨pm_in (j := 5) (i := 13) rfl rfl, pm_in (j := 1) (i := 1) rfl rfl, plainFor_of_name pn_10, pe_10, ps_39, by decide⟩, 10, false, rfl, fun h => Bool.noConfusion h, by decide +kernel⟩
set_option maxRecDepth 100000 in
theorem pk_125 : qd_one pd_125 := ⟨⟨pm_in (j := 5) (i := 22) rfl rfl, pm_in (j := 1) (i := 1) rfl rfl, plainFor_of_name pn_10, pe_10, ps_29, by decide⟩, 10, false, rfl, fun h => Bool.noConfusion h, by decide +kernel⟩
set_option maxRecDepth 100000 in
theorem pk_126 : qd_one pd_126 := ⟨⟨pm_in (j := 5) (i := 18) rfl rfl, pm_in (j := 1) (i := 1) rfl rfl, plainFor_of_name pn_10, pe_10, ps_43, by decide⟩, 10, false, rfl, fun h => Bool.noConfusion h, by decide +kernel⟩
set_option maxRecDepth 100000 in
theorem pk_127 : qd_one pd_127 := ⟨⟨pm_in (j := 5) (i := 26) rfl rfl, pm_in (j := 1) (i := 1) rfl rfl, plainFor_of_name pn_10, pe_10, ps_3, by decide⟩, 10, false, rfl, fun h => Bool.noConfusion h, by decide +kernel⟩
set_option maxRecDepth 100000 in
theorem pk_128 : qd_one pd_128 := ⟨⟨pm_in (j := 5) (i := 34) rfl rfl, pm_in (j := 1) (i := 1) rfl rfl, plainFor_of_name pn_10, pe_10, ps_3, by decide⟩, 10, false, rfl, fun h => Bool.noConfusion h, by decide +kernel⟩
set_option maxRecDepth 100000 in
theorem pk_129 : qd_one pd_129 := ⟨⟨pm_in (j := 5) (i := 42) rfl rfl, pm_in (j := 1) (i := 1) rfl rfl, plainFor_of_name pn_10, pe_10, ps_5, by decide⟩, 10, false, rfl, fun h => Bool.noConfusion h, by decide +kernel⟩
set_option maxRecDepth 100000 in
theorem pk_130 : qd_one pd_130 := ⟨⟨pm_in (j := 5) (i := 82) rfl rfl, pm_in (j := 1) (i := 1) rfl rfl, plainFor_of_name pn_10, pe_10, ps_29, by decide⟩, 10, false, rfl, fun h => Bool.noConfusion h, by decide +kernel⟩
set_option maxRecDepth 100000 in
theorem pk_131 : qd_one pd_131 := ⟨⟨pm_in (j := 5) (i := 86) rfl rfl, pm_in (j := 1) (i := 1) rfl rfl, plainFor_of_name pn_10, pe_10, ps_29, by decide⟩, 10, false, rfl, fun h => Bool.noConfusion h, by decide +kernel⟩
set_option maxRecDepth 100000 in
theorem pk_132 : qd_one pd_132 := ⟨⟨pm_in (j := 5) (i := 90) rfl rfl, pm_in (j := 1) (i := 1) rfl rfl, plainFor_of_name pn_10, pe_10, ps_22, by decide⟩, 10, false, rfl, fun h => Bool.noConfusion h, by decide +kernel⟩
set_option maxRecDepth 100000 in
theorem pk_133 : qd_one pd_133 := ⟨⟨pm_in (j := 4) (i := 16) rfl rfl, pm_in (j := 1) (i := 1) rfl rfl, plainFor_of_name pn_10, pe_10, ps_6, by decide⟩, 10, false, rfl, fun h => Bool.noConfusion h, by decide +kernel⟩
set_option maxRecDepth 100000 in
theorem pk_134 : qd_one pd_134 := ⟨⟨pm_in (j := 4) (i := 12) rfl rfl, pm_in (j := 1) (i := 1) rfl rfl, plainFor_of_name pn_10, pe_10, ps_6, by decide⟩, 10, false, rfl, fun h => Bool.noConfusion h, by decide +kernel⟩
set_option maxRecDepth 100000 in
theorem pk_135 : qd_one pd_135 := ⟨⟨pm_in (j := 4) (i := 7) rfl rfl, pm_in (j := 1) (i := 1) rfl rfl, plainFor_of_name pn_10, pe_10, ps_44, by decide⟩, 10, false, rfl, fun h => Bool.noConfusion h, by decide +kernel⟩
set_option maxRecDepth 100000 in
theorem pk_136 : qd_one pd_136 := ⟨⟨pm_in (j := 4) (i := 114) rfl rfl, pm_in (j := 1) (i := 1) rfl rfl, plainFor_of_name pn_10, pe_10, ps_30, by decide⟩, 10, false, rfl, fun h => Bool.noConfusion h, by decide +kernel⟩
set_option maxRecDepth 100000 in
theorem pk_137 : qd_one pd_137 := ⟨⟨pm_in (j := 4) (i := 236) rfl rfl, pm_in (j := 1) (i := 1) rfl rfl, plainFor_of_name pn_10, pe_10, ps_31, by decide⟩, 10, false, rfl, fun h => Bool.noConfusion h, by decide +kernel⟩
set_option maxRecDepth 100000 in
theorem pk_138 : qd_one pd_138 := ⟨⟨pm_in (j := 4) (i := 152) rfl rfl, pm_in (j := 1) (i := 1) rfl rfl, plainFor_of_name pn_10, pe_10, ps_11, by decide⟩, 10, false, rfl, fun h => Bool.noConfusion h, by decide +kernel⟩
set_option maxRecDepth 100000 in
theorem pk_139 : qd_one pd_139 := ⟨⟨pm_in (j := 4) (i := 162) rfl rfl, pm_in (j := 1) (i := 1) rfl rfl, plainFor_of_name pn_10, pe_10, ps_11, by decide⟩, 10, false, rfl, fun h => Bool.noConfusion h, by decide +kernel⟩
set_option maxRecDepth 100000 in
theorem pk_140 : qd_one pd_140 := ⟨⟨pm_in (j := 3) (i := 186) rfl rfl, pm_in (j := 1) (i := 1) rfl rfl, plainFor_of_name pn_10, pe_10, ps_45, by decide⟩, 10, false, rfl, fun h => Bool.noConfusion h, by decide +kernel⟩
set_option maxRecDepth 100000 in
theorem pk_141 : qd_one pd_141 := ⟨⟨pm_in (j := 4) (i := 136) rfl rfl, pm_in (j := 1) (i := 1) rfl rfl, plainFor_of_name pn_10, pe_10, ps_46, by decide⟩, 10, false, rfl, fun h => Bool.noConfusion h, by decide +kernel⟩
set_option maxRecDepth 100000 in
theorem pk_142 : qd_one pd_142 := ⟨⟨pm_in (j := 3) (i := 142) rfl rfl, pm_in (j := 1) (i := 1) rfl rfl, plainFor_of_name pn_10, pe_10, ps_47, by decide⟩, 10, false, rfl, fun h => Bool.noConfusion h, by decide +kernel⟩
set_option maxRecDepth 100000 in
theorem pk_143 : qd_one pd_143 := ⟨⟨pm_in (j := 3) (i := 91) rfl rfl, pm_in (j := 1) (i := 1) rfl rfl, plainFor_of_name pn_10, pe_10, ps_22, by decide⟩, 10, false, rfl, fun h => Bool.noConfusion h, by decide +kernel⟩
set_option maxRecDepth 100000 in
theorem pk_144 : qd_one pd_144 := ⟨⟨pm_in (j := 3) (i := 174) rfl rfl, pm_in (j := 1) (i := 1) rfl rfl, plainFor_of_name pn_10, pe_10, ps_22, by decide⟩, 10, false, rfl, fun h => Bool.noConfusion h, by decide +kernel⟩
set_option maxRecDepth 100000 in
theorem pk_145 : qd_one pd_145 := ⟨⟨pm_in (j := 5) (i := 95) rfl rfl, pm_in (j := 1) (i := 12) rfl rfl, plainFor_of_name pn_11, pe_11, ps_0, by decide⟩, 11, true, rfl, fun _ => rfl, by decide +kernel⟩
set_option maxRecDepth 100000 in
theorem pk_146 : qd_one pd_146 := ⟨⟨pm_in (j := 6) (i := 112) rfl rfl, pm_in (j := 1) (i := 12) rfl rfl, plainFor_of_name pn_11, pe_11, ps_38, by decide⟩, 11, false, rfl, fun h => Bool.noConfusion h, by decide +kernel⟩
set_option maxRecDepth 100000 in
theorem pk_147 : qd_one pd_147 := ⟨⟨pm_in (j := 6) (i := 116) rfl rfl, pm_in (j := 1) (i := 12) rfl rfl, plainFor_of_name pn_11, pe_11, ps_25, by decide⟩, 11, false, rfl, fun h => Bool.noConfusion h, by decide +kernel⟩
set_option maxRecDepth 100000 in
theorem pk_148 : qd_one pd_148 := ⟨⟨pm_in (j := 6) (i := 120) rfl rfl, pm_in (j := 1) (i := 12) rfl rfl, plainFor_of_name pn_11, pe_11, ps_22, by decide⟩, 11, false, rfl, fun h => Bool.noConfusion h, by decide +kernel⟩
set_option maxRecDepth 100000 in
theorem pk_149 : qd_one pd_149 := ⟨⟨pm_in (j := 6) (i := 136) rfl rfl, pm_in (j := 1) (i := 12) rfl rfl, plainFor_of_name pn_11, pe_11, ps_22, by decide⟩, 11, false, rfl, fun h => Bool.noConfusion h, by decide +kernel⟩
set_option maxRecDepth 100000 in
theorem pk_150 : qd_one pd_150 := ⟨⟨pm_in (j := 6) (i := 139) rfl rfl, pm_in (j := 1) (i := 12) rfl rfl, plainFor_of_name pn_11, pe_11, ps_6, by decide⟩, 11, false, rfl, fun h => Bool.noConfusion h, by decide +kernel⟩
set_option maxRecDepth 100000 in
theorem pk_151 : qd_one pd_151 := ⟨⟨pm_in (j := 6) (i := 142) rfl rfl, pm_in (j := 1) (i := 12) rfl rfl, plainFor_of_name pn_11, pe_11, ps_6, by decide⟩, 11, false, rfl, fun h => Bool.noConfusion h, by decide +kernel⟩
set_option maxRecDepth 100000 in
theorem pk_152 : qd_one pd_152 := ⟨⟨pm_in (j := 6) (i := 132) rfl rfl, pm_in (j := 1) (i := 12) rfl rfl, plainFor_of_name pn_11, pe_11, ps_0, by decide⟩, 11, false, rfl, fun h => Bool.noConfusion h, by decide +kernel⟩
set_option maxRecDepth 100000 in
theorem pk_153 : qd_one pd_153 := ⟨⟨pm_in (j := 6) (i := 161) rfl rfl, pm_in (j := 1) (i := 12) rfl rfl, plainFor_of_name pn_11, pe_11, ps_21, by decide⟩, 11, false, rfl, fun h => Bool.noConfusion h, by decide +kernel⟩
set_option maxRecDepth 100000 in
theorem pk_154 : qd_one pd_154 := ⟨⟨pm_in (j := 6) (i := 157) rfl rfl, pm_in (j := 1) (i := 12) rfl rfl, plainFor_of_name pn_11, pe_11, ps_25, by decide⟩, 11, false, rfl, fun h => Bool.noConfusion h, by decide +kernel⟩
set_option maxRecDepth 100000 in
theorem pk_155 : qd_one pd_155 := ⟨⟨pm_in (j := 6) (i := 151) rfl rfl, pm_in (j := 1) (i := 12) rfl rfl, plainFor_of_name pn_11, pe_11, ps_48, by decide⟩, 11, false, rfl, fun h => Bool.noConfusion h, by decide +kernel⟩
set_option maxRecDepth 100000 in
theorem pk_156 : qd_one pd_156 := ⟨⟨pm_in (j := 6) (i := 189) rfl rfl, pm_in (j := 1) (i := 12) rfl rfl, plainFor_of_name pn_11, pe_11, ps_3, by decide⟩, 11, false, rfl, fun h => Bool.noConfusion h, by decide +kernel⟩
set_option maxRecDepth 100000 in
theorem pk_157 : qd_one pd_157 := ⟨⟨pm_in (j := 6) (i := 199) rfl rfl, pm_in (j := 1) (i := 12) rfl rfl, plainFor_of_name pn_11, pe_11, ps_49, by decide⟩, 11, false, rfl, fun h => Bool.noConfusion h, by decide +kernel⟩
set_option maxRecDepth 100000 in
theorem pk_158 : qd_one pd_158 := ⟨⟨pm_in (j := 6) (i := 181) rfl rfl, pm_in (j := 1) (i := 12) rfl rfl, plainFor_of_name pn_11, pe_11, ps_28, by decide⟩, 11, false, rfl, fun h => Bool.noConfusion h, by decide +kernel⟩
set_option maxRecDepth 100000 in
theorem pk_159 : qd_one pd_159 := ⟨⟨pm_in (j := 6) (i := 211) rfl rfl, pm_in (j := 1) (i := 12) rfl rfl, plainFor_of_name pn_11, pe_11, ps_5, by decide⟩, 11, false, rfl, fun h => Bool.noConfusion h, by decide +kernel⟩
set_option maxRecDepth 100000 in
theorem pk_160 : qd_one pd_160 := ⟨⟨pm_in (j := 6) (i := 169) rfl rfl, pm_in (j := 1) (i := 12) rfl rfl, plainFor_of_name pn_11, pe_11, ps_5, by decide⟩, 11, false, rfl, fun h => Bool.noConfusion h, by decide +kernel⟩
set_option maxRecDepth 100000 in
theorem pk_161 : qd_one pd_161 := ⟨⟨pm_in (j := 6) (i := 231) rfl rfl, pm_in (j := 1) (i := 12) rfl rfl, plainFor_of_name pn_11, pe_11, ps_5, by decide⟩, 11, false, rfl, fun h => Bool.noConfusion h, by decide +kernel⟩
set_option maxRecDepth 100000 in
theorem pk_162 : qd_one pd_162 := ⟨⟨pm_in (j := 6) (i := 177) rfl rfl, pm_in (j := 1) (i := 12) rfl rfl, plainFor_of_name pn_11, pe_11, ps_0, by decide⟩, 11, false, rfl, fun h => Bool.noConfusion h, by decide +kernel⟩
set_option maxRecDepth 100000 in
theorem pk_163 : qd_one pd_163 := ⟨⟨pm_in (j := 6) (i := 165) rfl rfl, pm_in (j := 1) (i := 12) rfl rfl, plainFor_of_name pn_11, pe_11, ps_3, by decide⟩, 11, false, rfl, fun h => Bool.noConfusion h, by decide +kernel⟩
set_option maxRecDepth 100000 in
theorem pk_164 : qd_one pd_164 := ⟨⟨pm_in (j := 6) (i := 173) rfl rfl, pm_in (j := 1) (i := 12) rfl rfl, plainFor_of_name pn_11, pe_11, ps_11, by decide⟩, 11, false, rfl, fun h => Bool.noConfusion h, by decide +kernel⟩
set_option maxRecDepth 100000 in
theorem pk_165 : qd_one pd_165 := ⟨⟨pm_in (j := 6) (i := 195) rfl rfl, pm_in (j := 1) (i := 12) rfl rfl, plainFor_of_name pn_11, pe_11, ps_5, by decide⟩, 11, false, rfl, fun h => Bool.noConfusion h, by decide +kernel⟩
set_option maxRecDepth 100000 in
theorem pk_166 : qd_one pd_166 := ⟨⟨pm_in (j := 6) (i := 203) rfl rfl, pm_in (j := 1) (i := 12) rfl rfl, plainFor_of_name pn_11, pe_11, ps_6, by decide⟩, 11, false, rfl, fun h => Bool.noConfusion h, by decide +kernel⟩
set_option maxRecDepth 100000 in
theorem pk_167 : qd_one pd_167 := ⟨⟨pm_in (j := 6) (i := 185) rfl rfl, pm_in (j := 1) (i := 12) rfl rfl, plainFor_of_name pn_11, pe_11, ps_0, by decide⟩, 11, false, rfl, fun h => Bool.noConfusion h, by decide +kernel⟩
set_option maxRecDepth 100000 in
theorem pk_168 : qd_one pd_168 := ⟨⟨pm_in (j := 6) (i := 207) rfl rfl, pm_in (j := 1) (i := 12) rfl rfl, plainFor_of_name pn_11, pe_11, ps_0, by decide⟩, 11, false, rfl, fun h => Bool.noConfusion h, by decide +kernel⟩
set_option maxRecDepth 100000 in
theorem pk_169 : qd_one pd_169 := ⟨⟨pm_in (j := 6) (i := 146) rfl rfl, pm_in (j := 1) (i := 12) rfl rfl, plainFor_of_name pn_11, pe_11, ps_0, by decide⟩, 11, false, rfl, fun h => Bool.noConfusion h, by decide +kernel⟩
set_option maxRecDepth 100000 in
theorem pk_170 : qd_one pd_170 := ⟨⟨pm_in (j := 6) (i := 128) rfl rfl, pm_in (j := 1) (i := 12) rfl rfl, plainFor_of_name pn_11, pe_11, ps_0, by decide⟩, 11, false, rfl, fun h => Bool.noConfusion h, by decide +kernel⟩
set_option maxRecDepth 100000 in
theorem pk_171 : qd_one pd_171 := ⟨⟨pm_in (j := 6) (i := 124) rfl rfl, pm_in (j := 1) (i := 12) rfl rfl, plainFor_of_name pn_11, pe_11, ps_5, by decide⟩, 11, false, rfl, fun h => Bool.noConfusion h, by decide +kernel⟩
set_option maxRecDepth 100000 in
theorem pk_172 : qd_one pd_172 := ⟨⟨pm_in (j := 7) (i := 55) rfl rfl, pm_in (j := 1) (i := 12) rfl rfl, plainFor_of_name pn_11, pe_11, ps_22, by decide⟩, 11, false, rfl, fun h => Bool.noConfusion h, by decide +kernel⟩
set_option maxRecDepth 100000 in
theorem pk_173 : qd_one pd_173 := ⟨⟨pm_in (j := 7) (i := 67) rfl rfl, pm_in (j := 1) (i := 12) rfl rfl, plainFor_of_name pn_11, pe_11, ps_6, by decide⟩, 11, false, rfl, fun h => Bool.noConfusion h, by decide +kernel⟩
set_option maxRecDepth 100000 in
theorem pk_174 : qd_one pd_174 := ⟨⟨pm_in (j := 7) (i := 143) rfl rfl, pm_in (j := 1) (i := 12) rfl rfl, plainFor_of_name pn_11, pe_11, ps_6, by decide⟩, 11, false, rfl, fun h => Bool.noConfusion h, by decide +kernel⟩
set_option maxRecDepth 100000 in
theorem pk_175 : qd_one pd_175 := ⟨⟨pm_in (j := 7) (i := 71) rfl rfl, pm_in (j := 1) (i := 12) rfl rfl, plainFor_of_name pn_11, pe_11, ps_6, by decide⟩, 11, false, rfl, fun h => Bool.noConfusion h, by decide +kernel⟩
set_option maxRecDepth 100000 in
theorem pk_176 : qd_one pd_176 := ⟨⟨pm_in (j := 6) (i := 215) rfl rfl, pm_in (j := 1) (i := 12) rfl rfl, plainFor_of_name pn_11, pe_11, ps_0, by decide⟩, 11, false, rfl, fun h => Bool.noConfusion h, by decide +kernel⟩
set_option maxRecDepth 100000 in
theorem pk_177 : qd_one pd_177 := ⟨⟨pm_in (j := 5) (i := 104) rfl rfl, pm_in (j := 1) (i := 12) rfl rfl, plainFor_of_name pn_11, pe_11, ps_28, by decide⟩, 11, false, rfl, fun h => Bool.noConfusion h, by decide +kernel⟩
set_option maxRecDepth 100000 in
theorem pk_178 : qd_one pd_178 := ⟨⟨pm_in (j := 5) (i := 101) rfl rfl, pm_in (j := 1) (i := 12) rfl rfl, plainFor_of_name pn_11, pe_11, ps_0, by decide⟩, 11, false, rfl, fun h => Bool.noConfusion h, by decide +kernel⟩
set_option maxRecDepth 100000 in
theorem pk_179 : qd_one pd_179 := ⟨⟨pm_in (j := 7) (i := 59) rfl rfl, pm_in (j := 1) (i := 12) rfl rfl, plainFor_of_name pn_11, pe_11, ps_28, by decide⟩, 11, false, rfl, fun h => Bool.noConfusion h, by decide +kernel⟩
set_option maxRecDepth 100000 in
theorem pk_180 : qd_one pd_180 := ⟨⟨pm_in (j := 7) (i := 3) rfl rfl, pm_in (j := 1) (i := 12) rfl rfl, plainFor_of_name pn_11, pe_11, ps_25, by decide⟩, 11, false, rfl, fun h => Bool.noConfusion h, by decide +kernel⟩
set_option maxRecDepth 100000 in
theorem pk_181 : qd_one pd_181 := ⟨⟨pm_in (j := 6) (i := 227) rfl rfl, pm_in (j := 1) (i := 12) rfl rfl, plainFor_of_name pn_11, pe_11, ps_29, by decide⟩, 11, false, rfl, fun h => Bool.noConfusion h, by decide +kernel⟩
set_option maxRecDepth 100000 in
theorem pk_182 : qd_one pd_182 := ⟨⟨pm_in (j := 7) (i := 19) rfl rfl, pm_in (j := 1) (i := 12) rfl rfl, plainFor_of_name pn_11, pe_11, ps_22, by decide⟩, 11, false, rfl, fun h => Bool.noConfusion h, by decide +kernel⟩
set_option maxRecDepth 100000 in
theorem pk_183 : qd_one pd_183 := ⟨⟨pm_in (j := 7) (i := 27) rfl rfl, pm_in (j := 1) (i := 12) rfl rfl, plainFor_of_name pn_11, pe_11, ps_22, by decide⟩, 11, false, rfl, fun h => Bool.noConfusion h, by decide +kernel⟩
set_option maxRecDepth 100000 in
theorem pk_184 : qd_one pd_184 := ⟨⟨pm_in (j := 7) (i := 23) rfl rfl, pm_in (j := 1) (i := 12) rfl rfl, plainFor_of_name pn_11, pe_11, ps_0, by decide⟩, 11, false, rfl, fun h => Bool.noConfusion h, by decide +kernel⟩
set_option maxRecDepth 100000 in
theorem pk_185 : qd_one pd_185 := ⟨⟨pm_in (j := 7) (i := 15) rfl rfl, pm_in (j := 1) (i := 12) rfl rfl, plainFor_of_name pn_11, pe_11, ps_0, by decide⟩, 11, false, rfl, fun h => Bool.noConfusion h, by decide +kernel⟩
set_option maxRecDepth 100000 in
theorem pk_186 : qd_one pd_186 := ⟨⟨pm_in (j := 7) (i := 11) rfl rfl, pm_in (j := 1) (i := 12) rfl rfl, plainFor_of_name pn_11, pe_11, ps_5, by decide⟩, 11, false, rfl, fun h => Bool.noConfusion h, by decide +kernel⟩
set_option maxRecDepth 100000 in
theorem pk_187 : qd_one pd_187 := ⟨⟨pm_in (j := 6) (i := 239) rfl rfl, pm_in (j := 1) (i := 12) rfl rfl, plainFor_of_name pn_11, pe_11, ps_25, by decide⟩, 11, false, rfl, fun h => Bool.noConfusion h, by decide +kernel⟩
set_option maxRecDepth 100000 in
theorem pk_188 : qd_one pd_188 := ⟨⟨pm_in (j := 7) (i := 7) rfl rfl, pm_in (j := 1) (i := 12) rfl rfl, plainFor_of_name pn_11, pe_11, ps_11, by decide⟩, 11, false, rfl, fun h => Bool.noConfusion h, by decide +kernel⟩
set_option maxRecDepth 100000 in
theorem pk_189 : qd_one pd_189 := ⟨⟨pm_in (j := 6) (i := 234) rfl rfl, pm_in (j := 1) (i := 12) rfl rfl, plainFor_of_name pn_11, pe_11, ps_48, by decide⟩, 11, false, rfl, fun h => Bool.noConfusion h, by decide +kernel⟩
set_option maxRecDepth 100000 in
theorem pk_190 : qd_one pd_190 := ⟨⟨pm_in (j := 6) (i := 223) rfl rfl, pm_in (j := 1) (i := 12) rfl rfl, plainFor_of_name pn_11, pe_11, ps_6, by decide⟩, 11, false, rfl, fun h => Bool.noConfusion h, by decide +kernel⟩
set_option maxRecDepth 100000 in
theorem pk_191 : qd_one pd_191 := ⟨⟨pm_in (j := 7) (i := 63) rfl rfl, pm_in (j := 1) (i := 12) rfl rfl, plainFor_of_name pn_11, pe_11, ps_39, by decide⟩, 11, false, rfl, fun h => Bool.noConfusion h, by decide +kernel⟩
set_option maxRecDepth 100000 in
theorem pk_192 : qd_one pd_192 := ⟨⟨pm_in (j := 7) (i := 76) rfl rfl, pm_in (j := 1) (i := 12) rfl rfl, plainFor_of_name pn_11, pe_11, ps_28, by decide⟩, 11, false, rfl, fun h => Bool.noConfusion h, by decide +kernel⟩
set_option maxRecDepth 100000 in
theorem pk_193 : qd_one pd_193 := ⟨⟨pm_in (j := 7) (i := 84) rfl rfl, pm_in (j := 1) (i := 12) rfl rfl, plainFor_of_name pn_11, pe_11, ps_25, by decide⟩, 11, false, rfl, fun h => Bool.noConfusion h, by decide +kernel⟩
set_option maxRecDepth 100000 in
theorem pk_194 : qd_one pd_194 := ⟨⟨pm_in (j := 7) (i := 80) rfl rfl, pm_in (j := 1) (i := 12) rfl rfl, plainFor_of_name pn_11, pe_11, ps_28, by decide⟩, 11, false, rfl, fun h => Bool.noConfusion h, by decide +kernel⟩
set_option maxRecDepth 100000 in
theorem pk_195 : qd_one pd_195 := ⟨⟨pm_in (j := 7) (i := 39) rfl rfl, pm_in (j := 1) (i := 12) rfl rfl, plainFor_of_name pn_11, pe_11, ps_6, by decide⟩, 11, false, rfl, fun h => Bool.noConfusion h, by decide +kernel⟩
set_option maxRecDepth 100000 in
theorem pk_196 : qd_one pd_196 := ⟨⟨pm_in (j := 7) (i := 43) rfl rfl, pm_in (j := 1) (i := 12) rfl rfl, plainFor_of_name pn_11, pe_11, ps_22, by decide⟩, 11, false, rfl, fun h => Bool.noConfusion h, by decide +kernel⟩
set_option maxRecDepth 100000 in
theorem pk_197 : qd_one pd_197 := ⟨⟨pm_in (j := 7) (i := 31) rfl rfl, pm_in (j := 1) (i := 12) rfl rfl, plainFor_of_name pn_11, pe_11, ps_3, by decide⟩, 11, false, rfl, fun h => Bool.noConfusion h, by decide +kernel⟩
set_option maxRecDepth 100000 in
theorem pk_198 : qd_one pd_198 := ⟨⟨pm_in (j := 7) (i := 47) rfl rfl, pm_in (j := 1) (i := 12) rfl rfl, plainFor_of_name pn_11, pe_11, ps_21, by decide⟩, 11, false, rfl, fun h => Bool.noConfusion h, by decide +kernel⟩
set_option maxRecDepth 100000 in
theorem pk_199 : qd_one pd_199 := ⟨⟨pm_in (j := 7) (i := 35) rfl rfl, pm_in (j := 1) (i := 12) rfl rfl, plainFor_of_name pn_11, pe_11, ps_5, by decide⟩, 11, false, rfl, fun h => Bool.noConfusion h, by decide +kernel⟩
set_option maxRecDepth 100000 in
theorem pk_200 : qd_one pd_200 := ⟨⟨pm_in (j := 6) (i := 219) rfl rfl, pm_in (j := 1) (i := 12) rfl rfl, plainFor_of_name pn_11, pe_11, ps_25, by decide⟩, 11, false, rfl, fun h => Bool.noConfusion h, by decide +kernel⟩
set_option maxRecDepth 100000 in
theorem pk_201 : qd_one pd_201 := ⟨⟨pm_in (j := 7) (i := 51) rfl rfl, pm_in (j := 1) (i := 12) rfl rfl, plainFor_of_name pn_11, pe_11, ps_25, by decide⟩, 11, false, rfl, fun h => Bool.noConfusion h, by decide +kernel⟩
set_option maxRecDepth 100000 in
theorem pk_202 : qd_one pd_202 := ⟨⟨pm_in (j := 7) (i := 88) rfl rfl, pm_in (j := 1) (i := 12) rfl rfl, plainFor_of_name pn_11, pe_11, ps_22, by decide⟩, 11, false, rfl, fun h => Bool.noConfusion h, by decide +kernel⟩
set_option maxRecDepth 100000 in
theorem pk_203 : qd_one pd_203 := ⟨⟨pm_in (j := 7) (i := 92) rfl rfl, pm_in (j := 1) (i := 12) rfl rfl, plainFor_of_name pn_11, pe_11, ps_28, by decide⟩, 11, false, rfl, fun h => Bool.noConfusion h, by decide +kernel⟩
set_option maxRecDepth 100000 in
theorem pk_204 : qd_one pd_204 := ⟨⟨pm_in (j := 7) (i := 117) rfl rfl, pm_in (j := 1) (i := 12) rfl rfl, plainFor_of_name pn_11, pe_11, ps_50, by decide⟩, 11, false, rfl, fun h => Bool.noConfusion h, by decide +kernel⟩
set_option maxRecDepth 100000 in
theorem pk_205 : qd_one pd_205 := ⟨⟨pm_in (j := 7) (i := 113) rfl rfl, pm_in (j := 1) (i := 12) rfl rfl, plainFor_of_name pn_11, pe_11, ps_51, by decide⟩, 11, false, rfl, fun h => Bool.noConfusion h, by decide +kernel⟩
set_option maxRecDepth 100000 in
theorem pk_206 : qd_one pd_206 := ⟨⟨pm_in (j := 7) (i := 105) rfl rfl, pm_in (j := 1) (i := 12) rfl rfl, plainFor_of_name pn_11, pe_11, ps_25, by decide⟩, 11, false, rfl, fun h => Bool.noConfusion h, by decide +kernel⟩
set_option maxRecDepth 100000 in
theorem pk_207 : qd_one pd_207 := ⟨⟨pm_in (j := 7) (i := 109) rfl rfl, pm_in (j := 1) (i := 12) rfl rfl, plainFor_of_name pn_11, pe_11, ps_25, by decide⟩, 11, false, rfl, fun h => Bool.noConfusion h, by decide +kernel⟩
set_option maxRecDepth 100000 in
theorem pk_208 : qd_one pd_208 := ⟨⟨pm_in (j := 7) (i := 159) rfl rfl, pm_in (j := 1) (i := 12) rfl rfl, plainFor_of_name pn_11, pe_11, ps_25, by decide⟩, 11, false, rfl, fun h => Bool.noConfusion h, by decide +kernel⟩
set_option maxRecDepth 100000 in
theorem pk_209 : qd_one pd_209 := ⟨⟨pm_in (j := 7) (i := 155) rfl rfl, pm_in (j := 1) (i := 12) rfl rfl, plainFor_of_name pn_11, pe_11, ps_26, by decide⟩, 11, false, rfl, fun h => Bool.noConfusion h, by decide +kernel⟩

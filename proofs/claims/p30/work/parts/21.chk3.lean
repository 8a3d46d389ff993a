set_option maxRecDepth 100000 in
theorem pk_210 : qd_one pd_210 := ⟨⟨pm_in (j := 7) (i := 151) rfl rfl, pm_in (j := 1) (i := 12) rfl rfl, plainFor_of_name pn_11, pe_11, ps_21, by decide⟩, 11, false, rfl, fun h => Bool.noConfusion h, by decide +kernel⟩
set_option maxRecDepth 100000 in
theorem pk_211 : qd_one pd_211 := ⟨⟨pm_in (j := 7) (i := 147) rfl rfl, pm_in (j := 1) (i := 12) rfl rfl, plainFor_of_name pn_11, pe_11, ps_25, by decide⟩, 11, false, rfl, fun h => Bool.noConfusion h, by decide +kernel⟩
set_option maxRecDepth 100000 in
theorem pk_212 : qd_one pd_212 := ⟨⟨pm_in (j := 7) (i := 101) rfl rfl, pm_in (j := 1) (i := 12) rfl rfl, plainFor_of_name pn_11, pe_11, ps_25, by decide⟩, 11, false, rfl, fun h => Bool.noConfusion h, by decide +kernel⟩
set_option maxRecDepth 100000 in
theorem pk_213 : qd_one pd_213 := ⟨⟨pm_in (j := 7) (i := 183) rfl rfl, pm_in (j := 1) (i := 12) rfl rfl, plainFor_of_name pn_11, pe_11, ps_52, by decide⟩, 11, false, rfl, fun h => Bool.noConfusion h, by decide +kernel⟩
set_option maxRecDepth 100000 in
theorem pk_214 : qd_one pd_214 := ⟨⟨pm_in (j := 7) (i := 122) rfl rfl, pm_in (j := 1) (i := 12) rfl rfl, plainFor_of_name pn_11, pe_11, ps_53, by decide⟩, 11, false, rfl, fun h => Bool.noConfusion h, by decide +kernel⟩
set_option maxRecDepth 100000 in
theorem pk_215 : qd_one pd_215 := ⟨⟨pm_in (j := 7) (i := 96) rfl rfl, pm_in (j := 1) (i := 12) rfl rfl, plainFor_of_name pn_11, pe_11, ps_39, by decide⟩, 11, false, rfl, fun h => Bool.noConfusion h, by decide +kernel⟩
set_option maxRecDepth 100000 in
theorem pk_216 : qd_one pd_216 := ⟨⟨pm_in (j := 7) (i := 131) rfl rfl, pm_in (j := 1) (i := 12) rfl rfl, plainFor_of_name pn_11, pe_11, ps_21, by decide⟩, 11, false, rfl, fun h => Bool.noConfusion h, by decide +kernel⟩
set_option maxRecDepth 100000 in
theorem pk_217 : qd_one pd_217 := ⟨⟨pm_in (j := 7) (i := 126) rfl rfl, pm_in (j := 1) (i := 12) rfl rfl, plainFor_of_name pn_11, pe_11, ps_28, by decide⟩, 11, false, rfl, fun h => Bool.noConfusion h, by decide +kernel⟩
set_option maxRecDepth 100000 in
theorem pk_218 : qd_one pd_218 := ⟨⟨pm_in (j := 7) (i := 139) rfl rfl, pm_in (j := 1) (i := 12) rfl rfl, plainFor_of_name pn_11, pe_11, ps_6, by decide⟩, 11, false, rfl, fun h => Bool.noConfusion h, by decide +kernel⟩
set_option maxRecDepth 100000 in
theorem pk_219 : qd_one pd_219 := ⟨⟨pm_in (j := 7) (i := 163) rfl rfl, pm_in (j := 1) (i := 12) rfl rfl, plainFor_of_name pn_11, pe_11, ps_6, by decide⟩, 11, false, rfl, fun h => Bool.noConfusion h, by decide +kernel⟩
set_option maxRecDepth 100000 in
theorem pk_220 : qd_one pd_220 := ⟨⟨pm_in (j := 7) (i := 135) rfl rfl, pm_in (j := 1) (i := 12) rfl rfl, plainFor_of_name pn_11, pe_11, ps_22, by decide⟩, 11, false, rfl, fun h => Bool.noConfusion h, by decide +kernel⟩
set_option maxRecDepth 100000 in
theorem pk_221 : qd_one pd_221 := ⟨⟨pm_in (j := 7) (i := 167) rfl rfl, pm_in (j := 1) (i := 12) rfl rfl, plainFor_of_name pn_11, pe_11, ps_28, by decide⟩, 11, false, rfl, fun h => Bool.noConfusion h, by decide +kernel⟩
set_option maxRecDepth 100000 in
theorem pk_222 : qd_one pd_222 := ⟨⟨pm_in (j := 7) (i := 175) rfl rfl, pm_in (j := 1) (i := 12) rfl rfl, plainFor_of_name pn_11, pe_11, ps_11, by decide⟩, 11, false, rfl, fun h => Bool.noConfusion h, by decide +kernel⟩
set_option maxRecDepth 100000 in
theorem pk_223 : qd_one pd_223 := ⟨⟨pm_in (j := 7) (i := 171) rfl rfl, pm_in (j := 1) (i := 12) rfl rfl, plainFor_of_name pn_11, pe_11, ps_22, by decide⟩, 11, false, rfl, fun h => Bool.noConfusion h, by decide +kernel⟩
set_option maxRecDepth 100000 in
theorem pk_224 : qd_one pd_224 := ⟨⟨pm_in (j := 7) (i := 179) rfl rfl, pm_in (j := 1) (i := 12) rfl rfl, plainFor_of_name pn_11, pe_11, ps_40, by decide⟩, 11, false, rfl, fun h => Bool.noConfusion h, by decide +kernel⟩
set_option maxRecDepth 100000 in
theorem pk_225 : qd_one pd_225 := ⟨⟨pm_in (j := 7) (i := 192) rfl rfl, pm_in (j := 1) (i := 12) rfl rfl, plainFor_of_name pn_11, pe_11, ps_11, by decide⟩, 11, false, rfl, fun h => Bool.noConfusion h, by decide +kernel⟩
set_option maxRecDepth 100000 in
theorem pk_226 : qd_one pd_226 := ⟨⟨pm_in (j := 7) (i := 188) rfl rfl, pm_in (j := 1) (i := 12) rfl rfl, plainFor_of_name pn_11, pe_11, ps_41, by decide⟩, 11, false, rfl, fun h => Bool.noConfusion h, by decide +kernel⟩
set_option maxRecDepth 100000 in
theorem pk_227 : qd_one pd_227 := ⟨⟨pm_in (j := 7) (i := 208) rfl rfl, pm_in (j := 1) (i := 12) rfl rfl, plainFor_of_name pn_11, pe_11, ps_54, by decide⟩, 11, false, rfl, fun h => Bool.noConfusion h, by decide +kernel⟩
set_option maxRecDepth 100000 in
theorem pk_228 : qd_one pd_228 := ⟨⟨pm_in (j := 7) (i := 204) rfl rfl, pm_in (j := 1) (i := 12) rfl rfl, plainFor_of_name pn_11, pe_11, ps_0, by decide⟩, 11, false, rfl, fun h => Bool.noConfusion h, by decide +kernel⟩
set_option maxRecDepth 100000 in
theorem pk_229 : qd_one pd_229 := ⟨⟨pm_in (j := 7) (i := 200) rfl rfl, pm_in (j := 1) (i := 12) rfl rfl, plainFor_of_name pn_11, pe_11, ps_0, by decide⟩, 11, false, rfl, fun h => Bool.noConfusion h, by decide +kernel⟩
set_option maxRecDepth 100000 in
theorem pk_230 : qd_one pd_230 := ⟨⟨pm_in (j := 7) (i := 196) rfl rfl, pm_in (j := 1) (i := 12) rfl rfl, plainFor_of_name pn_11, pe_11, ps_42, by decide⟩, 11, false, rfl, fun h => Bool.noConfusion h, by decide +kernel⟩
set_option maxRecDepth 100000 in
theorem pk_231 : qd_one pd_231 := ⟨⟨pm_in (j := 7) (i := 217) rfl rfl, pm_in (j := 1) (i := 12) rfl rfl, plainFor_of_name pn_11, pe_11, ps_3, by decide⟩, 11, false, rfl, fun h => Bool.noConfusion h, by decide +kernel⟩
set_option maxRecDepth 100000 in
theorem pk_232 : qd_one pd_232 := ⟨⟨pm_in (j := 7) (i := 221) rfl rfl, pm_in (j := 1) (i := 12) rfl rfl, plainFor_of_name pn_11, pe_11, ps_3, by decide⟩, 11, false, rfl, fun h => Bool.noConfusion h, by decide +kernel⟩
set_option maxRecDepth 100000 in
theorem pk_233 : qd_one pd_233 := ⟨⟨pm_in (j := 7) (i := 225) rfl rfl, pm_in (j := 1) (i := 12) rfl rfl, plainFor_of_name pn_11, pe_11, ps_6, by decide⟩, 11, false, rfl, fun h => Bool.noConfusion h, by decide +kernel⟩
set_option maxRecDepth 100000 in
theorem pk_234 : qd_one pd_234 := ⟨⟨pm_in (j := 7) (i := 237) rfl rfl, pm_in (j := 1) (i := 12) rfl rfl, plainFor_of_name pn_11, pe_11, ps_6, by decide⟩, 11, false, rfl, fun h => Bool.noConfusion h, by decide +kernel⟩
set_option maxRecDepth 100000 in
theorem pk_235 : qd_one pd_235 := ⟨⟨pm_in (j := 7) (i := 212) rfl rfl, pm_in (j := 1) (i := 12) rfl rfl, plainFor_of_name pn_11, pe_11, ps_28, by decide⟩, 11, false, rfl, fun h => Bool.noConfusion h, by decide +kernel⟩
set_option maxRecDepth 100000 in
theorem pk_236 : qd_one pd_236 := ⟨⟨pm_in (j := 7) (i := 229) rfl rfl, pm_in (j := 1) (i := 12) rfl rfl, plainFor_of_name pn_11, pe_11, ps_0, by decide⟩, 11, false, rfl, fun h => Bool.noConfusion h, by decide +kernel⟩
set_option maxRecDepth 100000 in
theorem pk_237 : qd_one pd_237 := ⟨⟨pm_in (j := 7) (i := 233) rfl rfl, pm_in (j := 1) (i := 12) rfl rfl, plainFor_of_name pn_11, pe_11, ps_5, by decide⟩, 11, false, rfl, fun h => Bool.noConfusion h, by decide +kernel⟩
set_option maxRecDepth 100000 in
theorem pk_238 : qd_one pd_238 := ⟨⟨pm_in (j := 8) (i := 1) rfl rfl, pm_in (j := 1) (i := 12) rfl rfl, plainFor_of_name pn_11, pe_11, ps_22, by decide⟩, 11, false, rfl, fun h => Bool.noConfusion h, by decide +kernel⟩
set_option maxRecDepth 100000 in
theorem pk_239 : qd_one pd_239 := ⟨⟨pm_in (j := 8) (i := 17) rfl rfl, pm_in (j := 1) (i := 12) rfl rfl, plainFor_of_name pn_11, pe_11, ps_52, by decide⟩, 11, false, rfl, fun h => Bool.noConfusion h, by decide +kernel⟩
set_option maxRecDepth 100000 in
theorem pk_240 : qd_one pd_240 := ⟨⟨pm_in (j := 8) (i := 13) rfl rfl, pm_in (j := 1) (i := 12) rfl rfl, plainFor_of_name pn_11, pe_11, ps_0, by decide⟩, 11, false, rfl, fun h => Bool.noConfusion h, by decide +kernel⟩
set_option maxRecDepth 100000 in
theorem pk_241 : qd_one pd_241 := ⟨⟨pm_in (j := 8) (i := 9) rfl rfl, pm_in (j := 1) (i := 12) rfl rfl, plainFor_of_name pn_11, pe_11, ps_52, by decide⟩, 11, false, rfl, fun h => Bool.noConfusion h, by decide +kernel⟩
set_option maxRecDepth 100000 in
theorem pk_242 : qd_one pd_242 := ⟨⟨pm_in (j := 8) (i := 5) rfl rfl, pm_in (j := 1) (i := 12) rfl rfl, plainFor_of_name pn_11, pe_11, ps_29, by decide⟩, 11, false, rfl, fun h => Bool.noConfusion h, by decide +kernel⟩
set_option maxRecDepth 100000 in
theorem pk_243 : qd_one pd_243 := ⟨⟨pm_in (j := 8) (i := 21) rfl rfl, pm_in (j := 1) (i := 12) rfl rfl, plainFor_of_name pn_11, pe_11, ps_39, by decide⟩, 11, false, rfl, fun h => Bool.noConfusion h, by decide +kernel⟩
set_option maxRecDepth 100000 in
theorem pk_244 : qd_one pd_244 := ⟨⟨pm_in (j := 8) (i := 25) rfl rfl, pm_in (j := 1) (i := 12) rfl rfl, plainFor_of_name pn_11, pe_11, ps_29, by decide⟩, 11, false, rfl, fun h => Bool.noConfusion h, by decide +kernel⟩
set_option maxRecDepth 100000 in
theorem pk_245 : qd_one pd_245 := ⟨⟨pm_in (j := 8) (i := 33) rfl rfl, pm_in (j := 1) (i := 12) rfl rfl, plainFor_of_name pn_11, pe_11, ps_25, by decide⟩, 11, false, rfl, fun h => Bool.noConfusion h, by decide +kernel⟩
set_option maxRecDepth 100000 in
theorem pk_246 : qd_one pd_246 := ⟨⟨pm_in (j := 8) (i := 29) rfl rfl, pm_in (j := 1) (i := 12) rfl rfl, plainFor_of_name pn_11, pe_11, ps_3, by decide⟩, 11, false, rfl, fun h => Bool.noConfusion h, by decide +kernel⟩
set_option maxRecDepth 100000 in
theorem pk_247 : qd_one pd_247 := ⟨⟨pm_in (j := 8) (i := 37) rfl rfl, pm_in (j := 1) (i := 12) rfl rfl, plainFor_of_name pn_11, pe_11, ps_3, by decide⟩, 11, false, rfl, fun h => Bool.noConfusion h, by decide +kernel⟩
set_option maxRecDepth 100000 in
theorem pk_248 : qd_one pd_248 := ⟨⟨pm_in (j := 8) (i := 49) rfl rfl, pm_in (j := 1) (i := 12) rfl rfl, plainFor_of_name pn_11, pe_11, ps_28, by decide⟩, 11, false, rfl, fun h => Bool.noConfusion h, by decide +kernel⟩
set_option maxRecDepth 100000 in
theorem pk_249 : qd_one pd_249 := ⟨⟨pm_in (j := 8) (i := 45) rfl rfl, pm_in (j := 1) (i := 12) rfl rfl, plainFor_of_name pn_11, pe_11, ps_6, by decide⟩, 11, false, rfl, fun h => Bool.noConfusion h, by decide +kernel⟩
set_option maxRecDepth 100000 in
theorem pk_250 : qd_one pd_250 := ⟨⟨pm_in (j := 8) (i := 53) rfl rfl, pm_in (j := 1) (i := 12) rfl rfl, plainFor_of_name pn_11, pe_11, ps_0, by decide⟩, 11, false, rfl, fun h => Bool.noConfusion h, by decide +kernel⟩
set_option maxRecDepth 100000 in
theorem pk_251 : qd_one pd_251 := ⟨⟨pm_in (j := 8) (i := 61) rfl rfl, pm_in (j := 1) (i := 12) rfl rfl, plainFor_of_name pn_11, pe_11, ps_55, by decide⟩, 11, false, rfl, fun h => Bool.noConfusion h, by decide +kernel⟩
set_option maxRecDepth 100000 in
theorem pk_252 : qd_one pd_252 := ⟨⟨pm_in (j := 8) (i := 57) rfl rfl, pm_in (j := 1) (i := 12) rfl rfl, plainFor_of_name pn_11, pe_11, ps_3, by decide⟩, 11, false, rfl, fun h => Bool.noConfusion h, by decide +kernel⟩
set_option maxRecDepth 100000 in
theorem pk_253 : qd_one pd_253 := ⟨⟨pm_in (j := 8) (i := 41) rfl rfl, pm_in (j := 1) (i := 12) rfl rfl, plainFor_of_name pn_11, pe_11, ps_5, by decide⟩, 11, false, rfl, fun h => Bool.noConfusion h, by decide +kernel⟩
set_option maxRecDepth 100000 in
theorem pk_254 : qd_one pd_254 := ⟨⟨pm_in (j := 8) (i := 68) rfl rfl, pm_in (j := 1) (i := 12) rfl rfl, plainFor_of_name pn_11, pe_11, ps_6, by decide⟩, 11, false, rfl, fun h => Bool.noConfusion h, by decide +kernel⟩
set_option maxRecDepth 100000 in
theorem pk_255 : qd_one pd_255 := ⟨⟨pm_in (j := 8) (i := 65) rfl rfl, pm_in (j := 1) (i := 12) rfl rfl, plainFor_of_name pn_11, pe_11, ps_29, by decide⟩, 11, false, rfl, fun h => Bool.noConfusion h, by decide +kernel⟩
set_option maxRecDepth 100000 in
theorem pk_256 : qd_one pd_256 := ⟨⟨pm_in (j := 8) (i := 72) rfl rfl, pm_in (j := 1) (i := 12) rfl rfl, plainFor_of_name pn_11, pe_11, ps_29, by decide⟩, 11, false, rfl, fun h => Bool.noConfusion h, by decide +kernel⟩
set_option maxRecDepth 100000 in
theorem pk_257 : qd_one pd_257 := ⟨⟨pm_in (j := 8) (i := 76) rfl rfl, pm_in (j := 1) (i := 12) rfl rfl, plainFor_of_name pn_11, pe_11, ps_22, by decide⟩, 11, false, rfl, fun h => Bool.noConfusion h, by decide +kernel⟩
set_option maxRecDepth 100000 in
theorem pk_258 : qd_one pd_258 := ⟨⟨pm_in (j := 4) (i := 201) rfl rfl, pm_in (j := 1) (i := 13) rfl rfl, by decide +kernel, pe_12, ps_54, by decide⟩, 12, false, rfl, fun h => Bool.noConfusion h, by decide +kernel⟩
set_option maxRecDepth 100000 in
theorem pk_259 : qd_one pd_259 := ⟨⟨pm_in (j := 4) (i := 125) rfl rfl, pm_in (j := 1) (i := 13) rfl rfl, by decide +kernel, pe_12, ps_22, by decide⟩, 12, false, rfl, fun h => Bool.noConfusion h, by decide +kernel⟩
set_option maxRecDepth 100000 in
theorem pk_260 : qd_one pd_260 := ⟨⟨pm_in (j := 4) (i := 86) rfl rfl, pm_in (j := 1) (i := 13) rfl rfl, by decide +kernel, pe_12, ps_53, by decide⟩, 12, false, rfl, fun h => Bool.noConfusion h, by decide +kernel⟩
set_option maxRecDepth 100000 in
theorem pk_261 : qd_one pd_261 := ⟨⟨pm_in (j := 4) (i := 232) rfl rfl, pm_in (j := 1) (i := 13) rfl rfl, by decide +kernel, pe_12, ps_28, by decide⟩, 12, false, rfl, fun h => Bool.noConfusion h, by decide +kernel⟩
set_option maxRecDepth 100000 in
theorem pk_262 : qd_one pd_262 := ⟨⟨pm_in (j := 3) (i := 211) rfl rfl, pm_in (j := 1) (i := 13) rfl rfl, by decide +kernel, pe_12, ps_54, by decide⟩, 12, false, rfl, fun h => Bool.noConfusion h, by decide +kernel⟩
set_option maxRecDepth 100000 in
theorem pk_263 : qd_one pd_263 := ⟨⟨pm_in (j := 3) (i := 11) rfl rfl, pm_in (j := 1) (i := 13) rfl rfl, by decide +kernel, pe_12, ps_28, by decide⟩, 12, false, rfl, fun h => Bool.noConfusion h, by decide +kernel⟩
theorem pkr_0 : ∀ x ∈ pr_0, qd_one x := List.forall_mem_cons.mpr ⟨pk_1, List.forall_mem_cons.mpr ⟨pk_2, List.forall_mem_cons.mpr ⟨pk_3, List.forall_mem_cons.mpr ⟨pk_4, List.forall_mem_cons.mpr ⟨pk_5, List.forall_mem_cons.mpr ⟨pk_6, List.forall_mem_cons.mpr ⟨pk_7, List.forall_mem_cons.mpr ⟨pk_8, List.forall_mem_cons.mpr ⟨pk_9, List.forall_mem_cons.mpr ⟨pk_10, List.forall_mem_cons.mpr ⟨pk_11, List.forall_mem_cons.mpr ⟨pk_12, List.forall_mem_cons.mpr ⟨pk_13, List.forall_mem_cons.mpr ⟨pk_14, List.forall_mem_cons.mpr ⟨pk_15, List.forall_mem_cons.mpr ⟨pk_16, fun _ h => absurd h List.not_mem_nil⟩⟩⟩⟩⟩⟩⟩⟩⟩⟩⟩⟩⟩⟩⟩⟩
theorem pkr_1 : ∀ x ∈ pr_1, qd_one x := List.forall_mem_cons.mpr ⟨pk_17, List.forall_mem_cons.mpr ⟨pk_18, List.forall_mem_cons.mpr ⟨pk_19, List.forall_mem_cons.mpr ⟨pk_20, List.forall_mem_cons.mpr ⟨pk_21, List.forall_mem_cons.mpr ⟨pk_22, List.forall_mem_cons.mpr ⟨pk_23, List.forall_mem_cons.mpr ⟨pk_24, List.forall_mem_cons.mpr ⟨pk_25, List.forall_mem_cons.mpr ⟨pk_26, List.forall_mem_cons.mpr ⟨pk_27, List.forall_mem_cons.mpr ⟨pk_28, List.forall_mem_cons.mpr ⟨pk_29, List.forall_mem_cons.mpr ⟨pk_30, List.forall_mem_cons.mpr ⟨pk_31, List.forall_mem_cons.mpr ⟨pk_32, fun _ h => absurd h List.not_mem_nil⟩⟩⟩⟩⟩⟩⟩⟩⟩⟩⟩⟩⟩⟩⟩⟩
theorem pkr_2 : ∀ x ∈ pr_2, qd_one x := List.forall_mem_cons.mpr ⟨pk_33, List.forall_mem_cons.mpr ⟨pk_34, List.forall_mem_cons.mpr ⟨pk_35, List.forall_mem_cons.mpr ⟨pk_36, List.forall_mem_cons.mpr ⟨pk_37, List.forall_mem_cons.mpr ⟨pk_38, List.forall_mem_cons.mpr ⟨pk_39, List.forall_mem_cons.mpr ⟨pk_40, List.forall_mem_cons.mpr ⟨pk_41, List.forall_mem_cons.mpr ⟨pk_42, List.forall_mem_cons.mpr ⟨pk_43, List.forall_mem_cons.mpr ⟨pk_44, List.forall_mem_cons.mpr ⟨pk_45, List.forall_mem_cons.mpr ⟨pk_46, List.forall_mem_cons.mpr ⟨pk_47, List.forall_mem_cons.mpr ⟨pk_48, fun _ h => absurd h List.not_mem_nil⟩⟩⟩⟩⟩⟩⟩⟩⟩⟩⟩⟩⟩⟩⟩⟩
theorem pkr_3 : ∀ x ∈ pr_3, qd_one x := List.forall_mem_cons.mpr ⟨pk_49, List.forall_mem_cons.mpr ⟨pk_50, List.forall_mem_cons.mpr ⟨pk_51, List.forall_mem_cons.mpr ⟨pk_52, List.forall_mem_cons.mpr ⟨pk_53, List.forall_mem_cons.mpr ⟨pk_54, List.forall_mem_cons.mpr ⟨pk_55, List.forall_mem_cons.mpr ⟨pk_56, List.forall_mem_cons.mpr ⟨pk_57, List.forall_mem_cons.mpr ⟨pk_58, List.forall_mem_cons.mpr ⟨pk_59, List.forall_mem_cons.mpr ⟨pk_60, List.forall_mem_cons.mpr ⟨pk_61, List.forall_mem_cons.mpr ⟨pk_62, List.forall_mem_cons.mpr ⟨pk_63, List.forall_mem_cons.mpr ⟨pk_64, fun _ h => absurd h List.not_mem_nil⟩⟩⟩⟩⟩⟩⟩⟩⟩⟩⟩⟩⟩⟩⟩⟩
theorem pkr_4 : ∀ x ∈ pr_4, qd_one x := List.forall_mem_cons.mpr ⟨pk_65, List.forall_mem_cons.mpr ⟨pk_66, List.forall_mem_cons.mpr ⟨pk_67, List.forall_mem_cons.mpr ⟨pk_68, List.forall_mem_cons.mpr ⟨pk_69, List.forall_mem_cons.mpr ⟨pk_70, List.forall_mem_cons.mpr ⟨pk_71, List.forall_mem_cons.mpr ⟨pk_72, List.forall_mem_cons.mpr ⟨pk_73, List.forall_mem_cons.mpr ⟨pk_74, List.forall_mem_cons.mpr ⟨pk_75, List.forall_mem_cons.mpr ⟨pk_76, List.forall_mem_cons.mpr ⟨pk_77, List.forall_mem_cons.mpr ⟨pk_78, List.forall_mem_cons.mpr ⟨pk_79, List.forall_mem_cons.mpr ⟨pk_80, fun _ h => absurd h List.not_mem_nil⟩⟩⟩⟩⟩⟩⟩⟩⟩⟩⟩⟩⟩⟩⟩⟩
theorem pkr_5 : ∀ x ∈ pr_5, qd_one x := List.forall_mem_cons.mpr ⟨pk_81, List.forall_mem_cons.mpr ⟨pk_82, List.forall_mem_cons.mpr ⟨pk_83, List.forall_mem_cons.mpr ⟨pk_84, List.forall_mem_cons.mpr ⟨pk_85, List.forall_mem_cons.mpr ⟨pk_86, List.forall_mem_cons.mpr ⟨pk_87, List.forall_mem_cons.mpr ⟨pk_88, List.forall_mem_cons.mpr ⟨pk_89, List.forall_mem_cons.mpr ⟨pk_90, List.forall_mem_cons.mpr ⟨pk_91, List.forall_mem_cons.mpr ⟨pk_92, List.forall_mem_cons.mpr ⟨pk_93, List.forall_mem_cons.mpr ⟨pk_94, List.forall_mem_cons.mpr ⟨pk_95, List.forall_mem_cons.mpr ⟨pk_96, fun _ h => absurd h List.not_mem_nil⟩⟩⟩⟩⟩⟩⟩⟩⟩⟩⟩⟩⟩⟩⟩⟩
theorem pkr_6 : ∀ x ∈ pr_6, qd_one x := List.forall_mem_cons.mpr ⟨pk_97, List.forall_mem_cons.mpr ⟨pk_98, List.forall_mem_cons.mpr ⟨pk_99, List.forall_mem_cons.mpr ⟨pk_100, List.forall_mem_cons.mpr ⟨pk_101, List.forall_mem_cons.mpr ⟨pk_102, List.forall_mem_cons.mpr ⟨pk_103, List.forall_mem_cons.mpr ⟨pk_104, List.forall_mem_cons.mpr ⟨pk_105, List.forall_mem_cons.mpr ⟨pk_106, List.forall_mem_cons.mpr ⟨pk_107, List.forall_mem_cons.mpr ⟨pk_108, List.forall_mem_cons.mpr ⟨pk_109, List.forall_mem_cons.mpr ⟨pk_110, List.forall_mem_cons.mpr ⟨pk_111, List.forall_mem_cons.mpr ⟨pk_112, fun _ h => absurd h List.not_mem_nil⟩⟩⟩⟩⟩⟩⟩⟩⟩⟩⟩⟩⟩⟩⟩⟩
theorem pkr_7 : ∀ x ∈ pr_7, qd_one x := List.forall_mem_cons.mpr ⟨pk_113, List.forall_mem_cons.mpr ⟨pk_114, List.forall_mem_cons.mpr ⟨pk_115, List.forall_mem_cons.mpr ⟨pk_116, List.forall_mem_cons.mpr ⟨pk_117, List.forall_mem_cons.mpr ⟨pk_118, List.forall_mem_cons.mpr ⟨pk_119, List.forall_mem_cons.mpr ⟨pk_120, List.forall_mem_cons.mpr ⟨pk_121, List.forall_mem_cons.mpr ⟨pk_122, List.forall_mem_cons.mpr ⟨pk_123, List.forall_mem_cons.mpr ⟨pk_124, List.forall_mem_cons.mpr ⟨pk_125, List.forall_mem_cons.mpr ⟨pk_126, List.forall_mem_cons.mpr ⟨pk_127, List.forall_mem_cons.mpr ⟨pk_128, fun _ h => absurd h List.not_mem_nil⟩⟩⟩⟩⟩⟩⟩⟩⟩⟩⟩⟩⟩⟩⟩⟩
theorem pkr_8 : ∀ x ∈ pr_8, qd_one x := List.forall_mem_cons.mpr ⟨pk_129, List.forall_mem_cons.mpr ⟨pk_130, List.forall_mem_cons.mpr ⟨pk_131, List.forall_mem_cons.mpr ⟨pk_132, List.forall_mem_cons.mpr ⟨pk_133, List.forall_mem_cons.mpr ⟨pk_134, List.forall_mem_cons.mpr ⟨pk_135, List.forall_mem_cons.mpr ⟨pk_136, List.forall_mem_cons.mpr ⟨pk_137, List.forall_mem_cons.mpr ⟨pk_138, List.forall_mem_cons.mpr ⟨pk_139, List.forall_mem_cons.mpr ⟨pk_140, List.forall_mem_cons.mpr ⟨pk_141, List.forall_mem_cons.mpr ⟨pk_142, List.forall_mem_cons.mpr ⟨pk_143, List.forall_mem_cons.mpr ⟨pk_144, fun _ h => absurd h List.not_mem_nil⟩⟩⟩⟩⟩⟩⟩⟩⟩⟩⟩⟩⟩⟩⟩⟩
theorem pkr_9 : ∀ x ∈ pr_9, qd_one x := List.forall_mem_cons.mpr ⟨pk_145, List.forall_mem_cons.mpr ⟨pk_146, List.forall_mem_cons.mpr ⟨pk_147, List.forall_mem_cons.mpr ⟨pk_148, List.forall_mem_cons.mpr ⟨pk_149, List.forall_mem_cons.mpr ⟨pk_150, List.forall_mem_cons.mpr ⟨pk_151, List.forall_mem_cons.mpr ⟨pk_152, List.forall_mem_cons.mpr ⟨pk_153, List.forall_mem_cons.mpr ⟨pk_154, List.forall_mem_cons.mpr ⟨pk_155, List.forall_mem_cons.mpr ⟨pk_156, List.forall_mem_cons.mpr ⟨pk_157, List.forall_mem_cons.mpr ⟨pk_158, List.forall_mem_cons.mpr ⟨pk_159, List.forall_mem_cons.mpr ⟨pk_160, fun _ h => absurd h List.not_mem_nil⟩⟩⟩⟩⟩⟩⟩⟩⟩⟩⟩⟩⟩⟩⟩⟩
theorem pkr_10 : ∀ x ∈ pr_10, qd_one x := List.forall_mem_cons.mpr ⟨pk_161, List.forall_mem_cons.mpr ⟨pk_162, List.forall_mem_cons.mpr ⟨pk_163, List.forall_mem_cons.mpr ⟨pk_164, List.forall_mem_cons.mpr ⟨pk_165, List.forall_mem_cons.mpr ⟨pk_166, List.forall_mem_cons.mpr ⟨pk_167, List.forall_mem_cons.mpr ⟨pk_168, List.forall_mem_cons.mpr ⟨pk_169, List.forall_mem_cons.mpr ⟨pk_170, List.forall_mem_cons.mpr ⟨pk_171, List.forall_mem_cons.mpr ⟨pk_172, List.forall_mem_cons.mpr ⟨pk_173, List.forall_mem_cons.mpr ⟨pk_174, List.forall_mem_cons.mpr ⟨pk_175, List.forall_mem_cons.mpr ⟨pk_176, fun _ h => absurd h List.not_mem_nil⟩⟩⟩⟩⟩⟩⟩⟩⟩⟩⟩⟩⟩⟩⟩⟩
theorem pkr_11 : ∀ x ∈ pr_11, qd_one x := List.forall_mem_cons.mpr ⟨pk_177, List.forall_mem_cons.mpr ⟨pk_178, List.forall_mem_cons.mpr ⟨pk_179, List.forall_mem_cons.mpr ⟨pk_180, List.forall_mem_cons.mpr ⟨pk_181, List.forall_mem_cons.mpr ⟨pk_182, List.forall_mem_cons.mpr ⟨pk_183, List.forall_mem_cons.mpr ⟨pk_184, List.forall_mem_cons.mpr ⟨pk_185, List.forall_mem_cons.mpr ⟨pk_186, List.forall_mem_cons.mpr ⟨pk_187, List.forall_mem_cons.mpr ⟨pk_188, List.forall_mem_cons.mpr ⟨pk_189, List.forall_mem_cons.mpr ⟨pk_190, List.forall_mem_cons.mpr ⟨pk_191, List.forall_mem_cons.mpr ⟨pk_192, fun _ h => absurd h List.not_mem_nil⟩⟩⟩⟩⟩⟩⟩⟩⟩⟩⟩⟩⟩⟩⟩⟩
theorem pkr_12 : ∀ x ∈ pr_12, qd_one x := List.forall_mem_cons.mpr ⟨pk_193, List.forall_mem_cons.mpr ⟨pk_194, List.forall_mem_cons.mpr ⟨pk_195, List.forall_mem_cons.mpr ⟨pk_196, List.forall_mem_cons.mpr ⟨pk_197, List.forall_mem_cons.mpr ⟨pk_198, List.forall_mem_cons.mpr ⟨pk_199, List.forall_mem_cons.mpr ⟨pk_200, List.forall_mem_cons.mpr ⟨pk_201, List.forall_mem_cons.mpr ⟨pk_202, List.forall_mem_cons.mpr ⟨pk_203, List.forall_mem_cons.mpr ⟨pk_204, List.forall_mem_cons.mpr ⟨pk_205, List.forall_mem_cons.mpr ⟨pk_206, List.forall_mem_cons.mpr ⟨pk_207, List.forall_mem_cons.mpr ⟨pk_208, fun _ h => absurd h List.not_mem_nil⟩⟩⟩⟩⟩⟩⟩⟩⟩⟩⟩⟩⟩⟩⟩⟩
theorem pkr_13 : ∀ x ∈ pr_13, qd_one x := List.forall_mem_cons.mpr ⟨pk_209, List.forall_mem_cons.mpr ⟨pk_210, List.forall_mem_cons.mpr ⟨pk_211, List.forall_mem_cons.mpr ⟨pk_212, List.forall_mem_cons.mpr ⟨pk_213, List.forall_mem_cons.mpr ⟨pk_214, List.forall_mem_cons.mpr ⟨pk_215, List.forall_mem_cons.mpr ⟨pk_216, List.forall_mem_cons.mpr ⟨pk_217, List.forall_mem_cons.mpr ⟨pk_218, List.forall_mem_cons.mpr ⟨pk_219, List.forall_mem_cons.mpr ⟨pk_220, List.forall_mem_cons.mpr ⟨pk_221, List.forall_mem_cons.mpr ⟨pk_222, List.forall_mem_cons.mpr ⟨pk_223, List.forall_mem_cons.mpr ⟨pk_224, fun _ h => absurd h List.not_mem_nil⟩⟩⟩⟩⟩⟩⟩⟩⟩⟩⟩⟩⟩⟩⟩⟩
theorem pkr_14 : ∀ x ∈ pr_14, qd_one x := List.forall_mem_cons.mpr ⟨pk_225, List.forall_mem_cons.mpr ⟨pk_226, List.forall_mem_cons.mpr ⟨pk_227, List.forall_mem_cons.mpr ⟨pk_228, List.forall_mem_cons.mpr ⟨pk_229, List.forall_mem_cons.mpr ⟨pk_230, List.forall_mem_cons.mpr ⟨pk_231, List.forall_mem_cons.mpr ⟨pk_232, List.forall_mem_cons.mpr ⟨pk_233, List.forall_mem_cons.mpr ⟨pk_234, List.forall_mem_cons.mpr ⟨pk_235, List.forall_mem_cons.mpr ⟨pk_236, List.forall_mem_cons.mpr ⟨pk_237, List.forall_mem_cons.mpr ⟨pk_238, List.forall_mem_cons.mpr ⟨pk_239, List.forall_mem_cons.mpr ⟨pk_240, fun _ h => absurd h List.not_mem_nil⟩⟩⟩⟩⟩⟩⟩⟩⟩⟩⟩⟩⟩⟩⟩⟩
theorem pkr_15 : ∀ x ∈ pr_15, qd_one x := List.forall_mem_cons.mpr ⟨pk_241, List.forall_mem_cons.mpr ⟨pk_242, List.forall_mem_cons.mpr ⟨pk_243, List.forall_mem_cons.mpr ⟨pk_244, List.forall_mem_cons.mpr ⟨pk_245, List.forall_mem_cons.mpr ⟨pk_246, List.forall_mem_cons.mpr ⟨pk_247, List.forall_mem_cons.mpr ⟨pk_248, List.forall_mem_cons.mpr ⟨pk_249, List.forall_mem_cons.mpr ⟨pk_250, List.forall_mem_cons.mpr ⟨pk_251, List.forall_mem_cons.mpr ⟨pk_252, List.forall_mem_cons.mpr ⟨pk_253, List.forall_mem_cons.mpr ⟨pk_254, List.forall_mem_cons.mpr ⟨pk_255, List.forall_mem_cons.mpr ⟨pk_256, fun _ h => absurd h List.not_mem_nil⟩⟩⟩⟩⟩⟩⟩⟩⟩⟩⟩⟩⟩⟩⟩⟩
theorem pkr_16 : ∀ x ∈ pr_16, qd_one x := List.forall_mem_cons.mpr ⟨pk_257, List.forall_mem_cons.mpr ⟨pk_258, List.forall_mem_cons.mpr ⟨pk_259, List.forall_mem_cons.mpr ⟨pk_260, List.forall_mem_cons.mpr ⟨pk_261, List.forall_mem_cons.mpr ⟨pk_262, List.forall_mem_cons.mpr ⟨pk_263, fun _ h => absurd h List.not_mem_nil⟩⟩⟩⟩⟩⟩⟩
theorem pm_tabOk : ∀ r ∈ pm_tab, ∀ x ∈ r, qd_one x := List.forall_mem_cons.mpr ⟨pkr_0, List.forall_mem_cons.mpr ⟨pkr_1, List.forall_mem_cons.mpr ⟨pkr_2, List.forall_mem_cons.mpr ⟨pkr_3, List.forall_mem_cons.mpr ⟨pkr_4, List.forall_mem_cons.mpr ⟨pkr_5, List.forall_mem_cons.mpr ⟨pkr_6, List.forall_mem_cons.mpr ⟨pkr_7, List.forall_mem_cons.mpr ⟨pkr_8, List.forall_mem_cons.mpr ⟨pkr_9, List.forall_mem_cons.mpr ⟨pkr_10, List.forall_mem_cons.mpr ⟨pkr_11, List.forall_mem_cons.mpr ⟨pkr_12, List.forall_mem_cons.mpr ⟨pkr_13, List.forall_mem_cons.mpr ⟨pkr_14, List.forall_mem_cons.mpr ⟨pkr_15, List.forall_mem_cons.mpr ⟨pkr_16, fun _ h => absurd h List.not_mem_nil⟩⟩⟩⟩⟩⟩⟩⟩⟩⟩⟩⟩⟩⟩⟩⟩⟩

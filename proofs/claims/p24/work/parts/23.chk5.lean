set_option maxRecDepth 100000 in
theorem pk_197 : pm_dOk (pm_msT pm_tab) pd_197 := ⟨by decide +kernel, by decide +kernel⟩
set_option maxRecDepth 100000 in
theorem pk_198 : pm_dOk (pm_msT pm_tab) pd_198 := ⟨by decide +kernel, by decide +kernel⟩
set_option maxRecDepth 100000 in
theorem pk_199 : pm_dOk (pm_msT pm_tab) pd_199 := ⟨by decide +kernel, by decide +kernel⟩
set_option maxRecDepth 100000 in
theorem pk_200 : pm_dOk (pm_msT pm_tab) pd_200 := ⟨by decide +kernel, by decide +kernel⟩
set_option maxRecDepth 100000 in
theorem pk_201 : pm_dOk (pm_msT pm_tab) pd_201 := ⟨by decide +kernel, by decide +kernel⟩
set_option maxRecDepth 100000 in
theorem pk_202 : pm_dOk (pm_msT pm_tab) pd_202 := ⟨by decide +kernel, by decide +kernel⟩
set_option maxRecDepth 100000 in
theorem pk_203 : pm_dOk (pm_msT pm_tab) pd_203 := ⟨by decide +kernel, by decide +kernel⟩
set_option maxRecDepth 100000 in
theorem pk_204 : pm_dOk (pm_msT pm_tab) pd_204 := ⟨by decide +kernel, by decide +kernel⟩
set_option maxRecDepth 100000 in
theorem pk_205 : pm_dOk (pm_msT pm_tab) pd_205 := ⟨by decide +kernel, by decide +kernel⟩
set_option maxRecDepth 100000 in
theorem pk_206 : pm_dOk (pm_msT pm_tab) pd_206 := ⟨by decide +kernel, by decide +kernel⟩
set_option maxRecDepth 100000 in
theorem pk_207 : pm_dOk (pm_msT pm_tab) pd_207 := ⟨by decide +kernel, by decide +kernel⟩
set_option maxRecDepth 100000 in
theorem pk_208 : pm_dOk (pm_msT pm_tab) pd_208 := ⟨by decide +kernel, by decide +kernel⟩
set_option maxRecDepth 100000 in
theorem pk_209 : pm_dOk (pm_msT pm_tab) pd_209 := ⟨by decide +kernel, by decide +kernel⟩
set_option maxRecDepth 100000 in
theorem pk_210 : pm_dOk (pm_msT pm_tab) pd_210 := ⟨by decide +kernel, by decide +kernel⟩
set_option maxRecDepth 100000 in
theorem pk_211 : pm_dOk (pm_msT pm_tab) pd_211 := ⟨by decide +kernel, by decide +kernel⟩
set_option maxRecDepth 100000 in
theorem pk_212 : pm_dOk (pm_msT pm_tab) pd_212 := ⟨by decide +kernel, by decide +kernel⟩
set_option maxRecDepth 100000 in
theorem pk_213 : pm_dOk (pm_msT pm_tab) pd_213 := ⟨by decide +kernel, by decide +kernel⟩
set_option maxRecDepth 100000 in
theorem pk_214 : pm_dOk (pm_msT pm_tab) pd_214 := ⟨by decide +kernel, by decide +kernel⟩
set_option maxRecDepth 100000 in
theorem pk_215 : pm_dOk (pm_msT pm_tab) pd_215 := ⟨by decide +kernel, by decide +kernel⟩
set_option maxRecDepth 100000 in
theorem pk_216 : pm_dOk (pm_msT pm_tab) pd_216 := ⟨by decide +kernel, by decide +kernel⟩
set_option maxRecDepth 100000 in
theorem pk_217 : pm_dOk (pm_msT pm_tab) pd_217 := ⟨by decide +kernel, by decide +kernel⟩
set_option maxRecDepth 100000 in
theorem pk_218 : pm_dOk (pm_msT pm_tab) pd_218 := ⟨by decide +kernel, by decide +kernel⟩
set_option maxRecDepth 100000 in
theorem pk_219 : pm_dOk (pm_msT pm_tab) pd_219 := ⟨by decide +kernel, by decide +kernel⟩
set_option maxRecDepth 100000 in
theorem pk_220 : pm_dOk (pm_msT pm_tab) pd_220 := ⟨by decide +kernel, by decide +kernel⟩
set_option maxRecDepth 100000 in
theorem pk_221 : pm_dOk (pm_msT pm_tab) pd_221 := ⟨by decide +kernel, by decide +kernel⟩
set_option maxRecDepth 100000 in
theorem pk_222 : pm_dOk (pm_msT pm_tab) pd_222 := ⟨by decide +kernel, by decide +kernel⟩
set_option maxRecDepth 100000 in
theorem pk_223 : pm_dOk (pm_msT pm_tab) pd_223 := ⟨by decide +kernel, by decide +kernel⟩
set_option maxRecDepth 100000 in
theorem pk_224 : pm_dOk (pm_msT pm_tab) pd_224 := ⟨by decide +kernel, by decide +kernel⟩
set_option maxRecDepth 100000 in
theorem pk_225 : pm_dOk (pm_msT pm_tab) pd_225 := ⟨by decide +kernel, by decide +kernel⟩
set_option maxRecDepth 100000 in
theorem pk_226 : pm_dOk (pm_msT pm_tab) pd_226 := ⟨by decide +kernel, by decide +kernel⟩
set_option maxRecDepth 100000 in
theorem pk_227 : pm_dOk (pm_msT pm_tab) pd_227 := ⟨by decide +kernel, by decide +kernel⟩
set_option maxRecDepth 100000 in
theorem pk_228 : pm_dOk (pm_msT pm_tab) pd_228 := ⟨by decide +kernel, by decide +kernel⟩
set_option maxRecDepth 100000 in
theorem pk_229 : pm_dOk (pm_msT pm_tab) pd_229 := ⟨by decide +kernel, by decide +kernel⟩
set_option maxRecDepth 100000 in
theorem pk_230 : pm_dOk (pm_msT pm_tab) pd_230 := ⟨by decide +kernel, by decide +kernel⟩

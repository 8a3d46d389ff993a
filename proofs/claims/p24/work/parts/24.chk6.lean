set_option maxRecDepth 100000 in
theorem pk_231 : pm_dOk (pm_msT pm_tab) pd_231 := ⟨by decide +kernel, by decide +kernel⟩
set_option maxRecDepth 100000 in
theorem pk_232 : pm_dOk (pm_msT pm_tab) pd_232 := ⟨by decide +kernel, by decide +kernel⟩
set_option maxRecDepth 100000 in
theorem pk_233 : pm_dOk (pm_msT pm_tab) pd_233 := ⟨by decide +kernel, by decide +kernel⟩
set_option maxRecDepth 100000 in
theorem pk_234 : pm_dOk (pm_msT pm_tab) pd_234 := ⟨by decide +kernel, by decide +kernel⟩
set_option maxRecDepth 100000 in
theorem pk_235 : pm_dOk (pm_msT pm_tab) pd_235 := ⟨by decide +kernel, by decide +kernel⟩
set_option maxRecDepth 100000 in
theorem pk_236 : pm_dOk (pm_msT pm_tab) pd_236 := ⟨by decide +kernel, by decide +kernel⟩
set_option maxRecDepth 100000 in
theorem pk_237 : pm_dOk (pm_msT pm_tab) pd_237 := ⟨by decide +kernel, by decide +kernel⟩
set_option maxRecDepth 100000 in
theorem pk_238 : pm_dOk (pm_msT pm_tab) pd_238 := ⟨by decide +kernel, by decide +kernel⟩
set_option maxRecDepth 100000 in
theorem pk_239 : pm_dOk (pm_msT pm_tab) pd_239 := ⟨by decide +kernel, by decide +kernel⟩
set_option maxRecDepth 100000 in
theorem pk_240 : pm_dOk (pm_msT pm_tab) pd_240 := ⟨by decide +kernel, by decide +kernel⟩
set_option maxRecDepth 100000 in
theorem pk_241 : pm_dOk (pm_msT pm_tab) pd_241 := ⟨by decide +kernel, by decide +kernel⟩
set_option maxRecDepth 100000 in
theorem pk_242 : pm_dOk (pm_msT pm_tab) pd_242 := ⟨by decide +kernel, by decide +kernel⟩
set_option maxRecDepth 100000 in
theorem pk_243 : pm_dOk (pm_msT pm_tab) pd_243 := ⟨by decide +kernel, by decide +kernel⟩
set_option maxRecDepth 100000 in
theorem pk_244 : pm_dOk (pm_msT pm_tab) pd_244 := ⟨by decide +kernel, by decide +kernel⟩
set_option maxRecDepth 100000 in
theorem pk_245 : pm_dOk (pm_msT pm_tab) pd_245 := ⟨by decide +kernel, by decide +kernel⟩
set_option maxRecDepth 100000 in
theorem pk_246 : pm_dOk (pm_msT pm_tab) pd_246 := ⟨by decide +kernel, by decide +kernel⟩
set_option maxRecDepth 100000 in
theorem pk_247 : pm_dOk (pm_msT pm_tab) pd_247 := ⟨by decide +kernel, by decide +kernel⟩
set_option maxRecDepth 100000 in
theorem pk_248 : pm_dOk (pm_msT pm_tab) pd_248 := ⟨by decide +kernel, by decide +kernel⟩
set_option maxRecDepth 100000 in
theorem pk_249 : pm_dOk (pm_msT pm_tab) pd_249 := ⟨by decide +kernel, by decide +kernel⟩
set_option maxRecDepth 100000 in
theorem pk_250 : pm_dOk (pm_msT pm_tab) pd_250 := ⟨by decide +kernel, by decide +kernel⟩
set_option maxRecDepth 100000 in
theorem pk_251 : pm_dOk (pm_msT pm_tab) pd_251 := ⟨by decide +kernel, by decide +kernel⟩
set_option maxRecDepth 100000 in
theorem pk_252 : pm_dOk (pm_msT pm_tab) pd_252 := ⟨by decide +kernel, by decide +kernel⟩
set_option maxRecDepth 100000 in
theorem pk_253 : pm_dOk (pm_msT pm_tab) pd_253 := ⟨by decide +kernel, by decide +kernel⟩
set_option maxRecDepth 100000 in
theorem pk_254 : pm_dOk (pm_msT pm_tab) pd_254 := ⟨by decide +kernel, by decide +kernel⟩
set_option maxRecDepth 100000 in
theorem pk_255 : pm_dOk (pm_msT pm_tab) pd_255 := ⟨by decide +kernel, by decide +kernel⟩
set_option maxRecDepth 100000 in
theorem pk_256 : pm_dOk (pm_msT pm_tab) pd_256 := ⟨by decide +kernel, by decide +kernel⟩
set_option maxRecDepth 100000 in
theorem pk_257 : pm_dOk (pm_msT pm_tab) pd_257 := ⟨by decide +kernel, by decide +kernel⟩
set_option maxRecDepth 100000 in
theorem pk_258 : pm_dOk (pm_msT pm_tab) pd_258 := ⟨by decide +kernel, by decide +kernel⟩
set_option maxRecDepth 100000 in
theorem pk_259 : pm_dOk (pm_msT pm_tab) pd_259 := ⟨by decide +kernel, by decide +kernel⟩
set_option maxRecDepth 100000 in
theorem pk_260 : pm_dOk (pm_msT pm_tab) pd_260 := ⟨by decide +kernel, by decide +kernel⟩
set_option maxRecDepth 100000 in
theorem pk_261 : pm_dOk (pm_msT pm_tab) pd_261 := ⟨by decide +kernel, by decide +kernel⟩
set_option maxRecDepth 100000 in
theorem pk_262 : pm_dOk (pm_msT pm_tab) pd_262 := ⟨by decide +kernel, by decide +kernel⟩
set_option maxRecDepth 100000 in
theorem pk_263 : pm_dOk (pm_msT pm_tab) pd_263 := ⟨by decide +kernel, by decide +kernel⟩
theorem pkr_0 : ∀ x ∈ pr_0, pm_dOk (pm_msT pm_tab) x := List.forall_mem_cons.mpr ⟨pk_1, List.forall_mem_cons.mpr ⟨pk_2, List.forall_mem_cons.mpr ⟨pk_3, List.forall_mem_cons.mpr ⟨pk_4, List.forall_mem_cons.mpr ⟨pk_5, List.forall_mem_cons.mpr ⟨pk_6, List.forall_mem_cons.mpr ⟨pk_7, List.forall_mem_cons.mpr ⟨pk_8, List.forall_mem_cons.mpr ⟨pk_9, List.forall_mem_cons.mpr ⟨pk_10, List.forall_mem_cons.mpr ⟨pk_11, List.forall_mem_cons.mpr ⟨pk_12, List.forall_mem_cons.mpr ⟨pk_13, List.forall_mem_cons.mpr ⟨pk_14, List.forall_mem_cons.mpr ⟨pk_15, List.forall_mem_cons.mpr ⟨pk_16, fun _ h => absurd h List.not_mem_nil⟩⟩⟩⟩⟩⟩⟩⟩⟩⟩⟩⟩⟩⟩⟩⟩
theorem pkr_1 : ∀ x ∈ pr_1, pm_dOk (pm_msT pm_tab) x := List.forall_mem_cons.mpr ⟨pk_17, List.forall_mem_cons.mpr ⟨pk_18, List.forall_mem_cons.mpr ⟨pk_19, List.forall_mem_cons.mpr ⟨pk_20, List.forall_mem_cons.mpr ⟨pk_21, List.forall_mem_cons.mpr ⟨pk_22, List.forall_mem_cons.mpr ⟨pk_23, List.forall_mem_cons.mpr ⟨pk_24, List.forall_mem_cons.mpr ⟨pk_25, List.forall_mem_cons.mpr ⟨pk_26, List.forall_mem_cons.mpr ⟨pk_27, List.forall_mem_cons.mpr ⟨pk_28, List.forall_mem_cons.mpr ⟨pk_29, List.forall_mem_cons.mpr ⟨pk_30, List.forall_mem_cons.mpr ⟨pk_31, List.forall_mem_cons.mpr ⟨pk_32, fun _ h => absurd h List.not_mem_nil⟩⟩⟩⟩⟩⟩⟩⟩⟩⟩⟩⟩⟩⟩⟩⟩
theorem pkr_2 : ∀ x ∈ pr_2, pm_dOk (pm_msT pm_tab) x := List.forall_mem_cons.mpr ⟨pk_33, List.forall_mem_cons.mpr ⟨pk_34, List.forall_mem_cons.mpr ⟨pk_35, List.forall_mem_cons.mpr ⟨pk_36, List.forall_mem_cons.mpr ⟨pk_37, List.forall_mem_cons.mpr ⟨pk_38, List.forall_mem_cons.mpr ⟨pk_39, List.forall_mem_cons.mpr ⟨pk_40, List.forall_mem_cons.mpr ⟨pk_41, List.forall_mem_cons.mpr ⟨pk_42, List.forall_mem_cons.mpr ⟨pk_43, List.forall_mem_cons.mpr ⟨pk_44, List.forall_mem_cons.mpr ⟨pk_45, List.forall_mem_cons.mpr ⟨pk_46, List.forall_mem_cons.mpr ⟨pk_47, List.forall_mem_cons.mpr ⟨pk_48, fun _ h => absurd h List.not_mem_nil⟩⟩⟩⟩⟩⟩⟩⟩⟩⟩⟩⟩⟩⟩⟩⟩
theorem pkr_3 : ∀ x ∈ pr_3, pm_dOk (pm_msT pm_tab) x := List.forall_mem_cons.mpr ⟨pk_49, List.forall_mem_cons.mpr ⟨pk_50, List.forall_mem_cons.mpr ⟨pk_51, List.forall_mem_cons.mpr ⟨pk_52, List.forall_mem_cons.mpr ⟨pk_53, List.forall_mem_cons.mpr ⟨pk_54, List.forall_mem_cons.mpr ⟨pk_55, List.forall_mem_cons.mpr ⟨pk_56, List.forall_mem_cons.mpr ⟨pk_57, List.forall_mem_cons.mpr ⟨pk_58, List.forall_mem_cons.mpr ⟨pk_59, List.forall_mem_cons.mpr ⟨pk_60, List.forall_mem_cons.mpr ⟨pk_61, List.forall_mem_cons.mpr ⟨pk_62, List.forall_mem_cons.mpr ⟨pk_63, List.forall_mem_cons.mpr ⟨pk_64, fun _ h => absurd h List.not_mem_nil⟩⟩⟩⟩⟩⟩⟩⟩⟩⟩⟩⟩⟩⟩⟩⟩
theorem pkr_4 : ∀ x ∈ pr_4, pm_dOk (pm_msT pm_tab) x := List.forall_mem_cons.mpr ⟨pk_65, List.forall_mem_cons.mpr ⟨pk_66, List.forall_mem_cons.mpr ⟨pk_67, List.forall_mem_cons.mpr ⟨pk_68, List.forall_mem_cons.mpr ⟨pk_69, List.forall_mem_cons.mpr ⟨pk_70, List.forall_mem_cons.mpr ⟨pk_71, List.forall_mem_cons.mpr ⟨pk_72, List.forall_mem_cons.mpr ⟨pk_73, List.forall_mem_cons.mpr ⟨pk_74, List.forall_mem_cons.mpr ⟨pk_75, List.forall_mem_cons.mpr ⟨pk_76, List.forall_mem_cons.mpr ⟨pk_77, List.forall_mem_cons.mpr ⟨pk_78, List.forall_mem_cons.mpr ⟨pk_79, List.forall_mem_cons.mpr ⟨pk_80, fun _ h => absurd h List.not_mem_nil⟩⟩⟩⟩⟩⟩⟩⟩⟩⟩⟩⟩⟩⟩⟩⟩
theorem pkr_5 : ∀ x ∈ pr_5, pm_dOk (pm_msT pm_tab) x := List.forall_mem_cons.mpr ⟨pk_81, List.forall_mem_cons.mpr ⟨pk_82, List.forall_mem_cons.mpr ⟨pk_83, List.forall_mem_cons.mpr ⟨pk_84, List.forall_mem_cons.mpr ⟨pk_85, List.forall_mem_cons.mpr ⟨pk_86, List.forall_mem_cons.mpr ⟨pk_87, List.forall_mem_cons.mpr ⟨pk_88, List.forall_mem_cons.mpr ⟨pk_89, List.forall_mem_cons.mpr ⟨pk_90, List.forall_mem_cons.mpr ⟨pk_91, List.forall_mem_cons.mpr ⟨pk_92, List.forall_mem_cons.mpr ⟨pk_93, List.forall_mem_cons.mpr ⟨pk_94, List.forall_mem_cons.mpr ⟨pk_95, List.forall_mem_cons.mpr ⟨pk_96, fun _ h => absurd h List.not_mem_nil⟩⟩⟩⟩⟩⟩⟩⟩⟩⟩⟩⟩⟩⟩⟩⟩
theorem pkr_6 : ∀ x ∈ pr_6, pm_dOk (pm_msT pm_tab) x := List.forall_mem_cons.mpr ⟨pk_97, List.forall_mem_cons.mpr ⟨pk_98, List.forall_mem_cons.mpr ⟨pk_99, List.forall_mem_cons.mpr ⟨pk_100, List.forall_mem_cons.mpr ⟨pk_101, List.forall_mem_cons.mpr ⟨pk_102, List.forall_mem_cons.mpr ⟨pk_103, List.forall_mem_cons.mpr ⟨pk_104, List.forall_mem_cons.mpr ⟨pk_105, List.forall_mem_cons.mpr ⟨pk_106, List.forall_mem_cons.mpr ⟨pk_107, List.forall_mem_cons.mpr ⟨pk_108, List.forall_mem_cons.mpr ⟨pk_109, List.forall_mem_cons.mpr ⟨pk_110, List.forall_mem_cons.mpr ⟨pk_111, List.forall_mem_cons.mpr ⟨pk_112, fun _ h => absurd h List.not_mem_nil⟩⟩⟩⟩⟩⟩⟩⟩⟩⟩⟩⟩⟩⟩⟩⟩
theorem pkr_7 : ∀ x ∈ pr_7, pm_dOk (pm_msT pm_tab) x := List.forall_mem_cons.mpr ⟨pk_113, List.forall_mem_cons.mpr ⟨pk_114, List.forall_mem_cons.mpr ⟨pk_115, List.forall_mem_cons.mpr ⟨pk_116, List.forall_mem_cons.mpr ⟨pk_117, List.forall_mem_cons.mpr ⟨pk_118, List.forall_mem_cons.mpr ⟨pk_119, List.forall_mem_cons.mpr ⟨pk_120, List.forall_mem_cons.mpr ⟨pk_121, List.forall_mem_cons.mpr ⟨pk_122, List.forall_mem_cons.mpr ⟨pk_123, List.forall_mem_cons.mpr ⟨pk_124, List.forall_mem_cons.mpr ⟨pk_125, List.forall_mem_cons.mpr ⟨pk_126, List.forall_mem_cons.mpr ⟨pk_127, List.forall_mem_cons.mpr ⟨pk_128, fun _ h => absurd h List.not_mem_nil⟩⟩⟩⟩⟩⟩⟩⟩⟩⟩⟩⟩⟩⟩⟩⟩
theorem pkr_8 : ∀ x ∈ pr_8, pm_dOk (pm_msT pm_tab) x := List.forall_mem_cons.mpr ⟨pk_129, List.forall_mem_cons.mpr ⟨pk_130, List.forall_mem_cons.mpr ⟨pk_131, List.forall_mem_cons.mpr ⟨pk_132, List.forall_mem_cons.mpr ⟨pk_133, List.forall_mem_cons.mpr ⟨pk_134, List.forall_mem_cons.mpr ⟨pk_135, List.forall_mem_cons.mpr ⟨pk_136, List.forall_mem_cons.mpr ⟨pk_137, List.forall_mem_cons.mpr ⟨pk_138, List.forall_mem_cons.mpr ⟨pk_139, List.forall_mem_cons.mpr ⟨pk_140, List.forall_mem_cons.mpr ⟨pk_141, List.forall_mem_cons.mpr ⟨pk_142, List.forall_mem_cons.mpr ⟨pk_143, List.forall_mem_cons.mpr ⟨pk_144, fun _ h => absurd h List.not_mem_nil⟩⟩⟩⟩⟩⟩⟩⟩⟩⟩⟩⟩⟩⟩⟩⟩
theorem pkr_9 : ∀ x ∈ pr_9, pm_dOk (pm_msT pm_tab) x := List.forall_mem_cons.mpr ⟨pk_145, List.forall_mem_cons.mpr ⟨pk_146, List.forall_mem_cons.mpr ⟨pk_147, List.forall_mem_cons.mpr ⟨pk_148, List.forall_mem_cons.mpr ⟨pk_149, List.forall_mem_cons.mpr ⟨pk_150, List.forall_mem_cons.mpr ⟨pk_151, List.forall_mem_cons.mpr ⟨pk_152, List.forall_mem_cons.mpr ⟨pk_153, List.forall_mem_cons.mpr ⟨pk_154, List.forall_mem_cons.mpr ⟨pk_155, List.forall_mem_cons.mpr ⟨pk_156, List.forall_mem_cons.mpr ⟨pk_157, List.forall_mem_cons.mpr ⟨pk_158, List.forall_mem_cons.mpr ⟨pk_159, List.forall_mem_cons.mpr ⟨pk_160, fun _ h => absurd h List.not_mem_nil⟩⟩⟩⟩⟩⟩⟩⟩⟩⟩⟩⟩⟩⟩⟩⟩
theorem pkr_10 : ∀ x ∈ pr_10, pm_dOk (pm_msT pm_tab) x := List.forall_mem_cons.mpr ⟨pk_161, List.forall_mem_cons.mpr ⟨pk_162, List.forall_mem_cons.mpr ⟨pk_163, List.forall_mem_cons.mpr ⟨pk_164, List.forall_mem_cons.mpr ⟨pk_165, List.forall_mem_cons.mpr ⟨pk_166, List.forall_mem_cons.mpr ⟨pk_167, List.forall_mem_cons.mpr ⟨pk_168, List.forall_mem_cons.mpr ⟨pk_169, List.forall_mem_cons.mpr ⟨pk_170, List.forall_mem_cons.mpr ⟨pk_171, List.forall_mem_cons.mpr ⟨pk_172, List.forall_mem_cons.mpr ⟨pk_173, List.forall_mem_cons.mpr ⟨pk_174, List.forall_mem_cons.mpr ⟨pk_175, List.forall_mem_cons.mpr ⟨pk_176, fun _ h => absurd h List.not_mem_nil⟩⟩⟩⟩⟩⟩⟩⟩⟩⟩⟩⟩⟩⟩⟩⟩
theorem pkr_11 : ∀ x ∈ pr_11, pm_dOk (pm_msT pm_tab) x := List.forall_mem_cons.mpr ⟨pk_177, List.forall_mem_cons.mpr ⟨pk_178, List.forall_mem_cons.mpr ⟨pk_179, List.forall_mem_cons.mpr ⟨pk_180, List.forall_mem_cons.mpr ⟨pk_181, List.forall_mem_cons.mpr ⟨pk_182, List.forall_mem_cons.mpr ⟨pk_183, List.forall_mem_cons.mpr ⟨pk_184, List.forall_mem_cons.mpr ⟨pk_185, List.forall_mem_cons.mpr ⟨pk_186, List.forall_mem_cons.mpr ⟨pk_187, List.forall_mem_cons.mpr ⟨pk_188, List.forall_mem_cons.mpr ⟨pk_189, List.forall_mem_cons.mpr ⟨pk_190, List.forall_mem_cons.mpr ⟨pk_191, List.forall_mem_cons.mpr ⟨pk_192, fun _ h => absurd h List.not_mem_nil⟩⟩⟩⟩⟩⟩⟩⟩⟩⟩⟩⟩⟩⟩⟩⟩
theorem pkr_12 : ∀ x ∈ pr_12, pm_dOk (pm_msT pm_tab) x := List.forall_mem_cons.mpr ⟨pk_193, List.forall_mem_cons.mpr ⟨pk_194, List.forall_mem_cons.mpr ⟨pk_195, List.forall_mem_cons.mpr ⟨pk_196, List.forall_mem_cons.mpr ⟨pk_197, List.forall_mem_cons.mpr ⟨pk_198, List.forall_mem_cons.mpr ⟨pk_199, List.forall_mem_cons.mpr ⟨pk_200, List.forall_mem_cons.mpr ⟨pk_201, List.forall_mem_cons.mpr ⟨pk_202, List.forall_mem_cons.mpr ⟨pk_203, List.forall_mem_cons.mpr ⟨pk_204, List.forall_mem_cons.mpr ⟨pk_205, List.forall_mem_cons.mpr ⟨pk_206, List.forall_mem_cons.mpr ⟨pk_207, List.forall_mem_cons.mpr ⟨pk_208, fun _ h => absurd h List.not_mem_nil⟩⟩⟩⟩⟩⟩⟩⟩⟩⟩⟩⟩⟩⟩⟩⟩
theorem pkr_13 : ∀ x ∈ pr_13, pm_dOk (pm_msT pm_tab) x := List.forall_mem_cons.mpr ⟨pk_209, List.forall_mem_cons.mpr ⟨pk_210, List.forall_mem_cons.mpr ⟨pk_211, List.forall_mem_cons.mpr ⟨pk_212, List.forall_mem_cons.mpr ⟨pk_213, List.forall_mem_cons.mpr ⟨pk_214, List.forall_mem_cons.mpr ⟨pk_215, List.forall_mem_cons.mpr ⟨pk_216, List.forall_mem_cons.mpr ⟨pk_217, List.forall_mem_cons.mpr ⟨pk_218, List.forall_mem_cons.mpr ⟨pk_219, List.forall_mem_cons.mpr ⟨pk_220, List.forall_mem_cons.mpr ⟨pk_221, List.forall_mem_cons.mpr ⟨pk_222, List.forall_mem_cons.mpr ⟨pk_223, List.forall_mem_cons.mpr ⟨pk_224, fun _ h => absurd h List.not_mem_nil⟩⟩⟩⟩⟩⟩⟩⟩⟩⟩⟩⟩⟩⟩⟩⟩
theorem pkr_14 : ∀ x ∈ pr_14, pm_dOk (pm_msT pm_tab) x := List.forall_mem_cons.mpr ⟨pk_225, List.forall_mem_cons.mpr ⟨pk_226, List.forall_mem_cons.mpr ⟨pk_227, List.forall_mem_cons.mpr ⟨pk_228, List.forall_mem_cons.mpr ⟨pk_229, List.forall_mem_cons.mpr ⟨pk_230, List.forall_mem_cons.mpr ⟨pk_231, List.forall_mem_cons.mpr ⟨pk_232, List.forall_mem_cons.mpr ⟨pk_233, List.forall_mem_cons.mpr ⟨pk_234, List.forall_mem_cons.mpr ⟨pk_235, List.forall_mem_cons.mpr ⟨pk_236, List.forall_mem_cons.mpr ⟨pk_237, List.forall_mem_cons.mpr ⟨pk_238, List.forall_mem_cons.mpr ⟨pk_239, List.forall_mem_cons.mpr ⟨pk_240, fun _ h => absurd h List.not_mem_nil⟩⟩⟩⟩⟩⟩⟩⟩⟩⟩⟩⟩⟩⟩⟩⟩
theorem pkr_15 : ∀ x ∈ pr_15, pm_dOk (pm_msT pm_tab) x := List.forall_mem_cons.mpr ⟨pk_241, List.forall_mem_cons.mpr ⟨pk_242, List.forall_mem_cons.mpr ⟨pk_243, List.forall_mem_cons.mpr ⟨pk_244, List.forall_mem_cons.mpr ⟨pk_245, List.forall_mem_cons.mpr ⟨pk_246, List.forall_mem_cons.mpr ⟨pk_247, List.forall_mem_cons.mpr ⟨pk_248, List.forall_mem_cons.mpr ⟨pk_249, List.forall_mem_cons.mpr ⟨pk_250, List.forall_mem_cons.mpr ⟨pk_251, List.forall_mem_cons.mpr ⟨pk_252, List.forall_mem_cons.mpr ⟨pk_253, List.forall_mem_cons.mpr ⟨pk_254, List.forall_mem_cons.mpr ⟨pk_255, List.forall_mem_cons.mpr ⟨pk_256, fun _ h => absurd h List.not_mem_nil⟩⟩⟩⟩⟩⟩⟩⟩⟩⟩⟩⟩⟩⟩⟩⟩
theorem pkr_16 : ∀ x ∈ pr_16, pm_dOk (pm_msT pm_tab) x := List.forall_mem_cons.mpr ⟨pk_257, List.forall_mem_cons.mpr ⟨pk_258, List.forall_mem_cons.mpr ⟨pk_259, List.forall_mem_cons.mpr ⟨pk_260, List.forall_mem_cons.mpr ⟨pk_261, List.forall_mem_cons.mpr ⟨pk_262, List.forall_mem_cons.mpr ⟨pk_263, fun _ h => absurd h List.not_mem_nil⟩⟩⟩⟩⟩⟩⟩
theorem pm_tabOk : ∀ r ∈ pm_tab, ∀ x ∈ r, pm_dOk (pm_msT pm_tab) x := List.forall_mem_cons.mpr ⟨pkr_0, List.forall_mem_cons.mpr ⟨pkr_1, List.forall_mem_cons.mpr ⟨pkr_2, List.forall_mem_cons.mpr ⟨pkr_3, List.forall_mem_cons.mpr ⟨pkr_4, List.forall_mem_cons.mpr ⟨pkr_5, List.forall_mem_cons.mpr ⟨pkr_6, List.forall_mem_cons.mpr ⟨pkr_7, List.forall_mem_cons.mpr ⟨pkr_8, List.forall_mem_cons.mpr ⟨pkr_9, List.forall_mem_cons.mpr ⟨pkr_10, List.forall_mem_cons.mpr ⟨pkr_11, List.forall_mem_cons.mpr ⟨pkr_12, List.forall_mem_cons.mpr ⟨pkr_13, List.forall_mem_cons.mpr ⟨pkr_14, List.forall_mem_cons.mpr ⟨pkr_15, List.forall_mem_cons.mpr ⟨pkr_16, fun _ h => absurd h List.not_mem_nil⟩⟩⟩⟩⟩⟩⟩⟩⟩⟩⟩⟩⟩⟩⟩⟩⟩

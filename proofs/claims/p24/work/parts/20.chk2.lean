set_option maxRecDepth 100000 in
theorem pk_51 : pm_dOk (pm_msT pm_tab) pd_51 := ⟨by decide +kernel, by decide +kernel⟩
set_option maxRecDepth 100000 in
theorem pk_52 : pm_dOk (pm_msT pm_tab) pd_52 := ⟨by decide +kernel, by decide +kernel⟩
set_option maxRecDepth 100000 in
theorem pk_53 : pm_dOk (pm_msT pm_tab) pd_53 := ⟨by decide +kernel, by decide +kernel⟩
set_option maxRecDepth 100000 in
theorem pk_54 : pm_dOk (pm_msT pm_tab) pd_54 := ⟨by decide +kernel, by decide +kernel⟩
set_option maxRecDepth 100000 in
theorem pk_55 : pm_dOk (pm_msT pm_tab) pd_55 := ⟨by decide +kernel, by decide +kernel⟩
set_option maxRecDepth 100000 in
theorem pk_56 : pm_dOk (pm_msT pm_tab) pd_56 := ⟨by decide +kernel, by decide +kernel⟩
set_option maxRecDepth 100000 in
theorem pk_57 : pm_dOk (pm_msT pm_tab) pd_57 := ⟨by decide +kernel, by decide +kernel⟩
set_option maxRecDepth 100000 in
theorem pk_58 : pm_dOk (pm_msT pm_tab) pd_58 := ⟨by decide +kernel, by decide +kernel⟩
set_option maxRecDepth 100000 in
theorem pk_59 : pm_dOk (pm_msT pm_tab) pd_59 := ⟨by decide +kernel, by decide +kernel⟩
set_option maxRecDepth 100000 in
theorem pk_60 : pm_dOk (pm_msT pm_tab) pd_60 := ⟨by decide +kernel, by decide +kernel⟩
set_option maxRecDepth 100000 in
theorem pk_61 : pm_dOk (pm_msT pm_tab) pd_61 := ⟨by decide +kernel, by decide +kernel⟩
set_option maxRecDepth 100000 in
theorem pk_62 : pm_dOk (pm_msT pm_tab) pd_62 := ⟨by decide +kernel, by decide +kernel⟩
set_option maxRecDepth 100000 in
theorem pk_63 : pm_dOk (pm_msT pm_tab) pd_63 := ⟨by decide +kernel, by decide +kernel⟩
set_option maxRecDepth 100000 in
theorem pk_64 : pm_dOk (pm_msT pm_tab) pd_64 := ⟨by decide +kernel, by decide +kernel⟩
set_option maxRecDepth 100000 in
theorem pk_65 : pm_dOk (pm_msT pm_tab) pd_65 := ⟨by decide +kernel, by decide +kernel⟩
set_option maxRecDepth 100000 in
theorem pk_66 : pm_dOk (pm_msT pm_tab) pd_66 := ⟨by decide +kernel, by decide +kernel⟩
set_option maxRecDepth 100000 in
theorem pk_67 : pm_dOk (pm_msT pm_tab) pd_67 := ⟨by decide +kernel, by decide +kernel⟩
set_option maxRecDepth 100000 in
theorem pk_68 : pm_dOk (pm_msT pm_tab) pd_68 := ⟨by decide +kernel, by decide +kernel⟩
set_option maxRecDepth 100000 in
theorem pk_69 : pm_dOk (pm_msT pm_tab) pd_69 := ⟨by decide +kernel, by decide +kernel⟩
set_option maxRecDepth 100000 in
theorem pk_70 : pm_dOk (pm_msT pm_tab) pd_70 := ⟨by decide +kernel, by decide +kernel⟩
set_option maxRecDepth 100000 in
theorem pk_71 : pm_dOk (pm_msT pm_tab) pd_71 := ⟨by decide +kernel, by decide +kernel⟩
set_option maxRecDepth 100000 in
theorem pk_72 : pm_dOk (pm_msT pm_tab) pd_72 := ⟨by decide +kernel, by decide +kernel⟩
set_option maxRecDepth 100000 in
theorem pk_73 : pm_dOk (pm_msT pm_tab) pd_73 := ⟨by decide +kernel, by decide +kernel⟩
set_option maxRecDepth 100000 in
theorem pk_74 : pm_dOk (pm_msT pm_tab) pd_74 := ⟨by decide +kernel, by decide +kernel⟩
set_option maxRecDepth 100000 in
theorem pk_75 : pm_dOk (pm_msT pm_tab) pd_75 := ⟨by decide +kernel, by decide +kernel⟩
set_option maxRecDepth 100000 in
theorem pk_76 : pm_dOk (pm_msT pm_tab) pd_76 := ⟨by decide +kernel, by decide +kernel⟩
set_option maxRecDepth 100000 in
theorem pk_77 : pm_dOk (pm_msT pm_tab) pd_77 := ⟨by decide +kernel, by decide +kernel⟩
set_option maxRecDepth 100000 in
theorem pk_78 : pm_dOk (pm_msT pm_tab) pd_78 := ⟨by decide +kernel, by decide +kernel⟩
set_option maxRecDepth 100000 in
theorem pk_79 : pm_dOk (pm_msT pm_tab) pd_79 := ⟨by decide +kernel, by decide +kernel⟩
set_option maxRecDepth 100000 in
theorem pk_80 : pm_dOk (pm_msT pm_tab) pd_80 := ⟨by decide +kernel, by decide +kernel⟩
set_option maxRecDepth 100000 in
theorem pk_81 : pm_dOk (pm_msT pm_tab) pd_81 := ⟨by decide +kernel, by decide +kernel⟩
set_option maxRecDepth 100000 in
theorem pk_82 : pm_dOk (pm_msT pm_tab) pd_82 := ⟨by decide +kernel, by decide +kernel⟩
set_option maxRecDepth 100000 in
theorem pk_83 : pm_dOk (pm_msT pm_tab) pd_83 := ⟨by decide +kernel, by decide +kernel⟩
set_option maxRecDepth 100000 in
theorem pk_84 : pm_dOk (pm_msT pm_tab) pd_84 := ⟨by decide +kernel, by decide +kernel⟩
set_option maxRecDepth 100000 in
theorem pk_85 : pm_dOk (pm_msT pm_tab) pd_85 := ⟨by decide +kernel, by decide +kernel⟩
set_option maxRecDepth 100000 in
theorem pk_86 : pm_dOk (pm_msT pm_tab) pd_86 := ⟨by decide +kernel, by decide +kernel⟩
set_option maxRecDepth 100000 in
theorem pk_87 : pm_dOk (pm_msT pm_tab) pd_87 := ⟨by decide +kernel, by decide +kernel⟩
set_option maxRecDepth 100000 in
theorem pk_88 : pm_dOk (pm_msT pm_tab) pd_88 := ⟨by decide +kernel, by decide +kernel⟩
set_option maxRecDepth 100000 in
theorem pk_89 : pm_dOk (pm_msT pm_tab) pd_89 := ⟨by decide +kernel, by decide +kernel⟩
set_option maxRecDepth 100000 in
theorem pk_90 : pm_dOk (pm_msT pm_tab) pd_90 := ⟨by decide +kernel, by decide +kernel⟩
set_option maxRecDepth 100000 in
theorem pk_91 : pm_dOk (pm_msT pm_tab) pd_91 := ⟨by decide +kernel, by decide +kernel⟩
set_option maxRecDepth 100000 in
theorem pk_92 : pm_dOk (pm_msT pm_tab) pd_92 := ⟨by decide +kernel, by decide +kernel⟩
set_option maxRecDepth 100000 in
theorem pk_93 : pm_dOk (pm_msT pm_tab) pd_93 := ⟨by decide +kernel, by decide +kernel⟩
set_option maxRecDepth 100000 in
theorem pk_94 : pm_dOk (pm_msT pm_tab) pd_94 := ⟨by decide +kernel, by decide +kernel⟩
set_option maxRecDepth 100000 in
theorem pk_95 : pm_dOk (pm_msT pm_tab) pd_95 := ⟨by decide +kernel, by decide +kernel⟩
set_option maxRecDepth 100000 in
theorem pk_96 : pm_dOk (pm_msT pm_tab) pd_96 := ⟨by decide +kernel, by decide +kernel⟩
set_option maxRecDepth 100000 in
theorem pk_97 : pm_dOk (pm_msT pm_tab) pd_97 := ⟨by decide +kernel, by decide +kernel⟩
set_option maxRecDepth 100000 in
theorem pk_98 : pm_dOk (pm_msT pm_tab) pd_98 := ⟨by decide +kernel, by decide +kernel⟩
set_option maxRecDepth 100000 in
theorem pk_99 : pm_dOk (pm_msT pm_tab) pd_99 := ⟨by decide +kernel, by decide +kernel⟩

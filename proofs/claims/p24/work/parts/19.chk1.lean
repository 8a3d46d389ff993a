/-! the tables are right: decided -/
set_option maxRecDepth 100000 in
theorem pk_1 : pm_dOk (pm_msT pm_tab) pd_1 := ⟨by decide +kernel, by decide +kernel⟩
set_option maxRecDepth 100000 in
theorem pk_2 : pm_dOk (pm_msT pm_tab) pd_2 := ⟨by decide +kernel, by decide +kernel⟩
set_option maxRecDepth 100000 in
theorem pk_3 : pm_dOk (pm_msT pm_tab) pd_3 := ⟨by decide +kernel, by decide +kernel⟩
set_option maxRecDepth 100000 in
theorem pk_4 : pm_dOk (pm_msT pm_tab) pd_4 := ⟨by decide +kernel, by decide +kernel⟩
set_option maxRecDepth 100000 in
theorem pk_5 : pm_dOk (pm_msT pm_tab) pd_5 := ⟨by decide +kernel, by decide +kernel⟩
set_option maxRecDepth 100000 in
theorem pk_6 : pm_dOk (pm_msT pm_tab) pd_6 := ⟨by decide +kernel, by decide +kernel⟩
set_option maxRecDepth 100000 in
theorem pk_7 : pm_dOk (pm_msT pm_tab) pd_7 := ⟨by decide +kernel, by decide +kernel⟩
set_option maxRecDepth 100000 in
theorem pk_8 : pm_dOk (pm_msT pm_tab) pd_8 := ⟨by decide +kernel, by decide +kernel⟩
set_option maxRecDepth 100000 in
theorem pk_9 : pm_dOk (pm_msT pm_tab) pd_9 := ⟨by decide +kernel, by decide +kernel⟩
set_option maxRecDepth 100000 in
theorem pk_10 : pm_dOk (pm_msT pm_tab) pd_10 := ⟨by decide +kernel, by decide +kernel⟩
set_option maxRecDepth 100000 in
theorem pk_11 : pm_dOk (pm_msT pm_tab) pd_11 := ⟨by decide +kernel, by decide +kernel⟩
set_option maxRecDepth 100000 in
theorem pk_12 : pm_dOk (pm_msT pm_tab) pd_12 := ⟨by decide +kernel, by decide +kernel⟩
set_option maxRecDepth 100000 in
theorem pk_13 : pm_dOk (pm_msT pm_tab) pd_13 := ⟨by decide +kernel, by decide +kernel⟩
set_option maxRecDepth 100000 in
theorem pk_14 : pm_dOk (pm_msT pm_tab) pd_14 := ⟨by decide +kernel, by decide +kernel⟩
set_option maxRecDepth 100000 in
theorem pk_15 : pm_dOk (pm_msT pm_tab) pd_15 := ⟨by decide +kernel, by decide +kernel⟩
set_option maxRecDepth 100000 in
theorem pk_16 : pm_dOk (pm_msT pm_tab) pd_16 := ⟨by decide +kernel, by decide +kernel⟩
set_option maxRecDepth 100000 in
theorem pk_17 : pm_dOk (pm_msT pm_tab) pd_17 := ⟨by decide +kernel, by decide +kernel⟩
set_option maxRecDepth 100000 in
theorem pk_18 : pm_dOk (pm_msT pm_tab) pd_18 := ⟨by decide +kernel, by decide +kernel⟩
set_option maxRecDepth 100000 in
theorem pk_19 : pm_dOk (pm_msT pm_tab) pd_19 := ⟨by decide +kernel, by decide +kernel⟩
set_option maxRecDepth 100000 in
theorem pk_20 : pm_dOk (pm_msT pm_tab) pd_20 := ⟨by decide +kernel, by decide +kernel⟩
set_option maxRecDepth 100000 in
theorem pk_21 : pm_dOk (pm_msT pm_tab) pd_21 := ⟨by decide +kernel, by decide +kernel⟩
set_option maxRecDepth 100000 in
theorem pk_22 : pm_dOk (pm_msT pm_tab) pd_22 := ⟨by decide +kernel, by decide +kernel⟩
set_option maxRecDepth 100000 in
theorem pk_23 : pm_dOk (pm_msT pm_tab) pd_23 := ⟨by decide +kernel, by decide +kernel⟩
set_option maxRecDepth 100000 in
theorem pk_24 : pm_dOk (pm_msT pm_tab) pd_24 := ⟨by decide +kernel, by decide +kernel⟩
set_option maxRecDepth 100000 in
theorem pk_25 : pm_dOk (pm_msT pm_tab) pd_25 := ⟨by decide +kernel, by decide +kernel⟩
set_option maxRecDepth 100000 in
theorem pk_26 : pm_dOk (pm_msT pm_tab) pd_26 := ⟨by decide +kernel, by decide +kernel⟩
set_option maxRecDepth 100000 in
theorem pk_27 : pm_dOk (pm_msT pm_tab) pd_27 := ⟨by decide +kernel, by decide +kernel⟩
set_option maxRecDepth 100000 in
theorem pk_28 : pm_dOk (pm_msT pm_tab) pd_28 := ⟨by decide +kernel, by decide +kernel⟩
set_option maxRecDepth 100000 in
theorem pk_29 : pm_dOk (pm_msT pm_tab) pd_29 := ⟨by decide +kernel, by decide +kernel⟩
set_option maxRecDepth 100000 in
theorem pk_30 : pm_dOk (pm_msT pm_tab) pd_30 := ⟨by decide +kernel, by decide +kernel⟩
set_option maxRecDepth 100000 in
theorem pk_31 : pm_dOk (pm_msT pm_tab) pd_31 := ⟨by decide +kernel, by decide +kernel⟩
set_option maxRecDepth 100000 in
theorem pk_32 : pm_dOk (pm_msT pm_tab) pd_32 := ⟨by decide +kernel, by decide +kernel⟩
set_option maxRecDepth 100000 in
theorem pk_33 : pm_dOk (pm_msT pm_tab) pd_33 := ⟨by decide +kernel, by decide +kernel⟩
set_option maxRecDepth 100000 in
theorem pk_34 : pm_dOk (pm_msT pm_tab) pd_34 := ⟨by decide +kernel, by decide +kernel⟩
set_option maxRecDepth 100000 in
theorem pk_35 : pm_dOk (pm_msT pm_tab) pd_35 := ⟨by decide +kernel, by decide +kernel⟩
set_option maxRecDepth 100000 in
theorem pk_36 : pm_dOk (pm_msT pm_tab) pd_36 := ⟨by decide +kernel, by decide +kernel⟩
set_option maxRecDepth 100000 in
theorem pk_37 : pm_dOk (pm_msT pm_tab) pd_37 := ⟨by decide +kernel, by decide +kernel⟩
set_option maxRecDepth 100000 in
theorem pk_38 : pm_dOk (pm_msT pm_tab) pd_38 := ⟨by decide +kernel, by decide +kernel⟩
set_option maxRecDepth 100000 in
theorem pk_39 : pm_dOk (pm_msT pm_tab) pd_39 := ⟨by decide +kernel, by decide +kernel⟩
set_option maxRecDepth 100000 in
theorem pk_40 : pm_dOk (pm_msT pm_tab) pd_40 := ⟨by decide +kernel, by decide +kernel⟩
set_option maxRecDepth 100000 in
theorem pk_41 : pm_dOk (pm_msT pm_tab) pd_41 := ⟨by decide +kernel, by decide +kernel⟩
set_option maxRecDepth 100000 in
theorem pk_42 : pm_dOk (pm_msT pm_tab) pd_42 := ⟨by decide +kernel, by decide +kernel⟩
set_option maxRecDepth 100000 in
theorem pk_43 : pm_dOk (pm_msT pm_tab) pd_43 := ⟨by decide +kernel, by decide +kernel⟩
set_option maxRecDepth 100000 in
theorem pk_44 : pm_dOk (pm_msT pm_tab) pd_44 := ⟨by decide +kernel, by decide +kernel⟩
set_option maxRecDepth 100000 in
theorem pk_45 : pm_dOk (pm_msT pm_tab) pd_45 := ⟨by decide +kernel, by decide +kernel⟩
set_option maxRecDepth 100000 in
theorem pk_46 : pm_dOk (pm_msT pm_tab) pd_46 := ⟨by decide +kernel, by decide +kernel⟩
set_option maxRecDepth 100000 in
theorem pk_47 : pm_dOk (pm_msT pm_tab) pd_47 := ⟨by decide +kernel, by decide +kernel⟩
set_option maxRecDepth 100000 in
theorem pk_48 : pm_dOk (pm_msT pm_tab) pd_48 := ⟨by decide +kernel, by decide +kernel⟩
set_option maxRecDepth 100000 in
theorem pk_49 : pm_dOk (pm_msT pm_tab) pd_49 := ⟨by decide +kernel, by decide +kernel⟩
set_option maxRecDepth 100000 in
theorem pk_50 : pm_dOk (pm_msT pm_tab) pd_50 := ⟨by decide +kernel, by decide +kernel⟩

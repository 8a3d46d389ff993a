set_option maxRecDepth 100000 in
theorem pkl_0 : pm_ckb (pm_msT pm_tab) code RL "law" pl_0 = true := by decide +kernel
set_option maxRecDepth 100000 in
theorem pkl_1 : pm_ckb (pm_msT pm_tab) code RL "law" pl_1 = true := by decide +kernel
set_option maxRecDepth 100000 in
theorem pkl_2 : pm_ckb (pm_msT pm_tab) code RL "law" pl_2 = true := by decide +kernel
set_option maxRecDepth 100000 in
theorem pkl_3 : pm_ckb (pm_msT pm_tab) code RL "law" pl_3 = true := by decide +kernel

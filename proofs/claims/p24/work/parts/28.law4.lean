set_option maxRecDepth 100000 in
theorem pkl_12 : pm_ckb (pm_msT pm_tab) code RL "law" pl_12 = true := by decide +kernel
set_option maxRecDepth 100000 in
theorem pkl_13 : pm_ckb (pm_msT pm_tab) code RL "law" pl_13 = true := by decide +kernel
set_option maxRecDepth 100000 in
theorem pkl_14 : pm_ckb (pm_msT pm_tab) code RL "law" pl_14 = true := by decide +kernel
set_option maxRecDepth 100000 in
theorem pkl_15 : pm_ckb (pm_msT pm_tab) code RL "law" pl_15 = true := by decide +kernel

set_option maxRecDepth 100000 in
theorem pkl_8 : pm_ckb (pm_msT pm_tab) code RL "law" pl_8 = true := by decide +kernel
set_option maxRecDepth 100000 in
theorem pkl_9 : pm_ckb (pm_msT pm_tab) code RL "law" pl_9 = true := by decide +kernel
set_option maxRecDepth 100000 in
theorem pkl_10 : pm_ckb (pm_msT pm_tab) code RL "law" pl_10 = true := by decide +kernel
set_option maxRecDepth 100000 in
theorem pkl_11 : pm_ckb (pm_msT pm_tab) code RL "law" pl_11 = true := by decide +kernel

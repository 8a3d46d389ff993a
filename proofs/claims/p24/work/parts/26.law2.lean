set_option maxRecDepth 100000 in
theorem pkl_4 : pm_ckb (pm_msT pm_tab) code RL "law" pl_4 = true := by decide +kernel
set_option maxRecDepth 100000 in
theorem pkl_5 : pm_ckb (pm_msT pm_tab) code RL "law" pl_5 = true := by decide +kernel
set_option maxRecDepth 100000 in
theorem pkl_6 : pm_ckb (pm_msT pm_tab) code RL "law" pl_6 = true := by decide +kernel
set_option maxRecDepth 100000 in
theorem pkl_7 : pm_ckb (pm_msT pm_tab) code RL "law" pl_7 = true := by decide +kernel

set_option maxRecDepth 100000 in
theorem pk_lawc : qd_go code (qd_ck 13 "law" false) (qd_flat pd_law) code.data.toList 0 = true := by decide +kernel
theorem pk_law {pc : Nat} {q : pm_I} (h : pm_at_pc pd_law pc = some q) : pm_okI vwCl pm_TB pm_RD (pm_msT pm_tab) code RL "law" pc q := qd_at_ok (o := 13) (mi := false) pk_lawc (fun h => Bool.noConfusion h) h

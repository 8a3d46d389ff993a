theorem pm_ckb_app {ms : Nat → Option pm_M} {cc : ByteArray} {own mname : String} {a b : List (List (Nat × pm_I))} (h1 : pm_ckb ms cc own mname a = true) (h2 : pm_ckb ms cc own mname b = true) : pm_ckb ms cc own mname (a ++ b) = true := by
  unfold pm_ckb at *
  rw [List.all_append, h1, h2]
  rfl
theorem pk_law : pm_ckb (pm_msT pm_tab) code RL "law" pd_law = true := pm_ckb_app pkl_0 (pm_ckb_app pkl_1 (pm_ckb_app pkl_2 (pm_ckb_app pkl_3 (pm_ckb_app pkl_4 (pm_ckb_app pkl_5 (pm_ckb_app pkl_6 (pm_ckb_app pkl_7 (pm_ckb_app pkl_8 (pm_ckb_app pkl_9 (pm_ckb_app pkl_10 (pm_ckb_app pkl_11 (pm_ckb_app pkl_12 (pm_ckb_app pkl_13 (pm_ckb_app pkl_14 (pkl_15)))))))))))))))

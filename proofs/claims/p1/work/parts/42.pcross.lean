/-! cross on fresh objects, by program -/
theorem em_23 : pm_ms 23 = some (yX3_isFairLine, cX3_isFairLine, 3, (some .boolean), 1, 3) := rfl
theorem em_113 : pm_ms 113 = some (yX10_cross, cX10_cross, 4, (some .long), 2, 10) := rfl
theorem em_215 : pm_ms 215 = some (yX11_cross, cX11_cross, 11, (some .long), 2, 11) := rfl
theorem e_23_0 : pm_ins 23 0 = some (.aload_n 0, 1, 0, 0, 0, []) := rfl
theorem e_23_1 : pm_ins 23 1 = some (.iload_n 1, 1, 0, 0, 0, []) := rfl
theorem e_23_2 : pm_ins 23 2 = some (.invokevirtual 39, 3, 22, 0, 0, [(4, 61), (4, 42), (4, 43)]) := rfl
theorem e_23_5 : pm_ins 23 5 = some (.astore_n 2, 1, 0, 0, 0, []) := rfl
theorem e_23_6 : pm_ins 23 6 = some (.aload_n 2, 1, 0, 0, 0, []) := rfl
theorem e_23_7 : pm_ins 23 7 = some (.ifnull 15, 3, 22, 0, 0, []) := rfl
theorem e_23_22 : pm_ins 23 22 = some (.iconst 0, 1, 0, 0, 0, []) := rfl
theorem e_23_23 : pm_ins 23 23 = some (.ireturn, 1, 0, 0, 0, []) := rfl
theorem e_113_0 : pm_ins 113 0 = some (.aload_n 0, 1, 0, 0, 0, []) := rfl
theorem e_113_1 : pm_ins 113 1 = some (.iload_n 1, 1, 0, 0, 0, []) := rfl
theorem e_113_2 : pm_ins 113 2 = some (.invokevirtual 136, 3, 135, 0, 0, [(4, 4), (4, 6), (0, 32)]) := rfl
theorem e_113_5 : pm_ins 113 5 = some (.astore_n 3, 1, 0, 0, 0, []) := rfl
theorem e_113_6 : pm_ins 113 6 = some (.aload_n 3, 1, 0, 0, 0, []) := rfl
theorem e_113_7 : pm_ins 113 7 = some (.ifnull 14, 3, 21, 0, 0, []) := rfl
theorem e_113_10 : pm_ins 113 10 = some (.aload_n 0, 1, 0, 0, 0, []) := rfl
theorem e_113_11 : pm_ins 113 11 = some (.getfield 30, 3, 10, 3, 3, [(2, 174)]) := rfl
theorem e_113_14 : pm_ins 113 14 = some (.iload_n 2, 1, 0, 0, 0, []) := rfl
theorem e_113_15 : pm_ins 113 15 = some (.invokevirtual 182, 3, 23, 0, 0, [(4, 57), (4, 58), (4, 59)]) := rfl
theorem e_113_18 : pm_ins 113 18 = some (.ifCond .ne 7, 3, 25, 0, 0, []) := rfl
theorem e_113_21 : pm_ins 113 21 = some (.ldc2_w 185, 3, 0, 0, (-1), [(4, 62)]) := rfl
theorem e_113_24 : pm_ins 113 24 = some (.lreturn, 1, 0, 0, 0, []) := rfl
theorem e_215_0 : pm_ins 215 0 = some (.iload_n 1, 1, 0, 0, 0, []) := rfl
theorem e_215_1 : pm_ins 215 1 = some (.iconst (-1), 1, 0, 0, 0, []) := rfl
theorem e_215_2 : pm_ins 215 2 = some (.if_icmp .eq 11, 3, 13, 0, 0, []) := rfl
theorem e_215_5 : pm_ins 215 5 = some (.aload_n 0, 1, 0, 0, 0, []) := rfl
theorem e_215_6 : pm_ins 215 6 = some (.iload_n 1, 1, 0, 0, 0, []) := rfl
theorem e_215_7 : pm_ins 215 7 = some (.invokevirtual 372, 3, 173, 0, 0, [(7, 64), (7, 66), (0, 92)]) := rfl
theorem e_215_10 : pm_ins 215 10 = some (.ifCond .eq 20, 3, 30, 0, 0, []) := rfl
theorem e_215_13 : pm_ins 215 13 = some (.aload_n 0, 1, 0, 0, 0, []) := rfl
theorem e_215_14 : pm_ins 215 14 = some (.iload_n 2, 1, 0, 0, 0, []) := rfl
theorem e_215_15 : pm_ins 215 15 = some (.invokevirtual 372, 3, 173, 0, 0, [(7, 64), (7, 66), (0, 92)]) := rfl
theorem e_215_18 : pm_ins 215 18 = some (.ifCond .eq 12, 3, 30, 0, 0, []) := rfl
theorem e_215_30 : pm_ins 215 30 = some (.ldc2_w 447, 3, 0, 0, (-1), [(7, 97)]) := rfl
theorem e_215_33 : pm_ins 215 33 = some (.lreturn, 1, 0, 0, 0, []) := rfl
set_option maxRecDepth 100000 in
theorem pf_cross_ph_3 : (pm_clsOk 10 (pm_cell ph_3 1) = true) ∧ (pm_clsOk 11 (pm_cell ph_3 225) = true) ∧ (Nat.ble ph_3.length 600000 = true) ∧ (Nat.ble (pm_sls ph_3) 7302250 = true) ∧ (pm_gf 10 13 (pm_cell ph_3 1) = some (.ref 159)) ∧ (pm_gf 8 3 (pm_cell ph_3 159) = some (.int 0)) ∧ (pm_gf 11 27 (pm_cell ph_3 225) = some (.int 0)) := by decide +kernel
theorem pf_cross_ph_3_0 : pm_clsOk 10 (pm_cell ph_3 1) = true := pf_cross_ph_3.1
theorem pf_cross_ph_3_1 : pm_clsOk 11 (pm_cell ph_3 225) = true := pf_cross_ph_3.2.1
theorem pf_cross_ph_3_2 : Nat.ble ph_3.length 600000 = true := pf_cross_ph_3.2.2.1
theorem pf_cross_ph_3_3 : Nat.ble (pm_sls ph_3) 7302250 = true := pf_cross_ph_3.2.2.2.1
theorem pf_cross_ph_3_4 : pm_gf 10 13 (pm_cell ph_3 1) = some (.ref 159) := pf_cross_ph_3.2.2.2.2.1
theorem pf_cross_ph_3_5 : pm_gf 8 3 (pm_cell ph_3 159) = some (.int 0) := pf_cross_ph_3.2.2.2.2.2.1
theorem pf_cross_ph_3_6 : pm_gf 11 27 (pm_cell ph_3 225) = some (.int 0) := pf_cross_ph_3.2.2.2.2.2.2
theorem pcw_9001 (v0 : Int32) (h21 : v0.toInt < (-1)) : pC 7 134 [.ref 1, .int v0] ph_3 = some ((some (.int 0)), ph_3) := by
  refine pm_cE em_134 rfl ?_
  refine pm_r (F' := (1, [(0, .ref 1), (1, .int v0)], [.int v0], ph_3)) e_134_0 rfl ?_
  refine pm_r (F' := (19, [(0, .ref 1), (1, .int v0)], [], ph_3)) e_134_1 (pm_sJ rfl (pm_jt (decide_eq_true (show v0 < (0 : Int32) from Int32.lt_iff_toInt_lt.mpr (by have e1 : (0 : Int32).toInt = 0 := (by decide +kernel); omega))))) ?_
  refine pm_r (F' := (20, [(0, .ref 1), (1, .int v0)], [.int 0], ph_3)) e_134_19 rfl ?_
  exact pm_rE e_134_20 rfl
theorem pcw_9002 (v0 : Int32) (h21 : v0.toInt < (-1)) : pC 8 135 [.ref 1, .int v0] ph_3 = some ((some (.null)), ph_3) := by
  refine pm_cE em_135 rfl ?_
  refine pm_r (F' := (1, [(0, .ref 1), (1, .int v0)], [.int v0], ph_3)) e_135_0 rfl ?_
  refine pm_r (F' := (2, [(0, .ref 1), (1, .int v0)], [.int (-1), .int v0], ph_3)) e_135_1 rfl ?_
  refine pm_r (F' := (13, [(0, .ref 1), (1, .int v0)], [], ph_3)) e_135_2 (pm_sJ rfl (pm_jt (decide_eq_true (show ¬ v0 = (-1 : Int32) from fun h => absurd (congrArg Int32.toInt h) (by have e1 : (-1 : Int32).toInt = -1 := (by decide +kernel); omega))))) ?_
  refine pm_r (F' := (14, [(0, .ref 1), (1, .int v0)], [.ref 1], ph_3)) e_135_13 rfl ?_
  refine pm_r (F' := (15, [(0, .ref 1), (1, .int v0)], [.int v0, .ref 1], ph_3)) e_135_14 rfl ?_
  refine pm_r (F' := (18, [(0, .ref 1), (1, .int v0)], [.int 0], ph_3)) e_135_15 (pm_sV em_134 rfl rfl pf_cross_ph_3_0 (pcw_9001 v0 h21)) ?_
  refine pm_r (F' := (33, [(0, .ref 1), (1, .int v0)], [], ph_3)) e_135_18 rfl ?_
  refine pm_r (F' := (34, [(0, .ref 1), (1, .int v0)], [.null], ph_3)) e_135_33 rfl ?_
  exact pm_rE e_135_34 rfl
theorem pcw_9003 (v0 : Int32) (h21 : v0.toInt < (-1)) (v1 : Int32) : pC 9 113 [.ref 1, .int v0, .int v1] ph_3 = some ((some (.long (-1))), ph_3) := by
  refine pm_cE em_113 rfl ?_
  refine pm_r (F' := (1, [(0, .ref 1), (1, .int v0), (2, .int v1)], [.ref 1], ph_3)) e_113_0 rfl ?_
  refine pm_r (F' := (2, [(0, .ref 1), (1, .int v0), (2, .int v1)], [.int v0, .ref 1], ph_3)) e_113_1 rfl ?_
  refine pm_r (F' := (5, [(0, .ref 1), (1, .int v0), (2, .int v1)], [.null], ph_3)) e_113_2 (pm_sV em_135 rfl rfl pf_cross_ph_3_0 (pcw_9002 v0 h21)) ?_
  refine pm_r (F' := (6, [(3, .null), (0, .ref 1), (1, .int v0), (2, .int v1)], [], ph_3)) e_113_5 rfl ?_
  refine pm_r (F' := (7, [(3, .null), (0, .ref 1), (1, .int v0), (2, .int v1)], [.null], ph_3)) e_113_6 rfl ?_
  refine pm_r (F' := (21, [(3, .null), (0, .ref 1), (1, .int v0), (2, .int v1)], [], ph_3)) e_113_7 rfl ?_
  refine pm_r (F' := (24, [(3, .null), (0, .ref 1), (1, .int v0), (2, .int v1)], [.long (-1)], ph_3)) e_113_21 rfl ?_
  exact pm_rE e_113_24 rfl
theorem pcw_9004 (v0 : Int32) (h21 : v0.toInt < (-1)) : pC 8 173 [.ref 225, .int v0] ph_3 = some ((some (.int 0)), ph_3) := by
  refine pm_cE em_173 rfl ?_
  refine pm_r (F' := (1, [(0, .ref 225), (1, .int v0)], [.int v0], ph_3)) e_173_0 rfl ?_
  refine pm_r (F' := (16, [(0, .ref 225), (1, .int v0)], [], ph_3)) e_173_1 (pm_sJ rfl (pm_jt (decide_eq_true (show v0 < (0 : Int32) from Int32.lt_iff_toInt_lt.mpr (by have e1 : (0 : Int32).toInt = 0 := (by decide +kernel); omega))))) ?_
  refine pm_r (F' := (17, [(0, .ref 225), (1, .int v0)], [.int 0], ph_3)) e_173_16 rfl ?_
  exact pm_rE e_173_17 rfl
theorem pcw_9005 (v0 : Int32) (h21 : v0.toInt < (-1)) (v1 : Int32) : pC 9 215 [.ref 225, .int v0, .int v1] ph_3 = some ((some (.long (-1))), ph_3) := by
  refine pm_cE em_215 rfl ?_
  refine pm_r (F' := (1, [(0, .ref 225), (1, .int v0), (2, .int v1)], [.int v0], ph_3)) e_215_0 rfl ?_
  refine pm_r (F' := (2, [(0, .ref 225), (1, .int v0), (2, .int v1)], [.int (-1), .int v0], ph_3)) e_215_1 rfl ?_
  refine pm_r (F' := (5, [(0, .ref 225), (1, .int v0), (2, .int v1)], [], ph_3)) e_215_2 (pm_sJ rfl (pm_jf (decide_eq_false (show ¬ v0 = (-1 : Int32) from fun h => absurd (congrArg Int32.toInt h) (by have e1 : (-1 : Int32).toInt = -1 := (by decide +kernel); omega))))) ?_
  refine pm_r (F' := (6, [(0, .ref 225), (1, .int v0), (2, .int v1)], [.ref 225], ph_3)) e_215_5 rfl ?_
  refine pm_r (F' := (7, [(0, .ref 225), (1, .int v0), (2, .int v1)], [.int v0, .ref 225], ph_3)) e_215_6 rfl ?_
  refine pm_r (F' := (10, [(0, .ref 225), (1, .int v0), (2, .int v1)], [.int 0], ph_3)) e_215_7 (pm_sV em_173 rfl rfl pf_cross_ph_3_1 (pcw_9004 v0 h21)) ?_
  refine pm_r (F' := (30, [(0, .ref 225), (1, .int v0), (2, .int v1)], [], ph_3)) e_215_10 rfl ?_
  refine pm_r (F' := (33, [(0, .ref 225), (1, .int v0), (2, .int v1)], [.long (-1)], ph_3)) e_215_30 rfl ?_
  exact pm_rE e_215_33 rfl
noncomputable def ph_c9010 : pm_H := pt_h (pC 8 135 [.ref 1, .int (-1)] ph_3)
set_option maxRecDepth 100000 in
theorem pf_cross_ph_c9010 : (pm_gf 10 3 (pm_cell ph_c9010 1) = some (.ref 10)) ∧ (pm_gf 3 2 (pm_cell ph_c9010 10) = some (.null)) ∧ (pm_clsOk 3 (pm_cell ph_c9010 10) = true) ∧ (pm_clsOk 11 (pm_cell ph_c9010 225) = true) ∧ (Nat.ble ph_c9010.length 600000 = true) ∧ (Nat.ble (pm_sls ph_c9010) 7302250 = true) ∧ (pm_gf 11 27 (pm_cell ph_c9010 225) = some (.int 0)) := by decide +kernel
theorem pf_cross_ph_c9010_0 : pm_gf 10 3 (pm_cell ph_c9010 1) = some (.ref 10) := pf_cross_ph_c9010.1
theorem pf_cross_ph_c9010_1 : pm_gf 3 2 (pm_cell ph_c9010 10) = some (.null) := pf_cross_ph_c9010.2.1
theorem pf_cross_ph_c9010_2 : pm_clsOk 3 (pm_cell ph_c9010 10) = true := pf_cross_ph_c9010.2.2.1
theorem pf_cross_ph_c9010_3 : pm_clsOk 11 (pm_cell ph_c9010 225) = true := pf_cross_ph_c9010.2.2.2.1
theorem pf_cross_ph_c9010_4 : Nat.ble ph_c9010.length 600000 = true := pf_cross_ph_c9010.2.2.2.2.1
theorem pf_cross_ph_c9010_5 : Nat.ble (pm_sls ph_c9010) 7302250 = true := pf_cross_ph_c9010.2.2.2.2.2.1
theorem pf_cross_ph_c9010_6 : pm_gf 11 27 (pm_cell ph_c9010 225) = some (.int 0) := pf_cross_ph_c9010.2.2.2.2.2.2
set_option maxRecDepth 100000 in
theorem pcc_9010 : pC 8 135 [.ref 1, .int (-1)] ph_3 = some ((some (.ref 41)), ph_c9010) := pt_some (by decide +kernel)
theorem pcw_9011 (v1 : Int32) (h23 : v1.toInt < 0) : pC 7 22 [.ref 10, .int v1] ph_c9010 = some ((some (.null)), ph_c9010) := by
  refine pm_cE em_22 rfl ?_
  refine pm_r (F' := (1, [(0, .ref 10), (1, .int v1)], [.ref 10], ph_c9010)) e_22_0 rfl ?_
  refine pm_r (F' := (4, [(0, .ref 10), (1, .int v1)], [.null], ph_c9010)) e_22_1 (pm_sG pf_cross_ph_c9010_1) ?_
  refine pm_r (F' := (31, [(0, .ref 10), (1, .int v1)], [], ph_c9010)) e_22_4 rfl ?_
  refine pm_r (F' := (32, [(0, .ref 10), (1, .int v1)], [.null], ph_c9010)) e_22_31 rfl ?_
  exact pm_rE e_22_32 rfl
theorem pcw_9012 (v1 : Int32) (h23 : v1.toInt < 0) : pC 8 23 [.ref 10, .int v1] ph_c9010 = some ((some (.int 0)), ph_c9010) := by
  refine pm_cE em_23 rfl ?_
  refine pm_r (F' := (1, [(0, .ref 10), (1, .int v1)], [.ref 10], ph_c9010)) e_23_0 rfl ?_
  refine pm_r (F' := (2, [(0, .ref 10), (1, .int v1)], [.int v1, .ref 10], ph_c9010)) e_23_1 rfl ?_
  refine pm_r (F' := (5, [(0, .ref 10), (1, .int v1)], [.null], ph_c9010)) e_23_2 (pm_sV em_22 rfl rfl pf_cross_ph_c9010_2 (pcw_9011 v1 h23)) ?_
  refine pm_r (F' := (6, [(2, .null), (0, .ref 10), (1, .int v1)], [], ph_c9010)) e_23_5 rfl ?_
  refine pm_r (F' := (7, [(2, .null), (0, .ref 10), (1, .int v1)], [.null], ph_c9010)) e_23_6 rfl ?_
  refine pm_r (F' := (22, [(2, .null), (0, .ref 10), (1, .int v1)], [], ph_c9010)) e_23_7 rfl ?_
  refine pm_r (F' := (23, [(2, .null), (0, .ref 10), (1, .int v1)], [.int 0], ph_c9010)) e_23_22 rfl ?_
  exact pm_rE e_23_23 rfl
theorem pcw_9013 (v1 : Int32) (h23 : v1.toInt < 0) : pC 9 113 [.ref 1, .int (-1), .int v1] ph_3 = some ((some (.long (-1))), ph_c9010) := by
  refine pm_cE em_113 rfl ?_
  refine pm_r (F' := (1, [(0, .ref 1), (1, .int (-1)), (2, .int v1)], [.ref 1], ph_3)) e_113_0 rfl ?_
  refine pm_r (F' := (2, [(0, .ref 1), (1, .int (-1)), (2, .int v1)], [.int (-1), .ref 1], ph_3)) e_113_1 rfl ?_
  refine pm_r (F' := (5, [(0, .ref 1), (1, .int (-1)), (2, .int v1)], [.ref 41], ph_c9010)) e_113_2 (pm_sV em_135 rfl rfl pf_cross_ph_3_0 pcc_9010) ?_
  refine pm_r (F' := (6, [(3, .ref 41), (0, .ref 1), (1, .int (-1)), (2, .int v1)], [], ph_c9010)) e_113_5 rfl ?_
  refine pm_r (F' := (7, [(3, .ref 41), (0, .ref 1), (1, .int (-1)), (2, .int v1)], [.ref 41], ph_c9010)) e_113_6 rfl ?_
  refine pm_r (F' := (10, [(3, .ref 41), (0, .ref 1), (1, .int (-1)), (2, .int v1)], [], ph_c9010)) e_113_7 rfl ?_
  refine pm_r (F' := (11, [(3, .ref 41), (0, .ref 1), (1, .int (-1)), (2, .int v1)], [.ref 1], ph_c9010)) e_113_10 rfl ?_
  refine pm_r (F' := (14, [(3, .ref 41), (0, .ref 1), (1, .int (-1)), (2, .int v1)], [.ref 10], ph_c9010)) e_113_11 (pm_sG pf_cross_ph_c9010_0) ?_
  refine pm_r (F' := (15, [(3, .ref 41), (0, .ref 1), (1, .int (-1)), (2, .int v1)], [.int v1, .ref 10], ph_c9010)) e_113_14 rfl ?_
  refine pm_r (F' := (18, [(3, .ref 41), (0, .ref 1), (1, .int (-1)), (2, .int v1)], [.int 0], ph_c9010)) e_113_15 (pm_sV em_23 rfl rfl pf_cross_ph_c9010_2 (pcw_9012 v1 h23)) ?_
  refine pm_r (F' := (21, [(3, .ref 41), (0, .ref 1), (1, .int (-1)), (2, .int v1)], [], ph_c9010)) e_113_18 rfl ?_
  refine pm_r (F' := (24, [(3, .ref 41), (0, .ref 1), (1, .int (-1)), (2, .int v1)], [.long (-1)], ph_c9010)) e_113_21 rfl ?_
  exact pm_rE e_113_24 rfl
theorem pcw_9014 (v1 : Int32) (h23 : v1.toInt < 0) : pC 8 173 [.ref 225, .int v1] ph_c9010 = some ((some (.int 0)), ph_c9010) := by
  refine pm_cE em_173 rfl ?_
  refine pm_r (F' := (1, [(0, .ref 225), (1, .int v1)], [.int v1], ph_c9010)) e_173_0 rfl ?_
  refine pm_r (F' := (16, [(0, .ref 225), (1, .int v1)], [], ph_c9010)) e_173_1 (pm_sJ rfl (pm_jt (decide_eq_true (show v1 < (0 : Int32) from Int32.lt_iff_toInt_lt.mpr (by have e1 : (0 : Int32).toInt = 0 := (by decide +kernel); omega))))) ?_
  refine pm_r (F' := (17, [(0, .ref 225), (1, .int v1)], [.int 0], ph_c9010)) e_173_16 rfl ?_
  exact pm_rE e_173_17 rfl
theorem pcw_9015 (v1 : Int32) (h23 : v1.toInt < 0) : pC 9 215 [.ref 225, .int (-1), .int v1] ph_c9010 = some ((some (.long (-1))), ph_c9010) := by
  refine pm_cE em_215 rfl ?_
  refine pm_r (F' := (1, [(0, .ref 225), (1, .int (-1)), (2, .int v1)], [.int (-1)], ph_c9010)) e_215_0 rfl ?_
  refine pm_r (F' := (2, [(0, .ref 225), (1, .int (-1)), (2, .int v1)], [.int (-1), .int (-1)], ph_c9010)) e_215_1 rfl ?_
  refine pm_r (F' := (13, [(0, .ref 225), (1, .int (-1)), (2, .int v1)], [], ph_c9010)) e_215_2 rfl ?_
  refine pm_r (F' := (14, [(0, .ref 225), (1, .int (-1)), (2, .int v1)], [.ref 225], ph_c9010)) e_215_13 rfl ?_
  refine pm_r (F' := (15, [(0, .ref 225), (1, .int (-1)), (2, .int v1)], [.int v1, .ref 225], ph_c9010)) e_215_14 rfl ?_
  refine pm_r (F' := (18, [(0, .ref 225), (1, .int (-1)), (2, .int v1)], [.int 0], ph_c9010)) e_215_15 (pm_sV em_173 rfl rfl pf_cross_ph_c9010_3 (pcw_9014 v1 h23)) ?_
  refine pm_r (F' := (30, [(0, .ref 225), (1, .int (-1)), (2, .int v1)], [], ph_c9010)) e_215_18 rfl ?_
  refine pm_r (F' := (33, [(0, .ref 225), (1, .int (-1)), (2, .int v1)], [.long (-1)], ph_c9010)) e_215_30 rfl ?_
  exact pm_rE e_215_33 rfl
theorem pcw_9016 (v1 : Int32) (h23 : 0 ≤ v1.toInt) : pC 7 22 [.ref 10, .int v1] ph_c9010 = some ((some (.null)), ph_c9010) := by
  refine pm_cE em_22 rfl ?_
  refine pm_r (F' := (1, [(0, .ref 10), (1, .int v1)], [.ref 10], ph_c9010)) e_22_0 rfl ?_
  refine pm_r (F' := (4, [(0, .ref 10), (1, .int v1)], [.null], ph_c9010)) e_22_1 (pm_sG pf_cross_ph_c9010_1) ?_
  refine pm_r (F' := (31, [(0, .ref 10), (1, .int v1)], [], ph_c9010)) e_22_4 rfl ?_
  refine pm_r (F' := (32, [(0, .ref 10), (1, .int v1)], [.null], ph_c9010)) e_22_31 rfl ?_
  exact pm_rE e_22_32 rfl
theorem pcw_9017 (v1 : Int32) (h23 : 0 ≤ v1.toInt) : pC 8 23 [.ref 10, .int v1] ph_c9010 = some ((some (.int 0)), ph_c9010) := by
  refine pm_cE em_23 rfl ?_
  refine pm_r (F' := (1, [(0, .ref 10), (1, .int v1)], [.ref 10], ph_c9010)) e_23_0 rfl ?_
  refine pm_r (F' := (2, [(0, .ref 10), (1, .int v1)], [.int v1, .ref 10], ph_c9010)) e_23_1 rfl ?_
  refine pm_r (F' := (5, [(0, .ref 10), (1, .int v1)], [.null], ph_c9010)) e_23_2 (pm_sV em_22 rfl rfl pf_cross_ph_c9010_2 (pcw_9016 v1 h23)) ?_
  refine pm_r (F' := (6, [(2, .null), (0, .ref 10), (1, .int v1)], [], ph_c9010)) e_23_5 rfl ?_
  refine pm_r (F' := (7, [(2, .null), (0, .ref 10), (1, .int v1)], [.null], ph_c9010)) e_23_6 rfl ?_
  refine pm_r (F' := (22, [(2, .null), (0, .ref 10), (1, .int v1)], [], ph_c9010)) e_23_7 rfl ?_
  refine pm_r (F' := (23, [(2, .null), (0, .ref 10), (1, .int v1)], [.int 0], ph_c9010)) e_23_22 rfl ?_
  exact pm_rE e_23_23 rfl
theorem pcw_9018 (v1 : Int32) (h23 : 0 ≤ v1.toInt) : pC 9 113 [.ref 1, .int (-1), .int v1] ph_3 = some ((some (.long (-1))), ph_c9010) := by
  refine pm_cE em_113 rfl ?_
  refine pm_r (F' := (1, [(0, .ref 1), (1, .int (-1)), (2, .int v1)], [.ref 1], ph_3)) e_113_0 rfl ?_
  refine pm_r (F' := (2, [(0, .ref 1), (1, .int (-1)), (2, .int v1)], [.int (-1), .ref 1], ph_3)) e_113_1 rfl ?_
  refine pm_r (F' := (5, [(0, .ref 1), (1, .int (-1)), (2, .int v1)], [.ref 41], ph_c9010)) e_113_2 (pm_sV em_135 rfl rfl pf_cross_ph_3_0 pcc_9010) ?_
  refine pm_r (F' := (6, [(3, .ref 41), (0, .ref 1), (1, .int (-1)), (2, .int v1)], [], ph_c9010)) e_113_5 rfl ?_
  refine pm_r (F' := (7, [(3, .ref 41), (0, .ref 1), (1, .int (-1)), (2, .int v1)], [.ref 41], ph_c9010)) e_113_6 rfl ?_
  refine pm_r (F' := (10, [(3, .ref 41), (0, .ref 1), (1, .int (-1)), (2, .int v1)], [], ph_c9010)) e_113_7 rfl ?_
  refine pm_r (F' := (11, [(3, .ref 41), (0, .ref 1), (1, .int (-1)), (2, .int v1)], [.ref 1], ph_c9010)) e_113_10 rfl ?_
  refine pm_r (F' := (14, [(3, .ref 41), (0, .ref 1), (1, .int (-1)), (2, .int v1)], [.ref 10], ph_c9010)) e_113_11 (pm_sG pf_cross_ph_c9010_0) ?_
  refine pm_r (F' := (15, [(3, .ref 41), (0, .ref 1), (1, .int (-1)), (2, .int v1)], [.int v1, .ref 10], ph_c9010)) e_113_14 rfl ?_
  refine pm_r (F' := (18, [(3, .ref 41), (0, .ref 1), (1, .int (-1)), (2, .int v1)], [.int 0], ph_c9010)) e_113_15 (pm_sV em_23 rfl rfl pf_cross_ph_c9010_2 (pcw_9017 v1 h23)) ?_
  refine pm_r (F' := (21, [(3, .ref 41), (0, .ref 1), (1, .int (-1)), (2, .int v1)], [], ph_c9010)) e_113_18 rfl ?_
  refine pm_r (F' := (24, [(3, .ref 41), (0, .ref 1), (1, .int (-1)), (2, .int v1)], [.long (-1)], ph_c9010)) e_113_21 rfl ?_
  exact pm_rE e_113_24 rfl
theorem pcw_9019 (v1 : Int32) (h23 : 0 ≤ v1.toInt) : pC 8 173 [.ref 225, .int v1] ph_c9010 = some ((some (.int 0)), ph_c9010) := by
  refine pm_cE em_173 rfl ?_
  refine pm_r (F' := (1, [(0, .ref 225), (1, .int v1)], [.int v1], ph_c9010)) e_173_0 rfl ?_
  refine pm_r (F' := (4, [(0, .ref 225), (1, .int v1)], [], ph_c9010)) e_173_1 (pm_sJ rfl (pm_jf (decide_eq_false (show ¬ v1 < (0 : Int32) from fun h => absurd (Int32.lt_iff_toInt_lt.mp h) (by have e1 : (0 : Int32).toInt = 0 := (by decide +kernel); omega))))) ?_
  refine pm_r (F' := (5, [(0, .ref 225), (1, .int v1)], [.int v1], ph_c9010)) e_173_4 rfl ?_
  refine pm_r (F' := (6, [(0, .ref 225), (1, .int v1)], [.ref 225, .int v1], ph_c9010)) e_173_5 rfl ?_
  refine pm_r (F' := (9, [(0, .ref 225), (1, .int v1)], [.int 0, .int v1], ph_c9010)) e_173_6 (pm_sG pf_cross_ph_c9010_6) ?_
  refine pm_r (F' := (16, [(0, .ref 225), (1, .int v1)], [], ph_c9010)) e_173_9 (pm_sJ rfl (pm_jt (decide_eq_true (show (0 : Int32) ≤ v1 from Int32.le_iff_toInt_le.mpr (by have e1 : (0 : Int32).toInt = 0 := (by decide +kernel); omega))))) ?_
  refine pm_r (F' := (17, [(0, .ref 225), (1, .int v1)], [.int 0], ph_c9010)) e_173_16 rfl ?_
  exact pm_rE e_173_17 rfl
theorem pcw_9020 (v1 : Int32) (h23 : 0 ≤ v1.toInt) : pC 9 215 [.ref 225, .int (-1), .int v1] ph_c9010 = some ((some (.long (-1))), ph_c9010) := by
  refine pm_cE em_215 rfl ?_
  refine pm_r (F' := (1, [(0, .ref 225), (1, .int (-1)), (2, .int v1)], [.int (-1)], ph_c9010)) e_215_0 rfl ?_
  refine pm_r (F' := (2, [(0, .ref 225), (1, .int (-1)), (2, .int v1)], [.int (-1), .int (-1)], ph_c9010)) e_215_1 rfl ?_
  refine pm_r (F' := (13, [(0, .ref 225), (1, .int (-1)), (2, .int v1)], [], ph_c9010)) e_215_2 rfl ?_
  refine pm_r (F' := (14, [(0, .ref 225), (1, .int (-1)), (2, .int v1)], [.ref 225], ph_c9010)) e_215_13 rfl ?_
  refine pm_r (F' := (15, [(0, .ref 225), (1, .int (-1)), (2, .int v1)], [.int v1, .ref 225], ph_c9010)) e_215_14 rfl ?_
  refine pm_r (F' := (18, [(0, .ref 225), (1, .int (-1)), (2, .int v1)], [.int 0], ph_c9010)) e_215_15 (pm_sV em_173 rfl rfl pf_cross_ph_c9010_3 (pcw_9019 v1 h23)) ?_
  refine pm_r (F' := (30, [(0, .ref 225), (1, .int (-1)), (2, .int v1)], [], ph_c9010)) e_215_18 rfl ?_
  refine pm_r (F' := (33, [(0, .ref 225), (1, .int (-1)), (2, .int v1)], [.long (-1)], ph_c9010)) e_215_30 rfl ?_
  exact pm_rE e_215_33 rfl
theorem pcw_9021 (v0 : Int32) (h21 : (-1) ≤ v0.toInt) (h22 : 0 ≤ v0.toInt) : pC 7 134 [.ref 1, .int v0] ph_3 = some ((some (.int 0)), ph_3) := by
  refine pm_cE em_134 rfl ?_
  refine pm_r (F' := (1, [(0, .ref 1), (1, .int v0)], [.int v0], ph_3)) e_134_0 rfl ?_
  refine pm_r (F' := (4, [(0, .ref 1), (1, .int v0)], [], ph_3)) e_134_1 (pm_sJ rfl (pm_jf (decide_eq_false (show ¬ v0 < (0 : Int32) from fun h => absurd (Int32.lt_iff_toInt_lt.mp h) (by have e1 : (0 : Int32).toInt = 0 := (by decide +kernel); omega))))) ?_
  refine pm_r (F' := (5, [(0, .ref 1), (1, .int v0)], [.int v0], ph_3)) e_134_4 rfl ?_
  refine pm_r (F' := (6, [(0, .ref 1), (1, .int v0)], [.ref 1, .int v0], ph_3)) e_134_5 rfl ?_
  refine pm_r (F' := (9, [(0, .ref 1), (1, .int v0)], [.ref 159, .int v0], ph_3)) e_134_6 (pm_sG pf_cross_ph_3_4) ?_
  refine pm_r (F' := (12, [(0, .ref 1), (1, .int v0)], [.int 0, .int v0], ph_3)) e_134_9 (pm_sG pf_cross_ph_3_5) ?_
  refine pm_r (F' := (19, [(0, .ref 1), (1, .int v0)], [], ph_3)) e_134_12 (pm_sJ rfl (pm_jt (decide_eq_true (show (0 : Int32) ≤ v0 from Int32.le_iff_toInt_le.mpr (by have e1 : (0 : Int32).toInt = 0 := (by decide +kernel); omega))))) ?_
  refine pm_r (F' := (20, [(0, .ref 1), (1, .int v0)], [.int 0], ph_3)) e_134_19 rfl ?_
  exact pm_rE e_134_20 rfl
theorem pcw_9022 (v0 : Int32) (h21 : (-1) ≤ v0.toInt) (h22 : 0 ≤ v0.toInt) : pC 8 135 [.ref 1, .int v0] ph_3 = some ((some (.null)), ph_3) := by
  refine pm_cE em_135 rfl ?_
  refine pm_r (F' := (1, [(0, .ref 1), (1, .int v0)], [.int v0], ph_3)) e_135_0 rfl ?_
  refine pm_r (F' := (2, [(0, .ref 1), (1, .int v0)], [.int (-1), .int v0], ph_3)) e_135_1 rfl ?_
  refine pm_r (F' := (13, [(0, .ref 1), (1, .int v0)], [], ph_3)) e_135_2 (pm_sJ rfl (pm_jt (decide_eq_true (show ¬ v0 = (-1 : Int32) from fun h => absurd (congrArg Int32.toInt h) (by have e1 : (-1 : Int32).toInt = -1 := (by decide +kernel); omega))))) ?_
  refine pm_r (F' := (14, [(0, .ref 1), (1, .int v0)], [.ref 1], ph_3)) e_135_13 rfl ?_
  refine pm_r (F' := (15, [(0, .ref 1), (1, .int v0)], [.int v0, .ref 1], ph_3)) e_135_14 rfl ?_
  refine pm_r (F' := (18, [(0, .ref 1), (1, .int v0)], [.int 0], ph_3)) e_135_15 (pm_sV em_134 rfl rfl pf_cross_ph_3_0 (pcw_9021 v0 h21 h22)) ?_
  refine pm_r (F' := (33, [(0, .ref 1), (1, .int v0)], [], ph_3)) e_135_18 rfl ?_
  refine pm_r (F' := (34, [(0, .ref 1), (1, .int v0)], [.null], ph_3)) e_135_33 rfl ?_
  exact pm_rE e_135_34 rfl
theorem pcw_9023 (v0 : Int32) (h21 : (-1) ≤ v0.toInt) (h22 : 0 ≤ v0.toInt) (v1 : Int32) : pC 9 113 [.ref 1, .int v0, .int v1] ph_3 = some ((some (.long (-1))), ph_3) := by
  refine pm_cE em_113 rfl ?_
  refine pm_r (F' := (1, [(0, .ref 1), (1, .int v0), (2, .int v1)], [.ref 1], ph_3)) e_113_0 rfl ?_
  refine pm_r (F' := (2, [(0, .ref 1), (1, .int v0), (2, .int v1)], [.int v0, .ref 1], ph_3)) e_113_1 rfl ?_
  refine pm_r (F' := (5, [(0, .ref 1), (1, .int v0), (2, .int v1)], [.null], ph_3)) e_113_2 (pm_sV em_135 rfl rfl pf_cross_ph_3_0 (pcw_9022 v0 h21 h22)) ?_
  refine pm_r (F' := (6, [(3, .null), (0, .ref 1), (1, .int v0), (2, .int v1)], [], ph_3)) e_113_5 rfl ?_
  refine pm_r (F' := (7, [(3, .null), (0, .ref 1), (1, .int v0), (2, .int v1)], [.null], ph_3)) e_113_6 rfl ?_
  refine pm_r (F' := (21, [(3, .null), (0, .ref 1), (1, .int v0), (2, .int v1)], [], ph_3)) e_113_7 rfl ?_
  refine pm_r (F' := (24, [(3, .null), (0, .ref 1), (1, .int v0), (2, .int v1)], [.long (-1)], ph_3)) e_113_21 rfl ?_
  exact pm_rE e_113_24 rfl
theorem pcw_9024 (v0 : Int32) (h21 : (-1) ≤ v0.toInt) (h22 : 0 ≤ v0.toInt) : pC 8 173 [.ref 225, .int v0] ph_3 = some ((some (.int 0)), ph_3) := by
  refine pm_cE em_173 rfl ?_
  refine pm_r (F' := (1, [(0, .ref 225), (1, .int v0)], [.int v0], ph_3)) e_173_0 rfl ?_
  refine pm_r (F' := (4, [(0, .ref 225), (1, .int v0)], [], ph_3)) e_173_1 (pm_sJ rfl (pm_jf (decide_eq_false (show ¬ v0 < (0 : Int32) from fun h => absurd (Int32.lt_iff_toInt_lt.mp h) (by have e1 : (0 : Int32).toInt = 0 := (by decide +kernel); omega))))) ?_
  refine pm_r (F' := (5, [(0, .ref 225), (1, .int v0)], [.int v0], ph_3)) e_173_4 rfl ?_
  refine pm_r (F' := (6, [(0, .ref 225), (1, .int v0)], [.ref 225, .int v0], ph_3)) e_173_5 rfl ?_
  refine pm_r (F' := (9, [(0, .ref 225), (1, .int v0)], [.int 0, .int v0], ph_3)) e_173_6 (pm_sG pf_cross_ph_3_6) ?_
  refine pm_r (F' := (16, [(0, .ref 225), (1, .int v0)], [], ph_3)) e_173_9 (pm_sJ rfl (pm_jt (decide_eq_true (show (0 : Int32) ≤ v0 from Int32.le_iff_toInt_le.mpr (by have e1 : (0 : Int32).toInt = 0 := (by decide +kernel); omega))))) ?_
  refine pm_r (F' := (17, [(0, .ref 225), (1, .int v0)], [.int 0], ph_3)) e_173_16 rfl ?_
  exact pm_rE e_173_17 rfl
theorem pcw_9025 (v0 : Int32) (h21 : (-1) ≤ v0.toInt) (h22 : 0 ≤ v0.toInt) (v1 : Int32) : pC 9 215 [.ref 225, .int v0, .int v1] ph_3 = some ((some (.long (-1))), ph_3) := by
  refine pm_cE em_215 rfl ?_
  refine pm_r (F' := (1, [(0, .ref 225), (1, .int v0), (2, .int v1)], [.int v0], ph_3)) e_215_0 rfl ?_
  refine pm_r (F' := (2, [(0, .ref 225), (1, .int v0), (2, .int v1)], [.int (-1), .int v0], ph_3)) e_215_1 rfl ?_
  refine pm_r (F' := (5, [(0, .ref 225), (1, .int v0), (2, .int v1)], [], ph_3)) e_215_2 (pm_sJ rfl (pm_jf (decide_eq_false (show ¬ v0 = (-1 : Int32) from fun h => absurd (congrArg Int32.toInt h) (by have e1 : (-1 : Int32).toInt = -1 := (by decide +kernel); omega))))) ?_
  refine pm_r (F' := (6, [(0, .ref 225), (1, .int v0), (2, .int v1)], [.ref 225], ph_3)) e_215_5 rfl ?_
  refine pm_r (F' := (7, [(0, .ref 225), (1, .int v0), (2, .int v1)], [.int v0, .ref 225], ph_3)) e_215_6 rfl ?_
  refine pm_r (F' := (10, [(0, .ref 225), (1, .int v0), (2, .int v1)], [.int 0], ph_3)) e_215_7 (pm_sV em_173 rfl rfl pf_cross_ph_3_1 (pcw_9024 v0 h21 h22)) ?_
  refine pm_r (F' := (30, [(0, .ref 225), (1, .int v0), (2, .int v1)], [], ph_3)) e_215_10 rfl ?_
  refine pm_r (F' := (33, [(0, .ref 225), (1, .int v0), (2, .int v1)], [.long (-1)], ph_3)) e_215_30 rfl ?_
  exact pm_rE e_215_33 rfl
set_option maxRecDepth 100000 in
theorem pq_cross (v0 : Int32) (v1 : Int32) : ∃ r : Int64, pq_ok 113 215 [.int v0, .int v1] (.long r) := by
  rcases (show v0.toInt < (-1) ∨ (-1) ≤ v0.toInt by omega) with h21 | h21
  · exact ⟨(-1), ph_3, ph_3, (pcw_9003 v0 h21 v1), (pcw_9005 v0 h21 v1), pf_cross_ph_3_1, Nat.le_of_ble_eq_true pf_cross_ph_3_2, Nat.le_of_ble_eq_true pf_cross_ph_3_3⟩
  · rcases (show v0.toInt < 0 ∨ 0 ≤ v0.toInt by omega) with h22 | h22
    · obtain rfl : v0 = (-1) := Int32.toInt_inj.mp (by have e : (-1 : Int32).toInt = -1 := (by decide +kernel); omega)
      rcases (show v1.toInt < 0 ∨ 0 ≤ v1.toInt by omega) with h23 | h23
      · exact ⟨(-1), ph_c9010, ph_c9010, (pcw_9013 v1 h23), (pcw_9015 v1 h23), pf_cross_ph_c9010_3, Nat.le_of_ble_eq_true pf_cross_ph_c9010_4, Nat.le_of_ble_eq_true pf_cross_ph_c9010_5⟩
      · exact ⟨(-1), ph_c9010, ph_c9010, (pcw_9018 v1 h23), (pcw_9020 v1 h23), pf_cross_ph_c9010_3, Nat.le_of_ble_eq_true pf_cross_ph_c9010_4, Nat.le_of_ble_eq_true pf_cross_ph_c9010_5⟩
    · exact ⟨(-1), ph_3, ph_3, (pcw_9023 v0 h21 h22 v1), (pcw_9025 v0 h21 h22 v1), pf_cross_ph_3_1, Nat.le_of_ble_eq_true pf_cross_ph_3_2, Nat.le_of_ble_eq_true pf_cross_ph_3_3⟩

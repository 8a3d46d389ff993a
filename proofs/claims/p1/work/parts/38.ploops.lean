/-! loops on fresh objects, by program -/
theorem em_109 : pm_ms 109 = some (yX10_loops, cX10_loops, 4, (some .int), 2, 10) := rfl
theorem em_192 : pm_ms 192 = some (yX11_loops, cX11_loops, 3, (some .int), 2, 11) := rfl
theorem e_109_0 : pm_ins 109 0 = some (.aload_n 0, 1, 0, 0, 0, []) := rfl
theorem e_109_1 : pm_ins 109 1 = some (.iload_n 1, 1, 0, 0, 0, []) := rfl
theorem e_109_2 : pm_ins 109 2 = some (.invokevirtual 136, 3, 135, 0, 0, [(4, 4), (4, 6), (0, 32)]) := rfl
theorem e_109_5 : pm_ins 109 5 = some (.astore_n 3, 1, 0, 0, 0, []) := rfl
theorem e_109_6 : pm_ins 109 6 = some (.aload_n 3, 1, 0, 0, 0, []) := rfl
theorem e_109_7 : pm_ins 109 7 = some (.ifnull 12, 3, 19, 0, 0, []) := rfl
theorem e_109_10 : pm_ins 109 10 = some (.iload_n 2, 1, 0, 0, 0, []) := rfl
theorem e_109_11 : pm_ins 109 11 = some (.ifCond .lt 8, 3, 19, 0, 0, []) := rfl
theorem e_109_14 : pm_ins 109 14 = some (.iload_n 2, 1, 0, 0, 0, []) := rfl
theorem e_109_15 : pm_ins 109 15 = some (.iconst 2, 1, 0, 0, 0, []) := rfl
theorem e_109_16 : pm_ins 109 16 = some (.if_icmp .le 5, 3, 21, 0, 0, []) := rfl
theorem e_109_19 : pm_ins 109 19 = some (.iconst (-1), 1, 0, 0, 0, []) := rfl
theorem e_109_20 : pm_ins 109 20 = some (.ireturn, 1, 0, 0, 0, []) := rfl
theorem e_192_0 : pm_ins 192 0 = some (.iload_n 1, 1, 0, 0, 0, []) := rfl
theorem e_192_1 : pm_ins 192 1 = some (.iconst (-1), 1, 0, 0, 0, []) := rfl
theorem e_192_2 : pm_ins 192 2 = some (.if_icmp .eq 11, 3, 13, 0, 0, []) := rfl
theorem e_192_5 : pm_ins 192 5 = some (.aload_n 0, 1, 0, 0, 0, []) := rfl
theorem e_192_6 : pm_ins 192 6 = some (.iload_n 1, 1, 0, 0, 0, []) := rfl
theorem e_192_7 : pm_ins 192 7 = some (.invokevirtual 372, 3, 173, 0, 0, [(7, 64), (7, 66), (0, 92)]) := rfl
theorem e_192_10 : pm_ins 192 10 = some (.ifCond .eq 12, 3, 22, 0, 0, []) := rfl
theorem e_192_13 : pm_ins 192 13 = some (.iload_n 2, 1, 0, 0, 0, []) := rfl
theorem e_192_14 : pm_ins 192 14 = some (.ifCond .lt 8, 3, 22, 0, 0, []) := rfl
theorem e_192_17 : pm_ins 192 17 = some (.iload_n 2, 1, 0, 0, 0, []) := rfl
theorem e_192_18 : pm_ins 192 18 = some (.iconst 2, 1, 0, 0, 0, []) := rfl
theorem e_192_19 : pm_ins 192 19 = some (.if_icmp .le 5, 3, 24, 0, 0, []) := rfl
theorem e_192_22 : pm_ins 192 22 = some (.iconst (-1), 1, 0, 0, 0, []) := rfl
theorem e_192_23 : pm_ins 192 23 = some (.ireturn, 1, 0, 0, 0, []) := rfl
set_option maxRecDepth 100000 in
theorem pf_loops_ph_3 : (pm_clsOk 10 (pm_cell ph_3 1) = true) ∧ (pm_clsOk 11 (pm_cell ph_3 225) = true) ∧ (Nat.ble ph_3.length 600000 = true) ∧ (Nat.ble (pm_sls ph_3) 7302250 = true) ∧ (pm_gf 10 13 (pm_cell ph_3 1) = some (.ref 159)) ∧ (pm_gf 8 3 (pm_cell ph_3 159) = some (.int 0)) ∧ (pm_gf 11 27 (pm_cell ph_3 225) = some (.int 0)) := by decide +kernel
theorem pf_loops_ph_3_0 : pm_clsOk 10 (pm_cell ph_3 1) = true := pf_loops_ph_3.1
theorem pf_loops_ph_3_1 : pm_clsOk 11 (pm_cell ph_3 225) = true := pf_loops_ph_3.2.1
theorem pf_loops_ph_3_2 : Nat.ble ph_3.length 600000 = true := pf_loops_ph_3.2.2.1
theorem pf_loops_ph_3_3 : Nat.ble (pm_sls ph_3) 7302250 = true := pf_loops_ph_3.2.2.2.1
theorem pf_loops_ph_3_4 : pm_gf 10 13 (pm_cell ph_3 1) = some (.ref 159) := pf_loops_ph_3.2.2.2.2.1
theorem pf_loops_ph_3_5 : pm_gf 8 3 (pm_cell ph_3 159) = some (.int 0) := pf_loops_ph_3.2.2.2.2.2.1
theorem pf_loops_ph_3_6 : pm_gf 11 27 (pm_cell ph_3 225) = some (.int 0) := pf_loops_ph_3.2.2.2.2.2.2
theorem pcw_5001 (v0 : Int32) (h10 : v0.toInt < (-1)) : pC 7 134 [.ref 1, .int v0] ph_3 = some ((some (.int 0)), ph_3) := by
  refine pm_cE em_134 rfl ?_
  refine pm_r (F' := (1, [(0, .ref 1), (1, .int v0)], [.int v0], ph_3)) e_134_0 rfl ?_
  refine pm_r (F' := (19, [(0, .ref 1), (1, .int v0)], [], ph_3)) e_134_1 (pm_sJ rfl (pm_jt (decide_eq_true (show v0 < (0 : Int32) from Int32.lt_iff_toInt_lt.mpr (by have e1 : (0 : Int32).toInt = 0 := (by decide +kernel); omega))))) ?_
  refine pm_r (F' := (20, [(0, .ref 1), (1, .int v0)], [.int 0], ph_3)) e_134_19 rfl ?_
  exact pm_rE e_134_20 rfl
theorem pcw_5002 (v0 : Int32) (h10 : v0.toInt < (-1)) : pC 8 135 [.ref 1, .int v0] ph_3 = some ((some (.null)), ph_3) := by
  refine pm_cE em_135 rfl ?_
  refine pm_r (F' := (1, [(0, .ref 1), (1, .int v0)], [.int v0], ph_3)) e_135_0 rfl ?_
  refine pm_r (F' := (2, [(0, .ref 1), (1, .int v0)], [.int (-1), .int v0], ph_3)) e_135_1 rfl ?_
  refine pm_r (F' := (13, [(0, .ref 1), (1, .int v0)], [], ph_3)) e_135_2 (pm_sJ rfl (pm_jt (decide_eq_true (show ¬ v0 = (-1 : Int32) from fun h => absurd (congrArg Int32.toInt h) (by have e1 : (-1 : Int32).toInt = -1 := (by decide +kernel); omega))))) ?_
  refine pm_r (F' := (14, [(0, .ref 1), (1, .int v0)], [.ref 1], ph_3)) e_135_13 rfl ?_
  refine pm_r (F' := (15, [(0, .ref 1), (1, .int v0)], [.int v0, .ref 1], ph_3)) e_135_14 rfl ?_
  refine pm_r (F' := (18, [(0, .ref 1), (1, .int v0)], [.int 0], ph_3)) e_135_15 (pm_sV em_134 rfl rfl pf_loops_ph_3_0 (pcw_5001 v0 h10)) ?_
  refine pm_r (F' := (33, [(0, .ref 1), (1, .int v0)], [], ph_3)) e_135_18 rfl ?_
  refine pm_r (F' := (34, [(0, .ref 1), (1, .int v0)], [.null], ph_3)) e_135_33 rfl ?_
  exact pm_rE e_135_34 rfl
theorem pcw_5003 (v0 : Int32) (h10 : v0.toInt < (-1)) (v1 : Int32) : pC 9 109 [.ref 1, .int v0, .int v1] ph_3 = some ((some (.int (-1))), ph_3) := by
  refine pm_cE em_109 rfl ?_
  refine pm_r (F' := (1, [(0, .ref 1), (1, .int v0), (2, .int v1)], [.ref 1], ph_3)) e_109_0 rfl ?_
  refine pm_r (F' := (2, [(0, .ref 1), (1, .int v0), (2, .int v1)], [.int v0, .ref 1], ph_3)) e_109_1 rfl ?_
  refine pm_r (F' := (5, [(0, .ref 1), (1, .int v0), (2, .int v1)], [.null], ph_3)) e_109_2 (pm_sV em_135 rfl rfl pf_loops_ph_3_0 (pcw_5002 v0 h10)) ?_
  refine pm_r (F' := (6, [(3, .null), (0, .ref 1), (1, .int v0), (2, .int v1)], [], ph_3)) e_109_5 rfl ?_
  refine pm_r (F' := (7, [(3, .null), (0, .ref 1), (1, .int v0), (2, .int v1)], [.null], ph_3)) e_109_6 rfl ?_
  refine pm_r (F' := (19, [(3, .null), (0, .ref 1), (1, .int v0), (2, .int v1)], [], ph_3)) e_109_7 rfl ?_
  refine pm_r (F' := (20, [(3, .null), (0, .ref 1), (1, .int v0), (2, .int v1)], [.int (-1)], ph_3)) e_109_19 rfl ?_
  exact pm_rE e_109_20 rfl
theorem pcw_5004 (v0 : Int32) (h10 : v0.toInt < (-1)) : pC 8 173 [.ref 225, .int v0] ph_3 = some ((some (.int 0)), ph_3) := by
  refine pm_cE em_173 rfl ?_
  refine pm_r (F' := (1, [(0, .ref 225), (1, .int v0)], [.int v0], ph_3)) e_173_0 rfl ?_
  refine pm_r (F' := (16, [(0, .ref 225), (1, .int v0)], [], ph_3)) e_173_1 (pm_sJ rfl (pm_jt (decide_eq_true (show v0 < (0 : Int32) from Int32.lt_iff_toInt_lt.mpr (by have e1 : (0 : Int32).toInt = 0 := (by decide +kernel); omega))))) ?_
  refine pm_r (F' := (17, [(0, .ref 225), (1, .int v0)], [.int 0], ph_3)) e_173_16 rfl ?_
  exact pm_rE e_173_17 rfl
theorem pcw_5005 (v0 : Int32) (h10 : v0.toInt < (-1)) (v1 : Int32) : pC 9 192 [.ref 225, .int v0, .int v1] ph_3 = some ((some (.int (-1))), ph_3) := by
  refine pm_cE em_192 rfl ?_
  refine pm_r (F' := (1, [(0, .ref 225), (1, .int v0), (2, .int v1)], [.int v0], ph_3)) e_192_0 rfl ?_
  refine pm_r (F' := (2, [(0, .ref 225), (1, .int v0), (2, .int v1)], [.int (-1), .int v0], ph_3)) e_192_1 rfl ?_
  refine pm_r (F' := (5, [(0, .ref 225), (1, .int v0), (2, .int v1)], [], ph_3)) e_192_2 (pm_sJ rfl (pm_jf (decide_eq_false (show ¬ v0 = (-1 : Int32) from fun h => absurd (congrArg Int32.toInt h) (by have e1 : (-1 : Int32).toInt = -1 := (by decide +kernel); omega))))) ?_
  refine pm_r (F' := (6, [(0, .ref 225), (1, .int v0), (2, .int v1)], [.ref 225], ph_3)) e_192_5 rfl ?_
  refine pm_r (F' := (7, [(0, .ref 225), (1, .int v0), (2, .int v1)], [.int v0, .ref 225], ph_3)) e_192_6 rfl ?_
  refine pm_r (F' := (10, [(0, .ref 225), (1, .int v0), (2, .int v1)], [.int 0], ph_3)) e_192_7 (pm_sV em_173 rfl rfl pf_loops_ph_3_1 (pcw_5004 v0 h10)) ?_
  refine pm_r (F' := (22, [(0, .ref 225), (1, .int v0), (2, .int v1)], [], ph_3)) e_192_10 rfl ?_
  refine pm_r (F' := (23, [(0, .ref 225), (1, .int v0), (2, .int v1)], [.int (-1)], ph_3)) e_192_22 rfl ?_
  exact pm_rE e_192_23 rfl
noncomputable def ph_c5007 : pm_H := pt_h (pC 8 135 [.ref 1, .int (-1)] ph_3)
set_option maxRecDepth 100000 in
theorem pf_loops_ph_c5007 : (pm_clsOk 11 (pm_cell ph_c5007 225) = true) ∧ (Nat.ble ph_c5007.length 600000 = true) ∧ (Nat.ble (pm_sls ph_c5007) 7302250 = true) := by decide +kernel
theorem pf_loops_ph_c5007_0 : pm_clsOk 11 (pm_cell ph_c5007 225) = true := pf_loops_ph_c5007.1
theorem pf_loops_ph_c5007_1 : Nat.ble ph_c5007.length 600000 = true := pf_loops_ph_c5007.2.1
theorem pf_loops_ph_c5007_2 : Nat.ble (pm_sls ph_c5007) 7302250 = true := pf_loops_ph_c5007.2.2
set_option maxRecDepth 100000 in
theorem pcc_5007 : pC 8 135 [.ref 1, .int (-1)] ph_3 = some ((some (.ref 41)), ph_c5007) := pt_some (by decide +kernel)
theorem pcw_5008 (v1 : Int32) (h12 : v1.toInt < 0) : pC 9 109 [.ref 1, .int (-1), .int v1] ph_3 = some ((some (.int (-1))), ph_c5007) := by
  refine pm_cE em_109 rfl ?_
  refine pm_r (F' := (1, [(0, .ref 1), (1, .int (-1)), (2, .int v1)], [.ref 1], ph_3)) e_109_0 rfl ?_
  refine pm_r (F' := (2, [(0, .ref 1), (1, .int (-1)), (2, .int v1)], [.int (-1), .ref 1], ph_3)) e_109_1 rfl ?_
  refine pm_r (F' := (5, [(0, .ref 1), (1, .int (-1)), (2, .int v1)], [.ref 41], ph_c5007)) e_109_2 (pm_sV em_135 rfl rfl pf_loops_ph_3_0 pcc_5007) ?_
  refine pm_r (F' := (6, [(3, .ref 41), (0, .ref 1), (1, .int (-1)), (2, .int v1)], [], ph_c5007)) e_109_5 rfl ?_
  refine pm_r (F' := (7, [(3, .ref 41), (0, .ref 1), (1, .int (-1)), (2, .int v1)], [.ref 41], ph_c5007)) e_109_6 rfl ?_
  refine pm_r (F' := (10, [(3, .ref 41), (0, .ref 1), (1, .int (-1)), (2, .int v1)], [], ph_c5007)) e_109_7 rfl ?_
  refine pm_r (F' := (11, [(3, .ref 41), (0, .ref 1), (1, .int (-1)), (2, .int v1)], [.int v1], ph_c5007)) e_109_10 rfl ?_
  refine pm_r (F' := (19, [(3, .ref 41), (0, .ref 1), (1, .int (-1)), (2, .int v1)], [], ph_c5007)) e_109_11 (pm_sJ rfl (pm_jt (decide_eq_true (show v1 < (0 : Int32) from Int32.lt_iff_toInt_lt.mpr (by have e1 : (0 : Int32).toInt = 0 := (by decide +kernel); omega))))) ?_
  refine pm_r (F' := (20, [(3, .ref 41), (0, .ref 1), (1, .int (-1)), (2, .int v1)], [.int (-1)], ph_c5007)) e_109_19 rfl ?_
  exact pm_rE e_109_20 rfl
theorem pcw_5009 (v1 : Int32) (h12 : v1.toInt < 0) : pC 9 192 [.ref 225, .int (-1), .int v1] ph_c5007 = some ((some (.int (-1))), ph_c5007) := by
  refine pm_cE em_192 rfl ?_
  refine pm_r (F' := (1, [(0, .ref 225), (1, .int (-1)), (2, .int v1)], [.int (-1)], ph_c5007)) e_192_0 rfl ?_
  refine pm_r (F' := (2, [(0, .ref 225), (1, .int (-1)), (2, .int v1)], [.int (-1), .int (-1)], ph_c5007)) e_192_1 rfl ?_
  refine pm_r (F' := (13, [(0, .ref 225), (1, .int (-1)), (2, .int v1)], [], ph_c5007)) e_192_2 rfl ?_
  refine pm_r (F' := (14, [(0, .ref 225), (1, .int (-1)), (2, .int v1)], [.int v1], ph_c5007)) e_192_13 rfl ?_
  refine pm_r (F' := (22, [(0, .ref 225), (1, .int (-1)), (2, .int v1)], [], ph_c5007)) e_192_14 (pm_sJ rfl (pm_jt (decide_eq_true (show v1 < (0 : Int32) from Int32.lt_iff_toInt_lt.mpr (by have e1 : (0 : Int32).toInt = 0 := (by decide +kernel); omega))))) ?_
  refine pm_r (F' := (23, [(0, .ref 225), (1, .int (-1)), (2, .int v1)], [.int (-1)], ph_c5007)) e_192_22 rfl ?_
  exact pm_rE e_192_23 rfl
theorem pcw_5014 (v1 : Int32) (h12 : 0 ≤ v1.toInt) (h13 : 3 ≤ v1.toInt) : pC 9 109 [.ref 1, .int (-1), .int v1] ph_3 = some ((some (.int (-1))), ph_c5007) := by
  refine pm_cE em_109 rfl ?_
  refine pm_r (F' := (1, [(0, .ref 1), (1, .int (-1)), (2, .int v1)], [.ref 1], ph_3)) e_109_0 rfl ?_
  refine pm_r (F' := (2, [(0, .ref 1), (1, .int (-1)), (2, .int v1)], [.int (-1), .ref 1], ph_3)) e_109_1 rfl ?_
  refine pm_r (F' := (5, [(0, .ref 1), (1, .int (-1)), (2, .int v1)], [.ref 41], ph_c5007)) e_109_2 (pm_sV em_135 rfl rfl pf_loops_ph_3_0 pcc_5007) ?_
  refine pm_r (F' := (6, [(3, .ref 41), (0, .ref 1), (1, .int (-1)), (2, .int v1)], [], ph_c5007)) e_109_5 rfl ?_
  refine pm_r (F' := (7, [(3, .ref 41), (0, .ref 1), (1, .int (-1)), (2, .int v1)], [.ref 41], ph_c5007)) e_109_6 rfl ?_
  refine pm_r (F' := (10, [(3, .ref 41), (0, .ref 1), (1, .int (-1)), (2, .int v1)], [], ph_c5007)) e_109_7 rfl ?_
  refine pm_r (F' := (11, [(3, .ref 41), (0, .ref 1), (1, .int (-1)), (2, .int v1)], [.int v1], ph_c5007)) e_109_10 rfl ?_
  refine pm_r (F' := (14, [(3, .ref 41), (0, .ref 1), (1, .int (-1)), (2, .int v1)], [], ph_c5007)) e_109_11 (pm_sJ rfl (pm_jf (decide_eq_false (show ¬ v1 < (0 : Int32) from fun h => absurd (Int32.lt_iff_toInt_lt.mp h) (by have e1 : (0 : Int32).toInt = 0 := (by decide +kernel); omega))))) ?_
  refine pm_r (F' := (15, [(3, .ref 41), (0, .ref 1), (1, .int (-1)), (2, .int v1)], [.int v1], ph_c5007)) e_109_14 rfl ?_
  refine pm_r (F' := (16, [(3, .ref 41), (0, .ref 1), (1, .int (-1)), (2, .int v1)], [.int 2, .int v1], ph_c5007)) e_109_15 rfl ?_
  refine pm_r (F' := (19, [(3, .ref 41), (0, .ref 1), (1, .int (-1)), (2, .int v1)], [], ph_c5007)) e_109_16 (pm_sJ rfl (pm_jf (decide_eq_false (show ¬ v1 ≤ (2 : Int32) from fun h => absurd (Int32.le_iff_toInt_le.mp h) (by have e1 : (2 : Int32).toInt = 2 := (by decide +kernel); omega))))) ?_
  refine pm_r (F' := (20, [(3, .ref 41), (0, .ref 1), (1, .int (-1)), (2, .int v1)], [.int (-1)], ph_c5007)) e_109_19 rfl ?_
  exact pm_rE e_109_20 rfl
theorem pcw_5015 (v1 : Int32) (h12 : 0 ≤ v1.toInt) (h13 : 3 ≤ v1.toInt) : pC 9 192 [.ref 225, .int (-1), .int v1] ph_c5007 = some ((some (.int (-1))), ph_c5007) := by
  refine pm_cE em_192 rfl ?_
  refine pm_r (F' := (1, [(0, .ref 225), (1, .int (-1)), (2, .int v1)], [.int (-1)], ph_c5007)) e_192_0 rfl ?_
  refine pm_r (F' := (2, [(0, .ref 225), (1, .int (-1)), (2, .int v1)], [.int (-1), .int (-1)], ph_c5007)) e_192_1 rfl ?_
  refine pm_r (F' := (13, [(0, .ref 225), (1, .int (-1)), (2, .int v1)], [], ph_c5007)) e_192_2 rfl ?_
  refine pm_r (F' := (14, [(0, .ref 225), (1, .int (-1)), (2, .int v1)], [.int v1], ph_c5007)) e_192_13 rfl ?_
  refine pm_r (F' := (17, [(0, .ref 225), (1, .int (-1)), (2, .int v1)], [], ph_c5007)) e_192_14 (pm_sJ rfl (pm_jf (decide_eq_false (show ¬ v1 < (0 : Int32) from fun h => absurd (Int32.lt_iff_toInt_lt.mp h) (by have e1 : (0 : Int32).toInt = 0 := (by decide +kernel); omega))))) ?_
  refine pm_r (F' := (18, [(0, .ref 225), (1, .int (-1)), (2, .int v1)], [.int v1], ph_c5007)) e_192_17 rfl ?_
  refine pm_r (F' := (19, [(0, .ref 225), (1, .int (-1)), (2, .int v1)], [.int 2, .int v1], ph_c5007)) e_192_18 rfl ?_
  refine pm_r (F' := (22, [(0, .ref 225), (1, .int (-1)), (2, .int v1)], [], ph_c5007)) e_192_19 (pm_sJ rfl (pm_jf (decide_eq_false (show ¬ v1 ≤ (2 : Int32) from fun h => absurd (Int32.le_iff_toInt_le.mp h) (by have e1 : (2 : Int32).toInt = 2 := (by decide +kernel); omega))))) ?_
  refine pm_r (F' := (23, [(0, .ref 225), (1, .int (-1)), (2, .int v1)], [.int (-1)], ph_c5007)) e_192_22 rfl ?_
  exact pm_rE e_192_23 rfl
theorem pcw_5016 (v0 : Int32) (h10 : (-1) ≤ v0.toInt) (h11 : 0 ≤ v0.toInt) : pC 7 134 [.ref 1, .int v0] ph_3 = some ((some (.int 0)), ph_3) := by
  refine pm_cE em_134 rfl ?_
  refine pm_r (F' := (1, [(0, .ref 1), (1, .int v0)], [.int v0], ph_3)) e_134_0 rfl ?_
  refine pm_r (F' := (4, [(0, .ref 1), (1, .int v0)], [], ph_3)) e_134_1 (pm_sJ rfl (pm_jf (decide_eq_false (show ¬ v0 < (0 : Int32) from fun h => absurd (Int32.lt_iff_toInt_lt.mp h) (by have e1 : (0 : Int32).toInt = 0 := (by decide +kernel); omega))))) ?_
  refine pm_r (F' := (5, [(0, .ref 1), (1, .int v0)], [.int v0], ph_3)) e_134_4 rfl ?_
  refine pm_r (F' := (6, [(0, .ref 1), (1, .int v0)], [.ref 1, .int v0], ph_3)) e_134_5 rfl ?_
  refine pm_r (F' := (9, [(0, .ref 1), (1, .int v0)], [.ref 159, .int v0], ph_3)) e_134_6 (pm_sG pf_loops_ph_3_4) ?_
  refine pm_r (F' := (12, [(0, .ref 1), (1, .int v0)], [.int 0, .int v0], ph_3)) e_134_9 (pm_sG pf_loops_ph_3_5) ?_
  refine pm_r (F' := (19, [(0, .ref 1), (1, .int v0)], [], ph_3)) e_134_12 (pm_sJ rfl (pm_jt (decide_eq_true (show (0 : Int32) ≤ v0 from Int32.le_iff_toInt_le.mpr (by have e1 : (0 : Int32).toInt = 0 := (by decide +kernel); omega))))) ?_
  refine pm_r (F' := (20, [(0, .ref 1), (1, .int v0)], [.int 0], ph_3)) e_134_19 rfl ?_
  exact pm_rE e_134_20 rfl
theorem pcw_5017 (v0 : Int32) (h10 : (-1) ≤ v0.toInt) (h11 : 0 ≤ v0.toInt) : pC 8 135 [.ref 1, .int v0] ph_3 = some ((some (.null)), ph_3) := by
  refine pm_cE em_135 rfl ?_
  refine pm_r (F' := (1, [(0, .ref 1), (1, .int v0)], [.int v0], ph_3)) e_135_0 rfl ?_
  refine pm_r (F' := (2, [(0, .ref 1), (1, .int v0)], [.int (-1), .int v0], ph_3)) e_135_1 rfl ?_
  refine pm_r (F' := (13, [(0, .ref 1), (1, .int v0)], [], ph_3)) e_135_2 (pm_sJ rfl (pm_jt (decide_eq_true (show ¬ v0 = (-1 : Int32) from fun h => absurd (congrArg Int32.toInt h) (by have e1 : (-1 : Int32).toInt = -1 := (by decide +kernel); omega))))) ?_
  refine pm_r (F' := (14, [(0, .ref 1), (1, .int v0)], [.ref 1], ph_3)) e_135_13 rfl ?_
  refine pm_r (F' := (15, [(0, .ref 1), (1, .int v0)], [.int v0, .ref 1], ph_3)) e_135_14 rfl ?_
  refine pm_r (F' := (18, [(0, .ref 1), (1, .int v0)], [.int 0], ph_3)) e_135_15 (pm_sV em_134 rfl rfl pf_loops_ph_3_0 (pcw_5016 v0 h10 h11)) ?_
  refine pm_r (F' := (33, [(0, .ref 1), (1, .int v0)], [], ph_3)) e_135_18 rfl ?_
  refine pm_r (F' := (34, [(0, .ref 1), (1, .int v0)], [.null], ph_3)) e_135_33 rfl ?_
  exact pm_rE e_135_34 rfl
theorem pcw_5018 (v0 : Int32) (h10 : (-1) ≤ v0.toInt) (h11 : 0 ≤ v0.toInt) (v1 : Int32) : pC 9 109 [.ref 1, .int v0, .int v1] ph_3 = some ((some (.int (-1))), ph_3) := by
  refine pm_cE em_109 rfl ?_
  refine pm_r (F' := (1, [(0, .ref 1), (1, .int v0), (2, .int v1)], [.ref 1], ph_3)) e_109_0 rfl ?_
  refine pm_r (F' := (2, [(0, .ref 1), (1, .int v0), (2, .int v1)], [.int v0, .ref 1], ph_3)) e_109_1 rfl ?_
  refine pm_r (F' := (5, [(0, .ref 1), (1, .int v0), (2, .int v1)], [.null], ph_3)) e_109_2 (pm_sV em_135 rfl rfl pf_loops_ph_3_0 (pcw_5017 v0 h10 h11)) ?_
  refine pm_r (F' := (6, [(3, .null), (0, .ref 1), (1, .int v0), (2, .int v1)], [], ph_3)) e_109_5 rfl ?_
  refine pm_r (F' := (7, [(3, .null), (0, .ref 1), (1, .int v0), (2, .int v1)], [.null], ph_3)) e_109_6 rfl ?_
  refine pm_r (F' := (19, [(3, .null), (0, .ref 1), (1, .int v0), (2, .int v1)], [], ph_3)) e_109_7 rfl ?_
  refine pm_r (F' := (20, [(3, .null), (0, .ref 1), (1, .int v0), (2, .int v1)], [.int (-1)], ph_3)) e_109_19 rfl ?_
  exact pm_rE e_109_20 rfl
theorem pcw_5019 (v0 : Int32) (h10 : (-1) ≤ v0.toInt) (h11 : 0 ≤ v0.toInt) : pC 8 173 [.ref 225, .int v0] ph_3 = some ((some (.int 0)), ph_3) := by
  refine pm_cE em_173 rfl ?_
  refine pm_r (F' := (1, [(0, .ref 225), (1, .int v0)], [.int v0], ph_3)) e_173_0 rfl ?_
  refine pm_r (F' := (4, [(0, .ref 225), (1, .int v0)], [], ph_3)) e_173_1 (pm_sJ rfl (pm_jf (decide_eq_false (show ¬ v0 < (0 : Int32) from fun h => absurd (Int32.lt_iff_toInt_lt.mp h) (by have e1 : (0 : Int32).toInt = 0 := (by decide +kernel); omega))))) ?_
  refine pm_r (F' := (5, [(0, .ref 225), (1, .int v0)], [.int v0], ph_3)) e_173_4 rfl ?_
  refine pm_r (F' := (6, [(0, .ref 225), (1, .int v0)], [.ref 225, .int v0], ph_3)) e_173_5 rfl ?_
  refine pm_r (F' := (9, [(0, .ref 225), (1, .int v0)], [.int 0, .int v0], ph_3)) e_173_6 (pm_sG pf_loops_ph_3_6) ?_
  refine pm_r (F' := (16, [(0, .ref 225), (1, .int v0)], [], ph_3)) e_173_9 (pm_sJ rfl (pm_jt (decide_eq_true (show (0 : Int32) ≤ v0 from Int32.le_iff_toInt_le.mpr (by have e1 : (0 : Int32).toInt = 0 := (by decide +kernel); omega))))) ?_
  refine pm_r (F' := (17, [(0, .ref 225), (1, .int v0)], [.int 0], ph_3)) e_173_16 rfl ?_
  exact pm_rE e_173_17 rfl
theorem pcw_5020 (v0 : Int32) (h10 : (-1) ≤ v0.toInt) (h11 : 0 ≤ v0.toInt) (v1 : Int32) : pC 9 192 [.ref 225, .int v0, .int v1] ph_3 = some ((some (.int (-1))), ph_3) := by
  refine pm_cE em_192 rfl ?_
  refine pm_r (F' := (1, [(0, .ref 225), (1, .int v0), (2, .int v1)], [.int v0], ph_3)) e_192_0 rfl ?_
  refine pm_r (F' := (2, [(0, .ref 225), (1, .int v0), (2, .int v1)], [.int (-1), .int v0], ph_3)) e_192_1 rfl ?_
  refine pm_r (F' := (5, [(0, .ref 225), (1, .int v0), (2, .int v1)], [], ph_3)) e_192_2 (pm_sJ rfl (pm_jf (decide_eq_false (show ¬ v0 = (-1 : Int32) from fun h => absurd (congrArg Int32.toInt h) (by have e1 : (-1 : Int32).toInt = -1 := (by decide +kernel); omega))))) ?_
  refine pm_r (F' := (6, [(0, .ref 225), (1, .int v0), (2, .int v1)], [.ref 225], ph_3)) e_192_5 rfl ?_
  refine pm_r (F' := (7, [(0, .ref 225), (1, .int v0), (2, .int v1)], [.int v0, .ref 225], ph_3)) e_192_6 rfl ?_
  refine pm_r (F' := (10, [(0, .ref 225), (1, .int v0), (2, .int v1)], [.int 0], ph_3)) e_192_7 (pm_sV em_173 rfl rfl pf_loops_ph_3_1 (pcw_5019 v0 h10 h11)) ?_
  refine pm_r (F' := (22, [(0, .ref 225), (1, .int v0), (2, .int v1)], [], ph_3)) e_192_10 rfl ?_
  refine pm_r (F' := (23, [(0, .ref 225), (1, .int v0), (2, .int v1)], [.int (-1)], ph_3)) e_192_22 rfl ?_
  exact pm_rE e_192_23 rfl
set_option maxRecDepth 100000 in
theorem pq_loops (v0 : Int32) (v1 : Int32) : ∃ r : Int32, pq_ok 109 192 [.int v0, .int v1] (.int r) := by
  rcases (show v0.toInt < (-1) ∨ (-1) ≤ v0.toInt by omega) with h10 | h10
  · exact ⟨(-1), ph_3, ph_3, (pcw_5003 v0 h10 v1), (pcw_5005 v0 h10 v1), pf_loops_ph_3_1, Nat.le_of_ble_eq_true pf_loops_ph_3_2, Nat.le_of_ble_eq_true pf_loops_ph_3_3⟩
  · rcases (show v0.toInt < 0 ∨ 0 ≤ v0.toInt by omega) with h11 | h11
    · obtain rfl : v0 = (-1) := Int32.toInt_inj.mp (by have e : (-1 : Int32).toInt = -1 := (by decide +kernel); omega)
      rcases (show v1.toInt < 0 ∨ 0 ≤ v1.toInt by omega) with h12 | h12
      · exact ⟨(-1), ph_c5007, ph_c5007, (pcw_5008 v1 h12), (pcw_5009 v1 h12), pf_loops_ph_c5007_0, Nat.le_of_ble_eq_true pf_loops_ph_c5007_1, Nat.le_of_ble_eq_true pf_loops_ph_c5007_2⟩
      · rcases (show v1.toInt < 3 ∨ 3 ≤ v1.toInt by omega) with h13 | h13
        · rcases (show v1.toInt < 1 ∨ 1 ≤ v1.toInt by omega) with h14 | h14
          · obtain rfl : v1 = 0 := Int32.toInt_inj.mp (by have e : (0 : Int32).toInt = 0 := (by decide +kernel); omega)
            exact ⟨0, pq_of (by decide +kernel)⟩
          · rcases (show v1.toInt < 2 ∨ 2 ≤ v1.toInt by omega) with h15 | h15
            · obtain rfl : v1 = 1 := Int32.toInt_inj.mp (by have e : (1 : Int32).toInt = 1 := (by decide +kernel); omega)
              exact ⟨0, pq_of (by decide +kernel)⟩
            · obtain rfl : v1 = 2 := Int32.toInt_inj.mp (by have e : (2 : Int32).toInt = 2 := (by decide +kernel); omega)
              exact ⟨0, pq_of (by decide +kernel)⟩
        · exact ⟨(-1), ph_c5007, ph_c5007, (pcw_5014 v1 h12 h13), (pcw_5015 v1 h12 h13), pf_loops_ph_c5007_0, Nat.le_of_ble_eq_true pf_loops_ph_c5007_1, Nat.le_of_ble_eq_true pf_loops_ph_c5007_2⟩
    · exact ⟨(-1), ph_3, ph_3, (pcw_5018 v0 h10 h11 v1), (pcw_5020 v0 h10 h11 v1), pf_loops_ph_3_1, Nat.le_of_ble_eq_true pf_loops_ph_3_2, Nat.le_of_ble_eq_true pf_loops_ph_3_3⟩

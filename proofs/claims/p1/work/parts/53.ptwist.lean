/-! twist on fresh objects, by program -/
theorem em_124 : pm_ms 124 = some (yX10_twist, cX10_twist, 3, (some .long), 2, 10) := rfl
theorem em_243 : pm_ms 243 = some (yX11_twist, cX11_twist, 3, (some .long), 2, 11) := rfl
theorem e_124_0 : pm_ins 124 0 = some (.aload_n 0, 1, 0, 0, 0, []) := rfl
theorem e_124_1 : pm_ins 124 1 = some (.getfield 30, 3, 10, 3, 3, [(2, 174)]) := rfl
theorem e_124_4 : pm_ins 124 4 = some (.iload_n 1, 1, 0, 0, 0, []) := rfl
theorem e_124_5 : pm_ins 124 5 = some (.invokevirtual 182, 3, 23, 0, 0, [(4, 57), (4, 58), (4, 59)]) := rfl
theorem e_124_8 : pm_ins 124 8 = some (.ifCond .eq 19, 3, 27, 0, 0, []) := rfl
theorem e_124_27 : pm_ins 124 27 = some (.ldc2_w 185, 3, 0, 0, (-1), [(4, 62)]) := rfl
theorem e_124_30 : pm_ins 124 30 = some (.lreturn, 1, 0, 0, 0, []) := rfl
theorem e_243_0 : pm_ins 243 0 = some (.aload_n 0, 1, 0, 0, 0, []) := rfl
theorem e_243_1 : pm_ins 243 1 = some (.iload_n 1, 1, 0, 0, 0, []) := rfl
theorem e_243_2 : pm_ins 243 2 = some (.invokevirtual 372, 3, 173, 0, 0, [(7, 64), (7, 66), (0, 92)]) := rfl
theorem e_243_5 : pm_ins 243 5 = some (.ifCond .eq 28, 3, 33, 0, 0, []) := rfl
theorem e_243_33 : pm_ins 243 33 = some (.ldc2_w 447, 3, 0, 0, (-1), [(7, 97)]) := rfl
theorem e_243_36 : pm_ins 243 36 = some (.lreturn, 1, 0, 0, 0, []) := rfl
set_option maxRecDepth 100000 in
theorem pf_twist_ph_3 : (pm_gf 10 3 (pm_cell ph_3 1) = some (.ref 10)) ∧ (pm_gf 3 2 (pm_cell ph_3 10) = some (.null)) ∧ (pm_clsOk 3 (pm_cell ph_3 10) = true) ∧ (pm_clsOk 11 (pm_cell ph_3 225) = true) ∧ (Nat.ble ph_3.length 600000 = true) ∧ (Nat.ble (pm_sls ph_3) 7302250 = true) ∧ (pm_gf 11 27 (pm_cell ph_3 225) = some (.int 0)) := by decide +kernel
theorem pf_twist_ph_3_0 : pm_gf 10 3 (pm_cell ph_3 1) = some (.ref 10) := pf_twist_ph_3.1
theorem pf_twist_ph_3_1 : pm_gf 3 2 (pm_cell ph_3 10) = some (.null) := pf_twist_ph_3.2.1
theorem pf_twist_ph_3_2 : pm_clsOk 3 (pm_cell ph_3 10) = true := pf_twist_ph_3.2.2.1
theorem pf_twist_ph_3_3 : pm_clsOk 11 (pm_cell ph_3 225) = true := pf_twist_ph_3.2.2.2.1
theorem pf_twist_ph_3_4 : Nat.ble ph_3.length 600000 = true := pf_twist_ph_3.2.2.2.2.1
theorem pf_twist_ph_3_5 : Nat.ble (pm_sls ph_3) 7302250 = true := pf_twist_ph_3.2.2.2.2.2.1
theorem pf_twist_ph_3_6 : pm_gf 11 27 (pm_cell ph_3 225) = some (.int 0) := pf_twist_ph_3.2.2.2.2.2.2
theorem pcw_20004 (v0 : Int32) (h33 : v0.toInt < 0) : pC 7 22 [.ref 10, .int v0] ph_3 = some ((some (.null)), ph_3) := by
  refine pm_cE em_22 rfl ?_
  refine pm_r (F' := (1, [(0, .ref 10), (1, .int v0)], [.ref 10], ph_3)) e_22_0 rfl ?_
  refine pm_r (F' := (4, [(0, .ref 10), (1, .int v0)], [.null], ph_3)) e_22_1 (pm_sG pf_twist_ph_3_1) ?_
  refine pm_r (F' := (31, [(0, .ref 10), (1, .int v0)], [], ph_3)) e_22_4 rfl ?_
  refine pm_r (F' := (32, [(0, .ref 10), (1, .int v0)], [.null], ph_3)) e_22_31 rfl ?_
  exact pm_rE e_22_32 rfl
theorem pcw_20005 (v0 : Int32) (h33 : v0.toInt < 0) : pC 8 23 [.ref 10, .int v0] ph_3 = some ((some (.int 0)), ph_3) := by
  refine pm_cE em_23 rfl ?_
  refine pm_r (F' := (1, [(0, .ref 10), (1, .int v0)], [.ref 10], ph_3)) e_23_0 rfl ?_
  refine pm_r (F' := (2, [(0, .ref 10), (1, .int v0)], [.int v0, .ref 10], ph_3)) e_23_1 rfl ?_
  refine pm_r (F' := (5, [(0, .ref 10), (1, .int v0)], [.null], ph_3)) e_23_2 (pm_sV em_22 rfl rfl pf_twist_ph_3_2 (pcw_20004 v0 h33)) ?_
  refine pm_r (F' := (6, [(2, .null), (0, .ref 10), (1, .int v0)], [], ph_3)) e_23_5 rfl ?_
  refine pm_r (F' := (7, [(2, .null), (0, .ref 10), (1, .int v0)], [.null], ph_3)) e_23_6 rfl ?_
  refine pm_r (F' := (22, [(2, .null), (0, .ref 10), (1, .int v0)], [], ph_3)) e_23_7 rfl ?_
  refine pm_r (F' := (23, [(2, .null), (0, .ref 10), (1, .int v0)], [.int 0], ph_3)) e_23_22 rfl ?_
  exact pm_rE e_23_23 rfl
theorem pcw_20006 (v0 : Int32) (h33 : v0.toInt < 0) (v1 : Int32) : pC 9 124 [.ref 1, .int v0, .int v1] ph_3 = some ((some (.long (-1))), ph_3) := by
  refine pm_cE em_124 rfl ?_
  refine pm_r (F' := (1, [(0, .ref 1), (1, .int v0), (2, .int v1)], [.ref 1], ph_3)) e_124_0 rfl ?_
  refine pm_r (F' := (4, [(0, .ref 1), (1, .int v0), (2, .int v1)], [.ref 10], ph_3)) e_124_1 (pm_sG pf_twist_ph_3_0) ?_
  refine pm_r (F' := (5, [(0, .ref 1), (1, .int v0), (2, .int v1)], [.int v0, .ref 10], ph_3)) e_124_4 rfl ?_
  refine pm_r (F' := (8, [(0, .ref 1), (1, .int v0), (2, .int v1)], [.int 0], ph_3)) e_124_5 (pm_sV em_23 rfl rfl pf_twist_ph_3_2 (pcw_20005 v0 h33)) ?_
  refine pm_r (F' := (27, [(0, .ref 1), (1, .int v0), (2, .int v1)], [], ph_3)) e_124_8 rfl ?_
  refine pm_r (F' := (30, [(0, .ref 1), (1, .int v0), (2, .int v1)], [.long (-1)], ph_3)) e_124_27 rfl ?_
  exact pm_rE e_124_30 rfl
theorem pcw_20007 (v0 : Int32) (h33 : v0.toInt < 0) : pC 8 173 [.ref 225, .int v0] ph_3 = some ((some (.int 0)), ph_3) := by
  refine pm_cE em_173 rfl ?_
  refine pm_r (F' := (1, [(0, .ref 225), (1, .int v0)], [.int v0], ph_3)) e_173_0 rfl ?_
  refine pm_r (F' := (16, [(0, .ref 225), (1, .int v0)], [], ph_3)) e_173_1 (pm_sJ rfl (pm_jt (decide_eq_true (show v0 < (0 : Int32) from Int32.lt_iff_toInt_lt.mpr (by have e1 : (0 : Int32).toInt = 0 := (by decide +kernel); omega))))) ?_
  refine pm_r (F' := (17, [(0, .ref 225), (1, .int v0)], [.int 0], ph_3)) e_173_16 rfl ?_
  exact pm_rE e_173_17 rfl
theorem pcw_20008 (v0 : Int32) (h33 : v0.toInt < 0) (v1 : Int32) : pC 9 243 [.ref 225, .int v0, .int v1] ph_3 = some ((some (.long (-1))), ph_3) := by
  refine pm_cE em_243 rfl ?_
  refine pm_r (F' := (1, [(0, .ref 225), (1, .int v0), (2, .int v1)], [.ref 225], ph_3)) e_243_0 rfl ?_
  refine pm_r (F' := (2, [(0, .ref 225), (1, .int v0), (2, .int v1)], [.int v0, .ref 225], ph_3)) e_243_1 rfl ?_
  refine pm_r (F' := (5, [(0, .ref 225), (1, .int v0), (2, .int v1)], [.int 0], ph_3)) e_243_2 (pm_sV em_173 rfl rfl pf_twist_ph_3_3 (pcw_20007 v0 h33)) ?_
  refine pm_r (F' := (33, [(0, .ref 225), (1, .int v0), (2, .int v1)], [], ph_3)) e_243_5 rfl ?_
  refine pm_r (F' := (36, [(0, .ref 225), (1, .int v0), (2, .int v1)], [.long (-1)], ph_3)) e_243_33 rfl ?_
  exact pm_rE e_243_36 rfl
theorem pcw_20009 (v0 : Int32) (h33 : 0 ≤ v0.toInt) : pC 7 22 [.ref 10, .int v0] ph_3 = some ((some (.null)), ph_3) := by
  refine pm_cE em_22 rfl ?_
  refine pm_r (F' := (1, [(0, .ref 10), (1, .int v0)], [.ref 10], ph_3)) e_22_0 rfl ?_
  refine pm_r (F' := (4, [(0, .ref 10), (1, .int v0)], [.null], ph_3)) e_22_1 (pm_sG pf_twist_ph_3_1) ?_
  refine pm_r (F' := (31, [(0, .ref 10), (1, .int v0)], [], ph_3)) e_22_4 rfl ?_
  refine pm_r (F' := (32, [(0, .ref 10), (1, .int v0)], [.null], ph_3)) e_22_31 rfl ?_
  exact pm_rE e_22_32 rfl
theorem pcw_20010 (v0 : Int32) (h33 : 0 ≤ v0.toInt) : pC 8 23 [.ref 10, .int v0] ph_3 = some ((some (.int 0)), ph_3) := by
  refine pm_cE em_23 rfl ?_
  refine pm_r (F' := (1, [(0, .ref 10), (1, .int v0)], [.ref 10], ph_3)) e_23_0 rfl ?_
  refine pm_r (F' := (2, [(0, .ref 10), (1, .int v0)], [.int v0, .ref 10], ph_3)) e_23_1 rfl ?_
  refine pm_r (F' := (5, [(0, .ref 10), (1, .int v0)], [.null], ph_3)) e_23_2 (pm_sV em_22 rfl rfl pf_twist_ph_3_2 (pcw_20009 v0 h33)) ?_
  refine pm_r (F' := (6, [(2, .null), (0, .ref 10), (1, .int v0)], [], ph_3)) e_23_5 rfl ?_
  refine pm_r (F' := (7, [(2, .null), (0, .ref 10), (1, .int v0)], [.null], ph_3)) e_23_6 rfl ?_
  refine pm_r (F' := (22, [(2, .null), (0, .ref 10), (1, .int v0)], [], ph_3)) e_23_7 rfl ?_
  refine pm_r (F' := (23, [(2, .null), (0, .ref 10), (1, .int v0)], [.int 0], ph_3)) e_23_22 rfl ?_
  exact pm_rE e_23_23 rfl
theorem pcw_20011 (v0 : Int32) (h33 : 0 ≤ v0.toInt) (v1 : Int32) : pC 9 124 [.ref 1, .int v0, .int v1] ph_3 = some ((some (.long (-1))), ph_3) := by
  refine pm_cE em_124 rfl ?_
  refine pm_r (F' := (1, [(0, .ref 1), (1, .int v0), (2, .int v1)], [.ref 1], ph_3)) e_124_0 rfl ?_
  refine pm_r (F' := (4, [(0, .ref 1), (1, .int v0), (2, .int v1)], [.ref 10], ph_3)) e_124_1 (pm_sG pf_twist_ph_3_0) ?_
  refine pm_r (F' := (5, [(0, .ref 1), (1, .int v0), (2, .int v1)], [.int v0, .ref 10], ph_3)) e_124_4 rfl ?_
  refine pm_r (F' := (8, [(0, .ref 1), (1, .int v0), (2, .int v1)], [.int 0], ph_3)) e_124_5 (pm_sV em_23 rfl rfl pf_twist_ph_3_2 (pcw_20010 v0 h33)) ?_
  refine pm_r (F' := (27, [(0, .ref 1), (1, .int v0), (2, .int v1)], [], ph_3)) e_124_8 rfl ?_
  refine pm_r (F' := (30, [(0, .ref 1), (1, .int v0), (2, .int v1)], [.long (-1)], ph_3)) e_124_27 rfl ?_
  exact pm_rE e_124_30 rfl
theorem pcw_20012 (v0 : Int32) (h33 : 0 ≤ v0.toInt) : pC 8 173 [.ref 225, .int v0] ph_3 = some ((some (.int 0)), ph_3) := by
  refine pm_cE em_173 rfl ?_
  refine pm_r (F' := (1, [(0, .ref 225), (1, .int v0)], [.int v0], ph_3)) e_173_0 rfl ?_
  refine pm_r (F' := (4, [(0, .ref 225), (1, .int v0)], [], ph_3)) e_173_1 (pm_sJ rfl (pm_jf (decide_eq_false (show ¬ v0 < (0 : Int32) from fun h => absurd (Int32.lt_iff_toInt_lt.mp h) (by have e1 : (0 : Int32).toInt = 0 := (by decide +kernel); omega))))) ?_
  refine pm_r (F' := (5, [(0, .ref 225), (1, .int v0)], [.int v0], ph_3)) e_173_4 rfl ?_
  refine pm_r (F' := (6, [(0, .ref 225), (1, .int v0)], [.ref 225, .int v0], ph_3)) e_173_5 rfl ?_
  refine pm_r (F' := (9, [(0, .ref 225), (1, .int v0)], [.int 0, .int v0], ph_3)) e_173_6 (pm_sG pf_twist_ph_3_6) ?_
  refine pm_r (F' := (16, [(0, .ref 225), (1, .int v0)], [], ph_3)) e_173_9 (pm_sJ rfl (pm_jt (decide_eq_true (show (0 : Int32) ≤ v0 from Int32.le_iff_toInt_le.mpr (by have e1 : (0 : Int32).toInt = 0 := (by decide +kernel); omega))))) ?_
  refine pm_r (F' := (17, [(0, .ref 225), (1, .int v0)], [.int 0], ph_3)) e_173_16 rfl ?_
  exact pm_rE e_173_17 rfl
theorem pcw_20013 (v0 : Int32) (h33 : 0 ≤ v0.toInt) (v1 : Int32) : pC 9 243 [.ref 225, .int v0, .int v1] ph_3 = some ((some (.long (-1))), ph_3) := by
  refine pm_cE em_243 rfl ?_
  refine pm_r (F' := (1, [(0, .ref 225), (1, .int v0), (2, .int v1)], [.ref 225], ph_3)) e_243_0 rfl ?_
  refine pm_r (F' := (2, [(0, .ref 225), (1, .int v0), (2, .int v1)], [.int v0, .ref 225], ph_3)) e_243_1 rfl ?_
  refine pm_r (F' := (5, [(0, .ref 225), (1, .int v0), (2, .int v1)], [.int 0], ph_3)) e_243_2 (pm_sV em_173 rfl rfl pf_twist_ph_3_3 (pcw_20012 v0 h33)) ?_
  refine pm_r (F' := (33, [(0, .ref 225), (1, .int v0), (2, .int v1)], [], ph_3)) e_243_5 rfl ?_
  refine pm_r (F' := (36, [(0, .ref 225), (1, .int v0), (2, .int v1)], [.long (-1)], ph_3)) e_243_33 rfl ?_
  exact pm_rE e_243_36 rfl
set_option maxRecDepth 100000 in
theorem pq_twist (v0 : Int32) (v1 : Int32) : ∃ r : Int64, pq_ok 124 243 [.int v0, .int v1] (.long r) := by
  rcases (show v0.toInt < 0 ∨ 0 ≤ v0.toInt by omega) with h33 | h33
  · exact ⟨(-1), ph_3, ph_3, (pcw_20006 v0 h33 v1), (pcw_20008 v0 h33 v1), pf_twist_ph_3_3, Nat.le_of_ble_eq_true pf_twist_ph_3_4, Nat.le_of_ble_eq_true pf_twist_ph_3_5⟩
  · exact ⟨(-1), ph_3, ph_3, (pcw_20011 v0 h33 v1), (pcw_20013 v0 h33 v1), pf_twist_ph_3_3, Nat.le_of_ble_eq_true pf_twist_ph_3_4, Nat.le_of_ble_eq_true pf_twist_ph_3_5⟩

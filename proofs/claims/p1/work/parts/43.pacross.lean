/-! across on fresh objects, by program -/
theorem em_114 : pm_ms 114 = some (yX10_across, cX10_across, 5, (some .int), 2, 10) := rfl
theorem em_217 : pm_ms 217 = some (yX11_across, cX11_across, 5, (some .int), 2, 11) := rfl
theorem e_114_0 : pm_ins 114 0 = some (.aload_n 0, 1, 0, 0, 0, []) := rfl
theorem e_114_1 : pm_ins 114 1 = some (.getfield 30, 3, 10, 3, 3, [(2, 174)]) := rfl
theorem e_114_4 : pm_ins 114 4 = some (.iload_n 1, 1, 0, 0, 0, []) := rfl
theorem e_114_5 : pm_ins 114 5 = some (.invokevirtual 167, 3, 22, 0, 0, [(4, 41), (4, 42), (4, 43)]) := rfl
theorem e_114_8 : pm_ins 114 8 = some (.astore_n 3, 1, 0, 0, 0, []) := rfl
theorem e_114_9 : pm_ins 114 9 = some (.aload_n 0, 1, 0, 0, 0, []) := rfl
theorem e_114_10 : pm_ins 114 10 = some (.getfield 30, 3, 10, 3, 3, [(2, 174)]) := rfl
theorem e_114_13 : pm_ins 114 13 = some (.iload_n 2, 1, 0, 0, 0, []) := rfl
theorem e_114_14 : pm_ins 114 14 = some (.invokevirtual 167, 3, 22, 0, 0, [(4, 41), (4, 42), (4, 43)]) := rfl
theorem e_114_17 : pm_ins 114 17 = some (.astore 4, 2, 0, 0, 0, []) := rfl
theorem e_114_19 : pm_ins 114 19 = some (.aload_n 3, 1, 0, 0, 0, []) := rfl
theorem e_114_20 : pm_ins 114 20 = some (.ifnull 23, 3, 43, 0, 0, []) := rfl
theorem e_114_43 : pm_ins 114 43 = some (.ldc 195, 2, 0, 0, (-1000000), [(4, 91)]) := rfl
theorem e_114_45 : pm_ins 114 45 = some (.ireturn, 1, 0, 0, 0, []) := rfl
theorem e_217_0 : pm_ins 217 0 = some (.aload_n 0, 1, 0, 0, 0, []) := rfl
theorem e_217_1 : pm_ins 217 1 = some (.iload_n 1, 1, 0, 0, 0, []) := rfl
theorem e_217_2 : pm_ins 217 2 = some (.invokevirtual 372, 3, 173, 0, 0, [(7, 64), (7, 66), (0, 92)]) := rfl
theorem e_217_5 : pm_ins 217 5 = some (.ifCond .eq 29, 3, 34, 0, 0, []) := rfl
theorem e_217_34 : pm_ins 217 34 = some (.ldc_w 456, 3, 0, 0, (-1000000), [(7, 127)]) := rfl
theorem e_217_37 : pm_ins 217 37 = some (.ireturn, 1, 0, 0, 0, []) := rfl
set_option maxRecDepth 100000 in
theorem pf_across_ph_3 : (pm_gf 10 3 (pm_cell ph_3 1) = some (.ref 10)) ∧ (pm_gf 3 2 (pm_cell ph_3 10) = some (.null)) ∧ (pm_clsOk 3 (pm_cell ph_3 10) = true) ∧ (pm_clsOk 11 (pm_cell ph_3 225) = true) ∧ (Nat.ble ph_3.length 600000 = true) ∧ (Nat.ble (pm_sls ph_3) 7302250 = true) ∧ (pm_gf 11 27 (pm_cell ph_3 225) = some (.int 0)) := by decide +kernel
theorem pf_across_ph_3_0 : pm_gf 10 3 (pm_cell ph_3 1) = some (.ref 10) := pf_across_ph_3.1
theorem pf_across_ph_3_1 : pm_gf 3 2 (pm_cell ph_3 10) = some (.null) := pf_across_ph_3.2.1
theorem pf_across_ph_3_2 : pm_clsOk 3 (pm_cell ph_3 10) = true := pf_across_ph_3.2.2.1
theorem pf_across_ph_3_3 : pm_clsOk 11 (pm_cell ph_3 225) = true := pf_across_ph_3.2.2.2.1
theorem pf_across_ph_3_4 : Nat.ble ph_3.length 600000 = true := pf_across_ph_3.2.2.2.2.1
theorem pf_across_ph_3_5 : Nat.ble (pm_sls ph_3) 7302250 = true := pf_across_ph_3.2.2.2.2.2.1
theorem pf_across_ph_3_6 : pm_gf 11 27 (pm_cell ph_3 225) = some (.int 0) := pf_across_ph_3.2.2.2.2.2.2
theorem pcw_10004 (v0 : Int32) (h24 : v0.toInt < 0) : pC 8 22 [.ref 10, .int v0] ph_3 = some ((some (.null)), ph_3) := by
  refine pm_cE em_22 rfl ?_
  refine pm_r (F' := (1, [(0, .ref 10), (1, .int v0)], [.ref 10], ph_3)) e_22_0 rfl ?_
  refine pm_r (F' := (4, [(0, .ref 10), (1, .int v0)], [.null], ph_3)) e_22_1 (pm_sG pf_across_ph_3_1) ?_
  refine pm_r (F' := (31, [(0, .ref 10), (1, .int v0)], [], ph_3)) e_22_4 rfl ?_
  refine pm_r (F' := (32, [(0, .ref 10), (1, .int v0)], [.null], ph_3)) e_22_31 rfl ?_
  exact pm_rE e_22_32 rfl
theorem pcw_10005 (v1 : Int32) : pC 8 22 [.ref 10, .int v1] ph_3 = some ((some (.null)), ph_3) := by
  refine pm_cE em_22 rfl ?_
  refine pm_r (F' := (1, [(0, .ref 10), (1, .int v1)], [.ref 10], ph_3)) e_22_0 rfl ?_
  refine pm_r (F' := (4, [(0, .ref 10), (1, .int v1)], [.null], ph_3)) e_22_1 (pm_sG pf_across_ph_3_1) ?_
  refine pm_r (F' := (31, [(0, .ref 10), (1, .int v1)], [], ph_3)) e_22_4 rfl ?_
  refine pm_r (F' := (32, [(0, .ref 10), (1, .int v1)], [.null], ph_3)) e_22_31 rfl ?_
  exact pm_rE e_22_32 rfl
theorem pcw_10006 (v0 : Int32) (h24 : v0.toInt < 0) (v1 : Int32) : pC 9 114 [.ref 1, .int v0, .int v1] ph_3 = some ((some (.int (-1000000))), ph_3) := by
  refine pm_cE em_114 rfl ?_
  refine pm_r (F' := (1, [(0, .ref 1), (1, .int v0), (2, .int v1)], [.ref 1], ph_3)) e_114_0 rfl ?_
  refine pm_r (F' := (4, [(0, .ref 1), (1, .int v0), (2, .int v1)], [.ref 10], ph_3)) e_114_1 (pm_sG pf_across_ph_3_0) ?_
  refine pm_r (F' := (5, [(0, .ref 1), (1, .int v0), (2, .int v1)], [.int v0, .ref 10], ph_3)) e_114_4 rfl ?_
  refine pm_r (F' := (8, [(0, .ref 1), (1, .int v0), (2, .int v1)], [.null], ph_3)) e_114_5 (pm_sV em_22 rfl rfl pf_across_ph_3_2 (pcw_10004 v0 h24)) ?_
  refine pm_r (F' := (9, [(3, .null), (0, .ref 1), (1, .int v0), (2, .int v1)], [], ph_3)) e_114_8 rfl ?_
  refine pm_r (F' := (10, [(3, .null), (0, .ref 1), (1, .int v0), (2, .int v1)], [.ref 1], ph_3)) e_114_9 rfl ?_
  refine pm_r (F' := (13, [(3, .null), (0, .ref 1), (1, .int v0), (2, .int v1)], [.ref 10], ph_3)) e_114_10 (pm_sG pf_across_ph_3_0) ?_
  refine pm_r (F' := (14, [(3, .null), (0, .ref 1), (1, .int v0), (2, .int v1)], [.int v1, .ref 10], ph_3)) e_114_13 rfl ?_
  refine pm_r (F' := (17, [(3, .null), (0, .ref 1), (1, .int v0), (2, .int v1)], [.null], ph_3)) e_114_14 (pm_sV em_22 rfl rfl pf_across_ph_3_2 (pcw_10005 v1)) ?_
  refine pm_r (F' := (19, [(4, .null), (3, .null), (0, .ref 1), (1, .int v0), (2, .int v1)], [], ph_3)) e_114_17 rfl ?_
  refine pm_r (F' := (20, [(4, .null), (3, .null), (0, .ref 1), (1, .int v0), (2, .int v1)], [.null], ph_3)) e_114_19 rfl ?_
  refine pm_r (F' := (43, [(4, .null), (3, .null), (0, .ref 1), (1, .int v0), (2, .int v1)], [], ph_3)) e_114_20 rfl ?_
  refine pm_r (F' := (45, [(4, .null), (3, .null), (0, .ref 1), (1, .int v0), (2, .int v1)], [.int (-1000000)], ph_3)) e_114_43 rfl ?_
  exact pm_rE e_114_45 rfl
theorem pcw_10007 (v0 : Int32) (h24 : v0.toInt < 0) : pC 8 173 [.ref 225, .int v0] ph_3 = some ((some (.int 0)), ph_3) := by
  refine pm_cE em_173 rfl ?_
  refine pm_r (F' := (1, [(0, .ref 225), (1, .int v0)], [.int v0], ph_3)) e_173_0 rfl ?_
  refine pm_r (F' := (16, [(0, .ref 225), (1, .int v0)], [], ph_3)) e_173_1 (pm_sJ rfl (pm_jt (decide_eq_true (show v0 < (0 : Int32) from Int32.lt_iff_toInt_lt.mpr (by have e1 : (0 : Int32).toInt = 0 := (by decide +kernel); omega))))) ?_
  refine pm_r (F' := (17, [(0, .ref 225), (1, .int v0)], [.int 0], ph_3)) e_173_16 rfl ?_
  exact pm_rE e_173_17 rfl
theorem pcw_10008 (v0 : Int32) (h24 : v0.toInt < 0) (v1 : Int32) : pC 9 217 [.ref 225, .int v0, .int v1] ph_3 = some ((some (.int (-1000000))), ph_3) := by
  refine pm_cE em_217 rfl ?_
  refine pm_r (F' := (1, [(0, .ref 225), (1, .int v0), (2, .int v1)], [.ref 225], ph_3)) e_217_0 rfl ?_
  refine pm_r (F' := (2, [(0, .ref 225), (1, .int v0), (2, .int v1)], [.int v0, .ref 225], ph_3)) e_217_1 rfl ?_
  refine pm_r (F' := (5, [(0, .ref 225), (1, .int v0), (2, .int v1)], [.int 0], ph_3)) e_217_2 (pm_sV em_173 rfl rfl pf_across_ph_3_3 (pcw_10007 v0 h24)) ?_
  refine pm_r (F' := (34, [(0, .ref 225), (1, .int v0), (2, .int v1)], [], ph_3)) e_217_5 rfl ?_
  refine pm_r (F' := (37, [(0, .ref 225), (1, .int v0), (2, .int v1)], [.int (-1000000)], ph_3)) e_217_34 rfl ?_
  exact pm_rE e_217_37 rfl
theorem pcw_10009 (v0 : Int32) (h24 : 0 ≤ v0.toInt) : pC 8 22 [.ref 10, .int v0] ph_3 = some ((some (.null)), ph_3) := by
  refine pm_cE em_22 rfl ?_
  refine pm_r (F' := (1, [(0, .ref 10), (1, .int v0)], [.ref 10], ph_3)) e_22_0 rfl ?_
  refine pm_r (F' := (4, [(0, .ref 10), (1, .int v0)], [.null], ph_3)) e_22_1 (pm_sG pf_across_ph_3_1) ?_
  refine pm_r (F' := (31, [(0, .ref 10), (1, .int v0)], [], ph_3)) e_22_4 rfl ?_
  refine pm_r (F' := (32, [(0, .ref 10), (1, .int v0)], [.null], ph_3)) e_22_31 rfl ?_
  exact pm_rE e_22_32 rfl
theorem pcw_10010 (v1 : Int32) : pC 8 22 [.ref 10, .int v1] ph_3 = some ((some (.null)), ph_3) := by
  refine pm_cE em_22 rfl ?_
  refine pm_r (F' := (1, [(0, .ref 10), (1, .int v1)], [.ref 10], ph_3)) e_22_0 rfl ?_
  refine pm_r (F' := (4, [(0, .ref 10), (1, .int v1)], [.null], ph_3)) e_22_1 (pm_sG pf_across_ph_3_1) ?_
  refine pm_r (F' := (31, [(0, .ref 10), (1, .int v1)], [], ph_3)) e_22_4 rfl ?_
  refine pm_r (F' := (32, [(0, .ref 10), (1, .int v1)], [.null], ph_3)) e_22_31 rfl ?_
  exact pm_rE e_22_32 rfl
theorem pcw_10011 (v0 : Int32) (h24 : 0 ≤ v0.toInt) (v1 : Int32) : pC 9 114 [.ref 1, .int v0, .int v1] ph_3 = some ((some (.int (-1000000))), ph_3) := by
  refine pm_cE em_114 rfl ?_
  refine pm_r (F' := (1, [(0, .ref 1), (1, .int v0), (2, .int v1)], [.ref 1], ph_3)) e_114_0 rfl ?_
  refine pm_r (F' := (4, [(0, .ref 1), (1, .int v0), (2, .int v1)], [.ref 10], ph_3)) e_114_1 (pm_sG pf_across_ph_3_0) ?_
  refine pm_r (F' := (5, [(0, .ref 1), (1, .int v0), (2, .int v1)], [.int v0, .ref 10], ph_3)) e_114_4 rfl ?_
  refine pm_r (F' := (8, [(0, .ref 1), (1, .int v0), (2, .int v1)], [.null], ph_3)) e_114_5 (pm_sV em_22 rfl rfl pf_across_ph_3_2 (pcw_10009 v0 h24)) ?_
  refine pm_r (F' := (9, [(3, .null), (0, .ref 1), (1, .int v0), (2, .int v1)], [], ph_3)) e_114_8 rfl ?_
  refine pm_r (F' := (10, [(3, .null), (0, .ref 1), (1, .int v0), (2, .int v1)], [.ref 1], ph_3)) e_114_9 rfl ?_
  refine pm_r (F' := (13, [(3, .null), (0, .ref 1), (1, .int v0), (2, .int v1)], [.ref 10], ph_3)) e_114_10 (pm_sG pf_across_ph_3_0) ?_
  refine pm_r (F' := (14, [(3, .null), (0, .ref 1), (1, .int v0), (2, .int v1)], [.int v1, .ref 10], ph_3)) e_114_13 rfl ?_
  refine pm_r (F' := (17, [(3, .null), (0, .ref 1), (1, .int v0), (2, .int v1)], [.null], ph_3)) e_114_14 (pm_sV em_22 rfl rfl pf_across_ph_3_2 (pcw_10010 v1)) ?_
  refine pm_r (F' := (19, [(4, .null), (3, .null), (0, .ref 1), (1, .int v0), (2, .int v1)], [], ph_3)) e_114_17 rfl ?_
  refine pm_r (F' := (20, [(4, .null), (3, .null), (0, .ref 1), (1, .int v0), (2, .int v1)], [.null], ph_3)) e_114_19 rfl ?_
  refine pm_r (F' := (43, [(4, .null), (3, .null), (0, .ref 1), (1, .int v0), (2, .int v1)], [], ph_3)) e_114_20 rfl ?_
  refine pm_r (F' := (45, [(4, .null), (3, .null), (0, .ref 1), (1, .int v0), (2, .int v1)], [.int (-1000000)], ph_3)) e_114_43 rfl ?_
  exact pm_rE e_114_45 rfl
theorem pcw_10012 (v0 : Int32) (h24 : 0 ≤ v0.toInt) : pC 8 173 [.ref 225, .int v0] ph_3 = some ((some (.int 0)), ph_3) := by
  refine pm_cE em_173 rfl ?_
  refine pm_r (F' := (1, [(0, .ref 225), (1, .int v0)], [.int v0], ph_3)) e_173_0 rfl ?_
  refine pm_r (F' := (4, [(0, .ref 225), (1, .int v0)], [], ph_3)) e_173_1 (pm_sJ rfl (pm_jf (decide_eq_false (show ¬ v0 < (0 : Int32) from fun h => absurd (Int32.lt_iff_toInt_lt.mp h) (by have e1 : (0 : Int32).toInt = 0 := (by decide +kernel); omega))))) ?_
  refine pm_r (F' := (5, [(0, .ref 225), (1, .int v0)], [.int v0], ph_3)) e_173_4 rfl ?_
  refine pm_r (F' := (6, [(0, .ref 225), (1, .int v0)], [.ref 225, .int v0], ph_3)) e_173_5 rfl ?_
  refine pm_r (F' := (9, [(0, .ref 225), (1, .int v0)], [.int 0, .int v0], ph_3)) e_173_6 (pm_sG pf_across_ph_3_6) ?_
  refine pm_r (F' := (16, [(0, .ref 225), (1, .int v0)], [], ph_3)) e_173_9 (pm_sJ rfl (pm_jt (decide_eq_true (show (0 : Int32) ≤ v0 from Int32.le_iff_toInt_le.mpr (by have e1 : (0 : Int32).toInt = 0 := (by decide +kernel); omega))))) ?_
  refine pm_r (F' := (17, [(0, .ref 225), (1, .int v0)], [.int 0], ph_3)) e_173_16 rfl ?_
  exact pm_rE e_173_17 rfl
theorem pcw_10013 (v0 : Int32) (h24 : 0 ≤ v0.toInt) (v1 : Int32) : pC 9 217 [.ref 225, .int v0, .int v1] ph_3 = some ((some (.int (-1000000))), ph_3) := by
  refine pm_cE em_217 rfl ?_
  refine pm_r (F' := (1, [(0, .ref 225), (1, .int v0), (2, .int v1)], [.ref 225], ph_3)) e_217_0 rfl ?_
  refine pm_r (F' := (2, [(0, .ref 225), (1, .int v0), (2, .int v1)], [.int v0, .ref 225], ph_3)) e_217_1 rfl ?_
  refine pm_r (F' := (5, [(0, .ref 225), (1, .int v0), (2, .int v1)], [.int 0], ph_3)) e_217_2 (pm_sV em_173 rfl rfl pf_across_ph_3_3 (pcw_10012 v0 h24)) ?_
  refine pm_r (F' := (34, [(0, .ref 225), (1, .int v0), (2, .int v1)], [], ph_3)) e_217_5 rfl ?_
  refine pm_r (F' := (37, [(0, .ref 225), (1, .int v0), (2, .int v1)], [.int (-1000000)], ph_3)) e_217_34 rfl ?_
  exact pm_rE e_217_37 rfl
set_option maxRecDepth 100000 in
theorem pq_across (v0 : Int32) (v1 : Int32) : ∃ r : Int32, pq_ok 114 217 [.int v0, .int v1] (.int r) := by
  rcases (show v0.toInt < 0 ∨ 0 ≤ v0.toInt by omega) with h24 | h24
  · exact ⟨(-1000000), ph_3, ph_3, (pcw_10006 v0 h24 v1), (pcw_10008 v0 h24 v1), pf_across_ph_3_3, Nat.le_of_ble_eq_true pf_across_ph_3_4, Nat.le_of_ble_eq_true pf_across_ph_3_5⟩
  · exact ⟨(-1000000), ph_3, ph_3, (pcw_10011 v0 h24 v1), (pcw_10013 v0 h24 v1), pf_across_ph_3_3, Nat.le_of_ble_eq_true pf_across_ph_3_4, Nat.le_of_ble_eq_true pf_across_ph_3_5⟩

/-! order on fresh objects, by program -/
theorem em_117 : pm_ms 117 = some (yX10_order, cX10_order, 5, (some .int), 1, 10) := rfl
theorem em_223 : pm_ms 223 = some (yX11_order, cX11_order, 6, (some .int), 1, 11) := rfl
theorem e_117_0 : pm_ins 117 0 = some (.aload_n 0, 1, 0, 0, 0, []) := rfl
theorem e_117_1 : pm_ins 117 1 = some (.getfield 30, 3, 10, 3, 3, [(2, 174)]) := rfl
theorem e_117_4 : pm_ins 117 4 = some (.iload_n 1, 1, 0, 0, 0, []) := rfl
theorem e_117_5 : pm_ins 117 5 = some (.invokevirtual 203, 3, 24, 0, 0, [(4, 106), (4, 107), (4, 108)]) := rfl
theorem e_117_8 : pm_ins 117 8 = some (.ifCond .ne 5, 3, 13, 0, 0, []) := rfl
theorem e_117_11 : pm_ins 117 11 = some (.iconst (-1), 1, 0, 0, 0, []) := rfl
theorem e_117_12 : pm_ins 117 12 = some (.ireturn, 1, 0, 0, 0, []) := rfl
theorem e_223_0 : pm_ins 223 0 = some (.aload_n 0, 1, 0, 0, 0, []) := rfl
theorem e_223_1 : pm_ins 223 1 = some (.iload_n 1, 1, 0, 0, 0, []) := rfl
theorem e_223_2 : pm_ins 223 2 = some (.invokevirtual 463, 3, 218, 0, 0, [(7, 136), (7, 138), (0, 101)]) := rfl
theorem e_223_5 : pm_ins 223 5 = some (.ifCond .ne 5, 3, 10, 0, 0, []) := rfl
theorem e_223_8 : pm_ins 223 8 = some (.iconst (-1), 1, 0, 0, 0, []) := rfl
theorem e_223_9 : pm_ins 223 9 = some (.ireturn, 1, 0, 0, 0, []) := rfl
set_option maxRecDepth 100000 in
theorem pf_order_ph_3 : (pm_gf 10 3 (pm_cell ph_3 1) = some (.ref 10)) ∧ (pm_gf 3 2 (pm_cell ph_3 10) = some (.null)) ∧ (pm_clsOk 3 (pm_cell ph_3 10) = true) ∧ (pm_clsOk 11 (pm_cell ph_3 225) = true) ∧ (Nat.ble ph_3.length 600000 = true) ∧ (Nat.ble (pm_sls ph_3) 7302250 = true) ∧ (pm_gf 11 28 (pm_cell ph_3 225) = some (.int 0)) := by decide +kernel
theorem pf_order_ph_3_0 : pm_gf 10 3 (pm_cell ph_3 1) = some (.ref 10) := pf_order_ph_3.1
theorem pf_order_ph_3_1 : pm_gf 3 2 (pm_cell ph_3 10) = some (.null) := pf_order_ph_3.2.1
theorem pf_order_ph_3_2 : pm_clsOk 3 (pm_cell ph_3 10) = true := pf_order_ph_3.2.2.1
theorem pf_order_ph_3_3 : pm_clsOk 11 (pm_cell ph_3 225) = true := pf_order_ph_3.2.2.2.1
theorem pf_order_ph_3_4 : Nat.ble ph_3.length 600000 = true := pf_order_ph_3.2.2.2.2.1
theorem pf_order_ph_3_5 : Nat.ble (pm_sls ph_3) 7302250 = true := pf_order_ph_3.2.2.2.2.2.1
theorem pf_order_ph_3_6 : pm_gf 11 28 (pm_cell ph_3 225) = some (.int 0) := pf_order_ph_3.2.2.2.2.2.2
theorem pcw_13003 (v0 : Int32) (h27 : v0.toInt < 0) : pC 8 24 [.ref 10, .int v0] ph_3 = some ((some (.int 0)), ph_3) := by
  refine pm_cE em_24 rfl ?_
  refine pm_r (F' := (1, [(0, .ref 10), (1, .int v0)], [.ref 10], ph_3)) e_24_0 rfl ?_
  refine pm_r (F' := (4, [(0, .ref 10), (1, .int v0)], [.null], ph_3)) e_24_1 (pm_sG pf_order_ph_3_1) ?_
  refine pm_r (F' := (22, [(0, .ref 10), (1, .int v0)], [], ph_3)) e_24_4 rfl ?_
  refine pm_r (F' := (23, [(0, .ref 10), (1, .int v0)], [.int 0], ph_3)) e_24_22 rfl ?_
  exact pm_rE e_24_23 rfl
theorem pcw_13004 (v0 : Int32) (h27 : v0.toInt < 0) : pC 9 117 [.ref 1, .int v0] ph_3 = some ((some (.int (-1))), ph_3) := by
  refine pm_cE em_117 rfl ?_
  refine pm_r (F' := (1, [(0, .ref 1), (1, .int v0)], [.ref 1], ph_3)) e_117_0 rfl ?_
  refine pm_r (F' := (4, [(0, .ref 1), (1, .int v0)], [.ref 10], ph_3)) e_117_1 (pm_sG pf_order_ph_3_0) ?_
  refine pm_r (F' := (5, [(0, .ref 1), (1, .int v0)], [.int v0, .ref 10], ph_3)) e_117_4 rfl ?_
  refine pm_r (F' := (8, [(0, .ref 1), (1, .int v0)], [.int 0], ph_3)) e_117_5 (pm_sV em_24 rfl rfl pf_order_ph_3_2 (pcw_13003 v0 h27)) ?_
  refine pm_r (F' := (11, [(0, .ref 1), (1, .int v0)], [], ph_3)) e_117_8 rfl ?_
  refine pm_r (F' := (12, [(0, .ref 1), (1, .int v0)], [.int (-1)], ph_3)) e_117_11 rfl ?_
  exact pm_rE e_117_12 rfl
theorem pcw_13005 (v0 : Int32) (h27 : v0.toInt < 0) : pC 7 174 [.ref 225, .int v0] ph_3 = some ((some (.int 0)), ph_3) := by
  refine pm_cE em_174 rfl ?_
  refine pm_r (F' := (1, [(0, .ref 225), (1, .int v0)], [.int v0], ph_3)) e_174_0 rfl ?_
  refine pm_r (F' := (16, [(0, .ref 225), (1, .int v0)], [], ph_3)) e_174_1 (pm_sJ rfl (pm_jt (decide_eq_true (show v0 < (0 : Int32) from Int32.lt_iff_toInt_lt.mpr (by have e1 : (0 : Int32).toInt = 0 := (by decide +kernel); omega))))) ?_
  refine pm_r (F' := (17, [(0, .ref 225), (1, .int v0)], [.int 0], ph_3)) e_174_16 rfl ?_
  exact pm_rE e_174_17 rfl
theorem pcw_13006 (v0 : Int32) (h27 : v0.toInt < 0) : pC 8 218 [.ref 225, .int v0] ph_3 = some ((some (.int 0)), ph_3) := by
  refine pm_cE em_218 rfl ?_
  refine pm_r (F' := (1, [(0, .ref 225), (1, .int v0)], [.ref 225], ph_3)) e_218_0 rfl ?_
  refine pm_r (F' := (2, [(0, .ref 225), (1, .int v0)], [.int v0, .ref 225], ph_3)) e_218_1 rfl ?_
  refine pm_r (F' := (5, [(0, .ref 225), (1, .int v0)], [.int 0], ph_3)) e_218_2 (pm_sV em_174 rfl rfl pf_order_ph_3_3 (pcw_13005 v0 h27)) ?_
  refine pm_r (F' := (6, [(2, .int 0), (0, .ref 225), (1, .int v0)], [], ph_3)) e_218_5 rfl ?_
  refine pm_r (F' := (7, [(2, .int 0), (0, .ref 225), (1, .int v0)], [.int 0], ph_3)) e_218_6 rfl ?_
  refine pm_r (F' := (8, [(3, .int 0), (2, .int 0), (0, .ref 225), (1, .int v0)], [], ph_3)) e_218_7 rfl ?_
  refine pm_r (F' := (9, [(3, .int 0), (2, .int 0), (0, .ref 225), (1, .int v0)], [.int 0], ph_3)) e_218_8 rfl ?_
  refine pm_r (F' := (45, [(3, .int 0), (2, .int 0), (0, .ref 225), (1, .int v0)], [], ph_3)) e_218_9 rfl ?_
  refine pm_r (F' := (46, [(3, .int 0), (2, .int 0), (0, .ref 225), (1, .int v0)], [.int 0], ph_3)) e_218_45 rfl ?_
  exact pm_rE e_218_46 rfl
theorem pcw_13007 (v0 : Int32) (h27 : v0.toInt < 0) : pC 9 223 [.ref 225, .int v0] ph_3 = some ((some (.int (-1))), ph_3) := by
  refine pm_cE em_223 rfl ?_
  refine pm_r (F' := (1, [(0, .ref 225), (1, .int v0)], [.ref 225], ph_3)) e_223_0 rfl ?_
  refine pm_r (F' := (2, [(0, .ref 225), (1, .int v0)], [.int v0, .ref 225], ph_3)) e_223_1 rfl ?_
  refine pm_r (F' := (5, [(0, .ref 225), (1, .int v0)], [.int 0], ph_3)) e_223_2 (pm_sV em_218 rfl rfl pf_order_ph_3_3 (pcw_13006 v0 h27)) ?_
  refine pm_r (F' := (8, [(0, .ref 225), (1, .int v0)], [], ph_3)) e_223_5 rfl ?_
  refine pm_r (F' := (9, [(0, .ref 225), (1, .int v0)], [.int (-1)], ph_3)) e_223_8 rfl ?_
  exact pm_rE e_223_9 rfl
theorem pcw_13008 (v0 : Int32) (h27 : 0 ≤ v0.toInt) : pC 8 24 [.ref 10, .int v0] ph_3 = some ((some (.int 0)), ph_3) := by
  refine pm_cE em_24 rfl ?_
  refine pm_r (F' := (1, [(0, .ref 10), (1, .int v0)], [.ref 10], ph_3)) e_24_0 rfl ?_
  refine pm_r (F' := (4, [(0, .ref 10), (1, .int v0)], [.null], ph_3)) e_24_1 (pm_sG pf_order_ph_3_1) ?_
  refine pm_r (F' := (22, [(0, .ref 10), (1, .int v0)], [], ph_3)) e_24_4 rfl ?_
  refine pm_r (F' := (23, [(0, .ref 10), (1, .int v0)], [.int 0], ph_3)) e_24_22 rfl ?_
  exact pm_rE e_24_23 rfl
theorem pcw_13009 (v0 : Int32) (h27 : 0 ≤ v0.toInt) : pC 9 117 [.ref 1, .int v0] ph_3 = some ((some (.int (-1))), ph_3) := by
  refine pm_cE em_117 rfl ?_
  refine pm_r (F' := (1, [(0, .ref 1), (1, .int v0)], [.ref 1], ph_3)) e_117_0 rfl ?_
  refine pm_r (F' := (4, [(0, .ref 1), (1, .int v0)], [.ref 10], ph_3)) e_117_1 (pm_sG pf_order_ph_3_0) ?_
  refine pm_r (F' := (5, [(0, .ref 1), (1, .int v0)], [.int v0, .ref 10], ph_3)) e_117_4 rfl ?_
  refine pm_r (F' := (8, [(0, .ref 1), (1, .int v0)], [.int 0], ph_3)) e_117_5 (pm_sV em_24 rfl rfl pf_order_ph_3_2 (pcw_13008 v0 h27)) ?_
  refine pm_r (F' := (11, [(0, .ref 1), (1, .int v0)], [], ph_3)) e_117_8 rfl ?_
  refine pm_r (F' := (12, [(0, .ref 1), (1, .int v0)], [.int (-1)], ph_3)) e_117_11 rfl ?_
  exact pm_rE e_117_12 rfl
theorem pcw_13010 (v0 : Int32) (h27 : 0 ≤ v0.toInt) : pC 7 174 [.ref 225, .int v0] ph_3 = some ((some (.int 0)), ph_3) := by
  refine pm_cE em_174 rfl ?_
  refine pm_r (F' := (1, [(0, .ref 225), (1, .int v0)], [.int v0], ph_3)) e_174_0 rfl ?_
  refine pm_r (F' := (4, [(0, .ref 225), (1, .int v0)], [], ph_3)) e_174_1 (pm_sJ rfl (pm_jf (decide_eq_false (show ¬ v0 < (0 : Int32) from fun h => absurd (Int32.lt_iff_toInt_lt.mp h) (by have e1 : (0 : Int32).toInt = 0 := (by decide +kernel); omega))))) ?_
  refine pm_r (F' := (5, [(0, .ref 225), (1, .int v0)], [.int v0], ph_3)) e_174_4 rfl ?_
  refine pm_r (F' := (6, [(0, .ref 225), (1, .int v0)], [.ref 225, .int v0], ph_3)) e_174_5 rfl ?_
  refine pm_r (F' := (9, [(0, .ref 225), (1, .int v0)], [.int 0, .int v0], ph_3)) e_174_6 (pm_sG pf_order_ph_3_6) ?_
  refine pm_r (F' := (16, [(0, .ref 225), (1, .int v0)], [], ph_3)) e_174_9 (pm_sJ rfl (pm_jt (decide_eq_true (show (0 : Int32) ≤ v0 from Int32.le_iff_toInt_le.mpr (by have e1 : (0 : Int32).toInt = 0 := (by decide +kernel); omega))))) ?_
  refine pm_r (F' := (17, [(0, .ref 225), (1, .int v0)], [.int 0], ph_3)) e_174_16 rfl ?_
  exact pm_rE e_174_17 rfl
theorem pcw_13011 (v0 : Int32) (h27 : 0 ≤ v0.toInt) : pC 8 218 [.ref 225, .int v0] ph_3 = some ((some (.int 0)), ph_3) := by
  refine pm_cE em_218 rfl ?_
  refine pm_r (F' := (1, [(0, .ref 225), (1, .int v0)], [.ref 225], ph_3)) e_218_0 rfl ?_
  refine pm_r (F' := (2, [(0, .ref 225), (1, .int v0)], [.int v0, .ref 225], ph_3)) e_218_1 rfl ?_
  refine pm_r (F' := (5, [(0, .ref 225), (1, .int v0)], [.int 0], ph_3)) e_218_2 (pm_sV em_174 rfl rfl pf_order_ph_3_3 (pcw_13010 v0 h27)) ?_
  refine pm_r (F' := (6, [(2, .int 0), (0, .ref 225), (1, .int v0)], [], ph_3)) e_218_5 rfl ?_
  refine pm_r (F' := (7, [(2, .int 0), (0, .ref 225), (1, .int v0)], [.int 0], ph_3)) e_218_6 rfl ?_
  refine pm_r (F' := (8, [(3, .int 0), (2, .int 0), (0, .ref 225), (1, .int v0)], [], ph_3)) e_218_7 rfl ?_
  refine pm_r (F' := (9, [(3, .int 0), (2, .int 0), (0, .ref 225), (1, .int v0)], [.int 0], ph_3)) e_218_8 rfl ?_
  refine pm_r (F' := (45, [(3, .int 0), (2, .int 0), (0, .ref 225), (1, .int v0)], [], ph_3)) e_218_9 rfl ?_
  refine pm_r (F' := (46, [(3, .int 0), (2, .int 0), (0, .ref 225), (1, .int v0)], [.int 0], ph_3)) e_218_45 rfl ?_
  exact pm_rE e_218_46 rfl
theorem pcw_13012 (v0 : Int32) (h27 : 0 ≤ v0.toInt) : pC 9 223 [.ref 225, .int v0] ph_3 = some ((some (.int (-1))), ph_3) := by
  refine pm_cE em_223 rfl ?_
  refine pm_r (F' := (1, [(0, .ref 225), (1, .int v0)], [.ref 225], ph_3)) e_223_0 rfl ?_
  refine pm_r (F' := (2, [(0, .ref 225), (1, .int v0)], [.int v0, .ref 225], ph_3)) e_223_1 rfl ?_
  refine pm_r (F' := (5, [(0, .ref 225), (1, .int v0)], [.int 0], ph_3)) e_223_2 (pm_sV em_218 rfl rfl pf_order_ph_3_3 (pcw_13011 v0 h27)) ?_
  refine pm_r (F' := (8, [(0, .ref 225), (1, .int v0)], [], ph_3)) e_223_5 rfl ?_
  refine pm_r (F' := (9, [(0, .ref 225), (1, .int v0)], [.int (-1)], ph_3)) e_223_8 rfl ?_
  exact pm_rE e_223_9 rfl
set_option maxRecDepth 100000 in
theorem pq_order (v0 : Int32) : ∃ r : Int32, pq_ok 117 223 [.int v0] (.int r) := by
  rcases (show v0.toInt < 0 ∨ 0 ≤ v0.toInt by omega) with h27 | h27
  · exact ⟨(-1), ph_3, ph_3, (pcw_13004 v0 h27), (pcw_13007 v0 h27), pf_order_ph_3_3, Nat.le_of_ble_eq_true pf_order_ph_3_4, Nat.le_of_ble_eq_true pf_order_ph_3_5⟩
  · exact ⟨(-1), ph_3, ph_3, (pcw_13009 v0 h27), (pcw_13012 v0 h27), pf_order_ph_3_3, Nat.le_of_ble_eq_true pf_order_ph_3_4, Nat.le_of_ble_eq_true pf_order_ph_3_5⟩

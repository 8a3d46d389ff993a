/-! table on fresh objects, by program -/
theorem em_119 : pm_ms 119 = some (yX10_table, cX10_table, 5, (some .int), 4, 10) := rfl
theorem em_226 : pm_ms 226 = some (yX11_table, cX11_table, 5, (some .int), 4, 11) := rfl
theorem e_119_0 : pm_ins 119 0 = some (.aload_n 0, 1, 0, 0, 0, []) := rfl
theorem e_119_1 : pm_ins 119 1 = some (.iload_n 1, 1, 0, 0, 0, []) := rfl
theorem e_119_2 : pm_ins 119 2 = some (.iload_n 2, 1, 0, 0, 0, []) := rfl
theorem e_119_3 : pm_ins 119 3 = some (.invokevirtual 218, 3, 138, 0, 0, [(4, 149), (4, 151), (0, 41)]) := rfl
theorem e_119_6 : pm_ins 119 6 = some (.ifCond .eq 20, 3, 26, 0, 0, []) := rfl
theorem e_119_26 : pm_ins 119 26 = some (.iconst (-1), 1, 0, 0, 0, []) := rfl
theorem e_119_27 : pm_ins 119 27 = some (.ireturn, 1, 0, 0, 0, []) := rfl
theorem e_226_0 : pm_ins 226 0 = some (.aload_n 0, 1, 0, 0, 0, []) := rfl
theorem e_226_1 : pm_ins 226 1 = some (.iload_n 1, 1, 0, 0, 0, []) := rfl
theorem e_226_2 : pm_ins 226 2 = some (.invokevirtual 463, 3, 218, 0, 0, [(7, 136), (7, 138), (0, 101)]) := rfl
theorem e_226_5 : pm_ins 226 5 = some (.ifCond .eq 28, 3, 33, 0, 0, []) := rfl
theorem e_226_33 : pm_ins 226 33 = some (.iconst (-1), 1, 0, 0, 0, []) := rfl
theorem e_226_34 : pm_ins 226 34 = some (.ireturn, 1, 0, 0, 0, []) := rfl
set_option maxRecDepth 100000 in
theorem pf_table_ph_3 : (pm_gf 10 3 (pm_cell ph_3 1) = some (.ref 10)) ∧ (pm_gf 3 2 (pm_cell ph_3 10) = some (.null)) ∧ (pm_clsOk 3 (pm_cell ph_3 10) = true) ∧ (pm_clsOk 10 (pm_cell ph_3 1) = true) ∧ (pm_clsOk 11 (pm_cell ph_3 225) = true) ∧ (Nat.ble ph_3.length 600000 = true) ∧ (Nat.ble (pm_sls ph_3) 7302250 = true) ∧ (pm_gf 11 28 (pm_cell ph_3 225) = some (.int 0)) := by decide +kernel
theorem pf_table_ph_3_0 : pm_gf 10 3 (pm_cell ph_3 1) = some (.ref 10) := pf_table_ph_3.1
theorem pf_table_ph_3_1 : pm_gf 3 2 (pm_cell ph_3 10) = some (.null) := pf_table_ph_3.2.1
theorem pf_table_ph_3_2 : pm_clsOk 3 (pm_cell ph_3 10) = true := pf_table_ph_3.2.2.1
theorem pf_table_ph_3_3 : pm_clsOk 10 (pm_cell ph_3 1) = true := pf_table_ph_3.2.2.2.1
theorem pf_table_ph_3_4 : pm_clsOk 11 (pm_cell ph_3 225) = true := pf_table_ph_3.2.2.2.2.1
theorem pf_table_ph_3_5 : Nat.ble ph_3.length 600000 = true := pf_table_ph_3.2.2.2.2.2.1
theorem pf_table_ph_3_6 : Nat.ble (pm_sls ph_3) 7302250 = true := pf_table_ph_3.2.2.2.2.2.2.1
theorem pf_table_ph_3_7 : pm_gf 11 28 (pm_cell ph_3 225) = some (.int 0) := pf_table_ph_3.2.2.2.2.2.2.2
theorem pcw_15004 (v0 : Int32) (h29 : v0.toInt < 0) : pC 7 24 [.ref 10, .int v0] ph_3 = some ((some (.int 0)), ph_3) := by
  refine pm_cE em_24 rfl ?_
  refine pm_r (F' := (1, [(0, .ref 10), (1, .int v0)], [.ref 10], ph_3)) e_24_0 rfl ?_
  refine pm_r (F' := (4, [(0, .ref 10), (1, .int v0)], [.null], ph_3)) e_24_1 (pm_sG pf_table_ph_3_1) ?_
  refine pm_r (F' := (22, [(0, .ref 10), (1, .int v0)], [], ph_3)) e_24_4 rfl ?_
  refine pm_r (F' := (23, [(0, .ref 10), (1, .int v0)], [.int 0], ph_3)) e_24_22 rfl ?_
  exact pm_rE e_24_23 rfl
theorem pcw_15005 (v0 : Int32) (h29 : v0.toInt < 0) (v1 : Int32) : pC 8 138 [.ref 1, .int v0, .int v1] ph_3 = some ((some (.int 0)), ph_3) := by
  refine pm_cE em_138 rfl ?_
  refine pm_r (F' := (1, [(0, .ref 1), (1, .int v0), (2, .int v1)], [.ref 1], ph_3)) e_138_0 rfl ?_
  refine pm_r (F' := (4, [(0, .ref 1), (1, .int v0), (2, .int v1)], [.ref 10], ph_3)) e_138_1 (pm_sG pf_table_ph_3_0) ?_
  refine pm_r (F' := (5, [(0, .ref 1), (1, .int v0), (2, .int v1)], [.int v0, .ref 10], ph_3)) e_138_4 rfl ?_
  refine pm_r (F' := (8, [(0, .ref 1), (1, .int v0), (2, .int v1)], [.int 0], ph_3)) e_138_5 (pm_sV em_24 rfl rfl pf_table_ph_3_2 (pcw_15004 v0 h29)) ?_
  refine pm_r (F' := (40, [(0, .ref 1), (1, .int v0), (2, .int v1)], [], ph_3)) e_138_8 rfl ?_
  refine pm_r (F' := (41, [(0, .ref 1), (1, .int v0), (2, .int v1)], [.int 0], ph_3)) e_138_40 rfl ?_
  exact pm_rE e_138_41 rfl
theorem pcw_15006 (v0 : Int32) (h29 : v0.toInt < 0) (v1 : Int32) (v2 : Int32) (v3 : Int32) : pC 9 119 [.ref 1, .int v0, .int v1, .int v2, .int v3] ph_3 = some ((some (.int (-1))), ph_3) := by
  refine pm_cE em_119 rfl ?_
  refine pm_r (F' := (1, [(0, .ref 1), (1, .int v0), (2, .int v1), (3, .int v2), (4, .int v3)], [.ref 1], ph_3)) e_119_0 rfl ?_
  refine pm_r (F' := (2, [(0, .ref 1), (1, .int v0), (2, .int v1), (3, .int v2), (4, .int v3)], [.int v0, .ref 1], ph_3)) e_119_1 rfl ?_
  refine pm_r (F' := (3, [(0, .ref 1), (1, .int v0), (2, .int v1), (3, .int v2), (4, .int v3)], [.int v1, .int v0, .ref 1], ph_3)) e_119_2 rfl ?_
  refine pm_r (F' := (6, [(0, .ref 1), (1, .int v0), (2, .int v1), (3, .int v2), (4, .int v3)], [.int 0], ph_3)) e_119_3 (pm_sV em_138 rfl rfl pf_table_ph_3_3 (pcw_15005 v0 h29 v1)) ?_
  refine pm_r (F' := (26, [(0, .ref 1), (1, .int v0), (2, .int v1), (3, .int v2), (4, .int v3)], [], ph_3)) e_119_6 rfl ?_
  refine pm_r (F' := (27, [(0, .ref 1), (1, .int v0), (2, .int v1), (3, .int v2), (4, .int v3)], [.int (-1)], ph_3)) e_119_26 rfl ?_
  exact pm_rE e_119_27 rfl
theorem pcw_15007 (v0 : Int32) (h29 : v0.toInt < 0) : pC 7 174 [.ref 225, .int v0] ph_3 = some ((some (.int 0)), ph_3) := by
  refine pm_cE em_174 rfl ?_
  refine pm_r (F' := (1, [(0, .ref 225), (1, .int v0)], [.int v0], ph_3)) e_174_0 rfl ?_
  refine pm_r (F' := (16, [(0, .ref 225), (1, .int v0)], [], ph_3)) e_174_1 (pm_sJ rfl (pm_jt (decide_eq_true (show v0 < (0 : Int32) from Int32.lt_iff_toInt_lt.mpr (by have e1 : (0 : Int32).toInt = 0 := (by decide +kernel); omega))))) ?_
  refine pm_r (F' := (17, [(0, .ref 225), (1, .int v0)], [.int 0], ph_3)) e_174_16 rfl ?_
  exact pm_rE e_174_17 rfl
theorem pcw_15008 (v0 : Int32) (h29 : v0.toInt < 0) : pC 8 218 [.ref 225, .int v0] ph_3 = some ((some (.int 0)), ph_3) := by
  refine pm_cE em_218 rfl ?_
  refine pm_r (F' := (1, [(0, .ref 225), (1, .int v0)], [.ref 225], ph_3)) e_218_0 rfl ?_
  refine pm_r (F' := (2, [(0, .ref 225), (1, .int v0)], [.int v0, .ref 225], ph_3)) e_218_1 rfl ?_
  refine pm_r (F' := (5, [(0, .ref 225), (1, .int v0)], [.int 0], ph_3)) e_218_2 (pm_sV em_174 rfl rfl pf_table_ph_3_4 (pcw_15007 v0 h29)) ?_
  refine pm_r (F' := (6, [(2, .int 0), (0, .ref 225), (1, .int v0)], [], ph_3)) e_218_5 rfl ?_
  refine pm_r (F' := (7, [(2, .int 0), (0, .ref 225), (1, .int v0)], [.int 0], ph_3)) e_218_6 rfl ?_
  refine pm_r (F' := (8, [(3, .int 0), (2, .int 0), (0, .ref 225), (1, .int v0)], [], ph_3)) e_218_7 rfl ?_
  refine pm_r (F' := (9, [(3, .int 0), (2, .int 0), (0, .ref 225), (1, .int v0)], [.int 0], ph_3)) e_218_8 rfl ?_
  refine pm_r (F' := (45, [(3, .int 0), (2, .int 0), (0, .ref 225), (1, .int v0)], [], ph_3)) e_218_9 rfl ?_
  refine pm_r (F' := (46, [(3, .int 0), (2, .int 0), (0, .ref 225), (1, .int v0)], [.int 0], ph_3)) e_218_45 rfl ?_
  exact pm_rE e_218_46 rfl
theorem pcw_15009 (v0 : Int32) (h29 : v0.toInt < 0) (v1 : Int32) (v2 : Int32) (v3 : Int32) : pC 9 226 [.ref 225, .int v0, .int v1, .int v2, .int v3] ph_3 = some ((some (.int (-1))), ph_3) := by
  refine pm_cE em_226 rfl ?_
  refine pm_r (F' := (1, [(0, .ref 225), (1, .int v0), (2, .int v1), (3, .int v2), (4, .int v3)], [.ref 225], ph_3)) e_226_0 rfl ?_
  refine pm_r (F' := (2, [(0, .ref 225), (1, .int v0), (2, .int v1), (3, .int v2), (4, .int v3)], [.int v0, .ref 225], ph_3)) e_226_1 rfl ?_
  refine pm_r (F' := (5, [(0, .ref 225), (1, .int v0), (2, .int v1), (3, .int v2), (4, .int v3)], [.int 0], ph_3)) e_226_2 (pm_sV em_218 rfl rfl pf_table_ph_3_4 (pcw_15008 v0 h29)) ?_
  refine pm_r (F' := (33, [(0, .ref 225), (1, .int v0), (2, .int v1), (3, .int v2), (4, .int v3)], [], ph_3)) e_226_5 rfl ?_
  refine pm_r (F' := (34, [(0, .ref 225), (1, .int v0), (2, .int v1), (3, .int v2), (4, .int v3)], [.int (-1)], ph_3)) e_226_33 rfl ?_
  exact pm_rE e_226_34 rfl
theorem pcw_15010 (v0 : Int32) (h29 : 0 ≤ v0.toInt) : pC 7 24 [.ref 10, .int v0] ph_3 = some ((some (.int 0)), ph_3) := by
  refine pm_cE em_24 rfl ?_
  refine pm_r (F' := (1, [(0, .ref 10), (1, .int v0)], [.ref 10], ph_3)) e_24_0 rfl ?_
  refine pm_r (F' := (4, [(0, .ref 10), (1, .int v0)], [.null], ph_3)) e_24_1 (pm_sG pf_table_ph_3_1) ?_
  refine pm_r (F' := (22, [(0, .ref 10), (1, .int v0)], [], ph_3)) e_24_4 rfl ?_
  refine pm_r (F' := (23, [(0, .ref 10), (1, .int v0)], [.int 0], ph_3)) e_24_22 rfl ?_
  exact pm_rE e_24_23 rfl
theorem pcw_15011 (v0 : Int32) (h29 : 0 ≤ v0.toInt) (v1 : Int32) : pC 8 138 [.ref 1, .int v0, .int v1] ph_3 = some ((some (.int 0)), ph_3) := by
  refine pm_cE em_138 rfl ?_
  refine pm_r (F' := (1, [(0, .ref 1), (1, .int v0), (2, .int v1)], [.ref 1], ph_3)) e_138_0 rfl ?_
  refine pm_r (F' := (4, [(0, .ref 1), (1, .int v0), (2, .int v1)], [.ref 10], ph_3)) e_138_1 (pm_sG pf_table_ph_3_0) ?_
  refine pm_r (F' := (5, [(0, .ref 1), (1, .int v0), (2, .int v1)], [.int v0, .ref 10], ph_3)) e_138_4 rfl ?_
  refine pm_r (F' := (8, [(0, .ref 1), (1, .int v0), (2, .int v1)], [.int 0], ph_3)) e_138_5 (pm_sV em_24 rfl rfl pf_table_ph_3_2 (pcw_15010 v0 h29)) ?_
  refine pm_r (F' := (40, [(0, .ref 1), (1, .int v0), (2, .int v1)], [], ph_3)) e_138_8 rfl ?_
  refine pm_r (F' := (41, [(0, .ref 1), (1, .int v0), (2, .int v1)], [.int 0], ph_3)) e_138_40 rfl ?_
  exact pm_rE e_138_41 rfl
theorem pcw_15012 (v0 : Int32) (h29 : 0 ≤ v0.toInt) (v1 : Int32) (v2 : Int32) (v3 : Int32) : pC 9 119 [.ref 1, .int v0, .int v1, .int v2, .int v3] ph_3 = some ((some (.int (-1))), ph_3) := by
  refine pm_cE em_119 rfl ?_
  refine pm_r (F' := (1, [(0, .ref 1), (1, .int v0), (2, .int v1), (3, .int v2), (4, .int v3)], [.ref 1], ph_3)) e_119_0 rfl ?_
  refine pm_r (F' := (2, [(0, .ref 1), (1, .int v0), (2, .int v1), (3, .int v2), (4, .int v3)], [.int v0, .ref 1], ph_3)) e_119_1 rfl ?_
  refine pm_r (F' := (3, [(0, .ref 1), (1, .int v0), (2, .int v1), (3, .int v2), (4, .int v3)], [.int v1, .int v0, .ref 1], ph_3)) e_119_2 rfl ?_
  refine pm_r (F' := (6, [(0, .ref 1), (1, .int v0), (2, .int v1), (3, .int v2), (4, .int v3)], [.int 0], ph_3)) e_119_3 (pm_sV em_138 rfl rfl pf_table_ph_3_3 (pcw_15011 v0 h29 v1)) ?_
  refine pm_r (F' := (26, [(0, .ref 1), (1, .int v0), (2, .int v1), (3, .int v2), (4, .int v3)], [], ph_3)) e_119_6 rfl ?_
  refine pm_r (F' := (27, [(0, .ref 1), (1, .int v0), (2, .int v1), (3, .int v2), (4, .int v3)], [.int (-1)], ph_3)) e_119_26 rfl ?_
  exact pm_rE e_119_27 rfl
theorem pcw_15013 (v0 : Int32) (h29 : 0 ≤ v0.toInt) : pC 7 174 [.ref 225, .int v0] ph_3 = some ((some (.int 0)), ph_3) := by
  refine pm_cE em_174 rfl ?_
  refine pm_r (F' := (1, [(0, .ref 225), (1, .int v0)], [.int v0], ph_3)) e_174_0 rfl ?_
  refine pm_r (F' := (4, [(0, .ref 225), (1, .int v0)], [], ph_3)) e_174_1 (pm_sJ rfl (pm_jf (decide_eq_false (show ¬ v0 < (0 : Int32) from fun h => absurd (Int32.lt_iff_toInt_lt.mp h) (by have e1 : (0 : Int32).toInt = 0 := (by decide +kernel); omega))))) ?_
  refine pm_r (F' := (5, [(0, .ref 225), (1, .int v0)], [.int v0], ph_3)) e_174_4 rfl ?_
  refine pm_r (F' := (6, [(0, .ref 225), (1, .int v0)], [.ref 225, .int v0], ph_3)) e_174_5 rfl ?_
  refine pm_r (F' := (9, [(0, .ref 225), (1, .int v0)], [.int 0, .int v0], ph_3)) e_174_6 (pm_sG pf_table_ph_3_7) ?_
  refine pm_r (F' := (16, [(0, .ref 225), (1, .int v0)], [], ph_3)) e_174_9 (pm_sJ rfl (pm_jt (decide_eq_true (show (0 : Int32) ≤ v0 from Int32.le_iff_toInt_le.mpr (by have e1 : (0 : Int32).toInt = 0 := (by decide +kernel); omega))))) ?_
  refine pm_r (F' := (17, [(0, .ref 225), (1, .int v0)], [.int 0], ph_3)) e_174_16 rfl ?_
  exact pm_rE e_174_17 rfl
theorem pcw_15014 (v0 : Int32) (h29 : 0 ≤ v0.toInt) : pC 8 218 [.ref 225, .int v0] ph_3 = some ((some (.int 0)), ph_3) := by
  refine pm_cE em_218 rfl ?_
  refine pm_r (F' := (1, [(0, .ref 225), (1, .int v0)], [.ref 225], ph_3)) e_218_0 rfl ?_
  refine pm_r (F' := (2, [(0, .ref 225), (1, .int v0)], [.int v0, .ref 225], ph_3)) e_218_1 rfl ?_
  refine pm_r (F' := (5, [(0, .ref 225), (1, .int v0)], [.int 0], ph_3)) e_218_2 (pm_sV em_174 rfl rfl pf_table_ph_3_4 (pcw_15013 v0 h29)) ?_
  refine pm_r (F' := (6, [(2, .int 0), (0, .ref 225), (1, .int v0)], [], ph_3)) e_218_5 rfl ?_
  refine pm_r (F' := (7, [(2, .int 0), (0, .ref 225), (1, .int v0)], [.int 0], ph_3)) e_218_6 rfl ?_
  refine pm_r (F' := (8, [(3, .int 0), (2, .int 0), (0, .ref 225), (1, .int v0)], [], ph_3)) e_218_7 rfl ?_
  refine pm_r (F' := (9, [(3, .int 0), (2, .int 0), (0, .ref 225), (1, .int v0)], [.int 0], ph_3)) e_218_8 rfl ?_
  refine pm_r (F' := (45, [(3, .int 0), (2, .int 0), (0, .ref 225), (1, .int v0)], [], ph_3)) e_218_9 rfl ?_
  refine pm_r (F' := (46, [(3, .int 0), (2, .int 0), (0, .ref 225), (1, .int v0)], [.int 0], ph_3)) e_218_45 rfl ?_
  exact pm_rE e_218_46 rfl
theorem pcw_15015 (v0 : Int32) (h29 : 0 ≤ v0.toInt) (v1 : Int32) (v2 : Int32) (v3 : Int32) : pC 9 226 [.ref 225, .int v0, .int v1, .int v2, .int v3] ph_3 = some ((some (.int (-1))), ph_3) := by
  refine pm_cE em_226 rfl ?_
  refine pm_r (F' := (1, [(0, .ref 225), (1, .int v0), (2, .int v1), (3, .int v2), (4, .int v3)], [.ref 225], ph_3)) e_226_0 rfl ?_
  refine pm_r (F' := (2, [(0, .ref 225), (1, .int v0), (2, .int v1), (3, .int v2), (4, .int v3)], [.int v0, .ref 225], ph_3)) e_226_1 rfl ?_
  refine pm_r (F' := (5, [(0, .ref 225), (1, .int v0), (2, .int v1), (3, .int v2), (4, .int v3)], [.int 0], ph_3)) e_226_2 (pm_sV em_218 rfl rfl pf_table_ph_3_4 (pcw_15014 v0 h29)) ?_
  refine pm_r (F' := (33, [(0, .ref 225), (1, .int v0), (2, .int v1), (3, .int v2), (4, .int v3)], [], ph_3)) e_226_5 rfl ?_
  refine pm_r (F' := (34, [(0, .ref 225), (1, .int v0), (2, .int v1), (3, .int v2), (4, .int v3)], [.int (-1)], ph_3)) e_226_33 rfl ?_
  exact pm_rE e_226_34 rfl
set_option maxRecDepth 100000 in
theorem pq_table (v0 : Int32) (v1 : Int32) (v2 : Int32) (v3 : Int32) : ∃ r : Int32, pq_ok 119 226 [.int v0, .int v1, .int v2, .int v3] (.int r) := by
  rcases (show v0.toInt < 0 ∨ 0 ≤ v0.toInt by omega) with h29 | h29
  · exact ⟨(-1), ph_3, ph_3, (pcw_15006 v0 h29 v1  v2  v3), (pcw_15009 v0 h29 v1  v2  v3), pf_table_ph_3_4, Nat.le_of_ble_eq_true pf_table_ph_3_5, Nat.le_of_ble_eq_true pf_table_ph_3_6⟩
  · exact ⟨(-1), ph_3, ph_3, (pcw_15012 v0 h29 v1  v2  v3), (pcw_15015 v0 h29 v1  v2  v3), pf_table_ph_3_4, Nat.le_of_ble_eq_true pf_table_ph_3_5, Nat.le_of_ble_eq_true pf_table_ph_3_6⟩

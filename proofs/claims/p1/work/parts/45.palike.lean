/-! alike on fresh objects, by program -/
theorem em_116 : pm_ms 116 = some (yX10_alike, cX10_alike, 6, (some .int), 2, 10) := rfl
theorem em_221 : pm_ms 221 = some (yX11_alike, cX11_alike, 6, (some .int), 2, 11) := rfl
theorem e_116_0 : pm_ins 116 0 = some (.aload_n 0, 1, 0, 0, 0, []) := rfl
theorem e_116_1 : pm_ins 116 1 = some (.getfield 30, 3, 10, 3, 3, [(2, 174)]) := rfl
theorem e_116_4 : pm_ins 116 4 = some (.iload_n 1, 1, 0, 0, 0, []) := rfl
theorem e_116_5 : pm_ins 116 5 = some (.invokevirtual 203, 3, 24, 0, 0, [(4, 106), (4, 107), (4, 108)]) := rfl
theorem e_116_8 : pm_ins 116 8 = some (.ifCond .eq 14, 3, 22, 0, 0, []) := rfl
theorem e_116_22 : pm_ins 116 22 = some (.iconst (-1), 1, 0, 0, 0, []) := rfl
theorem e_116_23 : pm_ins 116 23 = some (.ireturn, 1, 0, 0, 0, []) := rfl
theorem e_221_0 : pm_ins 221 0 = some (.aload_n 0, 1, 0, 0, 0, []) := rfl
theorem e_221_1 : pm_ins 221 1 = some (.iload_n 1, 1, 0, 0, 0, []) := rfl
theorem e_221_2 : pm_ins 221 2 = some (.invokevirtual 463, 3, 218, 0, 0, [(7, 136), (7, 138), (0, 101)]) := rfl
theorem e_221_5 : pm_ins 221 5 = some (.ifCond .eq 11, 3, 16, 0, 0, []) := rfl
theorem e_221_16 : pm_ins 221 16 = some (.iconst (-1), 1, 0, 0, 0, []) := rfl
theorem e_221_17 : pm_ins 221 17 = some (.ireturn, 1, 0, 0, 0, []) := rfl
set_option maxRecDepth 100000 in
theorem pf_alike_ph_3 : (pm_gf 10 3 (pm_cell ph_3 1) = some (.ref 10)) ∧ (pm_gf 3 2 (pm_cell ph_3 10) = some (.null)) ∧ (pm_clsOk 3 (pm_cell ph_3 10) = true) ∧ (pm_clsOk 11 (pm_cell ph_3 225) = true) ∧ (Nat.ble ph_3.length 600000 = true) ∧ (Nat.ble (pm_sls ph_3) 7302250 = true) ∧ (pm_gf 11 28 (pm_cell ph_3 225) = some (.int 0)) := by decide +kernel
theorem pf_alike_ph_3_0 : pm_gf 10 3 (pm_cell ph_3 1) = some (.ref 10) := pf_alike_ph_3.1
theorem pf_alike_ph_3_1 : pm_gf 3 2 (pm_cell ph_3 10) = some (.null) := pf_alike_ph_3.2.1
theorem pf_alike_ph_3_2 : pm_clsOk 3 (pm_cell ph_3 10) = true := pf_alike_ph_3.2.2.1
theorem pf_alike_ph_3_3 : pm_clsOk 11 (pm_cell ph_3 225) = true := pf_alike_ph_3.2.2.2.1
theorem pf_alike_ph_3_4 : Nat.ble ph_3.length 600000 = true := pf_alike_ph_3.2.2.2.2.1
theorem pf_alike_ph_3_5 : Nat.ble (pm_sls ph_3) 7302250 = true := pf_alike_ph_3.2.2.2.2.2.1
theorem pf_alike_ph_3_6 : pm_gf 11 28 (pm_cell ph_3 225) = some (.int 0) := pf_alike_ph_3.2.2.2.2.2.2
theorem pcw_12003 (v0 : Int32) (h26 : v0.toInt < 0) : pC 8 24 [.ref 10, .int v0] ph_3 = some ((some (.int 0)), ph_3) := by
  refine pm_cE em_24 rfl ?_
  refine pm_r (F' := (1, [(0, .ref 10), (1, .int v0)], [.ref 10], ph_3)) e_24_0 rfl ?_
  refine pm_r (F' := (4, [(0, .ref 10), (1, .int v0)], [.null], ph_3)) e_24_1 (pm_sG pf_alike_ph_3_1) ?_
  refine pm_r (F' := (22, [(0, .ref 10), (1, .int v0)], [], ph_3)) e_24_4 rfl ?_
  refine pm_r (F' := (23, [(0, .ref 10), (1, .int v0)], [.int 0], ph_3)) e_24_22 rfl ?_
  exact pm_rE e_24_23 rfl
theorem pcw_12004 (v0 : Int32) (h26 : v0.toInt < 0) (v1 : Int32) : pC 9 116 [.ref 1, .int v0, .int v1] ph_3 = some ((some (.int (-1))), ph_3) := by
  refine pm_cE em_116 rfl ?_
  refine pm_r (F' := (1, [(0, .ref 1), (1, .int v0), (2, .int v1)], [.ref 1], ph_3)) e_116_0 rfl ?_
  refine pm_r (F' := (4, [(0, .ref 1), (1, .int v0), (2, .int v1)], [.ref 10], ph_3)) e_116_1 (pm_sG pf_alike_ph_3_0) ?_
  refine pm_r (F' := (5, [(0, .ref 1), (1, .int v0), (2, .int v1)], [.int v0, .ref 10], ph_3)) e_116_4 rfl ?_
  refine pm_r (F' := (8, [(0, .ref 1), (1, .int v0), (2, .int v1)], [.int 0], ph_3)) e_116_5 (pm_sV em_24 rfl rfl pf_alike_ph_3_2 (pcw_12003 v0 h26)) ?_
  refine pm_r (F' := (22, [(0, .ref 1), (1, .int v0), (2, .int v1)], [], ph_3)) e_116_8 rfl ?_
  refine pm_r (F' := (23, [(0, .ref 1), (1, .int v0), (2, .int v1)], [.int (-1)], ph_3)) e_116_22 rfl ?_
  exact pm_rE e_116_23 rfl
theorem pcw_12005 (v0 : Int32) (h26 : v0.toInt < 0) : pC 7 174 [.ref 225, .int v0] ph_3 = some ((some (.int 0)), ph_3) := by
  refine pm_cE em_174 rfl ?_
  refine pm_r (F' := (1, [(0, .ref 225), (1, .int v0)], [.int v0], ph_3)) e_174_0 rfl ?_
  refine pm_r (F' := (16, [(0, .ref 225), (1, .int v0)], [], ph_3)) e_174_1 (pm_sJ rfl (pm_jt (decide_eq_true (show v0 < (0 : Int32) from Int32.lt_iff_toInt_lt.mpr (by have e1 : (0 : Int32).toInt = 0 := (by decide +kernel); omega))))) ?_
  refine pm_r (F' := (17, [(0, .ref 225), (1, .int v0)], [.int 0], ph_3)) e_174_16 rfl ?_
  exact pm_rE e_174_17 rfl
theorem pcw_12006 (v0 : Int32) (h26 : v0.toInt < 0) : pC 8 218 [.ref 225, .int v0] ph_3 = some ((some (.int 0)), ph_3) := by
  refine pm_cE em_218 rfl ?_
  refine pm_r (F' := (1, [(0, .ref 225), (1, .int v0)], [.ref 225], ph_3)) e_218_0 rfl ?_
  refine pm_r (F' := (2, [(0, .ref 225), (1, .int v0)], [.int v0, .ref 225], ph_3)) e_218_1 rfl ?_
  refine pm_r (F' := (5, [(0, .ref 225), (1, .int v0)], [.int 0], ph_3)) e_218_2 (pm_sV em_174 rfl rfl pf_alike_ph_3_3 (pcw_12005 v0 h26)) ?_
  refine pm_r (F' := (6, [(2, .int 0), (0, .ref 225), (1, .int v0)], [], ph_3)) e_218_5 rfl ?_
  refine pm_r (F' := (7, [(2, .int 0), (0, .ref 225), (1, .int v0)], [.int 0], ph_3)) e_218_6 rfl ?_
  refine pm_r (F' := (8, [(3, .int 0), (2, .int 0), (0, .ref 225), (1, .int v0)], [], ph_3)) e_218_7 rfl ?_
  refine pm_r (F' := (9, [(3, .int 0), (2, .int 0), (0, .ref 225), (1, .int v0)], [.int 0], ph_3)) e_218_8 rfl ?_
  refine pm_r (F' := (45, [(3, .int 0), (2, .int 0), (0, .ref 225), (1, .int v0)], [], ph_3)) e_218_9 rfl ?_
  refine pm_r (F' := (46, [(3, .int 0), (2, .int 0), (0, .ref 225), (1, .int v0)], [.int 0], ph_3)) e_218_45 rfl ?_
  exact pm_rE e_218_46 rfl
theorem pcw_12007 (v0 : Int32) (h26 : v0.toInt < 0) (v1 : Int32) : pC 9 221 [.ref 225, .int v0, .int v1] ph_3 = some ((some (.int (-1))), ph_3) := by
  refine pm_cE em_221 rfl ?_
  refine pm_r (F' := (1, [(0, .ref 225), (1, .int v0), (2, .int v1)], [.ref 225], ph_3)) e_221_0 rfl ?_
  refine pm_r (F' := (2, [(0, .ref 225), (1, .int v0), (2, .int v1)], [.int v0, .ref 225], ph_3)) e_221_1 rfl ?_
  refine pm_r (F' := (5, [(0, .ref 225), (1, .int v0), (2, .int v1)], [.int 0], ph_3)) e_221_2 (pm_sV em_218 rfl rfl pf_alike_ph_3_3 (pcw_12006 v0 h26)) ?_
  refine pm_r (F' := (16, [(0, .ref 225), (1, .int v0), (2, .int v1)], [], ph_3)) e_221_5 rfl ?_
  refine pm_r (F' := (17, [(0, .ref 225), (1, .int v0), (2, .int v1)], [.int (-1)], ph_3)) e_221_16 rfl ?_
  exact pm_rE e_221_17 rfl
theorem pcw_12008 (v0 : Int32) (h26 : 0 ≤ v0.toInt) : pC 8 24 [.ref 10, .int v0] ph_3 = some ((some (.int 0)), ph_3) := by
  refine pm_cE em_24 rfl ?_
  refine pm_r (F' := (1, [(0, .ref 10), (1, .int v0)], [.ref 10], ph_3)) e_24_0 rfl ?_
  refine pm_r (F' := (4, [(0, .ref 10), (1, .int v0)], [.null], ph_3)) e_24_1 (pm_sG pf_alike_ph_3_1) ?_
  refine pm_r (F' := (22, [(0, .ref 10), (1, .int v0)], [], ph_3)) e_24_4 rfl ?_
  refine pm_r (F' := (23, [(0, .ref 10), (1, .int v0)], [.int 0], ph_3)) e_24_22 rfl ?_
  exact pm_rE e_24_23 rfl
theorem pcw_12009 (v0 : Int32) (h26 : 0 ≤ v0.toInt) (v1 : Int32) : pC 9 116 [.ref 1, .int v0, .int v1] ph_3 = some ((some (.int (-1))), ph_3) := by
  refine pm_cE em_116 rfl ?_
  refine pm_r (F' := (1, [(0, .ref 1), (1, .int v0), (2, .int v1)], [.ref 1], ph_3)) e_116_0 rfl ?_
  refine pm_r (F' := (4, [(0, .ref 1), (1, .int v0), (2, .int v1)], [.ref 10], ph_3)) e_116_1 (pm_sG pf_alike_ph_3_0) ?_
  refine pm_r (F' := (5, [(0, .ref 1), (1, .int v0), (2, .int v1)], [.int v0, .ref 10], ph_3)) e_116_4 rfl ?_
  refine pm_r (F' := (8, [(0, .ref 1), (1, .int v0), (2, .int v1)], [.int 0], ph_3)) e_116_5 (pm_sV em_24 rfl rfl pf_alike_ph_3_2 (pcw_12008 v0 h26)) ?_
  refine pm_r (F' := (22, [(0, .ref 1), (1, .int v0), (2, .int v1)], [], ph_3)) e_116_8 rfl ?_
  refine pm_r (F' := (23, [(0, .ref 1), (1, .int v0), (2, .int v1)], [.int (-1)], ph_3)) e_116_22 rfl ?_
  exact pm_rE e_116_23 rfl
theorem pcw_12010 (v0 : Int32) (h26 : 0 ≤ v0.toInt) : pC 7 174 [.ref 225, .int v0] ph_3 = some ((some (.int 0)), ph_3) := by
  refine pm_cE em_174 rfl ?_
  refine pm_r (F' := (1, [(0, .ref 225), (1, .int v0)], [.int v0], ph_3)) e_174_0 rfl ?_
  refine pm_r (F' := (4, [(0, .ref 225), (1, .int v0)], [], ph_3)) e_174_1 (pm_sJ rfl (pm_jf (decide_eq_false (show ¬ v0 < (0 : Int32) from fun h => absurd (Int32.lt_iff_toInt_lt.mp h) (by have e1 : (0 : Int32).toInt = 0 := (by decide +kernel); omega))))) ?_
  refine pm_r (F' := (5, [(0, .ref 225), (1, .int v0)], [.int v0], ph_3)) e_174_4 rfl ?_
  refine pm_r (F' := (6, [(0, .ref 225), (1, .int v0)], [.ref 225, .int v0], ph_3)) e_174_5 rfl ?_
  refine pm_r (F' := (9, [(0, .ref 225), (1, .int v0)], [.int 0, .int v0], ph_3)) e_174_6 (pm_sG pf_alike_ph_3_6) ?_
  refine pm_r (F' := (16, [(0, .ref 225), (1, .int v0)], [], ph_3)) e_174_9 (pm_sJ rfl (pm_jt (decide_eq_true (show (0 : Int32) ≤ v0 from Int32.le_iff_toInt_le.mpr (by have e1 : (0 : Int32).toInt = 0 := (by decide +kernel); omega))))) ?_
  refine pm_r (F' := (17, [(0, .ref 225), (1, .int v0)], [.int 0], ph_3)) e_174_16 rfl ?_
  exact pm_rE e_174_17 rfl
theorem pcw_12011 (v0 : Int32) (h26 : 0 ≤ v0.toInt) : pC 8 218 [.ref 225, .int v0] ph_3 = some ((some (.int 0)), ph_3) := by
  refine pm_cE em_218 rfl ?_
  refine pm_r (F' := (1, [(0, .ref 225), (1, .int v0)], [.ref 225], ph_3)) e_218_0 rfl ?_
  refine pm_r (F' := (2, [(0, .ref 225), (1, .int v0)], [.int v0, .ref 225], ph_3)) e_218_1 rfl ?_
  refine pm_r (F' := (5, [(0, .ref 225), (1, .int v0)], [.int 0], ph_3)) e_218_2 (pm_sV em_174 rfl rfl pf_alike_ph_3_3 (pcw_12010 v0 h26)) ?_
  refine pm_r (F' := (6, [(2, .int 0), (0, .ref 225), (1, .int v0)], [], ph_3)) e_218_5 rfl ?_
  refine pm_r (F' := (7, [(2, .int 0), (0, .ref 225), (1, .int v0)], [.int 0], ph_3)) e_218_6 rfl ?_
  refine pm_r (F' := (8, [(3, .int 0), (2, .int 0), (0, .ref 225), (1, .int v0)], [], ph_3)) e_218_7 rfl ?_
  refine pm_r (F' := (9, [(3, .int 0), (2, .int 0), (0, .ref 225), (1, .int v0)], [.int 0], ph_3)) e_218_8 rfl ?_
  refine pm_r (F' := (45, [(3, .int 0), (2, .int 0), (0, .ref 225), (1, .int v0)], [], ph_3)) e_218_9 rfl ?_
  refine pm_r (F' := (46, [(3, .int 0), (2, .int 0), (0, .ref 225), (1, .int v0)], [.int 0], ph_3)) e_218_45 rfl ?_
  exact pm_rE e_218_46 rfl
theorem pcw_12012 (v0 : Int32) (h26 : 0 ≤ v0.toInt) (v1 : Int32) : pC 9 221 [.ref 225, .int v0, .int v1] ph_3 = some ((some (.int (-1))), ph_3) := by
  refine pm_cE em_221 rfl ?_
  refine pm_r (F' := (1, [(0, .ref 225), (1, .int v0), (2, .int v1)], [.ref 225], ph_3)) e_221_0 rfl ?_
  refine pm_r (F' := (2, [(0, .ref 225), (1, .int v0), (2, .int v1)], [.int v0, .ref 225], ph_3)) e_221_1 rfl ?_
  refine pm_r (F' := (5, [(0, .ref 225), (1, .int v0), (2, .int v1)], [.int 0], ph_3)) e_221_2 (pm_sV em_218 rfl rfl pf_alike_ph_3_3 (pcw_12011 v0 h26)) ?_
  refine pm_r (F' := (16, [(0, .ref 225), (1, .int v0), (2, .int v1)], [], ph_3)) e_221_5 rfl ?_
  refine pm_r (F' := (17, [(0, .ref 225), (1, .int v0), (2, .int v1)], [.int (-1)], ph_3)) e_221_16 rfl ?_
  exact pm_rE e_221_17 rfl
set_option maxRecDepth 100000 in
theorem pq_alike (v0 : Int32) (v1 : Int32) : ∃ r : Int32, pq_ok 116 221 [.int v0, .int v1] (.int r) := by
  rcases (show v0.toInt < 0 ∨ 0 ≤ v0.toInt by omega) with h26 | h26
  · exact ⟨(-1), ph_3, ph_3, (pcw_12004 v0 h26 v1), (pcw_12007 v0 h26 v1), pf_alike_ph_3_3, Nat.le_of_ble_eq_true pf_alike_ph_3_4, Nat.le_of_ble_eq_true pf_alike_ph_3_5⟩
  · exact ⟨(-1), ph_3, ph_3, (pcw_12009 v0 h26 v1), (pcw_12012 v0 h26 v1), pf_alike_ph_3_3, Nat.le_of_ble_eq_true pf_alike_ph_3_4, Nat.le_of_ble_eq_true pf_alike_ph_3_5⟩

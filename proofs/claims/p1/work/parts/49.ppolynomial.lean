/-! polynomial on fresh objects, by program -/
theorem em_120 : pm_ms 120 = some (yX10_polynomial, cX10_polynomial, 4, (some .int), 3, 10) := rfl
theorem em_230 : pm_ms 230 = some (yX11_polynomial, cX11_polynomial, 4, (some .int), 3, 11) := rfl
theorem e_120_0 : pm_ins 120 0 = some (.aload_n 0, 1, 0, 0, 0, []) := rfl
theorem e_120_1 : pm_ins 120 1 = some (.iload_n 1, 1, 0, 0, 0, []) := rfl
theorem e_120_2 : pm_ins 120 2 = some (.iload_n 2, 1, 0, 0, 0, []) := rfl
theorem e_120_3 : pm_ins 120 3 = some (.invokevirtual 218, 3, 138, 0, 0, [(4, 149), (4, 151), (0, 41)]) := rfl
theorem e_120_6 : pm_ins 120 6 = some (.ifCond .eq 18, 3, 24, 0, 0, []) := rfl
theorem e_120_24 : pm_ins 120 24 = some (.iconst (-1), 1, 0, 0, 0, []) := rfl
theorem e_120_25 : pm_ins 120 25 = some (.ireturn, 1, 0, 0, 0, []) := rfl
theorem e_230_0 : pm_ins 230 0 = some (.aload_n 0, 1, 0, 0, 0, []) := rfl
theorem e_230_1 : pm_ins 230 1 = some (.iload_n 1, 1, 0, 0, 0, []) := rfl
theorem e_230_2 : pm_ins 230 2 = some (.invokevirtual 463, 3, 218, 0, 0, [(7, 136), (7, 138), (0, 101)]) := rfl
theorem e_230_5 : pm_ins 230 5 = some (.ifCond .eq 23, 3, 28, 0, 0, []) := rfl
theorem e_230_28 : pm_ins 230 28 = some (.iconst (-1), 1, 0, 0, 0, []) := rfl
theorem e_230_29 : pm_ins 230 29 = some (.ireturn, 1, 0, 0, 0, []) := rfl
set_option maxRecDepth 100000 in
theorem pf_polynomial_ph_3 : (pm_gf 10 3 (pm_cell ph_3 1) = some (.ref 10)) ∧ (pm_gf 3 2 (pm_cell ph_3 10) = some (.null)) ∧ (pm_clsOk 3 (pm_cell ph_3 10) = true) ∧ (pm_clsOk 10 (pm_cell ph_3 1) = true) ∧ (pm_clsOk 11 (pm_cell ph_3 225) = true) ∧ (Nat.ble ph_3.length 600000 = true) ∧ (Nat.ble (pm_sls ph_3) 7302250 = true) ∧ (pm_gf 11 28 (pm_cell ph_3 225) = some (.int 0)) := by decide +kernel
theorem pf_polynomial_ph_3_0 : pm_gf 10 3 (pm_cell ph_3 1) = some (.ref 10) := pf_polynomial_ph_3.1
theorem pf_polynomial_ph_3_1 : pm_gf 3 2 (pm_cell ph_3 10) = some (.null) := pf_polynomial_ph_3.2.1
theorem pf_polynomial_ph_3_2 : pm_clsOk 3 (pm_cell ph_3 10) = true := pf_polynomial_ph_3.2.2.1
theorem pf_polynomial_ph_3_3 : pm_clsOk 10 (pm_cell ph_3 1) = true := pf_polynomial_ph_3.2.2.2.1
theorem pf_polynomial_ph_3_4 : pm_clsOk 11 (pm_cell ph_3 225) = true := pf_polynomial_ph_3.2.2.2.2.1
theorem pf_polynomial_ph_3_5 : Nat.ble ph_3.length 600000 = true := pf_polynomial_ph_3.2.2.2.2.2.1
theorem pf_polynomial_ph_3_6 : Nat.ble (pm_sls ph_3) 7302250 = true := pf_polynomial_ph_3.2.2.2.2.2.2.1
theorem pf_polynomial_ph_3_7 : pm_gf 11 28 (pm_cell ph_3 225) = some (.int 0) := pf_polynomial_ph_3.2.2.2.2.2.2.2
theorem pcw_16004 (v0 : Int32) (h30 : v0.toInt < 0) : pC 7 24 [.ref 10, .int v0] ph_3 = some ((some (.int 0)), ph_3) := by
  refine pm_cE em_24 rfl ?_
  refine pm_r (F' := (1, [(0, .ref 10), (1, .int v0)], [.ref 10], ph_3)) e_24_0 rfl ?_
  refine pm_r (F' := (4, [(0, .ref 10), (1, .int v0)], [.null], ph_3)) e_24_1 (pm_sG pf_polynomial_ph_3_1) ?_
  refine pm_r (F' := (22, [(0, .ref 10), (1, .int v0)], [], ph_3)) e_24_4 rfl ?_
  refine pm_r (F' := (23, [(0, .ref 10), (1, .int v0)], [.int 0], ph_3)) e_24_22 rfl ?_
  exact pm_rE e_24_23 rfl
theorem pcw_16005 (v0 : Int32) (h30 : v0.toInt < 0) (v1 : Int32) : pC 8 138 [.ref 1, .int v0, .int v1] ph_3 = some ((some (.int 0)), ph_3) := by
  refine pm_cE em_138 rfl ?_
  refine pm_r (F' := (1, [(0, .ref 1), (1, .int v0), (2, .int v1)], [.ref 1], ph_3)) e_138_0 rfl ?_
  refine pm_r (F' := (4, [(0, .ref 1), (1, .int v0), (2, .int v1)], [.ref 10], ph_3)) e_138_1 (pm_sG pf_polynomial_ph_3_0) ?_
  refine pm_r (F' := (5, [(0, .ref 1), (1, .int v0), (2, .int v1)], [.int v0, .ref 10], ph_3)) e_138_4 rfl ?_
  refine pm_r (F' := (8, [(0, .ref 1), (1, .int v0), (2, .int v1)], [.int 0], ph_3)) e_138_5 (pm_sV em_24 rfl rfl pf_polynomial_ph_3_2 (pcw_16004 v0 h30)) ?_
  refine pm_r (F' := (40, [(0, .ref 1), (1, .int v0), (2, .int v1)], [], ph_3)) e_138_8 rfl ?_
  refine pm_r (F' := (41, [(0, .ref 1), (1, .int v0), (2, .int v1)], [.int 0], ph_3)) e_138_40 rfl ?_
  exact pm_rE e_138_41 rfl
theorem pcw_16006 (v0 : Int32) (h30 : v0.toInt < 0) (v1 : Int32) (v2 : Int32) : pC 9 120 [.ref 1, .int v0, .int v1, .int v2] ph_3 = some ((some (.int (-1))), ph_3) := by
  refine pm_cE em_120 rfl ?_
  refine pm_r (F' := (1, [(0, .ref 1), (1, .int v0), (2, .int v1), (3, .int v2)], [.ref 1], ph_3)) e_120_0 rfl ?_
  refine pm_r (F' := (2, [(0, .ref 1), (1, .int v0), (2, .int v1), (3, .int v2)], [.int v0, .ref 1], ph_3)) e_120_1 rfl ?_
  refine pm_r (F' := (3, [(0, .ref 1), (1, .int v0), (2, .int v1), (3, .int v2)], [.int v1, .int v0, .ref 1], ph_3)) e_120_2 rfl ?_
  refine pm_r (F' := (6, [(0, .ref 1), (1, .int v0), (2, .int v1), (3, .int v2)], [.int 0], ph_3)) e_120_3 (pm_sV em_138 rfl rfl pf_polynomial_ph_3_3 (pcw_16005 v0 h30 v1)) ?_
  refine pm_r (F' := (24, [(0, .ref 1), (1, .int v0), (2, .int v1), (3, .int v2)], [], ph_3)) e_120_6 rfl ?_
  refine pm_r (F' := (25, [(0, .ref 1), (1, .int v0), (2, .int v1), (3, .int v2)], [.int (-1)], ph_3)) e_120_24 rfl ?_
  exact pm_rE e_120_25 rfl
theorem pcw_16007 (v0 : Int32) (h30 : v0.toInt < 0) : pC 7 174 [.ref 225, .int v0] ph_3 = some ((some (.int 0)), ph_3) := by
  refine pm_cE em_174 rfl ?_
  refine pm_r (F' := (1, [(0, .ref 225), (1, .int v0)], [.int v0], ph_3)) e_174_0 rfl ?_
  refine pm_r (F' := (16, [(0, .ref 225), (1, .int v0)], [], ph_3)) e_174_1 (pm_sJ rfl (pm_jt (decide_eq_true (show v0 < (0 : Int32) from Int32.lt_iff_toInt_lt.mpr (by have e1 : (0 : Int32).toInt = 0 := (by decide +kernel); omega))))) ?_
  refine pm_r (F' := (17, [(0, .ref 225), (1, .int v0)], [.int 0], ph_3)) e_174_16 rfl ?_
  exact pm_rE e_174_17 rfl
theorem pcw_16008 (v0 : Int32) (h30 : v0.toInt < 0) : pC 8 218 [.ref 225, .int v0] ph_3 = some ((some (.int 0)), ph_3) := by
  refine pm_cE em_218 rfl ?_
  refine pm_r (F' := (1, [(0, .ref 225), (1, .int v0)], [.ref 225], ph_3)) e_218_0 rfl ?_
  refine pm_r (F' := (2, [(0, .ref 225), (1, .int v0)], [.int v0, .ref 225], ph_3)) e_218_1 rfl ?_
  refine pm_r (F' := (5, [(0, .ref 225), (1, .int v0)], [.int 0], ph_3)) e_218_2 (pm_sV em_174 rfl rfl pf_polynomial_ph_3_4 (pcw_16007 v0 h30)) ?_
  refine pm_r (F' := (6, [(2, .int 0), (0, .ref 225), (1, .int v0)], [], ph_3)) e_218_5 rfl ?_
  refine pm_r (F' := (7, [(2, .int 0), (0, .ref 225), (1, .int v0)], [.int 0], ph_3)) e_218_6 rfl ?_
  refine pm_r (F' := (8, [(3, .int 0), (2, .int 0), (0, .ref 225), (1, .int v0)], [], ph_3)) e_218_7 rfl ?_
  refine pm_r (F' := (9, [(3, .int 0), (2, .int 0), (0, .ref 225), (1, .int v0)], [.int 0], ph_3)) e_218_8 rfl ?_
  refine pm_r (F' := (45, [(3, .int 0), (2, .int 0), (0, .ref 225), (1, .int v0)], [], ph_3)) e_218_9 rfl ?_
  refine pm_r (F' := (46, [(3, .int 0), (2, .int 0), (0, .ref 225), (1, .int v0)], [.int 0], ph_3)) e_218_45 rfl ?_
  exact pm_rE e_218_46 rfl
theorem pcw_16009 (v0 : Int32) (h30 : v0.toInt < 0) (v1 : Int32) (v2 : Int32) : pC 9 230 [.ref 225, .int v0, .int v1, .int v2] ph_3 = some ((some (.int (-1))), ph_3) := by
  refine pm_cE em_230 rfl ?_
  refine pm_r (F' := (1, [(0, .ref 225), (1, .int v0), (2, .int v1), (3, .int v2)], [.ref 225], ph_3)) e_230_0 rfl ?_
  refine pm_r (F' := (2, [(0, .ref 225), (1, .int v0), (2, .int v1), (3, .int v2)], [.int v0, .ref 225], ph_3)) e_230_1 rfl ?_
  refine pm_r (F' := (5, [(0, .ref 225), (1, .int v0), (2, .int v1), (3, .int v2)], [.int 0], ph_3)) e_230_2 (pm_sV em_218 rfl rfl pf_polynomial_ph_3_4 (pcw_16008 v0 h30)) ?_
  refine pm_r (F' := (28, [(0, .ref 225), (1, .int v0), (2, .int v1), (3, .int v2)], [], ph_3)) e_230_5 rfl ?_
  refine pm_r (F' := (29, [(0, .ref 225), (1, .int v0), (2, .int v1), (3, .int v2)], [.int (-1)], ph_3)) e_230_28 rfl ?_
  exact pm_rE e_230_29 rfl
theorem pcw_16010 (v0 : Int32) (h30 : 0 ≤ v0.toInt) : pC 7 24 [.ref 10, .int v0] ph_3 = some ((some (.int 0)), ph_3) := by
  refine pm_cE em_24 rfl ?_
  refine pm_r (F' := (1, [(0, .ref 10), (1, .int v0)], [.ref 10], ph_3)) e_24_0 rfl ?_
  refine pm_r (F' := (4, [(0, .ref 10), (1, .int v0)], [.null], ph_3)) e_24_1 (pm_sG pf_polynomial_ph_3_1) ?_
  refine pm_r (F' := (22, [(0, .ref 10), (1, .int v0)], [], ph_3)) e_24_4 rfl ?_
  refine pm_r (F' := (23, [(0, .ref 10), (1, .int v0)], [.int 0], ph_3)) e_24_22 rfl ?_
  exact pm_rE e_24_23 rfl
theorem pcw_16011 (v0 : Int32) (h30 : 0 ≤ v0.toInt) (v1 : Int32) : pC 8 138 [.ref 1, .int v0, .int v1] ph_3 = some ((some (.int 0)), ph_3) := by
  refine pm_cE em_138 rfl ?_
  refine pm_r (F' := (1, [(0, .ref 1), (1, .int v0), (2, .int v1)], [.ref 1], ph_3)) e_138_0 rfl ?_
  refine pm_r (F' := (4, [(0, .ref 1), (1, .int v0), (2, .int v1)], [.ref 10], ph_3)) e_138_1 (pm_sG pf_polynomial_ph_3_0) ?_
  refine pm_r (F' := (5, [(0, .ref 1), (1, .int v0), (2, .int v1)], [.int v0, .ref 10], ph_3)) e_138_4 rfl ?_
  refine pm_r (F' := (8, [(0, .ref 1), (1, .int v0), (2, .int v1)], [.int 0], ph_3)) e_138_5 (pm_sV em_24 rfl rfl pf_polynomial_ph_3_2 (pcw_16010 v0 h30)) ?_
  refine pm_r (F' := (40, [(0, .ref 1), (1, .int v0), (2, .int v1)], [], ph_3)) e_138_8 rfl ?_
  refine pm_r (F' := (41, [(0, .ref 1), (1, .int v0), (2, .int v1)], [.int 0], ph_3)) e_138_40 rfl ?_
  exact pm_rE e_138_41 rfl
theorem pcw_16012 (v0 : Int32) (h30 : 0 ≤ v0.toInt) (v1 : Int32) (v2 : Int32) : pC 9 120 [.ref 1, .int v0, .int v1, .int v2] ph_3 = some ((some (.int (-1))), ph_3) := by
  refine pm_cE em_120 rfl ?_
  refine pm_r (F' := (1, [(0, .ref 1), (1, .int v0), (2, .int v1), (3, .int v2)], [.ref 1], ph_3)) e_120_0 rfl ?_
  refine pm_r (F' := (2, [(0, .ref 1), (1, .int v0), (2, .int v1), (3, .int v2)], [.int v0, .ref 1], ph_3)) e_120_1 rfl ?_
  refine pm_r (F' := (3, [(0, .ref 1), (1, .int v0), (2, .int v1), (3, .int v2)], [.int v1, .int v0, .ref 1], ph_3)) e_120_2 rfl ?_
  refine pm_r (F' := (6, [(0, .ref 1), (1, .int v0), (2, .int v1), (3, .int v2)], [.int 0], ph_3)) e_120_3 (pm_sV em_138 rfl rfl pf_polynomial_ph_3_3 (pcw_16011 v0 h30 v1)) ?_
  refine pm_r (F' := (24, [(0, .ref 1), (1, .int v0), (2, .int v1), (3, .int v2)], [], ph_3)) e_120_6 rfl ?_
  refine pm_r (F' := (25, [(0, .ref 1), (1, .int v0), (2, .int v1), (3, .int v2)], [.int (-1)], ph_3)) e_120_24 rfl ?_
  exact pm_rE e_120_25 rfl
theorem pcw_16013 (v0 : Int32) (h30 : 0 ≤ v0.toInt) : pC 7 174 [.ref 225, .int v0] ph_3 = some ((some (.int 0)), ph_3) := by
  refine pm_cE em_174 rfl ?_
  refine pm_r (F' := (1, [(0, .ref 225), (1, .int v0)], [.int v0], ph_3)) e_174_0 rfl ?_
  refine pm_r (F' := (4, [(0, .ref 225), (1, .int v0)], [], ph_3)) e_174_1 (pm_sJ rfl (pm_jf (decide_eq_false (show ¬ v0 < (0 : Int32) from fun h => absurd (Int32.lt_iff_toInt_lt.mp h) (by have e1 : (0 : Int32).toInt = 0 := (by decide +kernel); omega))))) ?_
  refine pm_r (F' := (5, [(0, .ref 225), (1, .int v0)], [.int v0], ph_3)) e_174_4 rfl ?_
  refine pm_r (F' := (6, [(0, .ref 225), (1, .int v0)], [.ref 225, .int v0], ph_3)) e_174_5 rfl ?_
  refine pm_r (F' := (9, [(0, .ref 225), (1, .int v0)], [.int 0, .int v0], ph_3)) e_174_6 (pm_sG pf_polynomial_ph_3_7) ?_
  refine pm_r (F' := (16, [(0, .ref 225), (1, .int v0)], [], ph_3)) e_174_9 (pm_sJ rfl (pm_jt (decide_eq_true (show (0 : Int32) ≤ v0 from Int32.le_iff_toInt_le.mpr (by have e1 : (0 : Int32).toInt = 0 := (by decide +kernel); omega))))) ?_
  refine pm_r (F' := (17, [(0, .ref 225), (1, .int v0)], [.int 0], ph_3)) e_174_16 rfl ?_
  exact pm_rE e_174_17 rfl
theorem pcw_16014 (v0 : Int32) (h30 : 0 ≤ v0.toInt) : pC 8 218 [.ref 225, .int v0] ph_3 = some ((some (.int 0)), ph_3) := by
  refine pm_cE em_218 rfl ?_
  refine pm_r (F' := (1, [(0, .ref 225), (1, .int v0)], [.ref 225], ph_3)) e_218_0 rfl ?_
  refine pm_r (F' := (2, [(0, .ref 225), (1, .int v0)], [.int v0, .ref 225], ph_3)) e_218_1 rfl ?_
  refine pm_r (F' := (5, [(0, .ref 225), (1, .int v0)], [.int 0], ph_3)) e_218_2 (pm_sV em_174 rfl rfl pf_polynomial_ph_3_4 (pcw_16013 v0 h30)) ?_
  refine pm_r (F' := (6, [(2, .int 0), (0, .ref 225), (1, .int v0)], [], ph_3)) e_218_5 rfl ?_
  refine pm_r (F' := (7, [(2, .int 0), (0, .ref 225), (1, .int v0)], [.int 0], ph_3)) e_218_6 rfl ?_
  refine pm_r (F' := (8, [(3, .int 0), (2, .int 0), (0, .ref 225), (1, .int v0)], [], ph_3)) e_218_7 rfl ?_
  refine pm_r (F' := (9, [(3, .int 0), (2, .int 0), (0, .ref 225), (1, .int v0)], [.int 0], ph_3)) e_218_8 rfl ?_
  refine pm_r (F' := (45, [(3, .int 0), (2, .int 0), (0, .ref 225), (1, .int v0)], [], ph_3)) e_218_9 rfl ?_
  refine pm_r (F' := (46, [(3, .int 0), (2, .int 0), (0, .ref 225), (1, .int v0)], [.int 0], ph_3)) e_218_45 rfl ?_
  exact pm_rE e_218_46 rfl
theorem pcw_16015 (v0 : Int32) (h30 : 0 ≤ v0.toInt) (v1 : Int32) (v2 : Int32) : pC 9 230 [.ref 225, .int v0, .int v1, .int v2] ph_3 = some ((some (.int (-1))), ph_3) := by
  refine pm_cE em_230 rfl ?_
  refine pm_r (F' := (1, [(0, .ref 225), (1, .int v0), (2, .int v1), (3, .int v2)], [.ref 225], ph_3)) e_230_0 rfl ?_
  refine pm_r (F' := (2, [(0, .ref 225), (1, .int v0), (2, .int v1), (3, .int v2)], [.int v0, .ref 225], ph_3)) e_230_1 rfl ?_
  refine pm_r (F' := (5, [(0, .ref 225), (1, .int v0), (2, .int v1), (3, .int v2)], [.int 0], ph_3)) e_230_2 (pm_sV em_218 rfl rfl pf_polynomial_ph_3_4 (pcw_16014 v0 h30)) ?_
  refine pm_r (F' := (28, [(0, .ref 225), (1, .int v0), (2, .int v1), (3, .int v2)], [], ph_3)) e_230_5 rfl ?_
  refine pm_r (F' := (29, [(0, .ref 225), (1, .int v0), (2, .int v1), (3, .int v2)], [.int (-1)], ph_3)) e_230_28 rfl ?_
  exact pm_rE e_230_29 rfl
set_option maxRecDepth 100000 in
theorem pq_polynomial (v0 : Int32) (v1 : Int32) (v2 : Int32) : ∃ r : Int32, pq_ok 120 230 [.int v0, .int v1, .int v2] (.int r) := by
  rcases (show v0.toInt < 0 ∨ 0 ≤ v0.toInt by omega) with h30 | h30
  · exact ⟨(-1), ph_3, ph_3, (pcw_16006 v0 h30 v1  v2), (pcw_16009 v0 h30 v1  v2), pf_polynomial_ph_3_4, Nat.le_of_ble_eq_true pf_polynomial_ph_3_5, Nat.le_of_ble_eq_true pf_polynomial_ph_3_6⟩
  · exact ⟨(-1), ph_3, ph_3, (pcw_16012 v0 h30 v1  v2), (pcw_16015 v0 h30 v1  v2), pf_polynomial_ph_3_4, Nat.le_of_ble_eq_true pf_polynomial_ph_3_5, Nat.le_of_ble_eq_true pf_polynomial_ph_3_6⟩

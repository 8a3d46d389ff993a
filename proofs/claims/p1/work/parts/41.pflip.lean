/-! flip on fresh objects, by program -/
theorem em_112 : pm_ms 112 = some (yX10_flip, cX10_flip, 4, (some .int), 2, 10) := rfl
theorem em_203 : pm_ms 203 = some (yX11_flip, cX11_flip, 3, (some .int), 2, 11) := rfl
theorem e_112_0 : pm_ins 112 0 = some (.aload_n 0, 1, 0, 0, 0, []) := rfl
theorem e_112_1 : pm_ins 112 1 = some (.getfield 30, 3, 10, 3, 3, [(2, 174)]) := rfl
theorem e_112_4 : pm_ins 112 4 = some (.iload_n 1, 1, 0, 0, 0, []) := rfl
theorem e_112_5 : pm_ins 112 5 = some (.invokevirtual 167, 3, 22, 0, 0, [(4, 41), (4, 42), (4, 43)]) := rfl
theorem e_112_8 : pm_ins 112 8 = some (.astore_n 3, 1, 0, 0, 0, []) := rfl
theorem e_112_9 : pm_ins 112 9 = some (.aload_n 3, 1, 0, 0, 0, []) := rfl
theorem e_112_10 : pm_ins 112 10 = some (.ifnull 23, 3, 33, 0, 0, []) := rfl
theorem e_112_33 : pm_ins 112 33 = some (.iconst (-1), 1, 0, 0, 0, []) := rfl
theorem e_112_34 : pm_ins 112 34 = some (.ireturn, 1, 0, 0, 0, []) := rfl
theorem e_203_0 : pm_ins 203 0 = some (.aload_n 0, 1, 0, 0, 0, []) := rfl
theorem e_203_1 : pm_ins 203 1 = some (.iload_n 1, 1, 0, 0, 0, []) := rfl
theorem e_203_2 : pm_ins 203 2 = some (.invokevirtual 372, 3, 173, 0, 0, [(7, 64), (7, 66), (0, 92)]) := rfl
theorem e_203_5 : pm_ins 203 5 = some (.ifCond .eq 26, 3, 31, 0, 0, []) := rfl
theorem e_203_31 : pm_ins 203 31 = some (.iconst (-1), 1, 0, 0, 0, []) := rfl
theorem e_203_32 : pm_ins 203 32 = some (.goto 17, 3, 49, 0, 0, []) := rfl
theorem e_203_49 : pm_ins 203 49 = some (.ireturn, 1, 0, 0, 0, []) := rfl
set_option maxRecDepth 100000 in
theorem pf_flip_ph_3 : (pm_gf 10 3 (pm_cell ph_3 1) = some (.ref 10)) ∧ (pm_gf 3 2 (pm_cell ph_3 10) = some (.null)) ∧ (pm_clsOk 3 (pm_cell ph_3 10) = true) ∧ (pm_clsOk 11 (pm_cell ph_3 225) = true) ∧ (Nat.ble ph_3.length 600000 = true) ∧ (Nat.ble (pm_sls ph_3) 7302250 = true) ∧ (pm_gf 11 27 (pm_cell ph_3 225) = some (.int 0)) := by decide +kernel
theorem pf_flip_ph_3_0 : pm_gf 10 3 (pm_cell ph_3 1) = some (.ref 10) := pf_flip_ph_3.1
theorem pf_flip_ph_3_1 : pm_gf 3 2 (pm_cell ph_3 10) = some (.null) := pf_flip_ph_3.2.1
theorem pf_flip_ph_3_2 : pm_clsOk 3 (pm_cell ph_3 10) = true := pf_flip_ph_3.2.2.1
theorem pf_flip_ph_3_3 : pm_clsOk 11 (pm_cell ph_3 225) = true := pf_flip_ph_3.2.2.2.1
theorem pf_flip_ph_3_4 : Nat.ble ph_3.length 600000 = true := pf_flip_ph_3.2.2.2.2.1
theorem pf_flip_ph_3_5 : Nat.ble (pm_sls ph_3) 7302250 = true := pf_flip_ph_3.2.2.2.2.2.1
theorem pf_flip_ph_3_6 : pm_gf 11 27 (pm_cell ph_3 225) = some (.int 0) := pf_flip_ph_3.2.2.2.2.2.2
theorem pcw_8003 (v0 : Int32) (h20 : v0.toInt < 0) : pC 8 22 [.ref 10, .int v0] ph_3 = some ((some (.null)), ph_3) := by
  refine pm_cE em_22 rfl ?_
  refine pm_r (F' := (1, [(0, .ref 10), (1, .int v0)], [.ref 10], ph_3)) e_22_0 rfl ?_
  refine pm_r (F' := (4, [(0, .ref 10), (1, .int v0)], [.null], ph_3)) e_22_1 (pm_sG pf_flip_ph_3_1) ?_
  refine pm_r (F' := (31, [(0, .ref 10), (1, .int v0)], [], ph_3)) e_22_4 rfl ?_
  refine pm_r (F' := (32, [(0, .ref 10), (1, .int v0)], [.null], ph_3)) e_22_31 rfl ?_
  exact pm_rE e_22_32 rfl
theorem pcw_8004 (v0 : Int32) (h20 : v0.toInt < 0) (v1 : Int32) : pC 9 112 [.ref 1, .int v0, .int v1] ph_3 = some ((some (.int (-1))), ph_3) := by
  refine pm_cE em_112 rfl ?_
  refine pm_r (F' := (1, [(0, .ref 1), (1, .int v0), (2, .int v1)], [.ref 1], ph_3)) e_112_0 rfl ?_
  refine pm_r (F' := (4, [(0, .ref 1), (1, .int v0), (2, .int v1)], [.ref 10], ph_3)) e_112_1 (pm_sG pf_flip_ph_3_0) ?_
  refine pm_r (F' := (5, [(0, .ref 1), (1, .int v0), (2, .int v1)], [.int v0, .ref 10], ph_3)) e_112_4 rfl ?_
  refine pm_r (F' := (8, [(0, .ref 1), (1, .int v0), (2, .int v1)], [.null], ph_3)) e_112_5 (pm_sV em_22 rfl rfl pf_flip_ph_3_2 (pcw_8003 v0 h20)) ?_
  refine pm_r (F' := (9, [(3, .null), (0, .ref 1), (1, .int v0), (2, .int v1)], [], ph_3)) e_112_8 rfl ?_
  refine pm_r (F' := (10, [(3, .null), (0, .ref 1), (1, .int v0), (2, .int v1)], [.null], ph_3)) e_112_9 rfl ?_
  refine pm_r (F' := (33, [(3, .null), (0, .ref 1), (1, .int v0), (2, .int v1)], [], ph_3)) e_112_10 rfl ?_
  refine pm_r (F' := (34, [(3, .null), (0, .ref 1), (1, .int v0), (2, .int v1)], [.int (-1)], ph_3)) e_112_33 rfl ?_
  exact pm_rE e_112_34 rfl
theorem pcw_8005 (v0 : Int32) (h20 : v0.toInt < 0) : pC 8 173 [.ref 225, .int v0] ph_3 = some ((some (.int 0)), ph_3) := by
  refine pm_cE em_173 rfl ?_
  refine pm_r (F' := (1, [(0, .ref 225), (1, .int v0)], [.int v0], ph_3)) e_173_0 rfl ?_
  refine pm_r (F' := (16, [(0, .ref 225), (1, .int v0)], [], ph_3)) e_173_1 (pm_sJ rfl (pm_jt (decide_eq_true (show v0 < (0 : Int32) from Int32.lt_iff_toInt_lt.mpr (by have e1 : (0 : Int32).toInt = 0 := (by decide +kernel); omega))))) ?_
  refine pm_r (F' := (17, [(0, .ref 225), (1, .int v0)], [.int 0], ph_3)) e_173_16 rfl ?_
  exact pm_rE e_173_17 rfl
theorem pcw_8006 (v0 : Int32) (h20 : v0.toInt < 0) (v1 : Int32) : pC 9 203 [.ref 225, .int v0, .int v1] ph_3 = some ((some (.int (-1))), ph_3) := by
  refine pm_cE em_203 rfl ?_
  refine pm_r (F' := (1, [(0, .ref 225), (1, .int v0), (2, .int v1)], [.ref 225], ph_3)) e_203_0 rfl ?_
  refine pm_r (F' := (2, [(0, .ref 225), (1, .int v0), (2, .int v1)], [.int v0, .ref 225], ph_3)) e_203_1 rfl ?_
  refine pm_r (F' := (5, [(0, .ref 225), (1, .int v0), (2, .int v1)], [.int 0], ph_3)) e_203_2 (pm_sV em_173 rfl rfl pf_flip_ph_3_3 (pcw_8005 v0 h20)) ?_
  refine pm_r (F' := (31, [(0, .ref 225), (1, .int v0), (2, .int v1)], [], ph_3)) e_203_5 rfl ?_
  refine pm_r (F' := (32, [(0, .ref 225), (1, .int v0), (2, .int v1)], [.int (-1)], ph_3)) e_203_31 rfl ?_
  refine pm_r (F' := (49, [(0, .ref 225), (1, .int v0), (2, .int v1)], [.int (-1)], ph_3)) e_203_32 rfl ?_
  exact pm_rE e_203_49 rfl
theorem pcw_8007 (v0 : Int32) (h20 : 0 ≤ v0.toInt) : pC 8 22 [.ref 10, .int v0] ph_3 = some ((some (.null)), ph_3) := by
  refine pm_cE em_22 rfl ?_
  refine pm_r (F' := (1, [(0, .ref 10), (1, .int v0)], [.ref 10], ph_3)) e_22_0 rfl ?_
  refine pm_r (F' := (4, [(0, .ref 10), (1, .int v0)], [.null], ph_3)) e_22_1 (pm_sG pf_flip_ph_3_1) ?_
  refine pm_r (F' := (31, [(0, .ref 10), (1, .int v0)], [], ph_3)) e_22_4 rfl ?_
  refine pm_r (F' := (32, [(0, .ref 10), (1, .int v0)], [.null], ph_3)) e_22_31 rfl ?_
  exact pm_rE e_22_32 rfl
theorem pcw_8008 (v0 : Int32) (h20 : 0 ≤ v0.toInt) (v1 : Int32) : pC 9 112 [.ref 1, .int v0, .int v1] ph_3 = some ((some (.int (-1))), ph_3) := by
  refine pm_cE em_112 rfl ?_
  refine pm_r (F' := (1, [(0, .ref 1), (1, .int v0), (2, .int v1)], [.ref 1], ph_3)) e_112_0 rfl ?_
  refine pm_r (F' := (4, [(0, .ref 1), (1, .int v0), (2, .int v1)], [.ref 10], ph_3)) e_112_1 (pm_sG pf_flip_ph_3_0) ?_
  refine pm_r (F' := (5, [(0, .ref 1), (1, .int v0), (2, .int v1)], [.int v0, .ref 10], ph_3)) e_112_4 rfl ?_
  refine pm_r (F' := (8, [(0, .ref 1), (1, .int v0), (2, .int v1)], [.null], ph_3)) e_112_5 (pm_sV em_22 rfl rfl pf_flip_ph_3_2 (pcw_8007 v0 h20)) ?_
  refine pm_r (F' := (9, [(3, .null), (0, .ref 1), (1, .int v0), (2, .int v1)], [], ph_3)) e_112_8 rfl ?_
  refine pm_r (F' := (10, [(3, .null), (0, .ref 1), (1, .int v0), (2, .int v1)], [.null], ph_3)) e_112_9 rfl ?_
  refine pm_r (F' := (33, [(3, .null), (0, .ref 1), (1, .int v0), (2, .int v1)], [], ph_3)) e_112_10 rfl ?_
  refine pm_r (F' := (34, [(3, .null), (0, .ref 1), (1, .int v0), (2, .int v1)], [.int (-1)], ph_3)) e_112_33 rfl ?_
  exact pm_rE e_112_34 rfl
theorem pcw_8009 (v0 : Int32) (h20 : 0 ≤ v0.toInt) : pC 8 173 [.ref 225, .int v0] ph_3 = some ((some (.int 0)), ph_3) := by
  refine pm_cE em_173 rfl ?_
  refine pm_r (F' := (1, [(0, .ref 225), (1, .int v0)], [.int v0], ph_3)) e_173_0 rfl ?_
  refine pm_r (F' := (4, [(0, .ref 225), (1, .int v0)], [], ph_3)) e_173_1 (pm_sJ rfl (pm_jf (decide_eq_false (show ¬ v0 < (0 : Int32) from fun h => absurd (Int32.lt_iff_toInt_lt.mp h) (by have e1 : (0 : Int32).toInt = 0 := (by decide +kernel); omega))))) ?_
  refine pm_r (F' := (5, [(0, .ref 225), (1, .int v0)], [.int v0], ph_3)) e_173_4 rfl ?_
  refine pm_r (F' := (6, [(0, .ref 225), (1, .int v0)], [.ref 225, .int v0], ph_3)) e_173_5 rfl ?_
  refine pm_r (F' := (9, [(0, .ref 225), (1, .int v0)], [.int 0, .int v0], ph_3)) e_173_6 (pm_sG pf_flip_ph_3_6) ?_
  refine pm_r (F' := (16, [(0, .ref 225), (1, .int v0)], [], ph_3)) e_173_9 (pm_sJ rfl (pm_jt (decide_eq_true (show (0 : Int32) ≤ v0 from Int32.le_iff_toInt_le.mpr (by have e1 : (0 : Int32).toInt = 0 := (by decide +kernel); omega))))) ?_
  refine pm_r (F' := (17, [(0, .ref 225), (1, .int v0)], [.int 0], ph_3)) e_173_16 rfl ?_
  exact pm_rE e_173_17 rfl
theorem pcw_8010 (v0 : Int32) (h20 : 0 ≤ v0.toInt) (v1 : Int32) : pC 9 203 [.ref 225, .int v0, .int v1] ph_3 = some ((some (.int (-1))), ph_3) := by
  refine pm_cE em_203 rfl ?_
  refine pm_r (F' := (1, [(0, .ref 225), (1, .int v0), (2, .int v1)], [.ref 225], ph_3)) e_203_0 rfl ?_
  refine pm_r (F' := (2, [(0, .ref 225), (1, .int v0), (2, .int v1)], [.int v0, .ref 225], ph_3)) e_203_1 rfl ?_
  refine pm_r (F' := (5, [(0, .ref 225), (1, .int v0), (2, .int v1)], [.int 0], ph_3)) e_203_2 (pm_sV em_173 rfl rfl pf_flip_ph_3_3 (pcw_8009 v0 h20)) ?_
  refine pm_r (F' := (31, [(0, .ref 225), (1, .int v0), (2, .int v1)], [], ph_3)) e_203_5 rfl ?_
  refine pm_r (F' := (32, [(0, .ref 225), (1, .int v0), (2, .int v1)], [.int (-1)], ph_3)) e_203_31 rfl ?_
  refine pm_r (F' := (49, [(0, .ref 225), (1, .int v0), (2, .int v1)], [.int (-1)], ph_3)) e_203_32 rfl ?_
  exact pm_rE e_203_49 rfl
set_option maxRecDepth 100000 in
theorem pq_flip (v0 : Int32) (v1 : Int32) : ∃ r : Int32, pq_ok 112 203 [.int v0, .int v1] (.int r) := by
  rcases (show v0.toInt < 0 ∨ 0 ≤ v0.toInt by omega) with h20 | h20
  · exact ⟨(-1), ph_3, ph_3, (pcw_8004 v0 h20 v1), (pcw_8006 v0 h20 v1), pf_flip_ph_3_3, Nat.le_of_ble_eq_true pf_flip_ph_3_4, Nat.le_of_ble_eq_true pf_flip_ph_3_5⟩
  · exact ⟨(-1), ph_3, ph_3, (pcw_8008 v0 h20 v1), (pcw_8010 v0 h20 v1), pf_flip_ph_3_3, Nat.le_of_ble_eq_true pf_flip_ph_3_4, Nat.le_of_ble_eq_true pf_flip_ph_3_5⟩

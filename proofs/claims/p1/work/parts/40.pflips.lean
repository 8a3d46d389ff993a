/-! flips on fresh objects, by program -/
theorem em_22 : pm_ms 22 = some (yX3_roadOf, cX3_roadOf, 2, (some (.object "LoopGround$Road")), 1, 3) := rfl
theorem em_111 : pm_ms 111 = some (yX10_flips, cX10_flips, 3, (some .int), 1, 10) := rfl
theorem em_202 : pm_ms 202 = some (yX11_flips, cX11_flips, 2, (some .int), 1, 11) := rfl
theorem e_22_0 : pm_ins 22 0 = some (.aload_n 0, 1, 0, 0, 0, []) := rfl
theorem e_22_1 : pm_ins 22 1 = some (.getfield 25, 3, 3, 2, 3, [(1, 205)]) := rfl
theorem e_22_4 : pm_ins 22 4 = some (.ifnull 27, 3, 31, 0, 0, []) := rfl
theorem e_22_31 : pm_ins 22 31 = some (.aconst_null, 1, 0, 0, 0, []) := rfl
theorem e_22_32 : pm_ins 22 32 = some (.areturn, 1, 0, 0, 0, []) := rfl
theorem e_111_0 : pm_ins 111 0 = some (.aload_n 0, 1, 0, 0, 0, []) := rfl
theorem e_111_1 : pm_ins 111 1 = some (.getfield 30, 3, 10, 3, 3, [(2, 174)]) := rfl
theorem e_111_4 : pm_ins 111 4 = some (.iload_n 1, 1, 0, 0, 0, []) := rfl
theorem e_111_5 : pm_ins 111 5 = some (.invokevirtual 167, 3, 22, 0, 0, [(4, 41), (4, 42), (4, 43)]) := rfl
theorem e_111_8 : pm_ins 111 8 = some (.astore_n 2, 1, 0, 0, 0, []) := rfl
theorem e_111_9 : pm_ins 111 9 = some (.aload_n 2, 1, 0, 0, 0, []) := rfl
theorem e_111_10 : pm_ins 111 10 = some (.ifnull 10, 3, 20, 0, 0, []) := rfl
theorem e_111_20 : pm_ins 111 20 = some (.iconst (-1), 1, 0, 0, 0, []) := rfl
theorem e_111_21 : pm_ins 111 21 = some (.ireturn, 1, 0, 0, 0, []) := rfl
theorem e_202_0 : pm_ins 202 0 = some (.aload_n 0, 1, 0, 0, 0, []) := rfl
theorem e_202_1 : pm_ins 202 1 = some (.iload_n 1, 1, 0, 0, 0, []) := rfl
theorem e_202_2 : pm_ins 202 2 = some (.invokevirtual 372, 3, 173, 0, 0, [(7, 64), (7, 66), (0, 92)]) := rfl
theorem e_202_5 : pm_ins 202 5 = some (.ifCond .eq 12, 3, 17, 0, 0, []) := rfl
theorem e_202_17 : pm_ins 202 17 = some (.iconst (-1), 1, 0, 0, 0, []) := rfl
theorem e_202_18 : pm_ins 202 18 = some (.goto 23, 3, 41, 0, 0, []) := rfl
theorem e_202_41 : pm_ins 202 41 = some (.ireturn, 1, 0, 0, 0, []) := rfl
set_option maxRecDepth 100000 in
theorem pf_flips_ph_3 : (pm_gf 10 3 (pm_cell ph_3 1) = some (.ref 10)) ∧ (pm_gf 3 2 (pm_cell ph_3 10) = some (.null)) ∧ (pm_clsOk 3 (pm_cell ph_3 10) = true) ∧ (pm_clsOk 11 (pm_cell ph_3 225) = true) ∧ (Nat.ble ph_3.length 600000 = true) ∧ (Nat.ble (pm_sls ph_3) 7302250 = true) ∧ (pm_gf 11 27 (pm_cell ph_3 225) = some (.int 0)) := by decide +kernel
theorem pf_flips_ph_3_0 : pm_gf 10 3 (pm_cell ph_3 1) = some (.ref 10) := pf_flips_ph_3.1
theorem pf_flips_ph_3_1 : pm_gf 3 2 (pm_cell ph_3 10) = some (.null) := pf_flips_ph_3.2.1
theorem pf_flips_ph_3_2 : pm_clsOk 3 (pm_cell ph_3 10) = true := pf_flips_ph_3.2.2.1
theorem pf_flips_ph_3_3 : pm_clsOk 11 (pm_cell ph_3 225) = true := pf_flips_ph_3.2.2.2.1
theorem pf_flips_ph_3_4 : Nat.ble ph_3.length 600000 = true := pf_flips_ph_3.2.2.2.2.1
theorem pf_flips_ph_3_5 : Nat.ble (pm_sls ph_3) 7302250 = true := pf_flips_ph_3.2.2.2.2.2.1
theorem pf_flips_ph_3_6 : pm_gf 11 27 (pm_cell ph_3 225) = some (.int 0) := pf_flips_ph_3.2.2.2.2.2.2
theorem pcw_7003 (v0 : Int32) (h19 : v0.toInt < 0) : pC 8 22 [.ref 10, .int v0] ph_3 = some ((some (.null)), ph_3) := by
  refine pm_cE em_22 rfl ?_
  refine pm_r (F' := (1, [(0, .ref 10), (1, .int v0)], [.ref 10], ph_3)) e_22_0 rfl ?_
  refine pm_r (F' := (4, [(0, .ref 10), (1, .int v0)], [.null], ph_3)) e_22_1 (pm_sG pf_flips_ph_3_1) ?_
  refine pm_r (F' := (31, [(0, .ref 10), (1, .int v0)], [], ph_3)) e_22_4 rfl ?_
  refine pm_r (F' := (32, [(0, .ref 10), (1, .int v0)], [.null], ph_3)) e_22_31 rfl ?_
  exact pm_rE e_22_32 rfl
theorem pcw_7004 (v0 : Int32) (h19 : v0.toInt < 0) : pC 9 111 [.ref 1, .int v0] ph_3 = some ((some (.int (-1))), ph_3) := by
  refine pm_cE em_111 rfl ?_
  refine pm_r (F' := (1, [(0, .ref 1), (1, .int v0)], [.ref 1], ph_3)) e_111_0 rfl ?_
  refine pm_r (F' := (4, [(0, .ref 1), (1, .int v0)], [.ref 10], ph_3)) e_111_1 (pm_sG pf_flips_ph_3_0) ?_
  refine pm_r (F' := (5, [(0, .ref 1), (1, .int v0)], [.int v0, .ref 10], ph_3)) e_111_4 rfl ?_
  refine pm_r (F' := (8, [(0, .ref 1), (1, .int v0)], [.null], ph_3)) e_111_5 (pm_sV em_22 rfl rfl pf_flips_ph_3_2 (pcw_7003 v0 h19)) ?_
  refine pm_r (F' := (9, [(2, .null), (0, .ref 1), (1, .int v0)], [], ph_3)) e_111_8 rfl ?_
  refine pm_r (F' := (10, [(2, .null), (0, .ref 1), (1, .int v0)], [.null], ph_3)) e_111_9 rfl ?_
  refine pm_r (F' := (20, [(2, .null), (0, .ref 1), (1, .int v0)], [], ph_3)) e_111_10 rfl ?_
  refine pm_r (F' := (21, [(2, .null), (0, .ref 1), (1, .int v0)], [.int (-1)], ph_3)) e_111_20 rfl ?_
  exact pm_rE e_111_21 rfl
theorem pcw_7005 (v0 : Int32) (h19 : v0.toInt < 0) : pC 8 173 [.ref 225, .int v0] ph_3 = some ((some (.int 0)), ph_3) := by
  refine pm_cE em_173 rfl ?_
  refine pm_r (F' := (1, [(0, .ref 225), (1, .int v0)], [.int v0], ph_3)) e_173_0 rfl ?_
  refine pm_r (F' := (16, [(0, .ref 225), (1, .int v0)], [], ph_3)) e_173_1 (pm_sJ rfl (pm_jt (decide_eq_true (show v0 < (0 : Int32) from Int32.lt_iff_toInt_lt.mpr (by have e1 : (0 : Int32).toInt = 0 := (by decide +kernel); omega))))) ?_
  refine pm_r (F' := (17, [(0, .ref 225), (1, .int v0)], [.int 0], ph_3)) e_173_16 rfl ?_
  exact pm_rE e_173_17 rfl
theorem pcw_7006 (v0 : Int32) (h19 : v0.toInt < 0) : pC 9 202 [.ref 225, .int v0] ph_3 = some ((some (.int (-1))), ph_3) := by
  refine pm_cE em_202 rfl ?_
  refine pm_r (F' := (1, [(0, .ref 225), (1, .int v0)], [.ref 225], ph_3)) e_202_0 rfl ?_
  refine pm_r (F' := (2, [(0, .ref 225), (1, .int v0)], [.int v0, .ref 225], ph_3)) e_202_1 rfl ?_
  refine pm_r (F' := (5, [(0, .ref 225), (1, .int v0)], [.int 0], ph_3)) e_202_2 (pm_sV em_173 rfl rfl pf_flips_ph_3_3 (pcw_7005 v0 h19)) ?_
  refine pm_r (F' := (17, [(0, .ref 225), (1, .int v0)], [], ph_3)) e_202_5 rfl ?_
  refine pm_r (F' := (18, [(0, .ref 225), (1, .int v0)], [.int (-1)], ph_3)) e_202_17 rfl ?_
  refine pm_r (F' := (41, [(0, .ref 225), (1, .int v0)], [.int (-1)], ph_3)) e_202_18 rfl ?_
  exact pm_rE e_202_41 rfl
theorem pcw_7007 (v0 : Int32) (h19 : 0 ≤ v0.toInt) : pC 8 22 [.ref 10, .int v0] ph_3 = some ((some (.null)), ph_3) := by
  refine pm_cE em_22 rfl ?_
  refine pm_r (F' := (1, [(0, .ref 10), (1, .int v0)], [.ref 10], ph_3)) e_22_0 rfl ?_
  refine pm_r (F' := (4, [(0, .ref 10), (1, .int v0)], [.null], ph_3)) e_22_1 (pm_sG pf_flips_ph_3_1) ?_
  refine pm_r (F' := (31, [(0, .ref 10), (1, .int v0)], [], ph_3)) e_22_4 rfl ?_
  refine pm_r (F' := (32, [(0, .ref 10), (1, .int v0)], [.null], ph_3)) e_22_31 rfl ?_
  exact pm_rE e_22_32 rfl
theorem pcw_7008 (v0 : Int32) (h19 : 0 ≤ v0.toInt) : pC 9 111 [.ref 1, .int v0] ph_3 = some ((some (.int (-1))), ph_3) := by
  refine pm_cE em_111 rfl ?_
  refine pm_r (F' := (1, [(0, .ref 1), (1, .int v0)], [.ref 1], ph_3)) e_111_0 rfl ?_
  refine pm_r (F' := (4, [(0, .ref 1), (1, .int v0)], [.ref 10], ph_3)) e_111_1 (pm_sG pf_flips_ph_3_0) ?_
  refine pm_r (F' := (5, [(0, .ref 1), (1, .int v0)], [.int v0, .ref 10], ph_3)) e_111_4 rfl ?_
  refine pm_r (F' := (8, [(0, .ref 1), (1, .int v0)], [.null], ph_3)) e_111_5 (pm_sV em_22 rfl rfl pf_flips_ph_3_2 (pcw_7007 v0 h19)) ?_
  refine pm_r (F' := (9, [(2, .null), (0, .ref 1), (1, .int v0)], [], ph_3)) e_111_8 rfl ?_
  refine pm_r (F' := (10, [(2, .null), (0, .ref 1), (1, .int v0)], [.null], ph_3)) e_111_9 rfl ?_
  refine pm_r (F' := (20, [(2, .null), (0, .ref 1), (1, .int v0)], [], ph_3)) e_111_10 rfl ?_
  refine pm_r (F' := (21, [(2, .null), (0, .ref 1), (1, .int v0)], [.int (-1)], ph_3)) e_111_20 rfl ?_
  exact pm_rE e_111_21 rfl
theorem pcw_7009 (v0 : Int32) (h19 : 0 ≤ v0.toInt) : pC 8 173 [.ref 225, .int v0] ph_3 = some ((some (.int 0)), ph_3) := by
  refine pm_cE em_173 rfl ?_
  refine pm_r (F' := (1, [(0, .ref 225), (1, .int v0)], [.int v0], ph_3)) e_173_0 rfl ?_
  refine pm_r (F' := (4, [(0, .ref 225), (1, .int v0)], [], ph_3)) e_173_1 (pm_sJ rfl (pm_jf (decide_eq_false (show ¬ v0 < (0 : Int32) from fun h => absurd (Int32.lt_iff_toInt_lt.mp h) (by have e1 : (0 : Int32).toInt = 0 := (by decide +kernel); omega))))) ?_
  refine pm_r (F' := (5, [(0, .ref 225), (1, .int v0)], [.int v0], ph_3)) e_173_4 rfl ?_
  refine pm_r (F' := (6, [(0, .ref 225), (1, .int v0)], [.ref 225, .int v0], ph_3)) e_173_5 rfl ?_
  refine pm_r (F' := (9, [(0, .ref 225), (1, .int v0)], [.int 0, .int v0], ph_3)) e_173_6 (pm_sG pf_flips_ph_3_6) ?_
  refine pm_r (F' := (16, [(0, .ref 225), (1, .int v0)], [], ph_3)) e_173_9 (pm_sJ rfl (pm_jt (decide_eq_true (show (0 : Int32) ≤ v0 from Int32.le_iff_toInt_le.mpr (by have e1 : (0 : Int32).toInt = 0 := (by decide +kernel); omega))))) ?_
  refine pm_r (F' := (17, [(0, .ref 225), (1, .int v0)], [.int 0], ph_3)) e_173_16 rfl ?_
  exact pm_rE e_173_17 rfl
theorem pcw_7010 (v0 : Int32) (h19 : 0 ≤ v0.toInt) : pC 9 202 [.ref 225, .int v0] ph_3 = some ((some (.int (-1))), ph_3) := by
  refine pm_cE em_202 rfl ?_
  refine pm_r (F' := (1, [(0, .ref 225), (1, .int v0)], [.ref 225], ph_3)) e_202_0 rfl ?_
  refine pm_r (F' := (2, [(0, .ref 225), (1, .int v0)], [.int v0, .ref 225], ph_3)) e_202_1 rfl ?_
  refine pm_r (F' := (5, [(0, .ref 225), (1, .int v0)], [.int 0], ph_3)) e_202_2 (pm_sV em_173 rfl rfl pf_flips_ph_3_3 (pcw_7009 v0 h19)) ?_
  refine pm_r (F' := (17, [(0, .ref 225), (1, .int v0)], [], ph_3)) e_202_5 rfl ?_
  refine pm_r (F' := (18, [(0, .ref 225), (1, .int v0)], [.int (-1)], ph_3)) e_202_17 rfl ?_
  refine pm_r (F' := (41, [(0, .ref 225), (1, .int v0)], [.int (-1)], ph_3)) e_202_18 rfl ?_
  exact pm_rE e_202_41 rfl
set_option maxRecDepth 100000 in
theorem pq_flips (v0 : Int32) : ∃ r : Int32, pq_ok 111 202 [.int v0] (.int r) := by
  rcases (show v0.toInt < 0 ∨ 0 ≤ v0.toInt by omega) with h19 | h19
  · exact ⟨(-1), ph_3, ph_3, (pcw_7004 v0 h19), (pcw_7006 v0 h19), pf_flips_ph_3_3, Nat.le_of_ble_eq_true pf_flips_ph_3_4, Nat.le_of_ble_eq_true pf_flips_ph_3_5⟩
  · exact ⟨(-1), ph_3, ph_3, (pcw_7008 v0 h19), (pcw_7010 v0 h19), pf_flips_ph_3_3, Nat.le_of_ble_eq_true pf_flips_ph_3_4, Nat.le_of_ble_eq_true pf_flips_ph_3_5⟩

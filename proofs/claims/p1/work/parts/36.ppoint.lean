/-! point on fresh objects, by program -/
theorem em_107 : pm_ms 107 = some (yX10_point, cX10_point, 3, (some .int), 2, 10) := rfl
theorem em_179 : pm_ms 179 = some (yX11_point, cX11_point, 3, (some .int), 2, 11) := rfl
theorem e_107_0 : pm_ins 107 0 = some (.iload_n 1, 1, 0, 0, 0, []) := rfl
theorem e_107_1 : pm_ins 107 1 = some (.ifCond .lt 23, 3, 24, 0, 0, []) := rfl
theorem e_107_4 : pm_ins 107 4 = some (.iload_n 1, 1, 0, 0, 0, []) := rfl
theorem e_107_5 : pm_ins 107 5 = some (.aload_n 0, 1, 0, 0, 0, []) := rfl
theorem e_107_6 : pm_ins 107 6 = some (.getfield 84, 3, 10, 13, 3, [(2, 184)]) := rfl
theorem e_107_9 : pm_ins 107 9 = some (.getfield 129, 3, 8, 0, 0, [(2, 86)]) := rfl
theorem e_107_12 : pm_ins 107 12 = some (.if_icmp .ge 12, 3, 24, 0, 0, []) := rfl
theorem e_107_24 : pm_ins 107 24 = some (.iconst (-1), 1, 0, 0, 0, []) := rfl
theorem e_107_25 : pm_ins 107 25 = some (.ireturn, 1, 0, 0, 0, []) := rfl
theorem e_179_0 : pm_ins 179 0 = some (.iload_n 1, 1, 0, 0, 0, []) := rfl
theorem e_179_1 : pm_ins 179 1 = some (.ifCond .lt 20, 3, 21, 0, 0, []) := rfl
theorem e_179_4 : pm_ins 179 4 = some (.iload_n 1, 1, 0, 0, 0, []) := rfl
theorem e_179_5 : pm_ins 179 5 = some (.aload_n 0, 1, 0, 0, 0, []) := rfl
theorem e_179_6 : pm_ins 179 6 = some (.getfield 237, 3, 11, 26, 0, [(5, 131)]) := rfl
theorem e_179_9 : pm_ins 179 9 = some (.if_icmp .ge 12, 3, 21, 0, 0, []) := rfl
theorem e_179_21 : pm_ins 179 21 = some (.iconst (-1), 1, 0, 0, 0, []) := rfl
theorem e_179_22 : pm_ins 179 22 = some (.goto 13, 3, 35, 0, 0, []) := rfl
theorem e_179_35 : pm_ins 179 35 = some (.ireturn, 1, 0, 0, 0, []) := rfl
set_option maxRecDepth 100000 in
theorem pf_point_ph_3 : (pm_clsOk 11 (pm_cell ph_3 225) = true) ∧ (Nat.ble ph_3.length 600000 = true) ∧ (Nat.ble (pm_sls ph_3) 7302250 = true) ∧ (pm_gf 10 13 (pm_cell ph_3 1) = some (.ref 159)) ∧ (pm_gf 8 0 (pm_cell ph_3 159) = some (.int 0)) ∧ (pm_gf 11 26 (pm_cell ph_3 225) = some (.int 0)) := by decide +kernel
theorem pf_point_ph_3_0 : pm_clsOk 11 (pm_cell ph_3 225) = true := pf_point_ph_3.1
theorem pf_point_ph_3_1 : Nat.ble ph_3.length 600000 = true := pf_point_ph_3.2.1
theorem pf_point_ph_3_2 : Nat.ble (pm_sls ph_3) 7302250 = true := pf_point_ph_3.2.2.1
theorem pf_point_ph_3_3 : pm_gf 10 13 (pm_cell ph_3 1) = some (.ref 159) := pf_point_ph_3.2.2.2.1
theorem pf_point_ph_3_4 : pm_gf 8 0 (pm_cell ph_3 159) = some (.int 0) := pf_point_ph_3.2.2.2.2.1
theorem pf_point_ph_3_5 : pm_gf 11 26 (pm_cell ph_3 225) = some (.int 0) := pf_point_ph_3.2.2.2.2.2
theorem pcw_3001 (v0 : Int32) (h6 : v0.toInt < 0) (v1 : Int32) : pC 9 107 [.ref 1, .int v0, .int v1] ph_3 = some ((some (.int (-1))), ph_3) := by
  refine pm_cE em_107 rfl ?_
  refine pm_r (F' := (1, [(0, .ref 1), (1, .int v0), (2, .int v1)], [.int v0], ph_3)) e_107_0 rfl ?_
  refine pm_r (F' := (24, [(0, .ref 1), (1, .int v0), (2, .int v1)], [], ph_3)) e_107_1 (pm_sJ rfl (pm_jt (decide_eq_true (show v0 < (0 : Int32) from Int32.lt_iff_toInt_lt.mpr (by have e1 : (0 : Int32).toInt = 0 := (by decide +kernel); omega))))) ?_
  refine pm_r (F' := (25, [(0, .ref 1), (1, .int v0), (2, .int v1)], [.int (-1)], ph_3)) e_107_24 rfl ?_
  exact pm_rE e_107_25 rfl
theorem pcw_3002 (v0 : Int32) (h6 : v0.toInt < 0) (v1 : Int32) : pC 9 179 [.ref 225, .int v0, .int v1] ph_3 = some ((some (.int (-1))), ph_3) := by
  refine pm_cE em_179 rfl ?_
  refine pm_r (F' := (1, [(0, .ref 225), (1, .int v0), (2, .int v1)], [.int v0], ph_3)) e_179_0 rfl ?_
  refine pm_r (F' := (21, [(0, .ref 225), (1, .int v0), (2, .int v1)], [], ph_3)) e_179_1 (pm_sJ rfl (pm_jt (decide_eq_true (show v0 < (0 : Int32) from Int32.lt_iff_toInt_lt.mpr (by have e1 : (0 : Int32).toInt = 0 := (by decide +kernel); omega))))) ?_
  refine pm_r (F' := (22, [(0, .ref 225), (1, .int v0), (2, .int v1)], [.int (-1)], ph_3)) e_179_21 rfl ?_
  refine pm_r (F' := (35, [(0, .ref 225), (1, .int v0), (2, .int v1)], [.int (-1)], ph_3)) e_179_22 rfl ?_
  exact pm_rE e_179_35 rfl
theorem pcw_3003 (v0 : Int32) (h6 : 0 ≤ v0.toInt) (v1 : Int32) : pC 9 107 [.ref 1, .int v0, .int v1] ph_3 = some ((some (.int (-1))), ph_3) := by
  refine pm_cE em_107 rfl ?_
  refine pm_r (F' := (1, [(0, .ref 1), (1, .int v0), (2, .int v1)], [.int v0], ph_3)) e_107_0 rfl ?_
  refine pm_r (F' := (4, [(0, .ref 1), (1, .int v0), (2, .int v1)], [], ph_3)) e_107_1 (pm_sJ rfl (pm_jf (decide_eq_false (show ¬ v0 < (0 : Int32) from fun h => absurd (Int32.lt_iff_toInt_lt.mp h) (by have e1 : (0 : Int32).toInt = 0 := (by decide +kernel); omega))))) ?_
  refine pm_r (F' := (5, [(0, .ref 1), (1, .int v0), (2, .int v1)], [.int v0], ph_3)) e_107_4 rfl ?_
  refine pm_r (F' := (6, [(0, .ref 1), (1, .int v0), (2, .int v1)], [.ref 1, .int v0], ph_3)) e_107_5 rfl ?_
  refine pm_r (F' := (9, [(0, .ref 1), (1, .int v0), (2, .int v1)], [.ref 159, .int v0], ph_3)) e_107_6 (pm_sG pf_point_ph_3_3) ?_
  refine pm_r (F' := (12, [(0, .ref 1), (1, .int v0), (2, .int v1)], [.int 0, .int v0], ph_3)) e_107_9 (pm_sG pf_point_ph_3_4) ?_
  refine pm_r (F' := (24, [(0, .ref 1), (1, .int v0), (2, .int v1)], [], ph_3)) e_107_12 (pm_sJ rfl (pm_jt (decide_eq_true (show (0 : Int32) ≤ v0 from Int32.le_iff_toInt_le.mpr (by have e1 : (0 : Int32).toInt = 0 := (by decide +kernel); omega))))) ?_
  refine pm_r (F' := (25, [(0, .ref 1), (1, .int v0), (2, .int v1)], [.int (-1)], ph_3)) e_107_24 rfl ?_
  exact pm_rE e_107_25 rfl
theorem pcw_3004 (v0 : Int32) (h6 : 0 ≤ v0.toInt) (v1 : Int32) : pC 9 179 [.ref 225, .int v0, .int v1] ph_3 = some ((some (.int (-1))), ph_3) := by
  refine pm_cE em_179 rfl ?_
  refine pm_r (F' := (1, [(0, .ref 225), (1, .int v0), (2, .int v1)], [.int v0], ph_3)) e_179_0 rfl ?_
  refine pm_r (F' := (4, [(0, .ref 225), (1, .int v0), (2, .int v1)], [], ph_3)) e_179_1 (pm_sJ rfl (pm_jf (decide_eq_false (show ¬ v0 < (0 : Int32) from fun h => absurd (Int32.lt_iff_toInt_lt.mp h) (by have e1 : (0 : Int32).toInt = 0 := (by decide +kernel); omega))))) ?_
  refine pm_r (F' := (5, [(0, .ref 225), (1, .int v0), (2, .int v1)], [.int v0], ph_3)) e_179_4 rfl ?_
  refine pm_r (F' := (6, [(0, .ref 225), (1, .int v0), (2, .int v1)], [.ref 225, .int v0], ph_3)) e_179_5 rfl ?_
  refine pm_r (F' := (9, [(0, .ref 225), (1, .int v0), (2, .int v1)], [.int 0, .int v0], ph_3)) e_179_6 (pm_sG pf_point_ph_3_5) ?_
  refine pm_r (F' := (21, [(0, .ref 225), (1, .int v0), (2, .int v1)], [], ph_3)) e_179_9 (pm_sJ rfl (pm_jt (decide_eq_true (show (0 : Int32) ≤ v0 from Int32.le_iff_toInt_le.mpr (by have e1 : (0 : Int32).toInt = 0 := (by decide +kernel); omega))))) ?_
  refine pm_r (F' := (22, [(0, .ref 225), (1, .int v0), (2, .int v1)], [.int (-1)], ph_3)) e_179_21 rfl ?_
  refine pm_r (F' := (35, [(0, .ref 225), (1, .int v0), (2, .int v1)], [.int (-1)], ph_3)) e_179_22 rfl ?_
  exact pm_rE e_179_35 rfl
set_option maxRecDepth 100000 in
theorem pq_point (v0 : Int32) (v1 : Int32) : ∃ r : Int32, pq_ok 107 179 [.int v0, .int v1] (.int r) := by
  rcases (show v0.toInt < 0 ∨ 0 ≤ v0.toInt by omega) with h6 | h6
  · exact ⟨(-1), ph_3, ph_3, (pcw_3001 v0 h6 v1), (pcw_3002 v0 h6 v1), pf_point_ph_3_0, Nat.le_of_ble_eq_true pf_point_ph_3_1, Nat.le_of_ble_eq_true pf_point_ph_3_2⟩
  · exact ⟨(-1), ph_3, ph_3, (pcw_3003 v0 h6 v1), (pcw_3004 v0 h6 v1), pf_point_ph_3_0, Nat.le_of_ble_eq_true pf_point_ph_3_1, Nat.le_of_ble_eq_true pf_point_ph_3_2⟩

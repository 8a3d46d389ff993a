/-! fault on fresh objects, by program -/
theorem em_106 : pm_ms 106 = some (yX10_fault, cX10_fault, 2, (some .int), 1, 10) := rfl
theorem em_172 : pm_ms 172 = some (yX11_fault, cX11_fault, 2, (some .int), 1, 11) := rfl
theorem e_106_0 : pm_ins 106 0 = some (.iload_n 1, 1, 0, 0, 0, []) := rfl
theorem e_106_1 : pm_ins 106 1 = some (.ifCond .ne 8, 3, 9, 0, 0, []) := rfl
theorem e_106_9 : pm_ins 106 9 = some (.iload_n 1, 1, 0, 0, 0, []) := rfl
theorem e_106_10 : pm_ins 106 10 = some (.iconst 1, 1, 0, 0, 0, []) := rfl
theorem e_106_11 : pm_ins 106 11 = some (.if_icmp .ne 10, 3, 21, 0, 0, []) := rfl
theorem e_106_21 : pm_ins 106 21 = some (.iconst (-1), 1, 0, 0, 0, []) := rfl
theorem e_106_22 : pm_ins 106 22 = some (.ireturn, 1, 0, 0, 0, []) := rfl
theorem e_172_0 : pm_ins 172 0 = some (.iload_n 1, 1, 0, 0, 0, []) := rfl
theorem e_172_1 : pm_ins 172 1 = some (.ifCond .ne 10, 3, 11, 0, 0, []) := rfl
theorem e_172_11 : pm_ins 172 11 = some (.iload_n 1, 1, 0, 0, 0, []) := rfl
theorem e_172_12 : pm_ins 172 12 = some (.iconst 1, 1, 0, 0, 0, []) := rfl
theorem e_172_13 : pm_ins 172 13 = some (.if_icmp .ne 10, 3, 23, 0, 0, []) := rfl
theorem e_172_23 : pm_ins 172 23 = some (.iconst (-1), 1, 0, 0, 0, []) := rfl
theorem e_172_24 : pm_ins 172 24 = some (.ireturn, 1, 0, 0, 0, []) := rfl
set_option maxRecDepth 100000 in
theorem pf_fault_ph_3 : (pm_clsOk 11 (pm_cell ph_3 225) = true) ∧ (Nat.ble ph_3.length 600000 = true) ∧ (Nat.ble (pm_sls ph_3) 7302250 = true) := by decide +kernel
theorem pf_fault_ph_3_0 : pm_clsOk 11 (pm_cell ph_3 225) = true := pf_fault_ph_3.1
theorem pf_fault_ph_3_1 : Nat.ble ph_3.length 600000 = true := pf_fault_ph_3.2.1
theorem pf_fault_ph_3_2 : Nat.ble (pm_sls ph_3) 7302250 = true := pf_fault_ph_3.2.2
theorem pcw_2001 (v0 : Int32) (h3 : v0.toInt < 0) : pC 9 106 [.ref 1, .int v0] ph_3 = some ((some (.int (-1))), ph_3) := by
  refine pm_cE em_106 rfl ?_
  refine pm_r (F' := (1, [(0, .ref 1), (1, .int v0)], [.int v0], ph_3)) e_106_0 rfl ?_
  refine pm_r (F' := (9, [(0, .ref 1), (1, .int v0)], [], ph_3)) e_106_1 (pm_sJ rfl (pm_jt (decide_eq_true (show ¬ v0 = (0 : Int32) from fun h => absurd (congrArg Int32.toInt h) (by have e1 : (0 : Int32).toInt = 0 := (by decide +kernel); omega))))) ?_
  refine pm_r (F' := (10, [(0, .ref 1), (1, .int v0)], [.int v0], ph_3)) e_106_9 rfl ?_
  refine pm_r (F' := (11, [(0, .ref 1), (1, .int v0)], [.int 1, .int v0], ph_3)) e_106_10 rfl ?_
  refine pm_r (F' := (21, [(0, .ref 1), (1, .int v0)], [], ph_3)) e_106_11 (pm_sJ rfl (pm_jt (decide_eq_true (show ¬ v0 = (1 : Int32) from fun h => absurd (congrArg Int32.toInt h) (by have e1 : (1 : Int32).toInt = 1 := (by decide +kernel); omega))))) ?_
  refine pm_r (F' := (22, [(0, .ref 1), (1, .int v0)], [.int (-1)], ph_3)) e_106_21 rfl ?_
  exact pm_rE e_106_22 rfl
theorem pcw_2002 (v0 : Int32) (h3 : v0.toInt < 0) : pC 9 172 [.ref 225, .int v0] ph_3 = some ((some (.int (-1))), ph_3) := by
  refine pm_cE em_172 rfl ?_
  refine pm_r (F' := (1, [(0, .ref 225), (1, .int v0)], [.int v0], ph_3)) e_172_0 rfl ?_
  refine pm_r (F' := (11, [(0, .ref 225), (1, .int v0)], [], ph_3)) e_172_1 (pm_sJ rfl (pm_jt (decide_eq_true (show ¬ v0 = (0 : Int32) from fun h => absurd (congrArg Int32.toInt h) (by have e1 : (0 : Int32).toInt = 0 := (by decide +kernel); omega))))) ?_
  refine pm_r (F' := (12, [(0, .ref 225), (1, .int v0)], [.int v0], ph_3)) e_172_11 rfl ?_
  refine pm_r (F' := (13, [(0, .ref 225), (1, .int v0)], [.int 1, .int v0], ph_3)) e_172_12 rfl ?_
  refine pm_r (F' := (23, [(0, .ref 225), (1, .int v0)], [], ph_3)) e_172_13 (pm_sJ rfl (pm_jt (decide_eq_true (show ¬ v0 = (1 : Int32) from fun h => absurd (congrArg Int32.toInt h) (by have e1 : (1 : Int32).toInt = 1 := (by decide +kernel); omega))))) ?_
  refine pm_r (F' := (24, [(0, .ref 225), (1, .int v0)], [.int (-1)], ph_3)) e_172_23 rfl ?_
  exact pm_rE e_172_24 rfl
theorem pcw_2003 (v0 : Int32) (h3 : 0 ≤ v0.toInt) (h4 : 1 ≤ v0.toInt) (h5 : 2 ≤ v0.toInt) : pC 9 106 [.ref 1, .int v0] ph_3 = some ((some (.int (-1))), ph_3) := by
  refine pm_cE em_106 rfl ?_
  refine pm_r (F' := (1, [(0, .ref 1), (1, .int v0)], [.int v0], ph_3)) e_106_0 rfl ?_
  refine pm_r (F' := (9, [(0, .ref 1), (1, .int v0)], [], ph_3)) e_106_1 (pm_sJ rfl (pm_jt (decide_eq_true (show ¬ v0 = (0 : Int32) from fun h => absurd (congrArg Int32.toInt h) (by have e1 : (0 : Int32).toInt = 0 := (by decide +kernel); omega))))) ?_
  refine pm_r (F' := (10, [(0, .ref 1), (1, .int v0)], [.int v0], ph_3)) e_106_9 rfl ?_
  refine pm_r (F' := (11, [(0, .ref 1), (1, .int v0)], [.int 1, .int v0], ph_3)) e_106_10 rfl ?_
  refine pm_r (F' := (21, [(0, .ref 1), (1, .int v0)], [], ph_3)) e_106_11 (pm_sJ rfl (pm_jt (decide_eq_true (show ¬ v0 = (1 : Int32) from fun h => absurd (congrArg Int32.toInt h) (by have e1 : (1 : Int32).toInt = 1 := (by decide +kernel); omega))))) ?_
  refine pm_r (F' := (22, [(0, .ref 1), (1, .int v0)], [.int (-1)], ph_3)) e_106_21 rfl ?_
  exact pm_rE e_106_22 rfl
theorem pcw_2004 (v0 : Int32) (h3 : 0 ≤ v0.toInt) (h4 : 1 ≤ v0.toInt) (h5 : 2 ≤ v0.toInt) : pC 9 172 [.ref 225, .int v0] ph_3 = some ((some (.int (-1))), ph_3) := by
  refine pm_cE em_172 rfl ?_
  refine pm_r (F' := (1, [(0, .ref 225), (1, .int v0)], [.int v0], ph_3)) e_172_0 rfl ?_
  refine pm_r (F' := (11, [(0, .ref 225), (1, .int v0)], [], ph_3)) e_172_1 (pm_sJ rfl (pm_jt (decide_eq_true (show ¬ v0 = (0 : Int32) from fun h => absurd (congrArg Int32.toInt h) (by have e1 : (0 : Int32).toInt = 0 := (by decide +kernel); omega))))) ?_
  refine pm_r (F' := (12, [(0, .ref 225), (1, .int v0)], [.int v0], ph_3)) e_172_11 rfl ?_
  refine pm_r (F' := (13, [(0, .ref 225), (1, .int v0)], [.int 1, .int v0], ph_3)) e_172_12 rfl ?_
  refine pm_r (F' := (23, [(0, .ref 225), (1, .int v0)], [], ph_3)) e_172_13 (pm_sJ rfl (pm_jt (decide_eq_true (show ¬ v0 = (1 : Int32) from fun h => absurd (congrArg Int32.toInt h) (by have e1 : (1 : Int32).toInt = 1 := (by decide +kernel); omega))))) ?_
  refine pm_r (F' := (24, [(0, .ref 225), (1, .int v0)], [.int (-1)], ph_3)) e_172_23 rfl ?_
  exact pm_rE e_172_24 rfl
set_option maxRecDepth 100000 in
theorem pq_fault (v0 : Int32) : ∃ r : Int32, pq_ok 106 172 [.int v0] (.int r) := by
  rcases (show v0.toInt < 0 ∨ 0 ≤ v0.toInt by omega) with h3 | h3
  · exact ⟨(-1), ph_3, ph_3, (pcw_2001 v0 h3), (pcw_2002 v0 h3), pf_fault_ph_3_0, Nat.le_of_ble_eq_true pf_fault_ph_3_1, Nat.le_of_ble_eq_true pf_fault_ph_3_2⟩
  · rcases (show v0.toInt < 1 ∨ 1 ≤ v0.toInt by omega) with h4 | h4
    · obtain rfl : v0 = 0 := Int32.toInt_inj.mp (by have e : (0 : Int32).toInt = 0 := (by decide +kernel); omega)
      exact ⟨0, pq_of (by decide +kernel)⟩
    · rcases (show v0.toInt < 2 ∨ 2 ≤ v0.toInt by omega) with h5 | h5
      · obtain rfl : v0 = 1 := Int32.toInt_inj.mp (by have e : (1 : Int32).toInt = 1 := (by decide +kernel); omega)
        exact ⟨(-1), pq_of (by decide +kernel)⟩
      · exact ⟨(-1), ph_3, ph_3, (pcw_2003 v0 h3 h4 h5), (pcw_2004 v0 h3 h4 h5), pf_fault_ph_3_0, Nat.le_of_ble_eq_true pf_fault_ph_3_1, Nat.le_of_ble_eq_true pf_fault_ph_3_2⟩

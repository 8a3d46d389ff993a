/-! end on fresh objects, by program -/
theorem em_104 : pm_ms 104 = some (yX10_end, cX10_end, 2, (some .int), 1, 10) := rfl
theorem em_148 : pm_ms 148 = some (yX11_end, cX11_end, 2, (some .int), 1, 11) := rfl
theorem e_104_0 : pm_ins 104 0 = some (.iload_n 1, 1, 0, 0, 0, []) := rfl
theorem e_104_1 : pm_ins 104 1 = some (.ifCond .lt 11, 3, 12, 0, 0, []) := rfl
theorem e_104_4 : pm_ins 104 4 = some (.iload_n 1, 1, 0, 0, 0, []) := rfl
theorem e_104_5 : pm_ins 104 5 = some (.aload_n 0, 1, 0, 0, 0, []) := rfl
theorem e_104_6 : pm_ins 104 6 = some (.getfield 95, 3, 10, 15, 0, [(2, 186)]) := rfl
theorem e_104_9 : pm_ins 104 9 = some (.if_icmp .le 5, 3, 14, 0, 0, []) := rfl
theorem e_104_12 : pm_ins 104 12 = some (.iconst (-1), 1, 0, 0, 0, []) := rfl
theorem e_104_13 : pm_ins 104 13 = some (.ireturn, 1, 0, 0, 0, []) := rfl
theorem e_148_0 : pm_ins 148 0 = some (.iload_n 1, 1, 0, 0, 0, []) := rfl
theorem e_148_1 : pm_ins 148 1 = some (.ifCond .lt 11, 3, 12, 0, 0, []) := rfl
theorem e_148_4 : pm_ins 148 4 = some (.iload_n 1, 1, 0, 0, 0, []) := rfl
theorem e_148_5 : pm_ins 148 5 = some (.aload_n 0, 1, 0, 0, 0, []) := rfl
theorem e_148_6 : pm_ins 148 6 = some (.getfield 170, 3, 11, 1, 0, [(5, 106)]) := rfl
theorem e_148_9 : pm_ins 148 9 = some (.if_icmp .le 5, 3, 14, 0, 0, []) := rfl
theorem e_148_12 : pm_ins 148 12 = some (.iconst (-1), 1, 0, 0, 0, []) := rfl
theorem e_148_13 : pm_ins 148 13 = some (.ireturn, 1, 0, 0, 0, []) := rfl
set_option maxRecDepth 100000 in
theorem pf_end_ph_3 : (pm_clsOk 11 (pm_cell ph_3 225) = true) ∧ (Nat.ble ph_3.length 600000 = true) ∧ (Nat.ble (pm_sls ph_3) 7302250 = true) ∧ (pm_gf 10 15 (pm_cell ph_3 1) = some (.int 0)) ∧ (pm_gf 11 1 (pm_cell ph_3 225) = some (.int 0)) := by decide +kernel
theorem pf_end_ph_3_0 : pm_clsOk 11 (pm_cell ph_3 225) = true := pf_end_ph_3.1
theorem pf_end_ph_3_1 : Nat.ble ph_3.length 600000 = true := pf_end_ph_3.2.1
theorem pf_end_ph_3_2 : Nat.ble (pm_sls ph_3) 7302250 = true := pf_end_ph_3.2.2.1
theorem pf_end_ph_3_3 : pm_gf 10 15 (pm_cell ph_3 1) = some (.int 0) := pf_end_ph_3.2.2.2.1
theorem pf_end_ph_3_4 : pm_gf 11 1 (pm_cell ph_3 225) = some (.int 0) := pf_end_ph_3.2.2.2.2
theorem pcw_1001 (v0 : Int32) (h1 : v0.toInt < 0) : pC 9 104 [.ref 1, .int v0] ph_3 = some ((some (.int (-1))), ph_3) := by
  refine pm_cE em_104 rfl ?_
  refine pm_r (F' := (1, [(0, .ref 1), (1, .int v0)], [.int v0], ph_3)) e_104_0 rfl ?_
  refine pm_r (F' := (12, [(0, .ref 1), (1, .int v0)], [], ph_3)) e_104_1 (pm_sJ rfl (pm_jt (decide_eq_true (show v0 < (0 : Int32) from Int32.lt_iff_toInt_lt.mpr (by have e1 : (0 : Int32).toInt = 0 := (by decide +kernel); omega))))) ?_
  refine pm_r (F' := (13, [(0, .ref 1), (1, .int v0)], [.int (-1)], ph_3)) e_104_12 rfl ?_
  exact pm_rE e_104_13 rfl
theorem pcw_1002 (v0 : Int32) (h1 : v0.toInt < 0) : pC 9 148 [.ref 225, .int v0] ph_3 = some ((some (.int (-1))), ph_3) := by
  refine pm_cE em_148 rfl ?_
  refine pm_r (F' := (1, [(0, .ref 225), (1, .int v0)], [.int v0], ph_3)) e_148_0 rfl ?_
  refine pm_r (F' := (12, [(0, .ref 225), (1, .int v0)], [], ph_3)) e_148_1 (pm_sJ rfl (pm_jt (decide_eq_true (show v0 < (0 : Int32) from Int32.lt_iff_toInt_lt.mpr (by have e1 : (0 : Int32).toInt = 0 := (by decide +kernel); omega))))) ?_
  refine pm_r (F' := (13, [(0, .ref 225), (1, .int v0)], [.int (-1)], ph_3)) e_148_12 rfl ?_
  exact pm_rE e_148_13 rfl
theorem pcw_1003 (v0 : Int32) (h1 : 0 ≤ v0.toInt) (h2 : 1 ≤ v0.toInt) : pC 9 104 [.ref 1, .int v0] ph_3 = some ((some (.int (-1))), ph_3) := by
  refine pm_cE em_104 rfl ?_
  refine pm_r (F' := (1, [(0, .ref 1), (1, .int v0)], [.int v0], ph_3)) e_104_0 rfl ?_
  refine pm_r (F' := (4, [(0, .ref 1), (1, .int v0)], [], ph_3)) e_104_1 (pm_sJ rfl (pm_jf (decide_eq_false (show ¬ v0 < (0 : Int32) from fun h => absurd (Int32.lt_iff_toInt_lt.mp h) (by have e1 : (0 : Int32).toInt = 0 := (by decide +kernel); omega))))) ?_
  refine pm_r (F' := (5, [(0, .ref 1), (1, .int v0)], [.int v0], ph_3)) e_104_4 rfl ?_
  refine pm_r (F' := (6, [(0, .ref 1), (1, .int v0)], [.ref 1, .int v0], ph_3)) e_104_5 rfl ?_
  refine pm_r (F' := (9, [(0, .ref 1), (1, .int v0)], [.int 0, .int v0], ph_3)) e_104_6 (pm_sG pf_end_ph_3_3) ?_
  refine pm_r (F' := (12, [(0, .ref 1), (1, .int v0)], [], ph_3)) e_104_9 (pm_sJ rfl (pm_jf (decide_eq_false (show ¬ v0 ≤ (0 : Int32) from fun h => absurd (Int32.le_iff_toInt_le.mp h) (by have e1 : (0 : Int32).toInt = 0 := (by decide +kernel); omega))))) ?_
  refine pm_r (F' := (13, [(0, .ref 1), (1, .int v0)], [.int (-1)], ph_3)) e_104_12 rfl ?_
  exact pm_rE e_104_13 rfl
theorem pcw_1004 (v0 : Int32) (h1 : 0 ≤ v0.toInt) (h2 : 1 ≤ v0.toInt) : pC 9 148 [.ref 225, .int v0] ph_3 = some ((some (.int (-1))), ph_3) := by
  refine pm_cE em_148 rfl ?_
  refine pm_r (F' := (1, [(0, .ref 225), (1, .int v0)], [.int v0], ph_3)) e_148_0 rfl ?_
  refine pm_r (F' := (4, [(0, .ref 225), (1, .int v0)], [], ph_3)) e_148_1 (pm_sJ rfl (pm_jf (decide_eq_false (show ¬ v0 < (0 : Int32) from fun h => absurd (Int32.lt_iff_toInt_lt.mp h) (by have e1 : (0 : Int32).toInt = 0 := (by decide +kernel); omega))))) ?_
  refine pm_r (F' := (5, [(0, .ref 225), (1, .int v0)], [.int v0], ph_3)) e_148_4 rfl ?_
  refine pm_r (F' := (6, [(0, .ref 225), (1, .int v0)], [.ref 225, .int v0], ph_3)) e_148_5 rfl ?_
  refine pm_r (F' := (9, [(0, .ref 225), (1, .int v0)], [.int 0, .int v0], ph_3)) e_148_6 (pm_sG pf_end_ph_3_4) ?_
  refine pm_r (F' := (12, [(0, .ref 225), (1, .int v0)], [], ph_3)) e_148_9 (pm_sJ rfl (pm_jf (decide_eq_false (show ¬ v0 ≤ (0 : Int32) from fun h => absurd (Int32.le_iff_toInt_le.mp h) (by have e1 : (0 : Int32).toInt = 0 := (by decide +kernel); omega))))) ?_
  refine pm_r (F' := (13, [(0, .ref 225), (1, .int v0)], [.int (-1)], ph_3)) e_148_12 rfl ?_
  exact pm_rE e_148_13 rfl
set_option maxRecDepth 100000 in
theorem pq_end (v0 : Int32) : ∃ r : Int32, pq_ok 104 148 [.int v0] (.int r) := by
  rcases (show v0.toInt < 0 ∨ 0 ≤ v0.toInt by omega) with h1 | h1
  · exact ⟨(-1), ph_3, ph_3, (pcw_1001 v0 h1), (pcw_1002 v0 h1), pf_end_ph_3_0, Nat.le_of_ble_eq_true pf_end_ph_3_1, Nat.le_of_ble_eq_true pf_end_ph_3_2⟩
  · rcases (show v0.toInt < 1 ∨ 1 ≤ v0.toInt by omega) with h2 | h2
    · obtain rfl : v0 = 0 := Int32.toInt_inj.mp (by have e : (0 : Int32).toInt = 0 := (by decide +kernel); omega)
      exact ⟨0, pq_of (by decide +kernel)⟩
    · exact ⟨(-1), ph_3, ph_3, (pcw_1003 v0 h1 h2), (pcw_1004 v0 h1 h2), pf_end_ph_3_0, Nat.le_of_ble_eq_true pf_end_ph_3_1, Nat.le_of_ble_eq_true pf_end_ph_3_2⟩

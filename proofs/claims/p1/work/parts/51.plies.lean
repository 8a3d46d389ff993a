/-! lies on fresh objects, by program -/
theorem em_122 : pm_ms 122 = some (yX10_lies, cX10_lies, 2, (some .int), 1, 10) := rfl
theorem em_238 : pm_ms 238 = some (yX11_lies, cX11_lies, 2, (some .int), 1, 11) := rfl
theorem e_122_0 : pm_ins 122 0 = some (.aload_n 0, 1, 0, 0, 0, []) := rfl
theorem e_122_1 : pm_ins 122 1 = some (.getfield 122, 3, 10, 18, 2, [(2, 189)]) := rfl
theorem e_122_4 : pm_ins 122 4 = some (.ifCond .eq 21, 3, 25, 0, 0, []) := rfl
theorem e_122_25 : pm_ins 122 25 = some (.iconst (-1), 1, 0, 0, 0, []) := rfl
theorem e_122_26 : pm_ins 122 26 = some (.ireturn, 1, 0, 0, 0, []) := rfl
theorem e_238_0 : pm_ins 238 0 = some (.aload_n 0, 1, 0, 0, 0, []) := rfl
theorem e_238_1 : pm_ins 238 1 = some (.getfield 311, 3, 11, 70, 2, [(5, 175)]) := rfl
theorem e_238_4 : pm_ins 238 4 = some (.ifCond .eq 20, 3, 24, 0, 0, []) := rfl
theorem e_238_24 : pm_ins 238 24 = some (.iconst (-1), 1, 0, 0, 0, []) := rfl
theorem e_238_25 : pm_ins 238 25 = some (.ireturn, 1, 0, 0, 0, []) := rfl
set_option maxRecDepth 100000 in
theorem pf_lies_ph_3 : (pm_gf 10 18 (pm_cell ph_3 1) = some (.int 0)) ∧ (pm_gf 11 70 (pm_cell ph_3 225) = some (.int 0)) ∧ (pm_clsOk 11 (pm_cell ph_3 225) = true) ∧ (Nat.ble ph_3.length 600000 = true) ∧ (Nat.ble (pm_sls ph_3) 7302250 = true) := by decide +kernel
theorem pf_lies_ph_3_0 : pm_gf 10 18 (pm_cell ph_3 1) = some (.int 0) := pf_lies_ph_3.1
theorem pf_lies_ph_3_1 : pm_gf 11 70 (pm_cell ph_3 225) = some (.int 0) := pf_lies_ph_3.2.1
theorem pf_lies_ph_3_2 : pm_clsOk 11 (pm_cell ph_3 225) = true := pf_lies_ph_3.2.2.1
theorem pf_lies_ph_3_3 : Nat.ble ph_3.length 600000 = true := pf_lies_ph_3.2.2.2.1
theorem pf_lies_ph_3_4 : Nat.ble (pm_sls ph_3) 7302250 = true := pf_lies_ph_3.2.2.2.2
theorem pcw_18001 (v0 : Int32) : pC 9 122 [.ref 1, .int v0] ph_3 = some ((some (.int (-1))), ph_3) := by
  refine pm_cE em_122 rfl ?_
  refine pm_r (F' := (1, [(0, .ref 1), (1, .int v0)], [.ref 1], ph_3)) e_122_0 rfl ?_
  refine pm_r (F' := (4, [(0, .ref 1), (1, .int v0)], [.int 0], ph_3)) e_122_1 (pm_sG pf_lies_ph_3_0) ?_
  refine pm_r (F' := (25, [(0, .ref 1), (1, .int v0)], [], ph_3)) e_122_4 rfl ?_
  refine pm_r (F' := (26, [(0, .ref 1), (1, .int v0)], [.int (-1)], ph_3)) e_122_25 rfl ?_
  exact pm_rE e_122_26 rfl
theorem pcw_18002 (v0 : Int32) : pC 9 238 [.ref 225, .int v0] ph_3 = some ((some (.int (-1))), ph_3) := by
  refine pm_cE em_238 rfl ?_
  refine pm_r (F' := (1, [(0, .ref 225), (1, .int v0)], [.ref 225], ph_3)) e_238_0 rfl ?_
  refine pm_r (F' := (4, [(0, .ref 225), (1, .int v0)], [.int 0], ph_3)) e_238_1 (pm_sG pf_lies_ph_3_1) ?_
  refine pm_r (F' := (24, [(0, .ref 225), (1, .int v0)], [], ph_3)) e_238_4 rfl ?_
  refine pm_r (F' := (25, [(0, .ref 225), (1, .int v0)], [.int (-1)], ph_3)) e_238_24 rfl ?_
  exact pm_rE e_238_25 rfl
set_option maxRecDepth 100000 in
theorem pq_lies (v0 : Int32) : ∃ r : Int32, pq_ok 122 238 [.int v0] (.int r) := by
  exact ⟨(-1), ph_3, ph_3, (pcw_18001 v0), (pcw_18002 v0), pf_lies_ph_3_2, Nat.le_of_ble_eq_true pf_lies_ph_3_3, Nat.le_of_ble_eq_true pf_lies_ph_3_4⟩

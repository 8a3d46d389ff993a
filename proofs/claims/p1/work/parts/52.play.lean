/-! lay on fresh objects, by program -/
theorem em_123 : pm_ms 123 = some (yX10_lay, cX10_lay, 2, (some .long), 1, 10) := rfl
theorem em_242 : pm_ms 242 = some (yX11_lay, cX11_lay, 2, (some .long), 1, 11) := rfl
theorem e_123_0 : pm_ins 123 0 = some (.aload_n 0, 1, 0, 0, 0, []) := rfl
theorem e_123_1 : pm_ins 123 1 = some (.iload_n 1, 1, 0, 0, 0, []) := rfl
theorem e_123_2 : pm_ins 123 2 = some (.invokevirtual 256, 3, 134, 0, 0, [(4, 9), (4, 11), (0, 33)]) := rfl
theorem e_123_5 : pm_ins 123 5 = some (.ifCond .ne 7, 3, 12, 0, 0, []) := rfl
theorem e_123_8 : pm_ins 123 8 = some (.ldc2_w 185, 3, 0, 0, (-1), [(4, 62)]) := rfl
theorem e_123_11 : pm_ins 123 11 = some (.lreturn, 1, 0, 0, 0, []) := rfl
theorem e_242_0 : pm_ins 242 0 = some (.aload_n 0, 1, 0, 0, 0, []) := rfl
theorem e_242_1 : pm_ins 242 1 = some (.iload_n 1, 1, 0, 0, 0, []) := rfl
theorem e_242_2 : pm_ins 242 2 = some (.invokevirtual 372, 3, 173, 0, 0, [(7, 64), (7, 66), (0, 92)]) := rfl
theorem e_242_5 : pm_ins 242 5 = some (.ifCond .ne 7, 3, 12, 0, 0, []) := rfl
theorem e_242_8 : pm_ins 242 8 = some (.ldc2_w 447, 3, 0, 0, (-1), [(7, 97)]) := rfl
theorem e_242_11 : pm_ins 242 11 = some (.lreturn, 1, 0, 0, 0, []) := rfl
set_option maxRecDepth 100000 in
theorem pf_lay_ph_3 : (pm_clsOk 10 (pm_cell ph_3 1) = true) ∧ (pm_clsOk 11 (pm_cell ph_3 225) = true) ∧ (Nat.ble ph_3.length 600000 = true) ∧ (Nat.ble (pm_sls ph_3) 7302250 = true) ∧ (pm_gf 10 13 (pm_cell ph_3 1) = some (.ref 159)) ∧ (pm_gf 8 3 (pm_cell ph_3 159) = some (.int 0)) ∧ (pm_gf 11 27 (pm_cell ph_3 225) = some (.int 0)) := by decide +kernel
theorem pf_lay_ph_3_0 : pm_clsOk 10 (pm_cell ph_3 1) = true := pf_lay_ph_3.1
theorem pf_lay_ph_3_1 : pm_clsOk 11 (pm_cell ph_3 225) = true := pf_lay_ph_3.2.1
theorem pf_lay_ph_3_2 : Nat.ble ph_3.length 600000 = true := pf_lay_ph_3.2.2.1
theorem pf_lay_ph_3_3 : Nat.ble (pm_sls ph_3) 7302250 = true := pf_lay_ph_3.2.2.2.1
theorem pf_lay_ph_3_4 : pm_gf 10 13 (pm_cell ph_3 1) = some (.ref 159) := pf_lay_ph_3.2.2.2.2.1
theorem pf_lay_ph_3_5 : pm_gf 8 3 (pm_cell ph_3 159) = some (.int 0) := pf_lay_ph_3.2.2.2.2.2.1
theorem pf_lay_ph_3_6 : pm_gf 11 27 (pm_cell ph_3 225) = some (.int 0) := pf_lay_ph_3.2.2.2.2.2.2
theorem pcw_19001 (v0 : Int32) (h32 : v0.toInt < 0) : pC 8 134 [.ref 1, .int v0] ph_3 = some ((some (.int 0)), ph_3) := by
  refine pm_cE em_134 rfl ?_
  refine pm_r (F' := (1, [(0, .ref 1), (1, .int v0)], [.int v0], ph_3)) e_134_0 rfl ?_
  refine pm_r (F' := (19, [(0, .ref 1), (1, .int v0)], [], ph_3)) e_134_1 (pm_sJ rfl (pm_jt (decide_eq_true (show v0 < (0 : Int32) from Int32.lt_iff_toInt_lt.mpr (by have e1 : (0 : Int32).toInt = 0 := (by decide +kernel); omega))))) ?_
  refine pm_r (F' := (20, [(0, .ref 1), (1, .int v0)], [.int 0], ph_3)) e_134_19 rfl ?_
  exact pm_rE e_134_20 rfl
theorem pcw_19002 (v0 : Int32) (h32 : v0.toInt < 0) : pC 9 123 [.ref 1, .int v0] ph_3 = some ((some (.long (-1))), ph_3) := by
  refine pm_cE em_123 rfl ?_
  refine pm_r (F' := (1, [(0, .ref 1), (1, .int v0)], [.ref 1], ph_3)) e_123_0 rfl ?_
  refine pm_r (F' := (2, [(0, .ref 1), (1, .int v0)], [.int v0, .ref 1], ph_3)) e_123_1 rfl ?_
  refine pm_r (F' := (5, [(0, .ref 1), (1, .int v0)], [.int 0], ph_3)) e_123_2 (pm_sV em_134 rfl rfl pf_lay_ph_3_0 (pcw_19001 v0 h32)) ?_
  refine pm_r (F' := (8, [(0, .ref 1), (1, .int v0)], [], ph_3)) e_123_5 rfl ?_
  refine pm_r (F' := (11, [(0, .ref 1), (1, .int v0)], [.long (-1)], ph_3)) e_123_8 rfl ?_
  exact pm_rE e_123_11 rfl
theorem pcw_19003 (v0 : Int32) (h32 : v0.toInt < 0) : pC 8 173 [.ref 225, .int v0] ph_3 = some ((some (.int 0)), ph_3) := by
  refine pm_cE em_173 rfl ?_
  refine pm_r (F' := (1, [(0, .ref 225), (1, .int v0)], [.int v0], ph_3)) e_173_0 rfl ?_
  refine pm_r (F' := (16, [(0, .ref 225), (1, .int v0)], [], ph_3)) e_173_1 (pm_sJ rfl (pm_jt (decide_eq_true (show v0 < (0 : Int32) from Int32.lt_iff_toInt_lt.mpr (by have e1 : (0 : Int32).toInt = 0 := (by decide +kernel); omega))))) ?_
  refine pm_r (F' := (17, [(0, .ref 225), (1, .int v0)], [.int 0], ph_3)) e_173_16 rfl ?_
  exact pm_rE e_173_17 rfl
theorem pcw_19004 (v0 : Int32) (h32 : v0.toInt < 0) : pC 9 242 [.ref 225, .int v0] ph_3 = some ((some (.long (-1))), ph_3) := by
  refine pm_cE em_242 rfl ?_
  refine pm_r (F' := (1, [(0, .ref 225), (1, .int v0)], [.ref 225], ph_3)) e_242_0 rfl ?_
  refine pm_r (F' := (2, [(0, .ref 225), (1, .int v0)], [.int v0, .ref 225], ph_3)) e_242_1 rfl ?_
  refine pm_r (F' := (5, [(0, .ref 225), (1, .int v0)], [.int 0], ph_3)) e_242_2 (pm_sV em_173 rfl rfl pf_lay_ph_3_1 (pcw_19003 v0 h32)) ?_
  refine pm_r (F' := (8, [(0, .ref 225), (1, .int v0)], [], ph_3)) e_242_5 rfl ?_
  refine pm_r (F' := (11, [(0, .ref 225), (1, .int v0)], [.long (-1)], ph_3)) e_242_8 rfl ?_
  exact pm_rE e_242_11 rfl
theorem pcw_19005 (v0 : Int32) (h32 : 0 ≤ v0.toInt) : pC 8 134 [.ref 1, .int v0] ph_3 = some ((some (.int 0)), ph_3) := by
  refine pm_cE em_134 rfl ?_
  refine pm_r (F' := (1, [(0, .ref 1), (1, .int v0)], [.int v0], ph_3)) e_134_0 rfl ?_
  refine pm_r (F' := (4, [(0, .ref 1), (1, .int v0)], [], ph_3)) e_134_1 (pm_sJ rfl (pm_jf (decide_eq_false (show ¬ v0 < (0 : Int32) from fun h => absurd (Int32.lt_iff_toInt_lt.mp h) (by have e1 : (0 : Int32).toInt = 0 := (by decide +kernel); omega))))) ?_
  refine pm_r (F' := (5, [(0, .ref 1), (1, .int v0)], [.int v0], ph_3)) e_134_4 rfl ?_
  refine pm_r (F' := (6, [(0, .ref 1), (1, .int v0)], [.ref 1, .int v0], ph_3)) e_134_5 rfl ?_
  refine pm_r (F' := (9, [(0, .ref 1), (1, .int v0)], [.ref 159, .int v0], ph_3)) e_134_6 (pm_sG pf_lay_ph_3_4) ?_
  refine pm_r (F' := (12, [(0, .ref 1), (1, .int v0)], [.int 0, .int v0], ph_3)) e_134_9 (pm_sG pf_lay_ph_3_5) ?_
  refine pm_r (F' := (19, [(0, .ref 1), (1, .int v0)], [], ph_3)) e_134_12 (pm_sJ rfl (pm_jt (decide_eq_true (show (0 : Int32) ≤ v0 from Int32.le_iff_toInt_le.mpr (by have e1 : (0 : Int32).toInt = 0 := (by decide +kernel); omega))))) ?_
  refine pm_r (F' := (20, [(0, .ref 1), (1, .int v0)], [.int 0], ph_3)) e_134_19 rfl ?_
  exact pm_rE e_134_20 rfl
theorem pcw_19006 (v0 : Int32) (h32 : 0 ≤ v0.toInt) : pC 9 123 [.ref 1, .int v0] ph_3 = some ((some (.long (-1))), ph_3) := by
  refine pm_cE em_123 rfl ?_
  refine pm_r (F' := (1, [(0, .ref 1), (1, .int v0)], [.ref 1], ph_3)) e_123_0 rfl ?_
  refine pm_r (F' := (2, [(0, .ref 1), (1, .int v0)], [.int v0, .ref 1], ph_3)) e_123_1 rfl ?_
  refine pm_r (F' := (5, [(0, .ref 1), (1, .int v0)], [.int 0], ph_3)) e_123_2 (pm_sV em_134 rfl rfl pf_lay_ph_3_0 (pcw_19005 v0 h32)) ?_
  refine pm_r (F' := (8, [(0, .ref 1), (1, .int v0)], [], ph_3)) e_123_5 rfl ?_
  refine pm_r (F' := (11, [(0, .ref 1), (1, .int v0)], [.long (-1)], ph_3)) e_123_8 rfl ?_
  exact pm_rE e_123_11 rfl
theorem pcw_19007 (v0 : Int32) (h32 : 0 ≤ v0.toInt) : pC 8 173 [.ref 225, .int v0] ph_3 = some ((some (.int 0)), ph_3) := by
  refine pm_cE em_173 rfl ?_
  refine pm_r (F' := (1, [(0, .ref 225), (1, .int v0)], [.int v0], ph_3)) e_173_0 rfl ?_
  refine pm_r (F' := (4, [(0, .ref 225), (1, .int v0)], [], ph_3)) e_173_1 (pm_sJ rfl (pm_jf (decide_eq_false (show ¬ v0 < (0 : Int32) from fun h => absurd (Int32.lt_iff_toInt_lt.mp h) (by have e1 : (0 : Int32).toInt = 0 := (by decide +kernel); omega))))) ?_
  refine pm_r (F' := (5, [(0, .ref 225), (1, .int v0)], [.int v0], ph_3)) e_173_4 rfl ?_
  refine pm_r (F' := (6, [(0, .ref 225), (1, .int v0)], [.ref 225, .int v0], ph_3)) e_173_5 rfl ?_
  refine pm_r (F' := (9, [(0, .ref 225), (1, .int v0)], [.int 0, .int v0], ph_3)) e_173_6 (pm_sG pf_lay_ph_3_6) ?_
  refine pm_r (F' := (16, [(0, .ref 225), (1, .int v0)], [], ph_3)) e_173_9 (pm_sJ rfl (pm_jt (decide_eq_true (show (0 : Int32) ≤ v0 from Int32.le_iff_toInt_le.mpr (by have e1 : (0 : Int32).toInt = 0 := (by decide +kernel); omega))))) ?_
  refine pm_r (F' := (17, [(0, .ref 225), (1, .int v0)], [.int 0], ph_3)) e_173_16 rfl ?_
  exact pm_rE e_173_17 rfl
theorem pcw_19008 (v0 : Int32) (h32 : 0 ≤ v0.toInt) : pC 9 242 [.ref 225, .int v0] ph_3 = some ((some (.long (-1))), ph_3) := by
  refine pm_cE em_242 rfl ?_
  refine pm_r (F' := (1, [(0, .ref 225), (1, .int v0)], [.ref 225], ph_3)) e_242_0 rfl ?_
  refine pm_r (F' := (2, [(0, .ref 225), (1, .int v0)], [.int v0, .ref 225], ph_3)) e_242_1 rfl ?_
  refine pm_r (F' := (5, [(0, .ref 225), (1, .int v0)], [.int 0], ph_3)) e_242_2 (pm_sV em_173 rfl rfl pf_lay_ph_3_1 (pcw_19007 v0 h32)) ?_
  refine pm_r (F' := (8, [(0, .ref 225), (1, .int v0)], [], ph_3)) e_242_5 rfl ?_
  refine pm_r (F' := (11, [(0, .ref 225), (1, .int v0)], [.long (-1)], ph_3)) e_242_8 rfl ?_
  exact pm_rE e_242_11 rfl
set_option maxRecDepth 100000 in
theorem pq_lay (v0 : Int32) : ∃ r : Int64, pq_ok 123 242 [.int v0] (.long r) := by
  rcases (show v0.toInt < 0 ∨ 0 ≤ v0.toInt by omega) with h32 | h32
  · exact ⟨(-1), ph_3, ph_3, (pcw_19002 v0 h32), (pcw_19004 v0 h32), pf_lay_ph_3_1, Nat.le_of_ble_eq_true pf_lay_ph_3_2, Nat.le_of_ble_eq_true pf_lay_ph_3_3⟩
  · exact ⟨(-1), ph_3, ph_3, (pcw_19006 v0 h32), (pcw_19008 v0 h32), pf_lay_ph_3_1, Nat.le_of_ble_eq_true pf_lay_ph_3_2, Nat.le_of_ble_eq_true pf_lay_ph_3_3⟩

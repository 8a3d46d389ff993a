/-! kept on fresh objects, by program -/
theorem em_24 : pm_ms 24 = some (yX3_isFairWord, cX3_isFairWord, 3, (some .boolean), 1, 3) := rfl
theorem em_115 : pm_ms 115 = some (yX10_kept, cX10_kept, 4, (some .int), 1, 10) := rfl
theorem em_174 : pm_ms 174 = some (yX11_isWordOf, cX11_isWordOf, 2, (some .boolean), 1, 11) := rfl
theorem em_218 : pm_ms 218 = some (yX11_isFairWord, cX11_isFairWord, 4, (some .boolean), 1, 11) := rfl
theorem em_220 : pm_ms 220 = some (yX11_kept, cX11_kept, 4, (some .int), 1, 11) := rfl
theorem e_24_0 : pm_ins 24 0 = some (.aload_n 0, 1, 0, 0, 0, []) := rfl
theorem e_24_1 : pm_ins 24 1 = some (.getfield 25, 3, 3, 2, 3, [(1, 205)]) := rfl
theorem e_24_4 : pm_ins 24 4 = some (.ifnull 18, 3, 22, 0, 0, []) := rfl
theorem e_24_22 : pm_ins 24 22 = some (.iconst 0, 1, 0, 0, 0, []) := rfl
theorem e_24_23 : pm_ins 24 23 = some (.ireturn, 1, 0, 0, 0, []) := rfl
theorem e_115_0 : pm_ins 115 0 = some (.aload_n 0, 1, 0, 0, 0, []) := rfl
theorem e_115_1 : pm_ins 115 1 = some (.getfield 30, 3, 10, 3, 3, [(2, 174)]) := rfl
theorem e_115_4 : pm_ins 115 4 = some (.iload_n 1, 1, 0, 0, 0, []) := rfl
theorem e_115_5 : pm_ins 115 5 = some (.invokevirtual 203, 3, 24, 0, 0, [(4, 106), (4, 107), (4, 108)]) := rfl
theorem e_115_8 : pm_ins 115 8 = some (.ifCond .ne 5, 3, 13, 0, 0, []) := rfl
theorem e_115_11 : pm_ins 115 11 = some (.iconst (-1), 1, 0, 0, 0, []) := rfl
theorem e_115_12 : pm_ins 115 12 = some (.ireturn, 1, 0, 0, 0, []) := rfl
theorem e_174_0 : pm_ins 174 0 = some (.iload_n 1, 1, 0, 0, 0, []) := rfl
theorem e_174_1 : pm_ins 174 1 = some (.ifCond .lt 15, 3, 16, 0, 0, []) := rfl
theorem e_174_4 : pm_ins 174 4 = some (.iload_n 1, 1, 0, 0, 0, []) := rfl
theorem e_174_5 : pm_ins 174 5 = some (.aload_n 0, 1, 0, 0, 0, []) := rfl
theorem e_174_6 : pm_ins 174 6 = some (.getfield 296, 3, 11, 28, 0, [(5, 133)]) := rfl
theorem e_174_9 : pm_ins 174 9 = some (.if_icmp .ge 7, 3, 16, 0, 0, []) := rfl
theorem e_174_16 : pm_ins 174 16 = some (.iconst 0, 1, 0, 0, 0, []) := rfl
theorem e_174_17 : pm_ins 174 17 = some (.ireturn, 1, 0, 0, 0, []) := rfl
theorem e_218_0 : pm_ins 218 0 = some (.aload_n 0, 1, 0, 0, 0, []) := rfl
theorem e_218_1 : pm_ins 218 1 = some (.iload_n 1, 1, 0, 0, 0, []) := rfl
theorem e_218_2 : pm_ins 218 2 = some (.invokevirtual 460, 3, 174, 0, 0, [(7, 140), (7, 142), (0, 102)]) := rfl
theorem e_218_5 : pm_ins 218 5 = some (.istore_n 2, 1, 0, 0, 0, []) := rfl
theorem e_218_6 : pm_ins 218 6 = some (.iconst 0, 1, 0, 0, 0, []) := rfl
theorem e_218_7 : pm_ins 218 7 = some (.istore_n 3, 1, 0, 0, 0, []) := rfl
theorem e_218_8 : pm_ins 218 8 = some (.iload_n 2, 1, 0, 0, 0, []) := rfl
theorem e_218_9 : pm_ins 218 9 = some (.ifCond .eq 36, 3, 45, 0, 0, []) := rfl
theorem e_218_45 : pm_ins 218 45 = some (.iload_n 2, 1, 0, 0, 0, []) := rfl
theorem e_218_46 : pm_ins 218 46 = some (.ireturn, 1, 0, 0, 0, []) := rfl
theorem e_220_0 : pm_ins 220 0 = some (.aload_n 0, 1, 0, 0, 0, []) := rfl
theorem e_220_1 : pm_ins 220 1 = some (.iload_n 1, 1, 0, 0, 0, []) := rfl
theorem e_220_2 : pm_ins 220 2 = some (.invokevirtual 463, 3, 218, 0, 0, [(7, 136), (7, 138), (0, 101)]) := rfl
theorem e_220_5 : pm_ins 220 5 = some (.ifCond .ne 5, 3, 10, 0, 0, []) := rfl
theorem e_220_8 : pm_ins 220 8 = some (.iconst (-1), 1, 0, 0, 0, []) := rfl
theorem e_220_9 : pm_ins 220 9 = some (.ireturn, 1, 0, 0, 0, []) := rfl
set_option maxRecDepth 100000 in
theorem pf_kept_ph_3 : (pm_gf 10 3 (pm_cell ph_3 1) = some (.ref 10)) ∧ (pm_gf 3 2 (pm_cell ph_3 10) = some (.null)) ∧ (pm_clsOk 3 (pm_cell ph_3 10) = true) ∧ (pm_clsOk 11 (pm_cell ph_3 225) = true) ∧ (Nat.ble ph_3.length 600000 = true) ∧ (Nat.ble (pm_sls ph_3) 7302250 = true) ∧ (pm_gf 11 28 (pm_cell ph_3 225) = some (.int 0)) := by decide +kernel
theorem pf_kept_ph_3_0 : pm_gf 10 3 (pm_cell ph_3 1) = some (.ref 10) := pf_kept_ph_3.1
theorem pf_kept_ph_3_1 : pm_gf 3 2 (pm_cell ph_3 10) = some (.null) := pf_kept_ph_3.2.1
theorem pf_kept_ph_3_2 : pm_clsOk 3 (pm_cell ph_3 10) = true := pf_kept_ph_3.2.2.1
theorem pf_kept_ph_3_3 : pm_clsOk 11 (pm_cell ph_3 225) = true := pf_kept_ph_3.2.2.2.1
theorem pf_kept_ph_3_4 : Nat.ble ph_3.length 600000 = true := pf_kept_ph_3.2.2.2.2.1
theorem pf_kept_ph_3_5 : Nat.ble (pm_sls ph_3) 7302250 = true := pf_kept_ph_3.2.2.2.2.2.1
theorem pf_kept_ph_3_6 : pm_gf 11 28 (pm_cell ph_3 225) = some (.int 0) := pf_kept_ph_3.2.2.2.2.2.2
theorem pcw_11003 (v0 : Int32) (h25 : v0.toInt < 0) : pC 8 24 [.ref 10, .int v0] ph_3 = some ((some (.int 0)), ph_3) := by
  refine pm_cE em_24 rfl ?_
  refine pm_r (F' := (1, [(0, .ref 10), (1, .int v0)], [.ref 10], ph_3)) e_24_0 rfl ?_
  refine pm_r (F' := (4, [(0, .ref 10), (1, .int v0)], [.null], ph_3)) e_24_1 (pm_sG pf_kept_ph_3_1) ?_
  refine pm_r (F' := (22, [(0, .ref 10), (1, .int v0)], [], ph_3)) e_24_4 rfl ?_
  refine pm_r (F' := (23, [(0, .ref 10), (1, .int v0)], [.int 0], ph_3)) e_24_22 rfl ?_
  exact pm_rE e_24_23 rfl
theorem pcw_11004 (v0 : Int32) (h25 : v0.toInt < 0) : pC 9 115 [.ref 1, .int v0] ph_3 = some ((some (.int (-1))), ph_3) := by
  refine pm_cE em_115 rfl ?_
  refine pm_r (F' := (1, [(0, .ref 1), (1, .int v0)], [.ref 1], ph_3)) e_115_0 rfl ?_
  refine pm_r (F' := (4, [(0, .ref 1), (1, .int v0)], [.ref 10], ph_3)) e_115_1 (pm_sG pf_kept_ph_3_0) ?_
  refine pm_r (F' := (5, [(0, .ref 1), (1, .int v0)], [.int v0, .ref 10], ph_3)) e_115_4 rfl ?_
  refine pm_r (F' := (8, [(0, .ref 1), (1, .int v0)], [.int 0], ph_3)) e_115_5 (pm_sV em_24 rfl rfl pf_kept_ph_3_2 (pcw_11003 v0 h25)) ?_
  refine pm_r (F' := (11, [(0, .ref 1), (1, .int v0)], [], ph_3)) e_115_8 rfl ?_
  refine pm_r (F' := (12, [(0, .ref 1), (1, .int v0)], [.int (-1)], ph_3)) e_115_11 rfl ?_
  exact pm_rE e_115_12 rfl
theorem pcw_11005 (v0 : Int32) (h25 : v0.toInt < 0) : pC 7 174 [.ref 225, .int v0] ph_3 = some ((some (.int 0)), ph_3) := by
  refine pm_cE em_174 rfl ?_
  refine pm_r (F' := (1, [(0, .ref 225), (1, .int v0)], [.int v0], ph_3)) e_174_0 rfl ?_
  refine pm_r (F' := (16, [(0, .ref 225), (1, .int v0)], [], ph_3)) e_174_1 (pm_sJ rfl (pm_jt (decide_eq_true (show v0 < (0 : Int32) from Int32.lt_iff_toInt_lt.mpr (by have e1 : (0 : Int32).toInt = 0 := (by decide +kernel); omega))))) ?_
  refine pm_r (F' := (17, [(0, .ref 225), (1, .int v0)], [.int 0], ph_3)) e_174_16 rfl ?_
  exact pm_rE e_174_17 rfl
theorem pcw_11006 (v0 : Int32) (h25 : v0.toInt < 0) : pC 8 218 [.ref 225, .int v0] ph_3 = some ((some (.int 0)), ph_3) := by
  refine pm_cE em_218 rfl ?_
  refine pm_r (F' := (1, [(0, .ref 225), (1, .int v0)], [.ref 225], ph_3)) e_218_0 rfl ?_
  refine pm_r (F' := (2, [(0, .ref 225), (1, .int v0)], [.int v0, .ref 225], ph_3)) e_218_1 rfl ?_
  refine pm_r (F' := (5, [(0, .ref 225), (1, .int v0)], [.int 0], ph_3)) e_218_2 (pm_sV em_174 rfl rfl pf_kept_ph_3_3 (pcw_11005 v0 h25)) ?_
  refine pm_r (F' := (6, [(2, .int 0), (0, .ref 225), (1, .int v0)], [], ph_3)) e_218_5 rfl ?_
  refine pm_r (F' := (7, [(2, .int 0), (0, .ref 225), (1, .int v0)], [.int 0], ph_3)) e_218_6 rfl ?_
  refine pm_r (F' := (8, [(3, .int 0), (2, .int 0), (0, .ref 225), (1, .int v0)], [], ph_3)) e_218_7 rfl ?_
  refine pm_r (F' := (9, [(3, .int 0), (2, .int 0), (0, .ref 225), (1, .int v0)], [.int 0], ph_3)) e_218_8 rfl ?_
  refine pm_r (F' := (45, [(3, .int 0), (2, .int 0), (0, .ref 225), (1, .int v0)], [], ph_3)) e_218_9 rfl ?_
  refine pm_r (F' := (46, [(3, .int 0), (2, .int 0), (0, .ref 225), (1, .int v0)], [.int 0], ph_3)) e_218_45 rfl ?_
  exact pm_rE e_218_46 rfl
theorem pcw_11007 (v0 : Int32) (h25 : v0.toInt < 0) : pC 9 220 [.ref 225, .int v0] ph_3 = some ((some (.int (-1))), ph_3) := by
  refine pm_cE em_220 rfl ?_
  refine pm_r (F' := (1, [(0, .ref 225), (1, .int v0)], [.ref 225], ph_3)) e_220_0 rfl ?_
  refine pm_r (F' := (2, [(0, .ref 225), (1, .int v0)], [.int v0, .ref 225], ph_3)) e_220_1 rfl ?_
  refine pm_r (F' := (5, [(0, .ref 225), (1, .int v0)], [.int 0], ph_3)) e_220_2 (pm_sV em_218 rfl rfl pf_kept_ph_3_3 (pcw_11006 v0 h25)) ?_
  refine pm_r (F' := (8, [(0, .ref 225), (1, .int v0)], [], ph_3)) e_220_5 rfl ?_
  refine pm_r (F' := (9, [(0, .ref 225), (1, .int v0)], [.int (-1)], ph_3)) e_220_8 rfl ?_
  exact pm_rE e_220_9 rfl
theorem pcw_11008 (v0 : Int32) (h25 : 0 ≤ v0.toInt) : pC 8 24 [.ref 10, .int v0] ph_3 = some ((some (.int 0)), ph_3) := by
  refine pm_cE em_24 rfl ?_
  refine pm_r (F' := (1, [(0, .ref 10), (1, .int v0)], [.ref 10], ph_3)) e_24_0 rfl ?_
  refine pm_r (F' := (4, [(0, .ref 10), (1, .int v0)], [.null], ph_3)) e_24_1 (pm_sG pf_kept_ph_3_1) ?_
  refine pm_r (F' := (22, [(0, .ref 10), (1, .int v0)], [], ph_3)) e_24_4 rfl ?_
  refine pm_r (F' := (23, [(0, .ref 10), (1, .int v0)], [.int 0], ph_3)) e_24_22 rfl ?_
  exact pm_rE e_24_23 rfl
theorem pcw_11009 (v0 : Int32) (h25 : 0 ≤ v0.toInt) : pC 9 115 [.ref 1, .int v0] ph_3 = some ((some (.int (-1))), ph_3) := by
  refine pm_cE em_115 rfl ?_
  refine pm_r (F' := (1, [(0, .ref 1), (1, .int v0)], [.ref 1], ph_3)) e_115_0 rfl ?_
  refine pm_r (F' := (4, [(0, .ref 1), (1, .int v0)], [.ref 10], ph_3)) e_115_1 (pm_sG pf_kept_ph_3_0) ?_
  refine pm_r (F' := (5, [(0, .ref 1), (1, .int v0)], [.int v0, .ref 10], ph_3)) e_115_4 rfl ?_
  refine pm_r (F' := (8, [(0, .ref 1), (1, .int v0)], [.int 0], ph_3)) e_115_5 (pm_sV em_24 rfl rfl pf_kept_ph_3_2 (pcw_11008 v0 h25)) ?_
  refine pm_r (F' := (11, [(0, .ref 1), (1, .int v0)], [], ph_3)) e_115_8 rfl ?_
  refine pm_r (F' := (12, [(0, .ref 1), (1, .int v0)], [.int (-1)], ph_3)) e_115_11 rfl ?_
  exact pm_rE e_115_12 rfl
theorem pcw_11010 (v0 : Int32) (h25 : 0 ≤ v0.toInt) : pC 7 174 [.ref 225, .int v0] ph_3 = some ((some (.int 0)), ph_3) := by
  refine pm_cE em_174 rfl ?_
  refine pm_r (F' := (1, [(0, .ref 225), (1, .int v0)], [.int v0], ph_3)) e_174_0 rfl ?_
  refine pm_r (F' := (4, [(0, .ref 225), (1, .int v0)], [], ph_3)) e_174_1 (pm_sJ rfl (pm_jf (decide_eq_false (show ¬ v0 < (0 : Int32) from fun h => absurd (Int32.lt_iff_toInt_lt.mp h) (by have e1 : (0 : Int32).toInt = 0 := (by decide +kernel); omega))))) ?_
  refine pm_r (F' := (5, [(0, .ref 225), (1, .int v0)], [.int v0], ph_3)) e_174_4 rfl ?_
  refine pm_r (F' := (6, [(0, .ref 225), (1, .int v0)], [.ref 225, .int v0], ph_3)) e_174_5 rfl ?_
  refine pm_r (F' := (9, [(0, .ref 225), (1, .int v0)], [.int 0, .int v0], ph_3)) e_174_6 (pm_sG pf_kept_ph_3_6) ?_
  refine pm_r (F' := (16, [(0, .ref 225), (1, .int v0)], [], ph_3)) e_174_9 (pm_sJ rfl (pm_jt (decide_eq_true (show (0 : Int32) ≤ v0 from Int32.le_iff_toInt_le.mpr (by have e1 : (0 : Int32).toInt = 0 := (by decide +kernel); omega))))) ?_
  refine pm_r (F' := (17, [(0, .ref 225), (1, .int v0)], [.int 0], ph_3)) e_174_16 rfl ?_
  exact pm_rE e_174_17 rfl
theorem pcw_11011 (v0 : Int32) (h25 : 0 ≤ v0.toInt) : pC 8 218 [.ref 225, .int v0] ph_3 = some ((some (.int 0)), ph_3) := by
  refine pm_cE em_218 rfl ?_
  refine pm_r (F' := (1, [(0, .ref 225), (1, .int v0)], [.ref 225], ph_3)) e_218_0 rfl ?_
  refine pm_r (F' := (2, [(0, .ref 225), (1, .int v0)], [.int v0, .ref 225], ph_3)) e_218_1 rfl ?_
  refine pm_r (F' := (5, [(0, .ref 225), (1, .int v0)], [.int 0], ph_3)) e_218_2 (pm_sV em_174 rfl rfl pf_kept_ph_3_3 (pcw_11010 v0 h25)) ?_
  refine pm_r (F' := (6, [(2, .int 0), (0, .ref 225), (1, .int v0)], [], ph_3)) e_218_5 rfl ?_
  refine pm_r (F' := (7, [(2, .int 0), (0, .ref 225), (1, .int v0)], [.int 0], ph_3)) e_218_6 rfl ?_
  refine pm_r (F' := (8, [(3, .int 0), (2, .int 0), (0, .ref 225), (1, .int v0)], [], ph_3)) e_218_7 rfl ?_
  refine pm_r (F' := (9, [(3, .int 0), (2, .int 0), (0, .ref 225), (1, .int v0)], [.int 0], ph_3)) e_218_8 rfl ?_
  refine pm_r (F' := (45, [(3, .int 0), (2, .int 0), (0, .ref 225), (1, .int v0)], [], ph_3)) e_218_9 rfl ?_
  refine pm_r (F' := (46, [(3, .int 0), (2, .int 0), (0, .ref 225), (1, .int v0)], [.int 0], ph_3)) e_218_45 rfl ?_
  exact pm_rE e_218_46 rfl
theorem pcw_11012 (v0 : Int32) (h25 : 0 ≤ v0.toInt) : pC 9 220 [.ref 225, .int v0] ph_3 = some ((some (.int (-1))), ph_3) := by
  refine pm_cE em_220 rfl ?_
  refine pm_r (F' := (1, [(0, .ref 225), (1, .int v0)], [.ref 225], ph_3)) e_220_0 rfl ?_
  refine pm_r (F' := (2, [(0, .ref 225), (1, .int v0)], [.int v0, .ref 225], ph_3)) e_220_1 rfl ?_
  refine pm_r (F' := (5, [(0, .ref 225), (1, .int v0)], [.int 0], ph_3)) e_220_2 (pm_sV em_218 rfl rfl pf_kept_ph_3_3 (pcw_11011 v0 h25)) ?_
  refine pm_r (F' := (8, [(0, .ref 225), (1, .int v0)], [], ph_3)) e_220_5 rfl ?_
  refine pm_r (F' := (9, [(0, .ref 225), (1, .int v0)], [.int (-1)], ph_3)) e_220_8 rfl ?_
  exact pm_rE e_220_9 rfl
set_option maxRecDepth 100000 in
theorem pq_kept (v0 : Int32) : ∃ r : Int32, pq_ok 115 220 [.int v0] (.int r) := by
  rcases (show v0.toInt < 0 ∨ 0 ≤ v0.toInt by omega) with h25 | h25
  · exact ⟨(-1), ph_3, ph_3, (pcw_11004 v0 h25), (pcw_11007 v0 h25), pf_kept_ph_3_3, Nat.le_of_ble_eq_true pf_kept_ph_3_4, Nat.le_of_ble_eq_true pf_kept_ph_3_5⟩
  · exact ⟨(-1), ph_3, ph_3, (pcw_11009 v0 h25), (pcw_11012 v0 h25), pf_kept_ph_3_3, Nat.le_of_ble_eq_true pf_kept_ph_3_4, Nat.le_of_ble_eq_true pf_kept_ph_3_5⟩

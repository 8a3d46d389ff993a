/-! least on fresh objects, by program -/
theorem em_121 : pm_ms 121 = some (yX10_least, cX10_least, 4, (some .int), 2, 10) := rfl
theorem em_235 : pm_ms 235 = some (yX11_least, cX11_least, 6, (some .int), 2, 11) := rfl
theorem e_121_0 : pm_ins 121 0 = some (.aload_n 0, 1, 0, 0, 0, []) := rfl
theorem e_121_1 : pm_ins 121 1 = some (.iconst 0, 1, 0, 0, 0, []) := rfl
theorem e_121_2 : pm_ins 121 2 = some (.putfield 122, 3, 10, 18, 2, [(2, 189)]) := rfl
theorem e_121_5 : pm_ins 121 5 = some (.aload_n 0, 1, 0, 0, 0, []) := rfl
theorem e_121_6 : pm_ins 121 6 = some (.getfield 30, 3, 10, 3, 3, [(2, 174)]) := rfl
theorem e_121_9 : pm_ins 121 9 = some (.iload_n 1, 1, 0, 0, 0, []) := rfl
theorem e_121_10 : pm_ins 121 10 = some (.invokevirtual 203, 3, 24, 0, 0, [(4, 106), (4, 107), (4, 108)]) := rfl
theorem e_121_13 : pm_ins 121 13 = some (.ifCond .eq 13, 3, 26, 0, 0, []) := rfl
theorem e_121_26 : pm_ins 121 26 = some (.iconst (-1), 1, 0, 0, 0, []) := rfl
theorem e_121_27 : pm_ins 121 27 = some (.ireturn, 1, 0, 0, 0, []) := rfl
theorem e_235_0 : pm_ins 235 0 = some (.aload_n 0, 1, 0, 0, 0, []) := rfl
theorem e_235_1 : pm_ins 235 1 = some (.iconst 0, 1, 0, 0, 0, []) := rfl
theorem e_235_2 : pm_ins 235 2 = some (.putfield 311, 3, 11, 70, 2, [(5, 175)]) := rfl
theorem e_235_5 : pm_ins 235 5 = some (.aload_n 0, 1, 0, 0, 0, []) := rfl
theorem e_235_6 : pm_ins 235 6 = some (.iload_n 1, 1, 0, 0, 0, []) := rfl
theorem e_235_7 : pm_ins 235 7 = some (.invokevirtual 463, 3, 218, 0, 0, [(7, 136), (7, 138), (0, 101)]) := rfl
theorem e_235_10 : pm_ins 235 10 = some (.ifCond .eq 13, 3, 23, 0, 0, []) := rfl
theorem e_235_23 : pm_ins 235 23 = some (.iconst (-1), 1, 0, 0, 0, []) := rfl
theorem e_235_24 : pm_ins 235 24 = some (.ireturn, 1, 0, 0, 0, []) := rfl
noncomputable def pe_17005 : pm_E := (pm_pf 10 18 2 (.int 0) (pm_cell ph_3 1)).getD (.inr (0, []))
noncomputable def ph_c17005 : pm_H := pm_wr ph_3 1 pe_17005
set_option maxRecDepth 100000 in
theorem pf_least_ph_c17005 : (pm_gf 10 3 (pm_cell ph_c17005 1) = some (.ref 10)) ∧ (pm_gf 3 2 (pm_cell ph_c17005 10) = some (.null)) ∧ (pm_clsOk 3 (pm_cell ph_c17005 10) = true) ∧ (pm_clsOk 11 (pm_cell ph_c17005 225) = true) := by decide +kernel
theorem pf_least_ph_c17005_0 : pm_gf 10 3 (pm_cell ph_c17005 1) = some (.ref 10) := pf_least_ph_c17005.1
theorem pf_least_ph_c17005_1 : pm_gf 3 2 (pm_cell ph_c17005 10) = some (.null) := pf_least_ph_c17005.2.1
theorem pf_least_ph_c17005_2 : pm_clsOk 3 (pm_cell ph_c17005 10) = true := pf_least_ph_c17005.2.2.1
theorem pf_least_ph_c17005_3 : pm_clsOk 11 (pm_cell ph_c17005 225) = true := pf_least_ph_c17005.2.2.2
set_option maxRecDepth 100000 in
theorem pep_17005 : pm_pf 10 18 2 (.int 0) (pm_cell ph_3 1) = some pe_17005 := pt_getD (by decide +kernel)
theorem pcw_17006 (v0 : Int32) (h31 : v0.toInt < 0) : pC 8 24 [.ref 10, .int v0] ph_c17005 = some ((some (.int 0)), ph_c17005) := by
  refine pm_cE em_24 rfl ?_
  refine pm_r (F' := (1, [(0, .ref 10), (1, .int v0)], [.ref 10], ph_c17005)) e_24_0 rfl ?_
  refine pm_r (F' := (4, [(0, .ref 10), (1, .int v0)], [.null], ph_c17005)) e_24_1 (pm_sG pf_least_ph_c17005_1) ?_
  refine pm_r (F' := (22, [(0, .ref 10), (1, .int v0)], [], ph_c17005)) e_24_4 rfl ?_
  refine pm_r (F' := (23, [(0, .ref 10), (1, .int v0)], [.int 0], ph_c17005)) e_24_22 rfl ?_
  exact pm_rE e_24_23 rfl
theorem pcw_17007 (v0 : Int32) (h31 : v0.toInt < 0) (v1 : Int32) : pC 9 121 [.ref 1, .int v0, .int v1] ph_3 = some ((some (.int (-1))), ph_c17005) := by
  refine pm_cE em_121 rfl ?_
  refine pm_r (F' := (1, [(0, .ref 1), (1, .int v0), (2, .int v1)], [.ref 1], ph_3)) e_121_0 rfl ?_
  refine pm_r (F' := (2, [(0, .ref 1), (1, .int v0), (2, .int v1)], [.int 0, .ref 1], ph_3)) e_121_1 rfl ?_
  refine pm_r (F' := (5, [(0, .ref 1), (1, .int v0), (2, .int v1)], [], ph_c17005)) e_121_2 (pm_sP pep_17005) ?_
  refine pm_r (F' := (6, [(0, .ref 1), (1, .int v0), (2, .int v1)], [.ref 1], ph_c17005)) e_121_5 rfl ?_
  refine pm_r (F' := (9, [(0, .ref 1), (1, .int v0), (2, .int v1)], [.ref 10], ph_c17005)) e_121_6 (pm_sG pf_least_ph_c17005_0) ?_
  refine pm_r (F' := (10, [(0, .ref 1), (1, .int v0), (2, .int v1)], [.int v0, .ref 10], ph_c17005)) e_121_9 rfl ?_
  refine pm_r (F' := (13, [(0, .ref 1), (1, .int v0), (2, .int v1)], [.int 0], ph_c17005)) e_121_10 (pm_sV em_24 rfl rfl pf_least_ph_c17005_2 (pcw_17006 v0 h31)) ?_
  refine pm_r (F' := (26, [(0, .ref 1), (1, .int v0), (2, .int v1)], [], ph_c17005)) e_121_13 rfl ?_
  refine pm_r (F' := (27, [(0, .ref 1), (1, .int v0), (2, .int v1)], [.int (-1)], ph_c17005)) e_121_26 rfl ?_
  exact pm_rE e_121_27 rfl
noncomputable def pe_17008 : pm_E := (pm_pf 11 70 2 (.int 0) (pm_cell ph_c17005 225)).getD (.inr (0, []))
noncomputable def ph_c17008 : pm_H := pm_wr ph_c17005 225 pe_17008
set_option maxRecDepth 100000 in
theorem pf_least_ph_c17008 : (pm_clsOk 11 (pm_cell ph_c17008 225) = true) ∧ (Nat.ble ph_c17008.length 600000 = true) ∧ (Nat.ble (pm_sls ph_c17008) 7302250 = true) := by decide +kernel
theorem pf_least_ph_c17008_0 : pm_clsOk 11 (pm_cell ph_c17008 225) = true := pf_least_ph_c17008.1
theorem pf_least_ph_c17008_1 : Nat.ble ph_c17008.length 600000 = true := pf_least_ph_c17008.2.1
theorem pf_least_ph_c17008_2 : Nat.ble (pm_sls ph_c17008) 7302250 = true := pf_least_ph_c17008.2.2
set_option maxRecDepth 100000 in
theorem pep_17008 : pm_pf 11 70 2 (.int 0) (pm_cell ph_c17005 225) = some pe_17008 := pt_getD (by decide +kernel)
theorem pcw_17009 (v0 : Int32) (h31 : v0.toInt < 0) : pC 7 174 [.ref 225, .int v0] ph_c17008 = some ((some (.int 0)), ph_c17008) := by
  refine pm_cE em_174 rfl ?_
  refine pm_r (F' := (1, [(0, .ref 225), (1, .int v0)], [.int v0], ph_c17008)) e_174_0 rfl ?_
  refine pm_r (F' := (16, [(0, .ref 225), (1, .int v0)], [], ph_c17008)) e_174_1 (pm_sJ rfl (pm_jt (decide_eq_true (show v0 < (0 : Int32) from Int32.lt_iff_toInt_lt.mpr (by have e1 : (0 : Int32).toInt = 0 := (by decide +kernel); omega))))) ?_
  refine pm_r (F' := (17, [(0, .ref 225), (1, .int v0)], [.int 0], ph_c17008)) e_174_16 rfl ?_
  exact pm_rE e_174_17 rfl
theorem pcw_17010 (v0 : Int32) (h31 : v0.toInt < 0) : pC 8 218 [.ref 225, .int v0] ph_c17008 = some ((some (.int 0)), ph_c17008) := by
  refine pm_cE em_218 rfl ?_
  refine pm_r (F' := (1, [(0, .ref 225), (1, .int v0)], [.ref 225], ph_c17008)) e_218_0 rfl ?_
  refine pm_r (F' := (2, [(0, .ref 225), (1, .int v0)], [.int v0, .ref 225], ph_c17008)) e_218_1 rfl ?_
  refine pm_r (F' := (5, [(0, .ref 225), (1, .int v0)], [.int 0], ph_c17008)) e_218_2 (pm_sV em_174 rfl rfl pf_least_ph_c17008_0 (pcw_17009 v0 h31)) ?_
  refine pm_r (F' := (6, [(2, .int 0), (0, .ref 225), (1, .int v0)], [], ph_c17008)) e_218_5 rfl ?_
  refine pm_r (F' := (7, [(2, .int 0), (0, .ref 225), (1, .int v0)], [.int 0], ph_c17008)) e_218_6 rfl ?_
  refine pm_r (F' := (8, [(3, .int 0), (2, .int 0), (0, .ref 225), (1, .int v0)], [], ph_c17008)) e_218_7 rfl ?_
  refine pm_r (F' := (9, [(3, .int 0), (2, .int 0), (0, .ref 225), (1, .int v0)], [.int 0], ph_c17008)) e_218_8 rfl ?_
  refine pm_r (F' := (45, [(3, .int 0), (2, .int 0), (0, .ref 225), (1, .int v0)], [], ph_c17008)) e_218_9 rfl ?_
  refine pm_r (F' := (46, [(3, .int 0), (2, .int 0), (0, .ref 225), (1, .int v0)], [.int 0], ph_c17008)) e_218_45 rfl ?_
  exact pm_rE e_218_46 rfl
theorem pcw_17011 (v0 : Int32) (h31 : v0.toInt < 0) (v1 : Int32) : pC 9 235 [.ref 225, .int v0, .int v1] ph_c17005 = some ((some (.int (-1))), ph_c17008) := by
  refine pm_cE em_235 rfl ?_
  refine pm_r (F' := (1, [(0, .ref 225), (1, .int v0), (2, .int v1)], [.ref 225], ph_c17005)) e_235_0 rfl ?_
  refine pm_r (F' := (2, [(0, .ref 225), (1, .int v0), (2, .int v1)], [.int 0, .ref 225], ph_c17005)) e_235_1 rfl ?_
  refine pm_r (F' := (5, [(0, .ref 225), (1, .int v0), (2, .int v1)], [], ph_c17008)) e_235_2 (pm_sP pep_17008) ?_
  refine pm_r (F' := (6, [(0, .ref 225), (1, .int v0), (2, .int v1)], [.ref 225], ph_c17008)) e_235_5 rfl ?_
  refine pm_r (F' := (7, [(0, .ref 225), (1, .int v0), (2, .int v1)], [.int v0, .ref 225], ph_c17008)) e_235_6 rfl ?_
  refine pm_r (F' := (10, [(0, .ref 225), (1, .int v0), (2, .int v1)], [.int 0], ph_c17008)) e_235_7 (pm_sV em_218 rfl rfl pf_least_ph_c17008_0 (pcw_17010 v0 h31)) ?_
  refine pm_r (F' := (23, [(0, .ref 225), (1, .int v0), (2, .int v1)], [], ph_c17008)) e_235_10 rfl ?_
  refine pm_r (F' := (24, [(0, .ref 225), (1, .int v0), (2, .int v1)], [.int (-1)], ph_c17008)) e_235_23 rfl ?_
  exact pm_rE e_235_24 rfl
noncomputable def pe_17012 : pm_E := (pm_pf 10 18 2 (.int 0) (pm_cell ph_3 1)).getD (.inr (0, []))
noncomputable def ph_c17012 : pm_H := pm_wr ph_3 1 pe_17012
set_option maxRecDepth 100000 in
theorem pf_least_ph_c17012 : (pm_gf 10 3 (pm_cell ph_c17012 1) = some (.ref 10)) ∧ (pm_gf 3 2 (pm_cell ph_c17012 10) = some (.null)) ∧ (pm_clsOk 3 (pm_cell ph_c17012 10) = true) ∧ (pm_clsOk 11 (pm_cell ph_c17012 225) = true) := by decide +kernel
theorem pf_least_ph_c17012_0 : pm_gf 10 3 (pm_cell ph_c17012 1) = some (.ref 10) := pf_least_ph_c17012.1
theorem pf_least_ph_c17012_1 : pm_gf 3 2 (pm_cell ph_c17012 10) = some (.null) := pf_least_ph_c17012.2.1
theorem pf_least_ph_c17012_2 : pm_clsOk 3 (pm_cell ph_c17012 10) = true := pf_least_ph_c17012.2.2.1
theorem pf_least_ph_c17012_3 : pm_clsOk 11 (pm_cell ph_c17012 225) = true := pf_least_ph_c17012.2.2.2
set_option maxRecDepth 100000 in
theorem pep_17012 : pm_pf 10 18 2 (.int 0) (pm_cell ph_3 1) = some pe_17012 := pt_getD (by decide +kernel)
theorem pcw_17013 (v0 : Int32) (h31 : 0 ≤ v0.toInt) : pC 8 24 [.ref 10, .int v0] ph_c17012 = some ((some (.int 0)), ph_c17012) := by
  refine pm_cE em_24 rfl ?_
  refine pm_r (F' := (1, [(0, .ref 10), (1, .int v0)], [.ref 10], ph_c17012)) e_24_0 rfl ?_
  refine pm_r (F' := (4, [(0, .ref 10), (1, .int v0)], [.null], ph_c17012)) e_24_1 (pm_sG pf_least_ph_c17012_1) ?_
  refine pm_r (F' := (22, [(0, .ref 10), (1, .int v0)], [], ph_c17012)) e_24_4 rfl ?_
  refine pm_r (F' := (23, [(0, .ref 10), (1, .int v0)], [.int 0], ph_c17012)) e_24_22 rfl ?_
  exact pm_rE e_24_23 rfl
theorem pcw_17014 (v0 : Int32) (h31 : 0 ≤ v0.toInt) (v1 : Int32) : pC 9 121 [.ref 1, .int v0, .int v1] ph_3 = some ((some (.int (-1))), ph_c17012) := by
  refine pm_cE em_121 rfl ?_
  refine pm_r (F' := (1, [(0, .ref 1), (1, .int v0), (2, .int v1)], [.ref 1], ph_3)) e_121_0 rfl ?_
  refine pm_r (F' := (2, [(0, .ref 1), (1, .int v0), (2, .int v1)], [.int 0, .ref 1], ph_3)) e_121_1 rfl ?_
  refine pm_r (F' := (5, [(0, .ref 1), (1, .int v0), (2, .int v1)], [], ph_c17012)) e_121_2 (pm_sP pep_17012) ?_
  refine pm_r (F' := (6, [(0, .ref 1), (1, .int v0), (2, .int v1)], [.ref 1], ph_c17012)) e_121_5 rfl ?_
  refine pm_r (F' := (9, [(0, .ref 1), (1, .int v0), (2, .int v1)], [.ref 10], ph_c17012)) e_121_6 (pm_sG pf_least_ph_c17012_0) ?_
  refine pm_r (F' := (10, [(0, .ref 1), (1, .int v0), (2, .int v1)], [.int v0, .ref 10], ph_c17012)) e_121_9 rfl ?_
  refine pm_r (F' := (13, [(0, .ref 1), (1, .int v0), (2, .int v1)], [.int 0], ph_c17012)) e_121_10 (pm_sV em_24 rfl rfl pf_least_ph_c17012_2 (pcw_17013 v0 h31)) ?_
  refine pm_r (F' := (26, [(0, .ref 1), (1, .int v0), (2, .int v1)], [], ph_c17012)) e_121_13 rfl ?_
  refine pm_r (F' := (27, [(0, .ref 1), (1, .int v0), (2, .int v1)], [.int (-1)], ph_c17012)) e_121_26 rfl ?_
  exact pm_rE e_121_27 rfl
noncomputable def pe_17015 : pm_E := (pm_pf 11 70 2 (.int 0) (pm_cell ph_c17012 225)).getD (.inr (0, []))
noncomputable def ph_c17015 : pm_H := pm_wr ph_c17012 225 pe_17015
set_option maxRecDepth 100000 in
theorem pf_least_ph_c17015 : (pm_gf 11 28 (pm_cell ph_c17015 225) = some (.int 0)) ∧ (pm_clsOk 11 (pm_cell ph_c17015 225) = true) ∧ (Nat.ble ph_c17015.length 600000 = true) ∧ (Nat.ble (pm_sls ph_c17015) 7302250 = true) := by decide +kernel
theorem pf_least_ph_c17015_0 : pm_gf 11 28 (pm_cell ph_c17015 225) = some (.int 0) := pf_least_ph_c17015.1
theorem pf_least_ph_c17015_1 : pm_clsOk 11 (pm_cell ph_c17015 225) = true := pf_least_ph_c17015.2.1
theorem pf_least_ph_c17015_2 : Nat.ble ph_c17015.length 600000 = true := pf_least_ph_c17015.2.2.1
theorem pf_least_ph_c17015_3 : Nat.ble (pm_sls ph_c17015) 7302250 = true := pf_least_ph_c17015.2.2.2
set_option maxRecDepth 100000 in
theorem pep_17015 : pm_pf 11 70 2 (.int 0) (pm_cell ph_c17012 225) = some pe_17015 := pt_getD (by decide +kernel)
theorem pcw_17016 (v0 : Int32) (h31 : 0 ≤ v0.toInt) : pC 7 174 [.ref 225, .int v0] ph_c17015 = some ((some (.int 0)), ph_c17015) := by
  refine pm_cE em_174 rfl ?_
  refine pm_r (F' := (1, [(0, .ref 225), (1, .int v0)], [.int v0], ph_c17015)) e_174_0 rfl ?_
  refine pm_r (F' := (4, [(0, .ref 225), (1, .int v0)], [], ph_c17015)) e_174_1 (pm_sJ rfl (pm_jf (decide_eq_false (show ¬ v0 < (0 : Int32) from fun h => absurd (Int32.lt_iff_toInt_lt.mp h) (by have e1 : (0 : Int32).toInt = 0 := (by decide +kernel); omega))))) ?_
  refine pm_r (F' := (5, [(0, .ref 225), (1, .int v0)], [.int v0], ph_c17015)) e_174_4 rfl ?_
  refine pm_r (F' := (6, [(0, .ref 225), (1, .int v0)], [.ref 225, .int v0], ph_c17015)) e_174_5 rfl ?_
  refine pm_r (F' := (9, [(0, .ref 225), (1, .int v0)], [.int 0, .int v0], ph_c17015)) e_174_6 (pm_sG pf_least_ph_c17015_0) ?_
  refine pm_r (F' := (16, [(0, .ref 225), (1, .int v0)], [], ph_c17015)) e_174_9 (pm_sJ rfl (pm_jt (decide_eq_true (show (0 : Int32) ≤ v0 from Int32.le_iff_toInt_le.mpr (by have e1 : (0 : Int32).toInt = 0 := (by decide +kernel); omega))))) ?_
  refine pm_r (F' := (17, [(0, .ref 225), (1, .int v0)], [.int 0], ph_c17015)) e_174_16 rfl ?_
  exact pm_rE e_174_17 rfl
theorem pcw_17017 (v0 : Int32) (h31 : 0 ≤ v0.toInt) : pC 8 218 [.ref 225, .int v0] ph_c17015 = some ((some (.int 0)), ph_c17015) := by
  refine pm_cE em_218 rfl ?_
  refine pm_r (F' := (1, [(0, .ref 225), (1, .int v0)], [.ref 225], ph_c17015)) e_218_0 rfl ?_
  refine pm_r (F' := (2, [(0, .ref 225), (1, .int v0)], [.int v0, .ref 225], ph_c17015)) e_218_1 rfl ?_
  refine pm_r (F' := (5, [(0, .ref 225), (1, .int v0)], [.int 0], ph_c17015)) e_218_2 (pm_sV em_174 rfl rfl pf_least_ph_c17015_1 (pcw_17016 v0 h31)) ?_
  refine pm_r (F' := (6, [(2, .int 0), (0, .ref 225), (1, .int v0)], [], ph_c17015)) e_218_5 rfl ?_
  refine pm_r (F' := (7, [(2, .int 0), (0, .ref 225), (1, .int v0)], [.int 0], ph_c17015)) e_218_6 rfl ?_
  refine pm_r (F' := (8, [(3, .int 0), (2, .int 0), (0, .ref 225), (1, .int v0)], [], ph_c17015)) e_218_7 rfl ?_
  refine pm_r (F' := (9, [(3, .int 0), (2, .int 0), (0, .ref 225), (1, .int v0)], [.int 0], ph_c17015)) e_218_8 rfl ?_
  refine pm_r (F' := (45, [(3, .int 0), (2, .int 0), (0, .ref 225), (1, .int v0)], [], ph_c17015)) e_218_9 rfl ?_
  refine pm_r (F' := (46, [(3, .int 0), (2, .int 0), (0, .ref 225), (1, .int v0)], [.int 0], ph_c17015)) e_218_45 rfl ?_
  exact pm_rE e_218_46 rfl
theorem pcw_17018 (v0 : Int32) (h31 : 0 ≤ v0.toInt) (v1 : Int32) : pC 9 235 [.ref 225, .int v0, .int v1] ph_c17012 = some ((some (.int (-1))), ph_c17015) := by
  refine pm_cE em_235 rfl ?_
  refine pm_r (F' := (1, [(0, .ref 225), (1, .int v0), (2, .int v1)], [.ref 225], ph_c17012)) e_235_0 rfl ?_
  refine pm_r (F' := (2, [(0, .ref 225), (1, .int v0), (2, .int v1)], [.int 0, .ref 225], ph_c17012)) e_235_1 rfl ?_
  refine pm_r (F' := (5, [(0, .ref 225), (1, .int v0), (2, .int v1)], [], ph_c17015)) e_235_2 (pm_sP pep_17015) ?_
  refine pm_r (F' := (6, [(0, .ref 225), (1, .int v0), (2, .int v1)], [.ref 225], ph_c17015)) e_235_5 rfl ?_
  refine pm_r (F' := (7, [(0, .ref 225), (1, .int v0), (2, .int v1)], [.int v0, .ref 225], ph_c17015)) e_235_6 rfl ?_
  refine pm_r (F' := (10, [(0, .ref 225), (1, .int v0), (2, .int v1)], [.int 0], ph_c17015)) e_235_7 (pm_sV em_218 rfl rfl pf_least_ph_c17015_1 (pcw_17017 v0 h31)) ?_
  refine pm_r (F' := (23, [(0, .ref 225), (1, .int v0), (2, .int v1)], [], ph_c17015)) e_235_10 rfl ?_
  refine pm_r (F' := (24, [(0, .ref 225), (1, .int v0), (2, .int v1)], [.int (-1)], ph_c17015)) e_235_23 rfl ?_
  exact pm_rE e_235_24 rfl
set_option maxRecDepth 100000 in
theorem pq_least (v0 : Int32) (v1 : Int32) : ∃ r : Int32, pq_ok 121 235 [.int v0, .int v1] (.int r) := by
  rcases (show v0.toInt < 0 ∨ 0 ≤ v0.toInt by omega) with h31 | h31
  · exact ⟨(-1), ph_c17005, ph_c17008, (pcw_17007 v0 h31 v1), (pcw_17011 v0 h31 v1), pf_least_ph_c17005_3, Nat.le_of_ble_eq_true pf_least_ph_c17008_1, Nat.le_of_ble_eq_true pf_least_ph_c17008_2⟩
  · exact ⟨(-1), ph_c17012, ph_c17015, (pcw_17014 v0 h31 v1), (pcw_17018 v0 h31 v1), pf_least_ph_c17012_3, Nat.le_of_ble_eq_true pf_least_ph_c17015_2, Nat.le_of_ble_eq_true pf_least_ph_c17015_3⟩

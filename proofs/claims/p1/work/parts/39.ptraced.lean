/-! traced on fresh objects, by program -/
theorem em_86 : pm_ms 86 = some (yX9_load, cX9_load, 6, (some .boolean), 2, 9) := rfl
theorem em_97 : pm_ms 97 = some (yX9_edgeAt, cX9_edgeAt, 3, (some .int), 1, 9) := rfl
theorem em_110 : pm_ms 110 = some (yX10_traced, cX10_traced, 4, (some .int), 2, 10) := rfl
theorem em_181 : pm_ms 181 = some (yX11_sumOf, cX11_sumOf, 5, (some .long), 1, 11) := rfl
theorem em_189 : pm_ms 189 = some (yX11_isSum, cX11_isSum, 2, (some .boolean), 1, 11) := rfl
theorem em_193 : pm_ms 193 = some (yX11_trace, cX11_trace, 4, none, 1, 11) := rfl
theorem em_194 : pm_ms 194 = some (yX11_traced, cX11_traced, 3, (some .int), 2, 11) := rfl
theorem e_97_0 : pm_ins 97 0 = some (.iload_n 1, 1, 0, 0, 0, []) := rfl
theorem e_97_1 : pm_ins 97 1 = some (.ifCond .lt 18, 3, 19, 0, 0, []) := rfl
theorem e_97_4 : pm_ins 97 4 = some (.iload_n 1, 1, 0, 0, 0, []) := rfl
theorem e_97_5 : pm_ins 97 5 = some (.aload_n 0, 1, 0, 0, 0, []) := rfl
theorem e_97_6 : pm_ins 97 6 = some (.getfield 32, 3, 9, 8, 0, [(1, 81)]) := rfl
theorem e_97_9 : pm_ins 97 9 = some (.if_icmp .ge 10, 3, 19, 0, 0, []) := rfl
theorem e_97_19 : pm_ins 97 19 = some (.iconst (-1), 1, 0, 0, 0, []) := rfl
theorem e_97_20 : pm_ins 97 20 = some (.ireturn, 1, 0, 0, 0, []) := rfl
theorem e_110_0 : pm_ins 110 0 = some (.aload_n 0, 1, 0, 0, 0, []) := rfl
theorem e_110_1 : pm_ins 110 1 = some (.iload_n 1, 1, 0, 0, 0, []) := rfl
theorem e_110_2 : pm_ins 110 2 = some (.invokevirtual 136, 3, 135, 0, 0, [(4, 4), (4, 6), (0, 32)]) := rfl
theorem e_110_5 : pm_ins 110 5 = some (.astore_n 3, 1, 0, 0, 0, []) := rfl
theorem e_110_6 : pm_ins 110 6 = some (.aload_n 3, 1, 0, 0, 0, []) := rfl
theorem e_110_7 : pm_ins 110 7 = some (.ifnull 7, 3, 14, 0, 0, []) := rfl
theorem e_110_10 : pm_ins 110 10 = some (.iload_n 2, 1, 0, 0, 0, []) := rfl
theorem e_110_11 : pm_ins 110 11 = some (.ifCond .ge 5, 3, 16, 0, 0, []) := rfl
theorem e_110_14 : pm_ins 110 14 = some (.iconst (-1), 1, 0, 0, 0, []) := rfl
theorem e_110_15 : pm_ins 110 15 = some (.ireturn, 1, 0, 0, 0, []) := rfl
theorem e_110_16 : pm_ins 110 16 = some (.aload_n 0, 1, 0, 0, 0, []) := rfl
theorem e_110_17 : pm_ins 110 17 = some (.getfield 23, 3, 10, 2, 3, [(2, 173)]) := rfl
theorem e_110_20 : pm_ins 110 20 = some (.aload_n 0, 1, 0, 0, 0, []) := rfl
theorem e_110_21 : pm_ins 110 21 = some (.getfield 84, 3, 10, 13, 3, [(2, 184)]) := rfl
theorem e_110_24 : pm_ins 110 24 = some (.aload_n 3, 1, 0, 0, 0, []) := rfl
theorem e_110_25 : pm_ins 110 25 = some (.invokevirtual 146, 3, 86, 0, 0, [(4, 22), (3, 137), (3, 138)]) := rfl
theorem e_110_28 : pm_ins 110 28 = some (.ifCond .ne 6, 3, 34, 0, 0, []) := rfl
theorem e_110_34 : pm_ins 110 34 = some (.aload_n 0, 1, 0, 0, 0, []) := rfl
theorem e_110_35 : pm_ins 110 35 = some (.getfield 23, 3, 10, 2, 3, [(2, 173)]) := rfl
theorem e_110_38 : pm_ins 110 38 = some (.iload_n 2, 1, 0, 0, 0, []) := rfl
theorem e_110_39 : pm_ins 110 39 = some (.invokevirtual 163, 3, 97, 0, 0, [(4, 29), (4, 30), (4, 31)]) := rfl
theorem e_110_42 : pm_ins 110 42 = some (.ireturn, 1, 0, 0, 0, []) := rfl
theorem e_194_0 : pm_ins 194 0 = some (.iload_n 1, 1, 0, 0, 0, []) := rfl
theorem e_194_1 : pm_ins 194 1 = some (.iconst (-1), 1, 0, 0, 0, []) := rfl
theorem e_194_2 : pm_ins 194 2 = some (.if_icmp .eq 13, 3, 15, 0, 0, []) := rfl
theorem e_194_5 : pm_ins 194 5 = some (.aload_n 0, 1, 0, 0, 0, []) := rfl
theorem e_194_6 : pm_ins 194 6 = some (.iload_n 1, 1, 0, 0, 0, []) := rfl
theorem e_194_7 : pm_ins 194 7 = some (.invokevirtual 372, 3, 173, 0, 0, [(7, 64), (7, 66), (0, 92)]) := rfl
theorem e_194_10 : pm_ins 194 10 = some (.ifCond .ne 5, 3, 15, 0, 0, []) := rfl
theorem e_194_13 : pm_ins 194 13 = some (.iconst (-1), 1, 0, 0, 0, []) := rfl
theorem e_194_14 : pm_ins 194 14 = some (.ireturn, 1, 0, 0, 0, []) := rfl
theorem e_194_15 : pm_ins 194 15 = some (.aload_n 0, 1, 0, 0, 0, []) := rfl
theorem e_194_16 : pm_ins 194 16 = some (.iload_n 1, 1, 0, 0, 0, []) := rfl
theorem e_194_17 : pm_ins 194 17 = some (.invokevirtual 362, 3, 181, 0, 0, [(6, 224), (6, 226), (0, 76)]) := rfl
theorem e_194_20 : pm_ins 194 20 = some (.invokestatic 366, 3, 189, 0, 0, [(6, 232), (6, 233)]) := rfl
theorem e_194_23 : pm_ins 194 23 = some (.ifCond .ne 6, 3, 29, 0, 0, []) := rfl
theorem e_194_29 : pm_ins 194 29 = some (.aload_n 0, 1, 0, 0, 0, []) := rfl
theorem e_194_30 : pm_ins 194 30 = some (.iload_n 1, 1, 0, 0, 0, []) := rfl
theorem e_194_31 : pm_ins 194 31 = some (.invokevirtual 383, 3, 193, 0, 0, [(7, 81), (7, 83), (0, 94)]) := rfl
theorem e_194_34 : pm_ins 194 34 = some (.iload_n 2, 1, 0, 0, 0, []) := rfl
theorem e_194_35 : pm_ins 194 35 = some (.ifCond .lt 25, 3, 60, 0, 0, []) := rfl
theorem e_194_38 : pm_ins 194 38 = some (.iload_n 2, 1, 0, 0, 0, []) := rfl
theorem e_194_39 : pm_ins 194 39 = some (.aload_n 0, 1, 0, 0, 0, []) := rfl
theorem e_194_40 : pm_ins 194 40 = some (.getfield 380, 3, 11, 42, 0, [(5, 147)]) := rfl
theorem e_194_43 : pm_ins 194 43 = some (.if_icmp .ge 17, 3, 60, 0, 0, []) := rfl
theorem e_194_60 : pm_ins 194 60 = some (.iconst (-1), 1, 0, 0, 0, []) := rfl
theorem e_194_61 : pm_ins 194 61 = some (.ireturn, 1, 0, 0, 0, []) := rfl
set_option maxRecDepth 100000 in
theorem pf_traced_ph_3 : (pm_clsOk 10 (pm_cell ph_3 1) = true) ∧ (pm_clsOk 11 (pm_cell ph_3 225) = true) ∧ (Nat.ble ph_3.length 600000 = true) ∧ (Nat.ble (pm_sls ph_3) 7302250 = true) ∧ (pm_gf 10 13 (pm_cell ph_3 1) = some (.ref 159)) ∧ (pm_gf 8 3 (pm_cell ph_3 159) = some (.int 0)) ∧ (pm_gf 11 27 (pm_cell ph_3 225) = some (.int 0)) := by decide +kernel
theorem pf_traced_ph_3_0 : pm_clsOk 10 (pm_cell ph_3 1) = true := pf_traced_ph_3.1
theorem pf_traced_ph_3_1 : pm_clsOk 11 (pm_cell ph_3 225) = true := pf_traced_ph_3.2.1
theorem pf_traced_ph_3_2 : Nat.ble ph_3.length 600000 = true := pf_traced_ph_3.2.2.1
theorem pf_traced_ph_3_3 : Nat.ble (pm_sls ph_3) 7302250 = true := pf_traced_ph_3.2.2.2.1
theorem pf_traced_ph_3_4 : pm_gf 10 13 (pm_cell ph_3 1) = some (.ref 159) := pf_traced_ph_3.2.2.2.2.1
theorem pf_traced_ph_3_5 : pm_gf 8 3 (pm_cell ph_3 159) = some (.int 0) := pf_traced_ph_3.2.2.2.2.2.1
theorem pf_traced_ph_3_6 : pm_gf 11 27 (pm_cell ph_3 225) = some (.int 0) := pf_traced_ph_3.2.2.2.2.2.2
theorem pcw_6001 (v0 : Int32) (h16 : v0.toInt < (-1)) : pC 7 134 [.ref 1, .int v0] ph_3 = some ((some (.int 0)), ph_3) := by
  refine pm_cE em_134 rfl ?_
  refine pm_r (F' := (1, [(0, .ref 1), (1, .int v0)], [.int v0], ph_3)) e_134_0 rfl ?_
  refine pm_r (F' := (19, [(0, .ref 1), (1, .int v0)], [], ph_3)) e_134_1 (pm_sJ rfl (pm_jt (decide_eq_true (show v0 < (0 : Int32) from Int32.lt_iff_toInt_lt.mpr (by have e1 : (0 : Int32).toInt = 0 := (by decide +kernel); omega))))) ?_
  refine pm_r (F' := (20, [(0, .ref 1), (1, .int v0)], [.int 0], ph_3)) e_134_19 rfl ?_
  exact pm_rE e_134_20 rfl
theorem pcw_6002 (v0 : Int32) (h16 : v0.toInt < (-1)) : pC 8 135 [.ref 1, .int v0] ph_3 = some ((some (.null)), ph_3) := by
  refine pm_cE em_135 rfl ?_
  refine pm_r (F' := (1, [(0, .ref 1), (1, .int v0)], [.int v0], ph_3)) e_135_0 rfl ?_
  refine pm_r (F' := (2, [(0, .ref 1), (1, .int v0)], [.int (-1), .int v0], ph_3)) e_135_1 rfl ?_
  refine pm_r (F' := (13, [(0, .ref 1), (1, .int v0)], [], ph_3)) e_135_2 (pm_sJ rfl (pm_jt (decide_eq_true (show ¬ v0 = (-1 : Int32) from fun h => absurd (congrArg Int32.toInt h) (by have e1 : (-1 : Int32).toInt = -1 := (by decide +kernel); omega))))) ?_
  refine pm_r (F' := (14, [(0, .ref 1), (1, .int v0)], [.ref 1], ph_3)) e_135_13 rfl ?_
  refine pm_r (F' := (15, [(0, .ref 1), (1, .int v0)], [.int v0, .ref 1], ph_3)) e_135_14 rfl ?_
  refine pm_r (F' := (18, [(0, .ref 1), (1, .int v0)], [.int 0], ph_3)) e_135_15 (pm_sV em_134 rfl rfl pf_traced_ph_3_0 (pcw_6001 v0 h16)) ?_
  refine pm_r (F' := (33, [(0, .ref 1), (1, .int v0)], [], ph_3)) e_135_18 rfl ?_
  refine pm_r (F' := (34, [(0, .ref 1), (1, .int v0)], [.null], ph_3)) e_135_33 rfl ?_
  exact pm_rE e_135_34 rfl
theorem pcw_6003 (v0 : Int32) (h16 : v0.toInt < (-1)) (v1 : Int32) : pC 9 110 [.ref 1, .int v0, .int v1] ph_3 = some ((some (.int (-1))), ph_3) := by
  refine pm_cE em_110 rfl ?_
  refine pm_r (F' := (1, [(0, .ref 1), (1, .int v0), (2, .int v1)], [.ref 1], ph_3)) e_110_0 rfl ?_
  refine pm_r (F' := (2, [(0, .ref 1), (1, .int v0), (2, .int v1)], [.int v0, .ref 1], ph_3)) e_110_1 rfl ?_
  refine pm_r (F' := (5, [(0, .ref 1), (1, .int v0), (2, .int v1)], [.null], ph_3)) e_110_2 (pm_sV em_135 rfl rfl pf_traced_ph_3_0 (pcw_6002 v0 h16)) ?_
  refine pm_r (F' := (6, [(3, .null), (0, .ref 1), (1, .int v0), (2, .int v1)], [], ph_3)) e_110_5 rfl ?_
  refine pm_r (F' := (7, [(3, .null), (0, .ref 1), (1, .int v0), (2, .int v1)], [.null], ph_3)) e_110_6 rfl ?_
  refine pm_r (F' := (14, [(3, .null), (0, .ref 1), (1, .int v0), (2, .int v1)], [], ph_3)) e_110_7 rfl ?_
  refine pm_r (F' := (15, [(3, .null), (0, .ref 1), (1, .int v0), (2, .int v1)], [.int (-1)], ph_3)) e_110_14 rfl ?_
  exact pm_rE e_110_15 rfl
theorem pcw_6004 (v0 : Int32) (h16 : v0.toInt < (-1)) : pC 8 173 [.ref 225, .int v0] ph_3 = some ((some (.int 0)), ph_3) := by
  refine pm_cE em_173 rfl ?_
  refine pm_r (F' := (1, [(0, .ref 225), (1, .int v0)], [.int v0], ph_3)) e_173_0 rfl ?_
  refine pm_r (F' := (16, [(0, .ref 225), (1, .int v0)], [], ph_3)) e_173_1 (pm_sJ rfl (pm_jt (decide_eq_true (show v0 < (0 : Int32) from Int32.lt_iff_toInt_lt.mpr (by have e1 : (0 : Int32).toInt = 0 := (by decide +kernel); omega))))) ?_
  refine pm_r (F' := (17, [(0, .ref 225), (1, .int v0)], [.int 0], ph_3)) e_173_16 rfl ?_
  exact pm_rE e_173_17 rfl
theorem pcw_6005 (v0 : Int32) (h16 : v0.toInt < (-1)) (v1 : Int32) : pC 9 194 [.ref 225, .int v0, .int v1] ph_3 = some ((some (.int (-1))), ph_3) := by
  refine pm_cE em_194 rfl ?_
  refine pm_r (F' := (1, [(0, .ref 225), (1, .int v0), (2, .int v1)], [.int v0], ph_3)) e_194_0 rfl ?_
  refine pm_r (F' := (2, [(0, .ref 225), (1, .int v0), (2, .int v1)], [.int (-1), .int v0], ph_3)) e_194_1 rfl ?_
  refine pm_r (F' := (5, [(0, .ref 225), (1, .int v0), (2, .int v1)], [], ph_3)) e_194_2 (pm_sJ rfl (pm_jf (decide_eq_false (show ¬ v0 = (-1 : Int32) from fun h => absurd (congrArg Int32.toInt h) (by have e1 : (-1 : Int32).toInt = -1 := (by decide +kernel); omega))))) ?_
  refine pm_r (F' := (6, [(0, .ref 225), (1, .int v0), (2, .int v1)], [.ref 225], ph_3)) e_194_5 rfl ?_
  refine pm_r (F' := (7, [(0, .ref 225), (1, .int v0), (2, .int v1)], [.int v0, .ref 225], ph_3)) e_194_6 rfl ?_
  refine pm_r (F' := (10, [(0, .ref 225), (1, .int v0), (2, .int v1)], [.int 0], ph_3)) e_194_7 (pm_sV em_173 rfl rfl pf_traced_ph_3_1 (pcw_6004 v0 h16)) ?_
  refine pm_r (F' := (13, [(0, .ref 225), (1, .int v0), (2, .int v1)], [], ph_3)) e_194_10 rfl ?_
  refine pm_r (F' := (14, [(0, .ref 225), (1, .int v0), (2, .int v1)], [.int (-1)], ph_3)) e_194_13 rfl ?_
  exact pm_rE e_194_14 rfl
noncomputable def ph_c6007 : pm_H := pt_h (pC 8 135 [.ref 1, .int (-1)] ph_3)
set_option maxRecDepth 100000 in
theorem pf_traced_ph_c6007 : (pm_clsOk 11 (pm_cell ph_c6007 225) = true) ∧ (pm_gf 10 2 (pm_cell ph_c6007 1) = some (.ref 4)) ∧ (pm_gf 10 13 (pm_cell ph_c6007 1) = some (.ref 159)) ∧ (pm_clsOk 9 (pm_cell ph_c6007 4) = true) := by decide +kernel
theorem pf_traced_ph_c6007_0 : pm_clsOk 11 (pm_cell ph_c6007 225) = true := pf_traced_ph_c6007.1
theorem pf_traced_ph_c6007_1 : pm_gf 10 2 (pm_cell ph_c6007 1) = some (.ref 4) := pf_traced_ph_c6007.2.1
theorem pf_traced_ph_c6007_2 : pm_gf 10 13 (pm_cell ph_c6007 1) = some (.ref 159) := pf_traced_ph_c6007.2.2.1
theorem pf_traced_ph_c6007_3 : pm_clsOk 9 (pm_cell ph_c6007 4) = true := pf_traced_ph_c6007.2.2.2
set_option maxRecDepth 100000 in
theorem pcc_6007 : pC 8 135 [.ref 1, .int (-1)] ph_3 = some ((some (.ref 41)), ph_c6007) := pt_some (by decide +kernel)
theorem pcw_6008 (v1 : Int32) (h18 : v1.toInt < 0) : pC 9 110 [.ref 1, .int (-1), .int v1] ph_3 = some ((some (.int (-1))), ph_c6007) := by
  refine pm_cE em_110 rfl ?_
  refine pm_r (F' := (1, [(0, .ref 1), (1, .int (-1)), (2, .int v1)], [.ref 1], ph_3)) e_110_0 rfl ?_
  refine pm_r (F' := (2, [(0, .ref 1), (1, .int (-1)), (2, .int v1)], [.int (-1), .ref 1], ph_3)) e_110_1 rfl ?_
  refine pm_r (F' := (5, [(0, .ref 1), (1, .int (-1)), (2, .int v1)], [.ref 41], ph_c6007)) e_110_2 (pm_sV em_135 rfl rfl pf_traced_ph_3_0 pcc_6007) ?_
  refine pm_r (F' := (6, [(3, .ref 41), (0, .ref 1), (1, .int (-1)), (2, .int v1)], [], ph_c6007)) e_110_5 rfl ?_
  refine pm_r (F' := (7, [(3, .ref 41), (0, .ref 1), (1, .int (-1)), (2, .int v1)], [.ref 41], ph_c6007)) e_110_6 rfl ?_
  refine pm_r (F' := (10, [(3, .ref 41), (0, .ref 1), (1, .int (-1)), (2, .int v1)], [], ph_c6007)) e_110_7 rfl ?_
  refine pm_r (F' := (11, [(3, .ref 41), (0, .ref 1), (1, .int (-1)), (2, .int v1)], [.int v1], ph_c6007)) e_110_10 rfl ?_
  refine pm_r (F' := (14, [(3, .ref 41), (0, .ref 1), (1, .int (-1)), (2, .int v1)], [], ph_c6007)) e_110_11 (pm_sJ rfl (pm_jf (decide_eq_false (show ¬ (0 : Int32) ≤ v1 from fun h => absurd (Int32.le_iff_toInt_le.mp h) (by have e1 : (0 : Int32).toInt = 0 := (by decide +kernel); omega))))) ?_
  refine pm_r (F' := (15, [(3, .ref 41), (0, .ref 1), (1, .int (-1)), (2, .int v1)], [.int (-1)], ph_c6007)) e_110_14 rfl ?_
  exact pm_rE e_110_15 rfl
noncomputable def ph_c6009 : pm_H := pt_h (pC 8 181 [.ref 225, .int (-1)] ph_c6007)
set_option maxRecDepth 100000 in
theorem pcc_6009 : pC 8 181 [.ref 225, .int (-1)] ph_c6007 = some ((some (.long 0)), ph_c6009) := pt_some (by decide +kernel)
noncomputable def ph_c6010 : pm_H := pt_h (pC 8 189 [.long 0] ph_c6009)
set_option maxRecDepth 100000 in
theorem pf_traced_ph_c6010 : (pm_clsOk 11 (pm_cell ph_c6010 225) = true) := by decide +kernel
theorem pf_traced_ph_c6010_0 : pm_clsOk 11 (pm_cell ph_c6010 225) = true := pf_traced_ph_c6010
set_option maxRecDepth 100000 in
theorem pcc_6010 : pC 8 189 [.long 0] ph_c6009 = some ((some (.int 1)), ph_c6010) := pt_some (by decide +kernel)
noncomputable def ph_c6011 : pm_H := pt_h (pC 8 193 [.ref 225, .int (-1)] ph_c6010)
set_option maxRecDepth 100000 in
theorem pf_traced_ph_c6011 : (Nat.ble ph_c6011.length 600000 = true) ∧ (Nat.ble (pm_sls ph_c6011) 7302250 = true) := by decide +kernel
theorem pf_traced_ph_c6011_0 : Nat.ble ph_c6011.length 600000 = true := pf_traced_ph_c6011.1
theorem pf_traced_ph_c6011_1 : Nat.ble (pm_sls ph_c6011) 7302250 = true := pf_traced_ph_c6011.2
set_option maxRecDepth 100000 in
theorem pcc_6011 : pC 8 193 [.ref 225, .int (-1)] ph_c6010 = some (none, ph_c6011) := pt_some (by decide +kernel)
theorem pcw_6012 (v1 : Int32) (h18 : v1.toInt < 0) : pC 9 194 [.ref 225, .int (-1), .int v1] ph_c6007 = some ((some (.int (-1))), ph_c6011) := by
  refine pm_cE em_194 rfl ?_
  refine pm_r (F' := (1, [(0, .ref 225), (1, .int (-1)), (2, .int v1)], [.int (-1)], ph_c6007)) e_194_0 rfl ?_
  refine pm_r (F' := (2, [(0, .ref 225), (1, .int (-1)), (2, .int v1)], [.int (-1), .int (-1)], ph_c6007)) e_194_1 rfl ?_
  refine pm_r (F' := (15, [(0, .ref 225), (1, .int (-1)), (2, .int v1)], [], ph_c6007)) e_194_2 rfl ?_
  refine pm_r (F' := (16, [(0, .ref 225), (1, .int (-1)), (2, .int v1)], [.ref 225], ph_c6007)) e_194_15 rfl ?_
  refine pm_r (F' := (17, [(0, .ref 225), (1, .int (-1)), (2, .int v1)], [.int (-1), .ref 225], ph_c6007)) e_194_16 rfl ?_
  refine pm_r (F' := (20, [(0, .ref 225), (1, .int (-1)), (2, .int v1)], [.long 0], ph_c6009)) e_194_17 (pm_sV em_181 rfl rfl pf_traced_ph_c6007_0 pcc_6009) ?_
  refine pm_r (F' := (23, [(0, .ref 225), (1, .int (-1)), (2, .int v1)], [.int 1], ph_c6010)) e_194_20 (pm_sS em_189 rfl rfl pcc_6010) ?_
  refine pm_r (F' := (29, [(0, .ref 225), (1, .int (-1)), (2, .int v1)], [], ph_c6010)) e_194_23 rfl ?_
  refine pm_r (F' := (30, [(0, .ref 225), (1, .int (-1)), (2, .int v1)], [.ref 225], ph_c6010)) e_194_29 rfl ?_
  refine pm_r (F' := (31, [(0, .ref 225), (1, .int (-1)), (2, .int v1)], [.int (-1), .ref 225], ph_c6010)) e_194_30 rfl ?_
  refine pm_r (F' := (34, [(0, .ref 225), (1, .int (-1)), (2, .int v1)], [], ph_c6011)) e_194_31 (pm_sV em_193 rfl rfl pf_traced_ph_c6010_0 pcc_6011) ?_
  refine pm_r (F' := (35, [(0, .ref 225), (1, .int (-1)), (2, .int v1)], [.int v1], ph_c6011)) e_194_34 rfl ?_
  refine pm_r (F' := (60, [(0, .ref 225), (1, .int (-1)), (2, .int v1)], [], ph_c6011)) e_194_35 (pm_sJ rfl (pm_jt (decide_eq_true (show v1 < (0 : Int32) from Int32.lt_iff_toInt_lt.mpr (by have e1 : (0 : Int32).toInt = 0 := (by decide +kernel); omega))))) ?_
  refine pm_r (F' := (61, [(0, .ref 225), (1, .int (-1)), (2, .int v1)], [.int (-1)], ph_c6011)) e_194_60 rfl ?_
  exact pm_rE e_194_61 rfl
noncomputable def ph_c6013 : pm_H := pt_h (pC 8 86 [.ref 4, .ref 159, .ref 41] ph_c6007)
set_option maxRecDepth 100000 in
theorem pf_traced_ph_c6013 : (pm_gf 10 2 (pm_cell ph_c6013 1) = some (.ref 4)) ∧ (pm_gf 9 8 (pm_cell ph_c6013 4) = some (.int 0)) ∧ (pm_clsOk 9 (pm_cell ph_c6013 4) = true) ∧ (pm_clsOk 11 (pm_cell ph_c6013 225) = true) := by decide +kernel
theorem pf_traced_ph_c6013_0 : pm_gf 10 2 (pm_cell ph_c6013 1) = some (.ref 4) := pf_traced_ph_c6013.1
theorem pf_traced_ph_c6013_1 : pm_gf 9 8 (pm_cell ph_c6013 4) = some (.int 0) := pf_traced_ph_c6013.2.1
theorem pf_traced_ph_c6013_2 : pm_clsOk 9 (pm_cell ph_c6013 4) = true := pf_traced_ph_c6013.2.2.1
theorem pf_traced_ph_c6013_3 : pm_clsOk 11 (pm_cell ph_c6013 225) = true := pf_traced_ph_c6013.2.2.2
set_option maxRecDepth 100000 in
theorem pcc_6013 : pC 8 86 [.ref 4, .ref 159, .ref 41] ph_c6007 = some ((some (.int 1)), ph_c6013) := pt_some (by decide +kernel)
theorem pcw_6014 (v1 : Int32) (h18 : 0 ≤ v1.toInt) : pC 8 97 [.ref 4, .int v1] ph_c6013 = some ((some (.int (-1))), ph_c6013) := by
  refine pm_cE em_97 rfl ?_
  refine pm_r (F' := (1, [(0, .ref 4), (1, .int v1)], [.int v1], ph_c6013)) e_97_0 rfl ?_
  refine pm_r (F' := (4, [(0, .ref 4), (1, .int v1)], [], ph_c6013)) e_97_1 (pm_sJ rfl (pm_jf (decide_eq_false (show ¬ v1 < (0 : Int32) from fun h => absurd (Int32.lt_iff_toInt_lt.mp h) (by have e1 : (0 : Int32).toInt = 0 := (by decide +kernel); omega))))) ?_
  refine pm_r (F' := (5, [(0, .ref 4), (1, .int v1)], [.int v1], ph_c6013)) e_97_4 rfl ?_
  refine pm_r (F' := (6, [(0, .ref 4), (1, .int v1)], [.ref 4, .int v1], ph_c6013)) e_97_5 rfl ?_
  refine pm_r (F' := (9, [(0, .ref 4), (1, .int v1)], [.int 0, .int v1], ph_c6013)) e_97_6 (pm_sG pf_traced_ph_c6013_1) ?_
  refine pm_r (F' := (19, [(0, .ref 4), (1, .int v1)], [], ph_c6013)) e_97_9 (pm_sJ rfl (pm_jt (decide_eq_true (show (0 : Int32) ≤ v1 from Int32.le_iff_toInt_le.mpr (by have e1 : (0 : Int32).toInt = 0 := (by decide +kernel); omega))))) ?_
  refine pm_r (F' := (20, [(0, .ref 4), (1, .int v1)], [.int (-1)], ph_c6013)) e_97_19 rfl ?_
  exact pm_rE e_97_20 rfl
theorem pcw_6015 (v1 : Int32) (h18 : 0 ≤ v1.toInt) : pC 9 110 [.ref 1, .int (-1), .int v1] ph_3 = some ((some (.int (-1))), ph_c6013) := by
  refine pm_cE em_110 rfl ?_
  refine pm_r (F' := (1, [(0, .ref 1), (1, .int (-1)), (2, .int v1)], [.ref 1], ph_3)) e_110_0 rfl ?_
  refine pm_r (F' := (2, [(0, .ref 1), (1, .int (-1)), (2, .int v1)], [.int (-1), .ref 1], ph_3)) e_110_1 rfl ?_
  refine pm_r (F' := (5, [(0, .ref 1), (1, .int (-1)), (2, .int v1)], [.ref 41], ph_c6007)) e_110_2 (pm_sV em_135 rfl rfl pf_traced_ph_3_0 pcc_6007) ?_
  refine pm_r (F' := (6, [(3, .ref 41), (0, .ref 1), (1, .int (-1)), (2, .int v1)], [], ph_c6007)) e_110_5 rfl ?_
  refine pm_r (F' := (7, [(3, .ref 41), (0, .ref 1), (1, .int (-1)), (2, .int v1)], [.ref 41], ph_c6007)) e_110_6 rfl ?_
  refine pm_r (F' := (10, [(3, .ref 41), (0, .ref 1), (1, .int (-1)), (2, .int v1)], [], ph_c6007)) e_110_7 rfl ?_
  refine pm_r (F' := (11, [(3, .ref 41), (0, .ref 1), (1, .int (-1)), (2, .int v1)], [.int v1], ph_c6007)) e_110_10 rfl ?_
  refine pm_r (F' := (16, [(3, .ref 41), (0, .ref 1), (1, .int (-1)), (2, .int v1)], [], ph_c6007)) e_110_11 (pm_sJ rfl (pm_jt (decide_eq_true (show (0 : Int32) ≤ v1 from Int32.le_iff_toInt_le.mpr (by have e1 : (0 : Int32).toInt = 0 := (by decide +kernel); omega))))) ?_
  refine pm_r (F' := (17, [(3, .ref 41), (0, .ref 1), (1, .int (-1)), (2, .int v1)], [.ref 1], ph_c6007)) e_110_16 rfl ?_
  refine pm_r (F' := (20, [(3, .ref 41), (0, .ref 1), (1, .int (-1)), (2, .int v1)], [.ref 4], ph_c6007)) e_110_17 (pm_sG pf_traced_ph_c6007_1) ?_
  refine pm_r (F' := (21, [(3, .ref 41), (0, .ref 1), (1, .int (-1)), (2, .int v1)], [.ref 1, .ref 4], ph_c6007)) e_110_20 rfl ?_
  refine pm_r (F' := (24, [(3, .ref 41), (0, .ref 1), (1, .int (-1)), (2, .int v1)], [.ref 159, .ref 4], ph_c6007)) e_110_21 (pm_sG pf_traced_ph_c6007_2) ?_
  refine pm_r (F' := (25, [(3, .ref 41), (0, .ref 1), (1, .int (-1)), (2, .int v1)], [.ref 41, .ref 159, .ref 4], ph_c6007)) e_110_24 rfl ?_
  refine pm_r (F' := (28, [(3, .ref 41), (0, .ref 1), (1, .int (-1)), (2, .int v1)], [.int 1], ph_c6013)) e_110_25 (pm_sV em_86 rfl rfl pf_traced_ph_c6007_3 pcc_6013) ?_
  refine pm_r (F' := (34, [(3, .ref 41), (0, .ref 1), (1, .int (-1)), (2, .int v1)], [], ph_c6013)) e_110_28 rfl ?_
  refine pm_r (F' := (35, [(3, .ref 41), (0, .ref 1), (1, .int (-1)), (2, .int v1)], [.ref 1], ph_c6013)) e_110_34 rfl ?_
  refine pm_r (F' := (38, [(3, .ref 41), (0, .ref 1), (1, .int (-1)), (2, .int v1)], [.ref 4], ph_c6013)) e_110_35 (pm_sG pf_traced_ph_c6013_0) ?_
  refine pm_r (F' := (39, [(3, .ref 41), (0, .ref 1), (1, .int (-1)), (2, .int v1)], [.int v1, .ref 4], ph_c6013)) e_110_38 rfl ?_
  refine pm_r (F' := (42, [(3, .ref 41), (0, .ref 1), (1, .int (-1)), (2, .int v1)], [.int (-1)], ph_c6013)) e_110_39 (pm_sV em_97 rfl rfl pf_traced_ph_c6013_2 (pcw_6014 v1 h18)) ?_
  exact pm_rE e_110_42 rfl
noncomputable def ph_c6016 : pm_H := pt_h (pC 8 181 [.ref 225, .int (-1)] ph_c6013)
set_option maxRecDepth 100000 in
theorem pcc_6016 : pC 8 181 [.ref 225, .int (-1)] ph_c6013 = some ((some (.long 0)), ph_c6016) := pt_some (by decide +kernel)
noncomputable def ph_c6017 : pm_H := pt_h (pC 8 189 [.long 0] ph_c6016)
set_option maxRecDepth 100000 in
theorem pf_traced_ph_c6017 : (pm_clsOk 11 (pm_cell ph_c6017 225) = true) := by decide +kernel
theorem pf_traced_ph_c6017_0 : pm_clsOk 11 (pm_cell ph_c6017 225) = true := pf_traced_ph_c6017
set_option maxRecDepth 100000 in
theorem pcc_6017 : pC 8 189 [.long 0] ph_c6016 = some ((some (.int 1)), ph_c6017) := pt_some (by decide +kernel)
noncomputable def ph_c6018 : pm_H := pt_h (pC 8 193 [.ref 225, .int (-1)] ph_c6017)
set_option maxRecDepth 100000 in
theorem pf_traced_ph_c6018 : (pm_gf 11 42 (pm_cell ph_c6018 225) = some (.int 0)) ∧ (Nat.ble ph_c6018.length 600000 = true) ∧ (Nat.ble (pm_sls ph_c6018) 7302250 = true) := by decide +kernel
theorem pf_traced_ph_c6018_0 : pm_gf 11 42 (pm_cell ph_c6018 225) = some (.int 0) := pf_traced_ph_c6018.1
theorem pf_traced_ph_c6018_1 : Nat.ble ph_c6018.length 600000 = true := pf_traced_ph_c6018.2.1
theorem pf_traced_ph_c6018_2 : Nat.ble (pm_sls ph_c6018) 7302250 = true := pf_traced_ph_c6018.2.2
set_option maxRecDepth 100000 in
theorem pcc_6018 : pC 8 193 [.ref 225, .int (-1)] ph_c6017 = some (none, ph_c6018) := pt_some (by decide +kernel)
theorem pcw_6019 (v1 : Int32) (h18 : 0 ≤ v1.toInt) : pC 9 194 [.ref 225, .int (-1), .int v1] ph_c6013 = some ((some (.int (-1))), ph_c6018) := by
  refine pm_cE em_194 rfl ?_
  refine pm_r (F' := (1, [(0, .ref 225), (1, .int (-1)), (2, .int v1)], [.int (-1)], ph_c6013)) e_194_0 rfl ?_
  refine pm_r (F' := (2, [(0, .ref 225), (1, .int (-1)), (2, .int v1)], [.int (-1), .int (-1)], ph_c6013)) e_194_1 rfl ?_
  refine pm_r (F' := (15, [(0, .ref 225), (1, .int (-1)), (2, .int v1)], [], ph_c6013)) e_194_2 rfl ?_
  refine pm_r (F' := (16, [(0, .ref 225), (1, .int (-1)), (2, .int v1)], [.ref 225], ph_c6013)) e_194_15 rfl ?_
  refine pm_r (F' := (17, [(0, .ref 225), (1, .int (-1)), (2, .int v1)], [.int (-1), .ref 225], ph_c6013)) e_194_16 rfl ?_
  refine pm_r (F' := (20, [(0, .ref 225), (1, .int (-1)), (2, .int v1)], [.long 0], ph_c6016)) e_194_17 (pm_sV em_181 rfl rfl pf_traced_ph_c6013_3 pcc_6016) ?_
  refine pm_r (F' := (23, [(0, .ref 225), (1, .int (-1)), (2, .int v1)], [.int 1], ph_c6017)) e_194_20 (pm_sS em_189 rfl rfl pcc_6017) ?_
  refine pm_r (F' := (29, [(0, .ref 225), (1, .int (-1)), (2, .int v1)], [], ph_c6017)) e_194_23 rfl ?_
  refine pm_r (F' := (30, [(0, .ref 225), (1, .int (-1)), (2, .int v1)], [.ref 225], ph_c6017)) e_194_29 rfl ?_
  refine pm_r (F' := (31, [(0, .ref 225), (1, .int (-1)), (2, .int v1)], [.int (-1), .ref 225], ph_c6017)) e_194_30 rfl ?_
  refine pm_r (F' := (34, [(0, .ref 225), (1, .int (-1)), (2, .int v1)], [], ph_c6018)) e_194_31 (pm_sV em_193 rfl rfl pf_traced_ph_c6017_0 pcc_6018) ?_
  refine pm_r (F' := (35, [(0, .ref 225), (1, .int (-1)), (2, .int v1)], [.int v1], ph_c6018)) e_194_34 rfl ?_
  refine pm_r (F' := (38, [(0, .ref 225), (1, .int (-1)), (2, .int v1)], [], ph_c6018)) e_194_35 (pm_sJ rfl (pm_jf (decide_eq_false (show ¬ v1 < (0 : Int32) from fun h => absurd (Int32.lt_iff_toInt_lt.mp h) (by have e1 : (0 : Int32).toInt = 0 := (by decide +kernel); omega))))) ?_
  refine pm_r (F' := (39, [(0, .ref 225), (1, .int (-1)), (2, .int v1)], [.int v1], ph_c6018)) e_194_38 rfl ?_
  refine pm_r (F' := (40, [(0, .ref 225), (1, .int (-1)), (2, .int v1)], [.ref 225, .int v1], ph_c6018)) e_194_39 rfl ?_
  refine pm_r (F' := (43, [(0, .ref 225), (1, .int (-1)), (2, .int v1)], [.int 0, .int v1], ph_c6018)) e_194_40 (pm_sG pf_traced_ph_c6018_0) ?_
  refine pm_r (F' := (60, [(0, .ref 225), (1, .int (-1)), (2, .int v1)], [], ph_c6018)) e_194_43 (pm_sJ rfl (pm_jt (decide_eq_true (show (0 : Int32) ≤ v1 from Int32.le_iff_toInt_le.mpr (by have e1 : (0 : Int32).toInt = 0 := (by decide +kernel); omega))))) ?_
  refine pm_r (F' := (61, [(0, .ref 225), (1, .int (-1)), (2, .int v1)], [.int (-1)], ph_c6018)) e_194_60 rfl ?_
  exact pm_rE e_194_61 rfl
theorem pcw_6020 (v0 : Int32) (h16 : (-1) ≤ v0.toInt) (h17 : 0 ≤ v0.toInt) : pC 7 134 [.ref 1, .int v0] ph_3 = some ((some (.int 0)), ph_3) := by
  refine pm_cE em_134 rfl ?_
  refine pm_r (F' := (1, [(0, .ref 1), (1, .int v0)], [.int v0], ph_3)) e_134_0 rfl ?_
  refine pm_r (F' := (4, [(0, .ref 1), (1, .int v0)], [], ph_3)) e_134_1 (pm_sJ rfl (pm_jf (decide_eq_false (show ¬ v0 < (0 : Int32) from fun h => absurd (Int32.lt_iff_toInt_lt.mp h) (by have e1 : (0 : Int32).toInt = 0 := (by decide +kernel); omega))))) ?_
  refine pm_r (F' := (5, [(0, .ref 1), (1, .int v0)], [.int v0], ph_3)) e_134_4 rfl ?_
  refine pm_r (F' := (6, [(0, .ref 1), (1, .int v0)], [.ref 1, .int v0], ph_3)) e_134_5 rfl ?_
  refine pm_r (F' := (9, [(0, .ref 1), (1, .int v0)], [.ref 159, .int v0], ph_3)) e_134_6 (pm_sG pf_traced_ph_3_4) ?_
  refine pm_r (F' := (12, [(0, .ref 1), (1, .int v0)], [.int 0, .int v0], ph_3)) e_134_9 (pm_sG pf_traced_ph_3_5) ?_
  refine pm_r (F' := (19, [(0, .ref 1), (1, .int v0)], [], ph_3)) e_134_12 (pm_sJ rfl (pm_jt (decide_eq_true (show (0 : Int32) ≤ v0 from Int32.le_iff_toInt_le.mpr (by have e1 : (0 : Int32).toInt = 0 := (by decide +kernel); omega))))) ?_
  refine pm_r (F' := (20, [(0, .ref 1), (1, .int v0)], [.int 0], ph_3)) e_134_19 rfl ?_
  exact pm_rE e_134_20 rfl
theorem pcw_6021 (v0 : Int32) (h16 : (-1) ≤ v0.toInt) (h17 : 0 ≤ v0.toInt) : pC 8 135 [.ref 1, .int v0] ph_3 = some ((some (.null)), ph_3) := by
  refine pm_cE em_135 rfl ?_
  refine pm_r (F' := (1, [(0, .ref 1), (1, .int v0)], [.int v0], ph_3)) e_135_0 rfl ?_
  refine pm_r (F' := (2, [(0, .ref 1), (1, .int v0)], [.int (-1), .int v0], ph_3)) e_135_1 rfl ?_
  refine pm_r (F' := (13, [(0, .ref 1), (1, .int v0)], [], ph_3)) e_135_2 (pm_sJ rfl (pm_jt (decide_eq_true (show ¬ v0 = (-1 : Int32) from fun h => absurd (congrArg Int32.toInt h) (by have e1 : (-1 : Int32).toInt = -1 := (by decide +kernel); omega))))) ?_
  refine pm_r (F' := (14, [(0, .ref 1), (1, .int v0)], [.ref 1], ph_3)) e_135_13 rfl ?_
  refine pm_r (F' := (15, [(0, .ref 1), (1, .int v0)], [.int v0, .ref 1], ph_3)) e_135_14 rfl ?_
  refine pm_r (F' := (18, [(0, .ref 1), (1, .int v0)], [.int 0], ph_3)) e_135_15 (pm_sV em_134 rfl rfl pf_traced_ph_3_0 (pcw_6020 v0 h16 h17)) ?_
  refine pm_r (F' := (33, [(0, .ref 1), (1, .int v0)], [], ph_3)) e_135_18 rfl ?_
  refine pm_r (F' := (34, [(0, .ref 1), (1, .int v0)], [.null], ph_3)) e_135_33 rfl ?_
  exact pm_rE e_135_34 rfl
theorem pcw_6022 (v0 : Int32) (h16 : (-1) ≤ v0.toInt) (h17 : 0 ≤ v0.toInt) (v1 : Int32) : pC 9 110 [.ref 1, .int v0, .int v1] ph_3 = some ((some (.int (-1))), ph_3) := by
  refine pm_cE em_110 rfl ?_
  refine pm_r (F' := (1, [(0, .ref 1), (1, .int v0), (2, .int v1)], [.ref 1], ph_3)) e_110_0 rfl ?_
  refine pm_r (F' := (2, [(0, .ref 1), (1, .int v0), (2, .int v1)], [.int v0, .ref 1], ph_3)) e_110_1 rfl ?_
  refine pm_r (F' := (5, [(0, .ref 1), (1, .int v0), (2, .int v1)], [.null], ph_3)) e_110_2 (pm_sV em_135 rfl rfl pf_traced_ph_3_0 (pcw_6021 v0 h16 h17)) ?_
  refine pm_r (F' := (6, [(3, .null), (0, .ref 1), (1, .int v0), (2, .int v1)], [], ph_3)) e_110_5 rfl ?_
  refine pm_r (F' := (7, [(3, .null), (0, .ref 1), (1, .int v0), (2, .int v1)], [.null], ph_3)) e_110_6 rfl ?_
  refine pm_r (F' := (14, [(3, .null), (0, .ref 1), (1, .int v0), (2, .int v1)], [], ph_3)) e_110_7 rfl ?_
  refine pm_r (F' := (15, [(3, .null), (0, .ref 1), (1, .int v0), (2, .int v1)], [.int (-1)], ph_3)) e_110_14 rfl ?_
  exact pm_rE e_110_15 rfl
theorem pcw_6023 (v0 : Int32) (h16 : (-1) ≤ v0.toInt) (h17 : 0 ≤ v0.toInt) : pC 8 173 [.ref 225, .int v0] ph_3 = some ((some (.int 0)), ph_3) := by
  refine pm_cE em_173 rfl ?_
  refine pm_r (F' := (1, [(0, .ref 225), (1, .int v0)], [.int v0], ph_3)) e_173_0 rfl ?_
  refine pm_r (F' := (4, [(0, .ref 225), (1, .int v0)], [], ph_3)) e_173_1 (pm_sJ rfl (pm_jf (decide_eq_false (show ¬ v0 < (0 : Int32) from fun h => absurd (Int32.lt_iff_toInt_lt.mp h) (by have e1 : (0 : Int32).toInt = 0 := (by decide +kernel); omega))))) ?_
  refine pm_r (F' := (5, [(0, .ref 225), (1, .int v0)], [.int v0], ph_3)) e_173_4 rfl ?_
  refine pm_r (F' := (6, [(0, .ref 225), (1, .int v0)], [.ref 225, .int v0], ph_3)) e_173_5 rfl ?_
  refine pm_r (F' := (9, [(0, .ref 225), (1, .int v0)], [.int 0, .int v0], ph_3)) e_173_6 (pm_sG pf_traced_ph_3_6) ?_
  refine pm_r (F' := (16, [(0, .ref 225), (1, .int v0)], [], ph_3)) e_173_9 (pm_sJ rfl (pm_jt (decide_eq_true (show (0 : Int32) ≤ v0 from Int32.le_iff_toInt_le.mpr (by have e1 : (0 : Int32).toInt = 0 := (by decide +kernel); omega))))) ?_
  refine pm_r (F' := (17, [(0, .ref 225), (1, .int v0)], [.int 0], ph_3)) e_173_16 rfl ?_
  exact pm_rE e_173_17 rfl
theorem pcw_6024 (v0 : Int32) (h16 : (-1) ≤ v0.toInt) (h17 : 0 ≤ v0.toInt) (v1 : Int32) : pC 9 194 [.ref 225, .int v0, .int v1] ph_3 = some ((some (.int (-1))), ph_3) := by
  refine pm_cE em_194 rfl ?_
  refine pm_r (F' := (1, [(0, .ref 225), (1, .int v0), (2, .int v1)], [.int v0], ph_3)) e_194_0 rfl ?_
  refine pm_r (F' := (2, [(0, .ref 225), (1, .int v0), (2, .int v1)], [.int (-1), .int v0], ph_3)) e_194_1 rfl ?_
  refine pm_r (F' := (5, [(0, .ref 225), (1, .int v0), (2, .int v1)], [], ph_3)) e_194_2 (pm_sJ rfl (pm_jf (decide_eq_false (show ¬ v0 = (-1 : Int32) from fun h => absurd (congrArg Int32.toInt h) (by have e1 : (-1 : Int32).toInt = -1 := (by decide +kernel); omega))))) ?_
  refine pm_r (F' := (6, [(0, .ref 225), (1, .int v0), (2, .int v1)], [.ref 225], ph_3)) e_194_5 rfl ?_
  refine pm_r (F' := (7, [(0, .ref 225), (1, .int v0), (2, .int v1)], [.int v0, .ref 225], ph_3)) e_194_6 rfl ?_
  refine pm_r (F' := (10, [(0, .ref 225), (1, .int v0), (2, .int v1)], [.int 0], ph_3)) e_194_7 (pm_sV em_173 rfl rfl pf_traced_ph_3_1 (pcw_6023 v0 h16 h17)) ?_
  refine pm_r (F' := (13, [(0, .ref 225), (1, .int v0), (2, .int v1)], [], ph_3)) e_194_10 rfl ?_
  refine pm_r (F' := (14, [(0, .ref 225), (1, .int v0), (2, .int v1)], [.int (-1)], ph_3)) e_194_13 rfl ?_
  exact pm_rE e_194_14 rfl
set_option maxRecDepth 100000 in
theorem pq_traced (v0 : Int32) (v1 : Int32) : ∃ r : Int32, pq_ok 110 194 [.int v0, .int v1] (.int r) := by
  rcases (show v0.toInt < (-1) ∨ (-1) ≤ v0.toInt by omega) with h16 | h16
  · exact ⟨(-1), ph_3, ph_3, (pcw_6003 v0 h16 v1), (pcw_6005 v0 h16 v1), pf_traced_ph_3_1, Nat.le_of_ble_eq_true pf_traced_ph_3_2, Nat.le_of_ble_eq_true pf_traced_ph_3_3⟩
  · rcases (show v0.toInt < 0 ∨ 0 ≤ v0.toInt by omega) with h17 | h17
    · obtain rfl : v0 = (-1) := Int32.toInt_inj.mp (by have e : (-1 : Int32).toInt = -1 := (by decide +kernel); omega)
      rcases (show v1.toInt < 0 ∨ 0 ≤ v1.toInt by omega) with h18 | h18
      · exact ⟨(-1), ph_c6007, ph_c6011, (pcw_6008 v1 h18), (pcw_6012 v1 h18), pf_traced_ph_c6007_0, Nat.le_of_ble_eq_true pf_traced_ph_c6011_0, Nat.le_of_ble_eq_true pf_traced_ph_c6011_1⟩
      · exact ⟨(-1), ph_c6013, ph_c6018, (pcw_6015 v1 h18), (pcw_6019 v1 h18), pf_traced_ph_c6013_3, Nat.le_of_ble_eq_true pf_traced_ph_c6018_1, Nat.le_of_ble_eq_true pf_traced_ph_c6018_2⟩
    · exact ⟨(-1), ph_3, ph_3, (pcw_6022 v0 h16 h17 v1), (pcw_6024 v0 h16 h17 v1), pf_traced_ph_3_1, Nat.le_of_ble_eq_true pf_traced_ph_3_2, Nat.le_of_ble_eq_true pf_traced_ph_3_3⟩

/-! number on fresh objects, by program -/
theorem em_108 : pm_ms 108 = some (yX10_number, cX10_number, 4, (some .long), 2, 10) := rfl
theorem em_133 : pm_ms 133 = some (yX10_isEdge, cX10_isEdge, 2, (some .boolean), 1, 10) := rfl
theorem em_134 : pm_ms 134 = some (yX10_isLine, cX10_isLine, 2, (some .boolean), 1, 10) := rfl
theorem em_135 : pm_ms 135 = some (yX10_numbersOf, cX10_numbersOf, 2, (some (.array .long)), 1, 10) := rfl
theorem em_161 : pm_ms 161 = some (yX11_edges, cX11_edges, 1, (some .int), 0, 11) := rfl
theorem em_173 : pm_ms 173 = some (yX11_isLine, cX11_isLine, 2, (some .boolean), 1, 11) := rfl
theorem em_175 : pm_ms 175 = some (yX11_isEdge, cX11_isEdge, 2, (some .boolean), 1, 11) := rfl
theorem em_191 : pm_ms 191 = some (yX11_number, cX11_number, 3, (some .long), 2, 11) := rfl
theorem e_108_0 : pm_ins 108 0 = some (.aload_n 0, 1, 0, 0, 0, []) := rfl
theorem e_108_1 : pm_ins 108 1 = some (.iload_n 1, 1, 0, 0, 0, []) := rfl
theorem e_108_2 : pm_ins 108 2 = some (.invokevirtual 136, 3, 135, 0, 0, [(4, 4), (4, 6), (0, 32)]) := rfl
theorem e_108_5 : pm_ins 108 5 = some (.astore_n 3, 1, 0, 0, 0, []) := rfl
theorem e_108_6 : pm_ins 108 6 = some (.aload_n 3, 1, 0, 0, 0, []) := rfl
theorem e_108_7 : pm_ins 108 7 = some (.ifnull 11, 3, 18, 0, 0, []) := rfl
theorem e_108_10 : pm_ins 108 10 = some (.aload_n 0, 1, 0, 0, 0, []) := rfl
theorem e_108_11 : pm_ins 108 11 = some (.iload_n 2, 1, 0, 0, 0, []) := rfl
theorem e_108_12 : pm_ins 108 12 = some (.invokevirtual 140, 3, 133, 0, 0, [(4, 13), (4, 15), (0, 34)]) := rfl
theorem e_108_15 : pm_ins 108 15 = some (.ifCond .ne 7, 3, 22, 0, 0, []) := rfl
theorem e_108_18 : pm_ins 108 18 = some (.ldc2_w 144, 3, 0, 0, (-2), [(4, 17)]) := rfl
theorem e_108_21 : pm_ins 108 21 = some (.lreturn, 1, 0, 0, 0, []) := rfl
theorem e_133_0 : pm_ins 133 0 = some (.iload_n 1, 1, 0, 0, 0, []) := rfl
theorem e_133_1 : pm_ins 133 1 = some (.ifCond .lt 18, 3, 19, 0, 0, []) := rfl
theorem e_133_4 : pm_ins 133 4 = some (.iload_n 1, 1, 0, 0, 0, []) := rfl
theorem e_133_5 : pm_ins 133 5 = some (.aload_n 0, 1, 0, 0, 0, []) := rfl
theorem e_133_6 : pm_ins 133 6 = some (.getfield 84, 3, 10, 13, 3, [(2, 184)]) := rfl
theorem e_133_9 : pm_ins 133 9 = some (.getfield 235, 3, 8, 1, 0, [(2, 93)]) := rfl
theorem e_133_12 : pm_ins 133 12 = some (.if_icmp .ge 7, 3, 19, 0, 0, []) := rfl
theorem e_133_19 : pm_ins 133 19 = some (.iconst 0, 1, 0, 0, 0, []) := rfl
theorem e_133_20 : pm_ins 133 20 = some (.ireturn, 1, 0, 0, 0, []) := rfl
theorem e_134_0 : pm_ins 134 0 = some (.iload_n 1, 1, 0, 0, 0, []) := rfl
theorem e_134_1 : pm_ins 134 1 = some (.ifCond .lt 18, 3, 19, 0, 0, []) := rfl
theorem e_134_4 : pm_ins 134 4 = some (.iload_n 1, 1, 0, 0, 0, []) := rfl
theorem e_134_5 : pm_ins 134 5 = some (.aload_n 0, 1, 0, 0, 0, []) := rfl
theorem e_134_6 : pm_ins 134 6 = some (.getfield 84, 3, 10, 13, 3, [(2, 184)]) := rfl
theorem e_134_9 : pm_ins 134 9 = some (.getfield 126, 3, 8, 3, 0, [(2, 98)]) := rfl
theorem e_134_12 : pm_ins 134 12 = some (.if_icmp .ge 7, 3, 19, 0, 0, []) := rfl
theorem e_134_19 : pm_ins 134 19 = some (.iconst 0, 1, 0, 0, 0, []) := rfl
theorem e_134_20 : pm_ins 134 20 = some (.ireturn, 1, 0, 0, 0, []) := rfl
theorem e_135_0 : pm_ins 135 0 = some (.iload_n 1, 1, 0, 0, 0, []) := rfl
theorem e_135_1 : pm_ins 135 1 = some (.iconst (-1), 1, 0, 0, 0, []) := rfl
theorem e_135_2 : pm_ins 135 2 = some (.if_icmp .ne 11, 3, 13, 0, 0, []) := rfl
theorem e_135_13 : pm_ins 135 13 = some (.aload_n 0, 1, 0, 0, 0, []) := rfl
theorem e_135_14 : pm_ins 135 14 = some (.iload_n 1, 1, 0, 0, 0, []) := rfl
theorem e_135_15 : pm_ins 135 15 = some (.invokevirtual 256, 3, 134, 0, 0, [(4, 9), (4, 11), (0, 33)]) := rfl
theorem e_135_18 : pm_ins 135 18 = some (.ifCond .eq 15, 3, 33, 0, 0, []) := rfl
theorem e_135_33 : pm_ins 135 33 = some (.aconst_null, 1, 0, 0, 0, []) := rfl
theorem e_135_34 : pm_ins 135 34 = some (.areturn, 1, 0, 0, 0, []) := rfl
theorem e_173_0 : pm_ins 173 0 = some (.iload_n 1, 1, 0, 0, 0, []) := rfl
theorem e_173_1 : pm_ins 173 1 = some (.ifCond .lt 15, 3, 16, 0, 0, []) := rfl
theorem e_173_4 : pm_ins 173 4 = some (.iload_n 1, 1, 0, 0, 0, []) := rfl
theorem e_173_5 : pm_ins 173 5 = some (.aload_n 0, 1, 0, 0, 0, []) := rfl
theorem e_173_6 : pm_ins 173 6 = some (.getfield 293, 3, 11, 27, 0, [(5, 132)]) := rfl
theorem e_173_9 : pm_ins 173 9 = some (.if_icmp .ge 7, 3, 16, 0, 0, []) := rfl
theorem e_173_16 : pm_ins 173 16 = some (.iconst 0, 1, 0, 0, 0, []) := rfl
theorem e_173_17 : pm_ins 173 17 = some (.ireturn, 1, 0, 0, 0, []) := rfl
theorem e_175_0 : pm_ins 175 0 = some (.iload_n 1, 1, 0, 0, 0, []) := rfl
theorem e_175_1 : pm_ins 175 1 = some (.ifCond .lt 15, 3, 16, 0, 0, []) := rfl
theorem e_175_4 : pm_ins 175 4 = some (.iload_n 1, 1, 0, 0, 0, []) := rfl
theorem e_175_5 : pm_ins 175 5 = some (.aload_n 0, 1, 0, 0, 0, []) := rfl
theorem e_175_6 : pm_ins 175 6 = some (.invokevirtual 315, 3, 161, 0, 0, [(6, 228), (6, 230), (0, 77)]) := rfl
theorem e_175_9 : pm_ins 175 9 = some (.if_icmp .ge 7, 3, 16, 0, 0, []) := rfl
theorem e_175_16 : pm_ins 175 16 = some (.iconst 0, 1, 0, 0, 0, []) := rfl
theorem e_175_17 : pm_ins 175 17 = some (.ireturn, 1, 0, 0, 0, []) := rfl
theorem e_191_0 : pm_ins 191 0 = some (.iload_n 1, 1, 0, 0, 0, []) := rfl
theorem e_191_1 : pm_ins 191 1 = some (.iconst (-1), 1, 0, 0, 0, []) := rfl
theorem e_191_2 : pm_ins 191 2 = some (.if_icmp .eq 11, 3, 13, 0, 0, []) := rfl
theorem e_191_5 : pm_ins 191 5 = some (.aload_n 0, 1, 0, 0, 0, []) := rfl
theorem e_191_6 : pm_ins 191 6 = some (.iload_n 1, 1, 0, 0, 0, []) := rfl
theorem e_191_7 : pm_ins 191 7 = some (.invokevirtual 372, 3, 173, 0, 0, [(7, 64), (7, 66), (0, 92)]) := rfl
theorem e_191_10 : pm_ins 191 10 = some (.ifCond .eq 11, 3, 21, 0, 0, []) := rfl
theorem e_191_13 : pm_ins 191 13 = some (.aload_n 0, 1, 0, 0, 0, []) := rfl
theorem e_191_14 : pm_ins 191 14 = some (.iload_n 2, 1, 0, 0, 0, []) := rfl
theorem e_191_15 : pm_ins 191 15 = some (.invokevirtual 375, 3, 175, 0, 0, [(7, 68), (7, 70), (0, 93)]) := rfl
theorem e_191_18 : pm_ins 191 18 = some (.ifCond .ne 9, 3, 27, 0, 0, []) := rfl
theorem e_191_21 : pm_ins 191 21 = some (.ldc2_w 378, 3, 0, 0, (-2), [(7, 72)]) := rfl
theorem e_191_24 : pm_ins 191 24 = some (.goto 28, 3, 52, 0, 0, []) := rfl
theorem e_191_52 : pm_ins 191 52 = some (.lreturn, 1, 0, 0, 0, []) := rfl
set_option maxRecDepth 100000 in
theorem pf_number_ph_3 : (pm_clsOk 10 (pm_cell ph_3 1) = true) ∧ (pm_clsOk 11 (pm_cell ph_3 225) = true) ∧ (Nat.ble ph_3.length 600000 = true) ∧ (Nat.ble (pm_sls ph_3) 7302250 = true) ∧ (pm_gf 10 13 (pm_cell ph_3 1) = some (.ref 159)) ∧ (pm_gf 8 3 (pm_cell ph_3 159) = some (.int 0)) ∧ (pm_gf 11 27 (pm_cell ph_3 225) = some (.int 0)) := by decide +kernel
theorem pf_number_ph_3_0 : pm_clsOk 10 (pm_cell ph_3 1) = true := pf_number_ph_3.1
theorem pf_number_ph_3_1 : pm_clsOk 11 (pm_cell ph_3 225) = true := pf_number_ph_3.2.1
theorem pf_number_ph_3_2 : Nat.ble ph_3.length 600000 = true := pf_number_ph_3.2.2.1
theorem pf_number_ph_3_3 : Nat.ble (pm_sls ph_3) 7302250 = true := pf_number_ph_3.2.2.2.1
theorem pf_number_ph_3_4 : pm_gf 10 13 (pm_cell ph_3 1) = some (.ref 159) := pf_number_ph_3.2.2.2.2.1
theorem pf_number_ph_3_5 : pm_gf 8 3 (pm_cell ph_3 159) = some (.int 0) := pf_number_ph_3.2.2.2.2.2.1
theorem pf_number_ph_3_6 : pm_gf 11 27 (pm_cell ph_3 225) = some (.int 0) := pf_number_ph_3.2.2.2.2.2.2
theorem pcw_4001 (v0 : Int32) (h7 : v0.toInt < (-1)) : pC 7 134 [.ref 1, .int v0] ph_3 = some ((some (.int 0)), ph_3) := by
  refine pm_cE em_134 rfl ?_
  refine pm_r (F' := (1, [(0, .ref 1), (1, .int v0)], [.int v0], ph_3)) e_134_0 rfl ?_
  refine pm_r (F' := (19, [(0, .ref 1), (1, .int v0)], [], ph_3)) e_134_1 (pm_sJ rfl (pm_jt (decide_eq_true (show v0 < (0 : Int32) from Int32.lt_iff_toInt_lt.mpr (by have e1 : (0 : Int32).toInt = 0 := (by decide +kernel); omega))))) ?_
  refine pm_r (F' := (20, [(0, .ref 1), (1, .int v0)], [.int 0], ph_3)) e_134_19 rfl ?_
  exact pm_rE e_134_20 rfl
theorem pcw_4002 (v0 : Int32) (h7 : v0.toInt < (-1)) : pC 8 135 [.ref 1, .int v0] ph_3 = some ((some (.null)), ph_3) := by
  refine pm_cE em_135 rfl ?_
  refine pm_r (F' := (1, [(0, .ref 1), (1, .int v0)], [.int v0], ph_3)) e_135_0 rfl ?_
  refine pm_r (F' := (2, [(0, .ref 1), (1, .int v0)], [.int (-1), .int v0], ph_3)) e_135_1 rfl ?_
  refine pm_r (F' := (13, [(0, .ref 1), (1, .int v0)], [], ph_3)) e_135_2 (pm_sJ rfl (pm_jt (decide_eq_true (show ¬ v0 = (-1 : Int32) from fun h => absurd (congrArg Int32.toInt h) (by have e1 : (-1 : Int32).toInt = -1 := (by decide +kernel); omega))))) ?_
  refine pm_r (F' := (14, [(0, .ref 1), (1, .int v0)], [.ref 1], ph_3)) e_135_13 rfl ?_
  refine pm_r (F' := (15, [(0, .ref 1), (1, .int v0)], [.int v0, .ref 1], ph_3)) e_135_14 rfl ?_
  refine pm_r (F' := (18, [(0, .ref 1), (1, .int v0)], [.int 0], ph_3)) e_135_15 (pm_sV em_134 rfl rfl pf_number_ph_3_0 (pcw_4001 v0 h7)) ?_
  refine pm_r (F' := (33, [(0, .ref 1), (1, .int v0)], [], ph_3)) e_135_18 rfl ?_
  refine pm_r (F' := (34, [(0, .ref 1), (1, .int v0)], [.null], ph_3)) e_135_33 rfl ?_
  exact pm_rE e_135_34 rfl
theorem pcw_4003 (v0 : Int32) (h7 : v0.toInt < (-1)) (v1 : Int32) : pC 9 108 [.ref 1, .int v0, .int v1] ph_3 = some ((some (.long (-2))), ph_3) := by
  refine pm_cE em_108 rfl ?_
  refine pm_r (F' := (1, [(0, .ref 1), (1, .int v0), (2, .int v1)], [.ref 1], ph_3)) e_108_0 rfl ?_
  refine pm_r (F' := (2, [(0, .ref 1), (1, .int v0), (2, .int v1)], [.int v0, .ref 1], ph_3)) e_108_1 rfl ?_
  refine pm_r (F' := (5, [(0, .ref 1), (1, .int v0), (2, .int v1)], [.null], ph_3)) e_108_2 (pm_sV em_135 rfl rfl pf_number_ph_3_0 (pcw_4002 v0 h7)) ?_
  refine pm_r (F' := (6, [(3, .null), (0, .ref 1), (1, .int v0), (2, .int v1)], [], ph_3)) e_108_5 rfl ?_
  refine pm_r (F' := (7, [(3, .null), (0, .ref 1), (1, .int v0), (2, .int v1)], [.null], ph_3)) e_108_6 rfl ?_
  refine pm_r (F' := (18, [(3, .null), (0, .ref 1), (1, .int v0), (2, .int v1)], [], ph_3)) e_108_7 rfl ?_
  refine pm_r (F' := (21, [(3, .null), (0, .ref 1), (1, .int v0), (2, .int v1)], [.long (-2)], ph_3)) e_108_18 rfl ?_
  exact pm_rE e_108_21 rfl
theorem pcw_4004 (v0 : Int32) (h7 : v0.toInt < (-1)) : pC 8 173 [.ref 225, .int v0] ph_3 = some ((some (.int 0)), ph_3) := by
  refine pm_cE em_173 rfl ?_
  refine pm_r (F' := (1, [(0, .ref 225), (1, .int v0)], [.int v0], ph_3)) e_173_0 rfl ?_
  refine pm_r (F' := (16, [(0, .ref 225), (1, .int v0)], [], ph_3)) e_173_1 (pm_sJ rfl (pm_jt (decide_eq_true (show v0 < (0 : Int32) from Int32.lt_iff_toInt_lt.mpr (by have e1 : (0 : Int32).toInt = 0 := (by decide +kernel); omega))))) ?_
  refine pm_r (F' := (17, [(0, .ref 225), (1, .int v0)], [.int 0], ph_3)) e_173_16 rfl ?_
  exact pm_rE e_173_17 rfl
theorem pcw_4005 (v0 : Int32) (h7 : v0.toInt < (-1)) (v1 : Int32) : pC 9 191 [.ref 225, .int v0, .int v1] ph_3 = some ((some (.long (-2))), ph_3) := by
  refine pm_cE em_191 rfl ?_
  refine pm_r (F' := (1, [(0, .ref 225), (1, .int v0), (2, .int v1)], [.int v0], ph_3)) e_191_0 rfl ?_
  refine pm_r (F' := (2, [(0, .ref 225), (1, .int v0), (2, .int v1)], [.int (-1), .int v0], ph_3)) e_191_1 rfl ?_
  refine pm_r (F' := (5, [(0, .ref 225), (1, .int v0), (2, .int v1)], [], ph_3)) e_191_2 (pm_sJ rfl (pm_jf (decide_eq_false (show ¬ v0 = (-1 : Int32) from fun h => absurd (congrArg Int32.toInt h) (by have e1 : (-1 : Int32).toInt = -1 := (by decide +kernel); omega))))) ?_
  refine pm_r (F' := (6, [(0, .ref 225), (1, .int v0), (2, .int v1)], [.ref 225], ph_3)) e_191_5 rfl ?_
  refine pm_r (F' := (7, [(0, .ref 225), (1, .int v0), (2, .int v1)], [.int v0, .ref 225], ph_3)) e_191_6 rfl ?_
  refine pm_r (F' := (10, [(0, .ref 225), (1, .int v0), (2, .int v1)], [.int 0], ph_3)) e_191_7 (pm_sV em_173 rfl rfl pf_number_ph_3_1 (pcw_4004 v0 h7)) ?_
  refine pm_r (F' := (21, [(0, .ref 225), (1, .int v0), (2, .int v1)], [], ph_3)) e_191_10 rfl ?_
  refine pm_r (F' := (24, [(0, .ref 225), (1, .int v0), (2, .int v1)], [.long (-2)], ph_3)) e_191_21 rfl ?_
  refine pm_r (F' := (52, [(0, .ref 225), (1, .int v0), (2, .int v1)], [.long (-2)], ph_3)) e_191_24 rfl ?_
  exact pm_rE e_191_52 rfl
noncomputable def ph_c4007 : pm_H := pt_h (pC 8 135 [.ref 1, .int (-1)] ph_3)
set_option maxRecDepth 100000 in
theorem pf_number_ph_c4007 : (pm_clsOk 10 (pm_cell ph_c4007 1) = true) ∧ (pm_clsOk 11 (pm_cell ph_c4007 225) = true) ∧ (Nat.ble ph_c4007.length 600000 = true) ∧ (Nat.ble (pm_sls ph_c4007) 7302250 = true) ∧ (pm_gf 10 13 (pm_cell ph_c4007 1) = some (.ref 159)) ∧ (pm_gf 8 1 (pm_cell ph_c4007 159) = some (.int 0)) := by decide +kernel
theorem pf_number_ph_c4007_0 : pm_clsOk 10 (pm_cell ph_c4007 1) = true := pf_number_ph_c4007.1
theorem pf_number_ph_c4007_1 : pm_clsOk 11 (pm_cell ph_c4007 225) = true := pf_number_ph_c4007.2.1
theorem pf_number_ph_c4007_2 : Nat.ble ph_c4007.length 600000 = true := pf_number_ph_c4007.2.2.1
theorem pf_number_ph_c4007_3 : Nat.ble (pm_sls ph_c4007) 7302250 = true := pf_number_ph_c4007.2.2.2.1
theorem pf_number_ph_c4007_4 : pm_gf 10 13 (pm_cell ph_c4007 1) = some (.ref 159) := pf_number_ph_c4007.2.2.2.2.1
theorem pf_number_ph_c4007_5 : pm_gf 8 1 (pm_cell ph_c4007 159) = some (.int 0) := pf_number_ph_c4007.2.2.2.2.2
set_option maxRecDepth 100000 in
theorem pcc_4007 : pC 8 135 [.ref 1, .int (-1)] ph_3 = some ((some (.ref 41)), ph_c4007) := pt_some (by decide +kernel)
theorem pcw_4008 (v1 : Int32) (h9 : v1.toInt < 0) : pC 8 133 [.ref 1, .int v1] ph_c4007 = some ((some (.int 0)), ph_c4007) := by
  refine pm_cE em_133 rfl ?_
  refine pm_r (F' := (1, [(0, .ref 1), (1, .int v1)], [.int v1], ph_c4007)) e_133_0 rfl ?_
  refine pm_r (F' := (19, [(0, .ref 1), (1, .int v1)], [], ph_c4007)) e_133_1 (pm_sJ rfl (pm_jt (decide_eq_true (show v1 < (0 : Int32) from Int32.lt_iff_toInt_lt.mpr (by have e1 : (0 : Int32).toInt = 0 := (by decide +kernel); omega))))) ?_
  refine pm_r (F' := (20, [(0, .ref 1), (1, .int v1)], [.int 0], ph_c4007)) e_133_19 rfl ?_
  exact pm_rE e_133_20 rfl
theorem pcw_4009 (v1 : Int32) (h9 : v1.toInt < 0) : pC 9 108 [.ref 1, .int (-1), .int v1] ph_3 = some ((some (.long (-2))), ph_c4007) := by
  refine pm_cE em_108 rfl ?_
  refine pm_r (F' := (1, [(0, .ref 1), (1, .int (-1)), (2, .int v1)], [.ref 1], ph_3)) e_108_0 rfl ?_
  refine pm_r (F' := (2, [(0, .ref 1), (1, .int (-1)), (2, .int v1)], [.int (-1), .ref 1], ph_3)) e_108_1 rfl ?_
  refine pm_r (F' := (5, [(0, .ref 1), (1, .int (-1)), (2, .int v1)], [.ref 41], ph_c4007)) e_108_2 (pm_sV em_135 rfl rfl pf_number_ph_3_0 pcc_4007) ?_
  refine pm_r (F' := (6, [(3, .ref 41), (0, .ref 1), (1, .int (-1)), (2, .int v1)], [], ph_c4007)) e_108_5 rfl ?_
  refine pm_r (F' := (7, [(3, .ref 41), (0, .ref 1), (1, .int (-1)), (2, .int v1)], [.ref 41], ph_c4007)) e_108_6 rfl ?_
  refine pm_r (F' := (10, [(3, .ref 41), (0, .ref 1), (1, .int (-1)), (2, .int v1)], [], ph_c4007)) e_108_7 rfl ?_
  refine pm_r (F' := (11, [(3, .ref 41), (0, .ref 1), (1, .int (-1)), (2, .int v1)], [.ref 1], ph_c4007)) e_108_10 rfl ?_
  refine pm_r (F' := (12, [(3, .ref 41), (0, .ref 1), (1, .int (-1)), (2, .int v1)], [.int v1, .ref 1], ph_c4007)) e_108_11 rfl ?_
  refine pm_r (F' := (15, [(3, .ref 41), (0, .ref 1), (1, .int (-1)), (2, .int v1)], [.int 0], ph_c4007)) e_108_12 (pm_sV em_133 rfl rfl pf_number_ph_c4007_0 (pcw_4008 v1 h9)) ?_
  refine pm_r (F' := (18, [(3, .ref 41), (0, .ref 1), (1, .int (-1)), (2, .int v1)], [], ph_c4007)) e_108_15 rfl ?_
  refine pm_r (F' := (21, [(3, .ref 41), (0, .ref 1), (1, .int (-1)), (2, .int v1)], [.long (-2)], ph_c4007)) e_108_18 rfl ?_
  exact pm_rE e_108_21 rfl
theorem pcw_4010 (v1 : Int32) (h9 : v1.toInt < 0) : pC 8 175 [.ref 225, .int v1] ph_c4007 = some ((some (.int 0)), ph_c4007) := by
  refine pm_cE em_175 rfl ?_
  refine pm_r (F' := (1, [(0, .ref 225), (1, .int v1)], [.int v1], ph_c4007)) e_175_0 rfl ?_
  refine pm_r (F' := (16, [(0, .ref 225), (1, .int v1)], [], ph_c4007)) e_175_1 (pm_sJ rfl (pm_jt (decide_eq_true (show v1 < (0 : Int32) from Int32.lt_iff_toInt_lt.mpr (by have e1 : (0 : Int32).toInt = 0 := (by decide +kernel); omega))))) ?_
  refine pm_r (F' := (17, [(0, .ref 225), (1, .int v1)], [.int 0], ph_c4007)) e_175_16 rfl ?_
  exact pm_rE e_175_17 rfl
theorem pcw_4011 (v1 : Int32) (h9 : v1.toInt < 0) : pC 9 191 [.ref 225, .int (-1), .int v1] ph_c4007 = some ((some (.long (-2))), ph_c4007) := by
  refine pm_cE em_191 rfl ?_
  refine pm_r (F' := (1, [(0, .ref 225), (1, .int (-1)), (2, .int v1)], [.int (-1)], ph_c4007)) e_191_0 rfl ?_
  refine pm_r (F' := (2, [(0, .ref 225), (1, .int (-1)), (2, .int v1)], [.int (-1), .int (-1)], ph_c4007)) e_191_1 rfl ?_
  refine pm_r (F' := (13, [(0, .ref 225), (1, .int (-1)), (2, .int v1)], [], ph_c4007)) e_191_2 rfl ?_
  refine pm_r (F' := (14, [(0, .ref 225), (1, .int (-1)), (2, .int v1)], [.ref 225], ph_c4007)) e_191_13 rfl ?_
  refine pm_r (F' := (15, [(0, .ref 225), (1, .int (-1)), (2, .int v1)], [.int v1, .ref 225], ph_c4007)) e_191_14 rfl ?_
  refine pm_r (F' := (18, [(0, .ref 225), (1, .int (-1)), (2, .int v1)], [.int 0], ph_c4007)) e_191_15 (pm_sV em_175 rfl rfl pf_number_ph_c4007_1 (pcw_4010 v1 h9)) ?_
  refine pm_r (F' := (21, [(0, .ref 225), (1, .int (-1)), (2, .int v1)], [], ph_c4007)) e_191_18 rfl ?_
  refine pm_r (F' := (24, [(0, .ref 225), (1, .int (-1)), (2, .int v1)], [.long (-2)], ph_c4007)) e_191_21 rfl ?_
  refine pm_r (F' := (52, [(0, .ref 225), (1, .int (-1)), (2, .int v1)], [.long (-2)], ph_c4007)) e_191_24 rfl ?_
  exact pm_rE e_191_52 rfl
theorem pcw_4012 (v1 : Int32) (h9 : 0 ≤ v1.toInt) : pC 8 133 [.ref 1, .int v1] ph_c4007 = some ((some (.int 0)), ph_c4007) := by
  refine pm_cE em_133 rfl ?_
  refine pm_r (F' := (1, [(0, .ref 1), (1, .int v1)], [.int v1], ph_c4007)) e_133_0 rfl ?_
  refine pm_r (F' := (4, [(0, .ref 1), (1, .int v1)], [], ph_c4007)) e_133_1 (pm_sJ rfl (pm_jf (decide_eq_false (show ¬ v1 < (0 : Int32) from fun h => absurd (Int32.lt_iff_toInt_lt.mp h) (by have e1 : (0 : Int32).toInt = 0 := (by decide +kernel); omega))))) ?_
  refine pm_r (F' := (5, [(0, .ref 1), (1, .int v1)], [.int v1], ph_c4007)) e_133_4 rfl ?_
  refine pm_r (F' := (6, [(0, .ref 1), (1, .int v1)], [.ref 1, .int v1], ph_c4007)) e_133_5 rfl ?_
  refine pm_r (F' := (9, [(0, .ref 1), (1, .int v1)], [.ref 159, .int v1], ph_c4007)) e_133_6 (pm_sG pf_number_ph_c4007_4) ?_
  refine pm_r (F' := (12, [(0, .ref 1), (1, .int v1)], [.int 0, .int v1], ph_c4007)) e_133_9 (pm_sG pf_number_ph_c4007_5) ?_
  refine pm_r (F' := (19, [(0, .ref 1), (1, .int v1)], [], ph_c4007)) e_133_12 (pm_sJ rfl (pm_jt (decide_eq_true (show (0 : Int32) ≤ v1 from Int32.le_iff_toInt_le.mpr (by have e1 : (0 : Int32).toInt = 0 := (by decide +kernel); omega))))) ?_
  refine pm_r (F' := (20, [(0, .ref 1), (1, .int v1)], [.int 0], ph_c4007)) e_133_19 rfl ?_
  exact pm_rE e_133_20 rfl
theorem pcw_4013 (v1 : Int32) (h9 : 0 ≤ v1.toInt) : pC 9 108 [.ref 1, .int (-1), .int v1] ph_3 = some ((some (.long (-2))), ph_c4007) := by
  refine pm_cE em_108 rfl ?_
  refine pm_r (F' := (1, [(0, .ref 1), (1, .int (-1)), (2, .int v1)], [.ref 1], ph_3)) e_108_0 rfl ?_
  refine pm_r (F' := (2, [(0, .ref 1), (1, .int (-1)), (2, .int v1)], [.int (-1), .ref 1], ph_3)) e_108_1 rfl ?_
  refine pm_r (F' := (5, [(0, .ref 1), (1, .int (-1)), (2, .int v1)], [.ref 41], ph_c4007)) e_108_2 (pm_sV em_135 rfl rfl pf_number_ph_3_0 pcc_4007) ?_
  refine pm_r (F' := (6, [(3, .ref 41), (0, .ref 1), (1, .int (-1)), (2, .int v1)], [], ph_c4007)) e_108_5 rfl ?_
  refine pm_r (F' := (7, [(3, .ref 41), (0, .ref 1), (1, .int (-1)), (2, .int v1)], [.ref 41], ph_c4007)) e_108_6 rfl ?_
  refine pm_r (F' := (10, [(3, .ref 41), (0, .ref 1), (1, .int (-1)), (2, .int v1)], [], ph_c4007)) e_108_7 rfl ?_
  refine pm_r (F' := (11, [(3, .ref 41), (0, .ref 1), (1, .int (-1)), (2, .int v1)], [.ref 1], ph_c4007)) e_108_10 rfl ?_
  refine pm_r (F' := (12, [(3, .ref 41), (0, .ref 1), (1, .int (-1)), (2, .int v1)], [.int v1, .ref 1], ph_c4007)) e_108_11 rfl ?_
  refine pm_r (F' := (15, [(3, .ref 41), (0, .ref 1), (1, .int (-1)), (2, .int v1)], [.int 0], ph_c4007)) e_108_12 (pm_sV em_133 rfl rfl pf_number_ph_c4007_0 (pcw_4012 v1 h9)) ?_
  refine pm_r (F' := (18, [(3, .ref 41), (0, .ref 1), (1, .int (-1)), (2, .int v1)], [], ph_c4007)) e_108_15 rfl ?_
  refine pm_r (F' := (21, [(3, .ref 41), (0, .ref 1), (1, .int (-1)), (2, .int v1)], [.long (-2)], ph_c4007)) e_108_18 rfl ?_
  exact pm_rE e_108_21 rfl
noncomputable def ph_c4014 : pm_H := pt_h (pC 7 161 [.ref 225] ph_c4007)
set_option maxRecDepth 100000 in
theorem pf_number_ph_c4014 : (Nat.ble ph_c4014.length 600000 = true) ∧ (Nat.ble (pm_sls ph_c4014) 7302250 = true) := by decide +kernel
theorem pf_number_ph_c4014_0 : Nat.ble ph_c4014.length 600000 = true := pf_number_ph_c4014.1
theorem pf_number_ph_c4014_1 : Nat.ble (pm_sls ph_c4014) 7302250 = true := pf_number_ph_c4014.2
set_option maxRecDepth 100000 in
theorem pcc_4014 : pC 7 161 [.ref 225] ph_c4007 = some ((some (.int 0)), ph_c4014) := pt_some (by decide +kernel)
theorem pcw_4015 (v1 : Int32) (h9 : 0 ≤ v1.toInt) : pC 8 175 [.ref 225, .int v1] ph_c4007 = some ((some (.int 0)), ph_c4014) := by
  refine pm_cE em_175 rfl ?_
  refine pm_r (F' := (1, [(0, .ref 225), (1, .int v1)], [.int v1], ph_c4007)) e_175_0 rfl ?_
  refine pm_r (F' := (4, [(0, .ref 225), (1, .int v1)], [], ph_c4007)) e_175_1 (pm_sJ rfl (pm_jf (decide_eq_false (show ¬ v1 < (0 : Int32) from fun h => absurd (Int32.lt_iff_toInt_lt.mp h) (by have e1 : (0 : Int32).toInt = 0 := (by decide +kernel); omega))))) ?_
  refine pm_r (F' := (5, [(0, .ref 225), (1, .int v1)], [.int v1], ph_c4007)) e_175_4 rfl ?_
  refine pm_r (F' := (6, [(0, .ref 225), (1, .int v1)], [.ref 225, .int v1], ph_c4007)) e_175_5 rfl ?_
  refine pm_r (F' := (9, [(0, .ref 225), (1, .int v1)], [.int 0, .int v1], ph_c4014)) e_175_6 (pm_sV em_161 rfl rfl pf_number_ph_c4007_1 pcc_4014) ?_
  refine pm_r (F' := (16, [(0, .ref 225), (1, .int v1)], [], ph_c4014)) e_175_9 (pm_sJ rfl (pm_jt (decide_eq_true (show (0 : Int32) ≤ v1 from Int32.le_iff_toInt_le.mpr (by have e1 : (0 : Int32).toInt = 0 := (by decide +kernel); omega))))) ?_
  refine pm_r (F' := (17, [(0, .ref 225), (1, .int v1)], [.int 0], ph_c4014)) e_175_16 rfl ?_
  exact pm_rE e_175_17 rfl
theorem pcw_4016 (v1 : Int32) (h9 : 0 ≤ v1.toInt) : pC 9 191 [.ref 225, .int (-1), .int v1] ph_c4007 = some ((some (.long (-2))), ph_c4014) := by
  refine pm_cE em_191 rfl ?_
  refine pm_r (F' := (1, [(0, .ref 225), (1, .int (-1)), (2, .int v1)], [.int (-1)], ph_c4007)) e_191_0 rfl ?_
  refine pm_r (F' := (2, [(0, .ref 225), (1, .int (-1)), (2, .int v1)], [.int (-1), .int (-1)], ph_c4007)) e_191_1 rfl ?_
  refine pm_r (F' := (13, [(0, .ref 225), (1, .int (-1)), (2, .int v1)], [], ph_c4007)) e_191_2 rfl ?_
  refine pm_r (F' := (14, [(0, .ref 225), (1, .int (-1)), (2, .int v1)], [.ref 225], ph_c4007)) e_191_13 rfl ?_
  refine pm_r (F' := (15, [(0, .ref 225), (1, .int (-1)), (2, .int v1)], [.int v1, .ref 225], ph_c4007)) e_191_14 rfl ?_
  refine pm_r (F' := (18, [(0, .ref 225), (1, .int (-1)), (2, .int v1)], [.int 0], ph_c4014)) e_191_15 (pm_sV em_175 rfl rfl pf_number_ph_c4007_1 (pcw_4015 v1 h9)) ?_
  refine pm_r (F' := (21, [(0, .ref 225), (1, .int (-1)), (2, .int v1)], [], ph_c4014)) e_191_18 rfl ?_
  refine pm_r (F' := (24, [(0, .ref 225), (1, .int (-1)), (2, .int v1)], [.long (-2)], ph_c4014)) e_191_21 rfl ?_
  refine pm_r (F' := (52, [(0, .ref 225), (1, .int (-1)), (2, .int v1)], [.long (-2)], ph_c4014)) e_191_24 rfl ?_
  exact pm_rE e_191_52 rfl
theorem pcw_4017 (v0 : Int32) (h7 : (-1) ≤ v0.toInt) (h8 : 0 ≤ v0.toInt) : pC 7 134 [.ref 1, .int v0] ph_3 = some ((some (.int 0)), ph_3) := by
  refine pm_cE em_134 rfl ?_
  refine pm_r (F' := (1, [(0, .ref 1), (1, .int v0)], [.int v0], ph_3)) e_134_0 rfl ?_
  refine pm_r (F' := (4, [(0, .ref 1), (1, .int v0)], [], ph_3)) e_134_1 (pm_sJ rfl (pm_jf (decide_eq_false (show ¬ v0 < (0 : Int32) from fun h => absurd (Int32.lt_iff_toInt_lt.mp h) (by have e1 : (0 : Int32).toInt = 0 := (by decide +kernel); omega))))) ?_
  refine pm_r (F' := (5, [(0, .ref 1), (1, .int v0)], [.int v0], ph_3)) e_134_4 rfl ?_
  refine pm_r (F' := (6, [(0, .ref 1), (1, .int v0)], [.ref 1, .int v0], ph_3)) e_134_5 rfl ?_
  refine pm_r (F' := (9, [(0, .ref 1), (1, .int v0)], [.ref 159, .int v0], ph_3)) e_134_6 (pm_sG pf_number_ph_3_4) ?_
  refine pm_r (F' := (12, [(0, .ref 1), (1, .int v0)], [.int 0, .int v0], ph_3)) e_134_9 (pm_sG pf_number_ph_3_5) ?_
  refine pm_r (F' := (19, [(0, .ref 1), (1, .int v0)], [], ph_3)) e_134_12 (pm_sJ rfl (pm_jt (decide_eq_true (show (0 : Int32) ≤ v0 from Int32.le_iff_toInt_le.mpr (by have e1 : (0 : Int32).toInt = 0 := (by decide +kernel); omega))))) ?_
  refine pm_r (F' := (20, [(0, .ref 1), (1, .int v0)], [.int 0], ph_3)) e_134_19 rfl ?_
  exact pm_rE e_134_20 rfl
theorem pcw_4018 (v0 : Int32) (h7 : (-1) ≤ v0.toInt) (h8 : 0 ≤ v0.toInt) : pC 8 135 [.ref 1, .int v0] ph_3 = some ((some (.null)), ph_3) := by
  refine pm_cE em_135 rfl ?_
  refine pm_r (F' := (1, [(0, .ref 1), (1, .int v0)], [.int v0], ph_3)) e_135_0 rfl ?_
  refine pm_r (F' := (2, [(0, .ref 1), (1, .int v0)], [.int (-1), .int v0], ph_3)) e_135_1 rfl ?_
  refine pm_r (F' := (13, [(0, .ref 1), (1, .int v0)], [], ph_3)) e_135_2 (pm_sJ rfl (pm_jt (decide_eq_true (show ¬ v0 = (-1 : Int32) from fun h => absurd (congrArg Int32.toInt h) (by have e1 : (-1 : Int32).toInt = -1 := (by decide +kernel); omega))))) ?_
  refine pm_r (F' := (14, [(0, .ref 1), (1, .int v0)], [.ref 1], ph_3)) e_135_13 rfl ?_
  refine pm_r (F' := (15, [(0, .ref 1), (1, .int v0)], [.int v0, .ref 1], ph_3)) e_135_14 rfl ?_
  refine pm_r (F' := (18, [(0, .ref 1), (1, .int v0)], [.int 0], ph_3)) e_135_15 (pm_sV em_134 rfl rfl pf_number_ph_3_0 (pcw_4017 v0 h7 h8)) ?_
  refine pm_r (F' := (33, [(0, .ref 1), (1, .int v0)], [], ph_3)) e_135_18 rfl ?_
  refine pm_r (F' := (34, [(0, .ref 1), (1, .int v0)], [.null], ph_3)) e_135_33 rfl ?_
  exact pm_rE e_135_34 rfl
theorem pcw_4019 (v0 : Int32) (h7 : (-1) ≤ v0.toInt) (h8 : 0 ≤ v0.toInt) (v1 : Int32) : pC 9 108 [.ref 1, .int v0, .int v1] ph_3 = some ((some (.long (-2))), ph_3) := by
  refine pm_cE em_108 rfl ?_
  refine pm_r (F' := (1, [(0, .ref 1), (1, .int v0), (2, .int v1)], [.ref 1], ph_3)) e_108_0 rfl ?_
  refine pm_r (F' := (2, [(0, .ref 1), (1, .int v0), (2, .int v1)], [.int v0, .ref 1], ph_3)) e_108_1 rfl ?_
  refine pm_r (F' := (5, [(0, .ref 1), (1, .int v0), (2, .int v1)], [.null], ph_3)) e_108_2 (pm_sV em_135 rfl rfl pf_number_ph_3_0 (pcw_4018 v0 h7 h8)) ?_
  refine pm_r (F' := (6, [(3, .null), (0, .ref 1), (1, .int v0), (2, .int v1)], [], ph_3)) e_108_5 rfl ?_
  refine pm_r (F' := (7, [(3, .null), (0, .ref 1), (1, .int v0), (2, .int v1)], [.null], ph_3)) e_108_6 rfl ?_
  refine pm_r (F' := (18, [(3, .null), (0, .ref 1), (1, .int v0), (2, .int v1)], [], ph_3)) e_108_7 rfl ?_
  refine pm_r (F' := (21, [(3, .null), (0, .ref 1), (1, .int v0), (2, .int v1)], [.long (-2)], ph_3)) e_108_18 rfl ?_
  exact pm_rE e_108_21 rfl
theorem pcw_4020 (v0 : Int32) (h7 : (-1) ≤ v0.toInt) (h8 : 0 ≤ v0.toInt) : pC 8 173 [.ref 225, .int v0] ph_3 = some ((some (.int 0)), ph_3) := by
  refine pm_cE em_173 rfl ?_
  refine pm_r (F' := (1, [(0, .ref 225), (1, .int v0)], [.int v0], ph_3)) e_173_0 rfl ?_
  refine pm_r (F' := (4, [(0, .ref 225), (1, .int v0)], [], ph_3)) e_173_1 (pm_sJ rfl (pm_jf (decide_eq_false (show ¬ v0 < (0 : Int32) from fun h => absurd (Int32.lt_iff_toInt_lt.mp h) (by have e1 : (0 : Int32).toInt = 0 := (by decide +kernel); omega))))) ?_
  refine pm_r (F' := (5, [(0, .ref 225), (1, .int v0)], [.int v0], ph_3)) e_173_4 rfl ?_
  refine pm_r (F' := (6, [(0, .ref 225), (1, .int v0)], [.ref 225, .int v0], ph_3)) e_173_5 rfl ?_
  refine pm_r (F' := (9, [(0, .ref 225), (1, .int v0)], [.int 0, .int v0], ph_3)) e_173_6 (pm_sG pf_number_ph_3_6) ?_
  refine pm_r (F' := (16, [(0, .ref 225), (1, .int v0)], [], ph_3)) e_173_9 (pm_sJ rfl (pm_jt (decide_eq_true (show (0 : Int32) ≤ v0 from Int32.le_iff_toInt_le.mpr (by have e1 : (0 : Int32).toInt = 0 := (by decide +kernel); omega))))) ?_
  refine pm_r (F' := (17, [(0, .ref 225), (1, .int v0)], [.int 0], ph_3)) e_173_16 rfl ?_
  exact pm_rE e_173_17 rfl
theorem pcw_4021 (v0 : Int32) (h7 : (-1) ≤ v0.toInt) (h8 : 0 ≤ v0.toInt) (v1 : Int32) : pC 9 191 [.ref 225, .int v0, .int v1] ph_3 = some ((some (.long (-2))), ph_3) := by
  refine pm_cE em_191 rfl ?_
  refine pm_r (F' := (1, [(0, .ref 225), (1, .int v0), (2, .int v1)], [.int v0], ph_3)) e_191_0 rfl ?_
  refine pm_r (F' := (2, [(0, .ref 225), (1, .int v0), (2, .int v1)], [.int (-1), .int v0], ph_3)) e_191_1 rfl ?_
  refine pm_r (F' := (5, [(0, .ref 225), (1, .int v0), (2, .int v1)], [], ph_3)) e_191_2 (pm_sJ rfl (pm_jf (decide_eq_false (show ¬ v0 = (-1 : Int32) from fun h => absurd (congrArg Int32.toInt h) (by have e1 : (-1 : Int32).toInt = -1 := (by decide +kernel); omega))))) ?_
  refine pm_r (F' := (6, [(0, .ref 225), (1, .int v0), (2, .int v1)], [.ref 225], ph_3)) e_191_5 rfl ?_
  refine pm_r (F' := (7, [(0, .ref 225), (1, .int v0), (2, .int v1)], [.int v0, .ref 225], ph_3)) e_191_6 rfl ?_
  refine pm_r (F' := (10, [(0, .ref 225), (1, .int v0), (2, .int v1)], [.int 0], ph_3)) e_191_7 (pm_sV em_173 rfl rfl pf_number_ph_3_1 (pcw_4020 v0 h7 h8)) ?_
  refine pm_r (F' := (21, [(0, .ref 225), (1, .int v0), (2, .int v1)], [], ph_3)) e_191_10 rfl ?_
  refine pm_r (F' := (24, [(0, .ref 225), (1, .int v0), (2, .int v1)], [.long (-2)], ph_3)) e_191_21 rfl ?_
  refine pm_r (F' := (52, [(0, .ref 225), (1, .int v0), (2, .int v1)], [.long (-2)], ph_3)) e_191_24 rfl ?_
  exact pm_rE e_191_52 rfl
set_option maxRecDepth 100000 in
theorem pq_number (v0 : Int32) (v1 : Int32) : ∃ r : Int64, pq_ok 108 191 [.int v0, .int v1] (.long r) := by
  rcases (show v0.toInt < (-1) ∨ (-1) ≤ v0.toInt by omega) with h7 | h7
  · exact ⟨(-2), ph_3, ph_3, (pcw_4003 v0 h7 v1), (pcw_4005 v0 h7 v1), pf_number_ph_3_1, Nat.le_of_ble_eq_true pf_number_ph_3_2, Nat.le_of_ble_eq_true pf_number_ph_3_3⟩
  · rcases (show v0.toInt < 0 ∨ 0 ≤ v0.toInt by omega) with h8 | h8
    · obtain rfl : v0 = (-1) := Int32.toInt_inj.mp (by have e : (-1 : Int32).toInt = -1 := (by decide +kernel); omega)
      rcases (show v1.toInt < 0 ∨ 0 ≤ v1.toInt by omega) with h9 | h9
      · exact ⟨(-2), ph_c4007, ph_c4007, (pcw_4009 v1 h9), (pcw_4011 v1 h9), pf_number_ph_c4007_1, Nat.le_of_ble_eq_true pf_number_ph_c4007_2, Nat.le_of_ble_eq_true pf_number_ph_c4007_3⟩
      · exact ⟨(-2), ph_c4007, ph_c4014, (pcw_4013 v1 h9), (pcw_4016 v1 h9), pf_number_ph_c4007_1, Nat.le_of_ble_eq_true pf_number_ph_c4014_0, Nat.le_of_ble_eq_true pf_number_ph_c4014_1⟩
    · exact ⟨(-2), ph_3, ph_3, (pcw_4019 v0 h7 h8 v1), (pcw_4021 v0 h7 h8 v1), pf_number_ph_3_1, Nat.le_of_ble_eq_true pf_number_ph_3_2, Nat.le_of_ble_eq_true pf_number_ph_3_3⟩

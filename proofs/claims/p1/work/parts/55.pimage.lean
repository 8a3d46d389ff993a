/-! image on fresh objects, by program -/
theorem em_130 : pm_ms 130 = some (yX10_image, cX10_image, 2, (some .long), 1, 10) := rfl
theorem em_254 : pm_ms 254 = some (yX11_isBox, cX11_isBox, 1, (some .boolean), 1, 11) := rfl
theorem em_255 : pm_ms 255 = some (yX11_image, cX11_image, 3, (some .long), 1, 11) := rfl
theorem e_130_0 : pm_ins 130 0 = some (.iload_n 1, 1, 0, 0, 0, []) := rfl
theorem e_130_1 : pm_ins 130 1 = some (.ifCond .lt 8, 3, 9, 0, 0, []) := rfl
theorem e_130_4 : pm_ins 130 4 = some (.iload_n 1, 1, 0, 0, 0, []) := rfl
theorem e_130_5 : pm_ins 130 5 = some (.iconst 3, 1, 0, 0, 0, []) := rfl
theorem e_130_6 : pm_ins 130 6 = some (.if_icmp .lt 7, 3, 13, 0, 0, []) := rfl
theorem e_130_9 : pm_ins 130 9 = some (.ldc2_w 185, 3, 0, 0, (-1), [(4, 62)]) := rfl
theorem e_130_12 : pm_ins 130 12 = some (.lreturn, 1, 0, 0, 0, []) := rfl
theorem e_254_0 : pm_ins 254 0 = some (.iload_n 0, 1, 0, 0, 0, []) := rfl
theorem e_254_1 : pm_ins 254 1 = some (.ifCond .lt 12, 3, 13, 0, 0, []) := rfl
theorem e_254_4 : pm_ins 254 4 = some (.iload_n 0, 1, 0, 0, 0, []) := rfl
theorem e_254_5 : pm_ins 254 5 = some (.iconst 3, 1, 0, 0, 0, []) := rfl
theorem e_254_6 : pm_ins 254 6 = some (.if_icmp .ge 7, 3, 13, 0, 0, []) := rfl
theorem e_254_13 : pm_ins 254 13 = some (.iconst 0, 1, 0, 0, 0, []) := rfl
theorem e_254_14 : pm_ins 254 14 = some (.ireturn, 1, 0, 0, 0, []) := rfl
theorem e_255_0 : pm_ins 255 0 = some (.iload_n 1, 1, 0, 0, 0, []) := rfl
theorem e_255_1 : pm_ins 255 1 = some (.invokestatic 550, 3, 254, 0, 0, [(8, 66), (8, 67)]) := rfl
theorem e_255_4 : pm_ins 255 4 = some (.ifCond .ne 7, 3, 11, 0, 0, []) := rfl
theorem e_255_7 : pm_ins 255 7 = some (.ldc2_w 447, 3, 0, 0, (-1), [(7, 97)]) := rfl
theorem e_255_10 : pm_ins 255 10 = some (.lreturn, 1, 0, 0, 0, []) := rfl
set_option maxRecDepth 100000 in
theorem pf_image_ph_3 : (pm_clsOk 11 (pm_cell ph_3 225) = true) ∧ (Nat.ble ph_3.length 600000 = true) ∧ (Nat.ble (pm_sls ph_3) 7302250 = true) := by decide +kernel
theorem pf_image_ph_3_0 : pm_clsOk 11 (pm_cell ph_3 225) = true := pf_image_ph_3.1
theorem pf_image_ph_3_1 : Nat.ble ph_3.length 600000 = true := pf_image_ph_3.2.1
theorem pf_image_ph_3_2 : Nat.ble (pm_sls ph_3) 7302250 = true := pf_image_ph_3.2.2
theorem pcw_22001 (v0 : Int32) (h35 : v0.toInt < 0) : pC 9 130 [.ref 1, .int v0] ph_3 = some ((some (.long (-1))), ph_3) := by
  refine pm_cE em_130 rfl ?_
  refine pm_r (F' := (1, [(0, .ref 1), (1, .int v0)], [.int v0], ph_3)) e_130_0 rfl ?_
  refine pm_r (F' := (9, [(0, .ref 1), (1, .int v0)], [], ph_3)) e_130_1 (pm_sJ rfl (pm_jt (decide_eq_true (show v0 < (0 : Int32) from Int32.lt_iff_toInt_lt.mpr (by have e1 : (0 : Int32).toInt = 0 := (by decide +kernel); omega))))) ?_
  refine pm_r (F' := (12, [(0, .ref 1), (1, .int v0)], [.long (-1)], ph_3)) e_130_9 rfl ?_
  exact pm_rE e_130_12 rfl
theorem pcw_22002 (v0 : Int32) (h35 : v0.toInt < 0) : pC 8 254 [.int v0] ph_3 = some ((some (.int 0)), ph_3) := by
  refine pm_cE em_254 rfl ?_
  refine pm_r (F' := (1, [(0, .int v0)], [.int v0], ph_3)) e_254_0 rfl ?_
  refine pm_r (F' := (13, [(0, .int v0)], [], ph_3)) e_254_1 (pm_sJ rfl (pm_jt (decide_eq_true (show v0 < (0 : Int32) from Int32.lt_iff_toInt_lt.mpr (by have e1 : (0 : Int32).toInt = 0 := (by decide +kernel); omega))))) ?_
  refine pm_r (F' := (14, [(0, .int v0)], [.int 0], ph_3)) e_254_13 rfl ?_
  exact pm_rE e_254_14 rfl
theorem pcw_22003 (v0 : Int32) (h35 : v0.toInt < 0) : pC 9 255 [.ref 225, .int v0] ph_3 = some ((some (.long (-1))), ph_3) := by
  refine pm_cE em_255 rfl ?_
  refine pm_r (F' := (1, [(0, .ref 225), (1, .int v0)], [.int v0], ph_3)) e_255_0 rfl ?_
  refine pm_r (F' := (4, [(0, .ref 225), (1, .int v0)], [.int 0], ph_3)) e_255_1 (pm_sS em_254 rfl rfl (pcw_22002 v0 h35)) ?_
  refine pm_r (F' := (7, [(0, .ref 225), (1, .int v0)], [], ph_3)) e_255_4 rfl ?_
  refine pm_r (F' := (10, [(0, .ref 225), (1, .int v0)], [.long (-1)], ph_3)) e_255_7 rfl ?_
  exact pm_rE e_255_10 rfl
theorem pcw_22006 (v0 : Int32) (h35 : 0 ≤ v0.toInt) (h36 : 3 ≤ v0.toInt) : pC 9 130 [.ref 1, .int v0] ph_3 = some ((some (.long (-1))), ph_3) := by
  refine pm_cE em_130 rfl ?_
  refine pm_r (F' := (1, [(0, .ref 1), (1, .int v0)], [.int v0], ph_3)) e_130_0 rfl ?_
  refine pm_r (F' := (4, [(0, .ref 1), (1, .int v0)], [], ph_3)) e_130_1 (pm_sJ rfl (pm_jf (decide_eq_false (show ¬ v0 < (0 : Int32) from fun h => absurd (Int32.lt_iff_toInt_lt.mp h) (by have e1 : (0 : Int32).toInt = 0 := (by decide +kernel); omega))))) ?_
  refine pm_r (F' := (5, [(0, .ref 1), (1, .int v0)], [.int v0], ph_3)) e_130_4 rfl ?_
  refine pm_r (F' := (6, [(0, .ref 1), (1, .int v0)], [.int 3, .int v0], ph_3)) e_130_5 rfl ?_
  refine pm_r (F' := (9, [(0, .ref 1), (1, .int v0)], [], ph_3)) e_130_6 (pm_sJ rfl (pm_jf (decide_eq_false (show ¬ v0 < (3 : Int32) from fun h => absurd (Int32.lt_iff_toInt_lt.mp h) (by have e1 : (3 : Int32).toInt = 3 := (by decide +kernel); omega))))) ?_
  refine pm_r (F' := (12, [(0, .ref 1), (1, .int v0)], [.long (-1)], ph_3)) e_130_9 rfl ?_
  exact pm_rE e_130_12 rfl
theorem pcw_22007 (v0 : Int32) (h35 : 0 ≤ v0.toInt) (h36 : 3 ≤ v0.toInt) : pC 8 254 [.int v0] ph_3 = some ((some (.int 0)), ph_3) := by
  refine pm_cE em_254 rfl ?_
  refine pm_r (F' := (1, [(0, .int v0)], [.int v0], ph_3)) e_254_0 rfl ?_
  refine pm_r (F' := (4, [(0, .int v0)], [], ph_3)) e_254_1 (pm_sJ rfl (pm_jf (decide_eq_false (show ¬ v0 < (0 : Int32) from fun h => absurd (Int32.lt_iff_toInt_lt.mp h) (by have e1 : (0 : Int32).toInt = 0 := (by decide +kernel); omega))))) ?_
  refine pm_r (F' := (5, [(0, .int v0)], [.int v0], ph_3)) e_254_4 rfl ?_
  refine pm_r (F' := (6, [(0, .int v0)], [.int 3, .int v0], ph_3)) e_254_5 rfl ?_
  refine pm_r (F' := (13, [(0, .int v0)], [], ph_3)) e_254_6 (pm_sJ rfl (pm_jt (decide_eq_true (show (3 : Int32) ≤ v0 from Int32.le_iff_toInt_le.mpr (by have e1 : (3 : Int32).toInt = 3 := (by decide +kernel); omega))))) ?_
  refine pm_r (F' := (14, [(0, .int v0)], [.int 0], ph_3)) e_254_13 rfl ?_
  exact pm_rE e_254_14 rfl
theorem pcw_22008 (v0 : Int32) (h35 : 0 ≤ v0.toInt) (h36 : 3 ≤ v0.toInt) : pC 9 255 [.ref 225, .int v0] ph_3 = some ((some (.long (-1))), ph_3) := by
  refine pm_cE em_255 rfl ?_
  refine pm_r (F' := (1, [(0, .ref 225), (1, .int v0)], [.int v0], ph_3)) e_255_0 rfl ?_
  refine pm_r (F' := (4, [(0, .ref 225), (1, .int v0)], [.int 0], ph_3)) e_255_1 (pm_sS em_254 rfl rfl (pcw_22007 v0 h35 h36)) ?_
  refine pm_r (F' := (7, [(0, .ref 225), (1, .int v0)], [], ph_3)) e_255_4 rfl ?_
  refine pm_r (F' := (10, [(0, .ref 225), (1, .int v0)], [.long (-1)], ph_3)) e_255_7 rfl ?_
  exact pm_rE e_255_10 rfl
set_option maxRecDepth 100000 in
theorem pq_image (v0 : Int32) : ∃ r : Int64, pq_ok 130 255 [.int v0] (.long r) := by
  rcases (show v0.toInt < 0 ∨ 0 ≤ v0.toInt by omega) with h35 | h35
  · exact ⟨(-1), ph_3, ph_3, (pcw_22001 v0 h35), (pcw_22003 v0 h35), pf_image_ph_3_0, Nat.le_of_ble_eq_true pf_image_ph_3_1, Nat.le_of_ble_eq_true pf_image_ph_3_2⟩
  · rcases (show v0.toInt < 3 ∨ 3 ≤ v0.toInt by omega) with h36 | h36
    · rcases (show v0.toInt < 1 ∨ 1 ≤ v0.toInt by omega) with h37 | h37
      · obtain rfl : v0 = 0 := Int32.toInt_inj.mp (by have e : (0 : Int32).toInt = 0 := (by decide +kernel); omega)
        exact ⟨0, pq_of (by decide +kernel)⟩
      · rcases (show v0.toInt < 2 ∨ 2 ≤ v0.toInt by omega) with h38 | h38
        · obtain rfl : v0 = 1 := Int32.toInt_inj.mp (by have e : (1 : Int32).toInt = 1 := (by decide +kernel); omega)
          exact ⟨0, pq_of (by decide +kernel)⟩
        · obtain rfl : v0 = 2 := Int32.toInt_inj.mp (by have e : (2 : Int32).toInt = 2 := (by decide +kernel); omega)
          exact ⟨0, pq_of (by decide +kernel)⟩
    · exact ⟨(-1), ph_3, ph_3, (pcw_22006 v0 h35 h36), (pcw_22008 v0 h35 h36), pf_image_ph_3_0, Nat.le_of_ble_eq_true pf_image_ph_3_1, Nat.le_of_ble_eq_true pf_image_ph_3_2⟩

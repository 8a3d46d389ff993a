/-! back on fresh objects, by program -/
theorem em_131 : pm_ms 131 = some (yX10_back, cX10_back, 2, (some .long), 1, 10) := rfl
theorem em_256 : pm_ms 256 = some (yX11_back, cX11_back, 3, (some .long), 1, 11) := rfl
theorem e_131_0 : pm_ins 131 0 = some (.iload_n 1, 1, 0, 0, 0, []) := rfl
theorem e_131_1 : pm_ins 131 1 = some (.ifCond .lt 17, 3, 18, 0, 0, []) := rfl
theorem e_131_4 : pm_ins 131 4 = some (.iload_n 1, 1, 0, 0, 0, []) := rfl
theorem e_131_5 : pm_ins 131 5 = some (.iconst 3, 1, 0, 0, 0, []) := rfl
theorem e_131_6 : pm_ins 131 6 = some (.if_icmp .ge 12, 3, 18, 0, 0, []) := rfl
theorem e_131_18 : pm_ins 131 18 = some (.ldc2_w 185, 3, 0, 0, (-1), [(4, 62)]) := rfl
theorem e_131_21 : pm_ins 131 21 = some (.lreturn, 1, 0, 0, 0, []) := rfl
theorem e_256_0 : pm_ins 256 0 = some (.iload_n 1, 1, 0, 0, 0, []) := rfl
theorem e_256_1 : pm_ins 256 1 = some (.invokestatic 550, 3, 254, 0, 0, [(8, 66), (8, 67)]) := rfl
theorem e_256_4 : pm_ins 256 4 = some (.ifCond .eq 12, 3, 16, 0, 0, []) := rfl
theorem e_256_16 : pm_ins 256 16 = some (.ldc2_w 447, 3, 0, 0, (-1), [(7, 97)]) := rfl
theorem e_256_19 : pm_ins 256 19 = some (.lreturn, 1, 0, 0, 0, []) := rfl
set_option maxRecDepth 100000 in
theorem pf_back_ph_3 : (pm_clsOk 11 (pm_cell ph_3 225) = true) ∧ (Nat.ble ph_3.length 600000 = true) ∧ (Nat.ble (pm_sls ph_3) 7302250 = true) := by decide +kernel
theorem pf_back_ph_3_0 : pm_clsOk 11 (pm_cell ph_3 225) = true := pf_back_ph_3.1
theorem pf_back_ph_3_1 : Nat.ble ph_3.length 600000 = true := pf_back_ph_3.2.1
theorem pf_back_ph_3_2 : Nat.ble (pm_sls ph_3) 7302250 = true := pf_back_ph_3.2.2
theorem pcw_23001 (v0 : Int32) (h39 : v0.toInt < 0) : pC 9 131 [.ref 1, .int v0] ph_3 = some ((some (.long (-1))), ph_3) := by
  refine pm_cE em_131 rfl ?_
  refine pm_r (F' := (1, [(0, .ref 1), (1, .int v0)], [.int v0], ph_3)) e_131_0 rfl ?_
  refine pm_r (F' := (18, [(0, .ref 1), (1, .int v0)], [], ph_3)) e_131_1 (pm_sJ rfl (pm_jt (decide_eq_true (show v0 < (0 : Int32) from Int32.lt_iff_toInt_lt.mpr (by have e1 : (0 : Int32).toInt = 0 := (by decide +kernel); omega))))) ?_
  refine pm_r (F' := (21, [(0, .ref 1), (1, .int v0)], [.long (-1)], ph_3)) e_131_18 rfl ?_
  exact pm_rE e_131_21 rfl
theorem pcw_23002 (v0 : Int32) (h39 : v0.toInt < 0) : pC 8 254 [.int v0] ph_3 = some ((some (.int 0)), ph_3) := by
  refine pm_cE em_254 rfl ?_
  refine pm_r (F' := (1, [(0, .int v0)], [.int v0], ph_3)) e_254_0 rfl ?_
  refine pm_r (F' := (13, [(0, .int v0)], [], ph_3)) e_254_1 (pm_sJ rfl (pm_jt (decide_eq_true (show v0 < (0 : Int32) from Int32.lt_iff_toInt_lt.mpr (by have e1 : (0 : Int32).toInt = 0 := (by decide +kernel); omega))))) ?_
  refine pm_r (F' := (14, [(0, .int v0)], [.int 0], ph_3)) e_254_13 rfl ?_
  exact pm_rE e_254_14 rfl
theorem pcw_23003 (v0 : Int32) (h39 : v0.toInt < 0) : pC 9 256 [.ref 225, .int v0] ph_3 = some ((some (.long (-1))), ph_3) := by
  refine pm_cE em_256 rfl ?_
  refine pm_r (F' := (1, [(0, .ref 225), (1, .int v0)], [.int v0], ph_3)) e_256_0 rfl ?_
  refine pm_r (F' := (4, [(0, .ref 225), (1, .int v0)], [.int 0], ph_3)) e_256_1 (pm_sS em_254 rfl rfl (pcw_23002 v0 h39)) ?_
  refine pm_r (F' := (16, [(0, .ref 225), (1, .int v0)], [], ph_3)) e_256_4 rfl ?_
  refine pm_r (F' := (19, [(0, .ref 225), (1, .int v0)], [.long (-1)], ph_3)) e_256_16 rfl ?_
  exact pm_rE e_256_19 rfl
theorem pcw_23004 (v0 : Int32) (h39 : 0 ≤ v0.toInt) (h40 : 3 ≤ v0.toInt) : pC 9 131 [.ref 1, .int v0] ph_3 = some ((some (.long (-1))), ph_3) := by
  refine pm_cE em_131 rfl ?_
  refine pm_r (F' := (1, [(0, .ref 1), (1, .int v0)], [.int v0], ph_3)) e_131_0 rfl ?_
  refine pm_r (F' := (4, [(0, .ref 1), (1, .int v0)], [], ph_3)) e_131_1 (pm_sJ rfl (pm_jf (decide_eq_false (show ¬ v0 < (0 : Int32) from fun h => absurd (Int32.lt_iff_toInt_lt.mp h) (by have e1 : (0 : Int32).toInt = 0 := (by decide +kernel); omega))))) ?_
  refine pm_r (F' := (5, [(0, .ref 1), (1, .int v0)], [.int v0], ph_3)) e_131_4 rfl ?_
  refine pm_r (F' := (6, [(0, .ref 1), (1, .int v0)], [.int 3, .int v0], ph_3)) e_131_5 rfl ?_
  refine pm_r (F' := (18, [(0, .ref 1), (1, .int v0)], [], ph_3)) e_131_6 (pm_sJ rfl (pm_jt (decide_eq_true (show (3 : Int32) ≤ v0 from Int32.le_iff_toInt_le.mpr (by have e1 : (3 : Int32).toInt = 3 := (by decide +kernel); omega))))) ?_
  refine pm_r (F' := (21, [(0, .ref 1), (1, .int v0)], [.long (-1)], ph_3)) e_131_18 rfl ?_
  exact pm_rE e_131_21 rfl
theorem pcw_23005 (v0 : Int32) (h39 : 0 ≤ v0.toInt) (h40 : 3 ≤ v0.toInt) : pC 8 254 [.int v0] ph_3 = some ((some (.int 0)), ph_3) := by
  refine pm_cE em_254 rfl ?_
  refine pm_r (F' := (1, [(0, .int v0)], [.int v0], ph_3)) e_254_0 rfl ?_
  refine pm_r (F' := (4, [(0, .int v0)], [], ph_3)) e_254_1 (pm_sJ rfl (pm_jf (decide_eq_false (show ¬ v0 < (0 : Int32) from fun h => absurd (Int32.lt_iff_toInt_lt.mp h) (by have e1 : (0 : Int32).toInt = 0 := (by decide +kernel); omega))))) ?_
  refine pm_r (F' := (5, [(0, .int v0)], [.int v0], ph_3)) e_254_4 rfl ?_
  refine pm_r (F' := (6, [(0, .int v0)], [.int 3, .int v0], ph_3)) e_254_5 rfl ?_
  refine pm_r (F' := (13, [(0, .int v0)], [], ph_3)) e_254_6 (pm_sJ rfl (pm_jt (decide_eq_true (show (3 : Int32) ≤ v0 from Int32.le_iff_toInt_le.mpr (by have e1 : (3 : Int32).toInt = 3 := (by decide +kernel); omega))))) ?_
  refine pm_r (F' := (14, [(0, .int v0)], [.int 0], ph_3)) e_254_13 rfl ?_
  exact pm_rE e_254_14 rfl
theorem pcw_23006 (v0 : Int32) (h39 : 0 ≤ v0.toInt) (h40 : 3 ≤ v0.toInt) : pC 9 256 [.ref 225, .int v0] ph_3 = some ((some (.long (-1))), ph_3) := by
  refine pm_cE em_256 rfl ?_
  refine pm_r (F' := (1, [(0, .ref 225), (1, .int v0)], [.int v0], ph_3)) e_256_0 rfl ?_
  refine pm_r (F' := (4, [(0, .ref 225), (1, .int v0)], [.int 0], ph_3)) e_256_1 (pm_sS em_254 rfl rfl (pcw_23005 v0 h39 h40)) ?_
  refine pm_r (F' := (16, [(0, .ref 225), (1, .int v0)], [], ph_3)) e_256_4 rfl ?_
  refine pm_r (F' := (19, [(0, .ref 225), (1, .int v0)], [.long (-1)], ph_3)) e_256_16 rfl ?_
  exact pm_rE e_256_19 rfl
set_option maxRecDepth 100000 in
theorem pq_back (v0 : Int32) : ∃ r : Int64, pq_ok 131 256 [.int v0] (.long r) := by
  rcases (show v0.toInt < 0 ∨ 0 ≤ v0.toInt by omega) with h39 | h39
  · exact ⟨(-1), ph_3, ph_3, (pcw_23001 v0 h39), (pcw_23003 v0 h39), pf_back_ph_3_0, Nat.le_of_ble_eq_true pf_back_ph_3_1, Nat.le_of_ble_eq_true pf_back_ph_3_2⟩
  · rcases (show v0.toInt < 3 ∨ 3 ≤ v0.toInt by omega) with h40 | h40
    · rcases (show v0.toInt < 1 ∨ 1 ≤ v0.toInt by omega) with h41 | h41
      · obtain rfl : v0 = 0 := Int32.toInt_inj.mp (by have e : (0 : Int32).toInt = 0 := (by decide +kernel); omega)
        exact ⟨(-1), pq_of (by decide +kernel)⟩
      · rcases (show v0.toInt < 2 ∨ 2 ≤ v0.toInt by omega) with h42 | h42
        · obtain rfl : v0 = 1 := Int32.toInt_inj.mp (by have e : (1 : Int32).toInt = 1 := (by decide +kernel); omega)
          exact ⟨(-1), pq_of (by decide +kernel)⟩
        · obtain rfl : v0 = 2 := Int32.toInt_inj.mp (by have e : (2 : Int32).toInt = 2 := (by decide +kernel); omega)
          exact ⟨(-1), pq_of (by decide +kernel)⟩
    · exact ⟨(-1), ph_3, ph_3, (pcw_23004 v0 h39 h40), (pcw_23006 v0 h39 h40), pf_back_ph_3_0, Nat.le_of_ble_eq_true pf_back_ph_3_1, Nat.le_of_ble_eq_true pf_back_ph_3_2⟩

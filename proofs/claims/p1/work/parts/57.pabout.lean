/-! about on fresh objects, by program -/
theorem em_132 : pm_ms 132 = some (yX10_about, cX10_about, 2, (some .int), 1, 10) := rfl
theorem em_257 : pm_ms 257 = some (yX11_about, cX11_about, 2, (some .int), 1, 11) := rfl
theorem e_132_0 : pm_ins 132 0 = some (.iload_n 1, 1, 0, 0, 0, []) := rfl
theorem e_132_1 : pm_ins 132 1 = some (.tableswitch 140 0 8 #[51, 59, 67, 75, 103, 111, 119, 127, 135], 51, 0, 0, 0, []) := rfl
theorem e_132_141 : pm_ins 132 141 = some (.iconst (-1), 1, 0, 0, 0, []) := rfl
theorem e_132_142 : pm_ins 132 142 = some (.ireturn, 1, 0, 0, 0, []) := rfl
theorem e_257_0 : pm_ins 257 0 = some (.iload_n 1, 1, 0, 0, 0, []) := rfl
theorem e_257_1 : pm_ins 257 1 = some (.tableswitch 110 0 8 #[51, 56, 61, 66, 85, 90, 95, 100, 105], 51, 0, 0, 0, []) := rfl
theorem e_257_111 : pm_ins 257 111 = some (.iconst (-1), 1, 0, 0, 0, []) := rfl
theorem e_257_112 : pm_ins 257 112 = some (.ireturn, 1, 0, 0, 0, []) := rfl
set_option maxRecDepth 100000 in
theorem pf_about_ph_3 : (pm_clsOk 11 (pm_cell ph_3 225) = true) ∧ (Nat.ble ph_3.length 600000 = true) ∧ (Nat.ble (pm_sls ph_3) 7302250 = true) := by decide +kernel
theorem pf_about_ph_3_0 : pm_clsOk 11 (pm_cell ph_3 225) = true := pf_about_ph_3.1
theorem pf_about_ph_3_1 : Nat.ble ph_3.length 600000 = true := pf_about_ph_3.2.1
theorem pf_about_ph_3_2 : Nat.ble (pm_sls ph_3) 7302250 = true := pf_about_ph_3.2.2
theorem pcw_24001 (v0 : Int32) (h43 : v0.toInt < 0) : pC 9 132 [.ref 1, .int v0] ph_3 = some ((some (.int (-1))), ph_3) := by
  refine pm_cE em_132 rfl ?_
  refine pm_r (F' := (1, [(0, .ref 1), (1, .int v0)], [.int v0], ph_3)) e_132_0 rfl ?_
  refine pm_r (F' := (141, [(0, .ref 1), (1, .int v0)], [], ph_3)) e_132_1 (pm_sJ rfl (pm_swO (Or.inl (show v0.toInt < 0 by omega)) rfl)) ?_
  refine pm_r (F' := (142, [(0, .ref 1), (1, .int v0)], [.int (-1)], ph_3)) e_132_141 rfl ?_
  exact pm_rE e_132_142 rfl
theorem pcw_24002 (v0 : Int32) (h43 : v0.toInt < 0) : pC 9 257 [.ref 225, .int v0] ph_3 = some ((some (.int (-1))), ph_3) := by
  refine pm_cE em_257 rfl ?_
  refine pm_r (F' := (1, [(0, .ref 225), (1, .int v0)], [.int v0], ph_3)) e_257_0 rfl ?_
  refine pm_r (F' := (111, [(0, .ref 225), (1, .int v0)], [], ph_3)) e_257_1 (pm_sJ rfl (pm_swO (Or.inl (show v0.toInt < 0 by omega)) rfl)) ?_
  refine pm_r (F' := (112, [(0, .ref 225), (1, .int v0)], [.int (-1)], ph_3)) e_257_111 rfl ?_
  exact pm_rE e_257_112 rfl
theorem pcw_24003 (v0 : Int32) (h43 : 0 ≤ v0.toInt) (h44 : 9 ≤ v0.toInt) : pC 9 132 [.ref 1, .int v0] ph_3 = some ((some (.int (-1))), ph_3) := by
  refine pm_cE em_132 rfl ?_
  refine pm_r (F' := (1, [(0, .ref 1), (1, .int v0)], [.int v0], ph_3)) e_132_0 rfl ?_
  refine pm_r (F' := (141, [(0, .ref 1), (1, .int v0)], [], ph_3)) e_132_1 (pm_sJ rfl (pm_swO (Or.inr (show 8 < v0.toInt by omega)) rfl)) ?_
  refine pm_r (F' := (142, [(0, .ref 1), (1, .int v0)], [.int (-1)], ph_3)) e_132_141 rfl ?_
  exact pm_rE e_132_142 rfl
theorem pcw_24004 (v0 : Int32) (h43 : 0 ≤ v0.toInt) (h44 : 9 ≤ v0.toInt) : pC 9 257 [.ref 225, .int v0] ph_3 = some ((some (.int (-1))), ph_3) := by
  refine pm_cE em_257 rfl ?_
  refine pm_r (F' := (1, [(0, .ref 225), (1, .int v0)], [.int v0], ph_3)) e_257_0 rfl ?_
  refine pm_r (F' := (111, [(0, .ref 225), (1, .int v0)], [], ph_3)) e_257_1 (pm_sJ rfl (pm_swO (Or.inr (show 8 < v0.toInt by omega)) rfl)) ?_
  refine pm_r (F' := (112, [(0, .ref 225), (1, .int v0)], [.int (-1)], ph_3)) e_257_111 rfl ?_
  exact pm_rE e_257_112 rfl
set_option maxRecDepth 100000 in
theorem pq_about (v0 : Int32) : ∃ r : Int32, pq_ok 132 257 [.int v0] (.int r) := by
  rcases (show v0.toInt < 0 ∨ 0 ≤ v0.toInt by omega) with h43 | h43
  · exact ⟨(-1), ph_3, ph_3, (pcw_24001 v0 h43), (pcw_24002 v0 h43), pf_about_ph_3_0, Nat.le_of_ble_eq_true pf_about_ph_3_1, Nat.le_of_ble_eq_true pf_about_ph_3_2⟩
  · rcases (show v0.toInt < 9 ∨ 9 ≤ v0.toInt by omega) with h44 | h44
    · rcases (show v0.toInt < 1 ∨ 1 ≤ v0.toInt by omega) with h45 | h45
      · obtain rfl : v0 = 0 := Int32.toInt_inj.mp (by have e : (0 : Int32).toInt = 0 := (by decide +kernel); omega)
        exact ⟨0, pq_of (by decide +kernel)⟩
      · rcases (show v0.toInt < 2 ∨ 2 ≤ v0.toInt by omega) with h46 | h46
        · obtain rfl : v0 = 1 := Int32.toInt_inj.mp (by have e : (1 : Int32).toInt = 1 := (by decide +kernel); omega)
          exact ⟨0, pq_of (by decide +kernel)⟩
        · rcases (show v0.toInt < 3 ∨ 3 ≤ v0.toInt by omega) with h47 | h47
          · obtain rfl : v0 = 2 := Int32.toInt_inj.mp (by have e : (2 : Int32).toInt = 2 := (by decide +kernel); omega)
            exact ⟨0, pq_of (by decide +kernel)⟩
          · rcases (show v0.toInt < 4 ∨ 4 ≤ v0.toInt by omega) with h48 | h48
            · obtain rfl : v0 = 3 := Int32.toInt_inj.mp (by have e : (3 : Int32).toInt = 3 := (by decide +kernel); omega)
              exact ⟨1, pq_of (by decide +kernel)⟩
            · rcases (show v0.toInt < 5 ∨ 5 ≤ v0.toInt by omega) with h49 | h49
              · obtain rfl : v0 = 4 := Int32.toInt_inj.mp (by have e : (4 : Int32).toInt = 4 := (by decide +kernel); omega)
                exact ⟨0, pq_of (by decide +kernel)⟩
              · rcases (show v0.toInt < 6 ∨ 6 ≤ v0.toInt by omega) with h50 | h50
                · obtain rfl : v0 = 5 := Int32.toInt_inj.mp (by have e : (5 : Int32).toInt = 5 := (by decide +kernel); omega)
                  exact ⟨0, pq_of (by decide +kernel)⟩
                · rcases (show v0.toInt < 7 ∨ 7 ≤ v0.toInt by omega) with h51 | h51
                  · obtain rfl : v0 = 6 := Int32.toInt_inj.mp (by have e : (6 : Int32).toInt = 6 := (by decide +kernel); omega)
                    exact ⟨0, pq_of (by decide +kernel)⟩
                  · rcases (show v0.toInt < 8 ∨ 8 ≤ v0.toInt by omega) with h52 | h52
                    · obtain rfl : v0 = 7 := Int32.toInt_inj.mp (by have e : (7 : Int32).toInt = 7 := (by decide +kernel); omega)
                      exact ⟨0, pq_of (by decide +kernel)⟩
                    · obtain rfl : v0 = 8 := Int32.toInt_inj.mp (by have e : (8 : Int32).toInt = 8 := (by decide +kernel); omega)
                      exact ⟨0, pq_of (by decide +kernel)⟩
    · exact ⟨(-1), ph_3, ph_3, (pcw_24003 v0 h43 h44), (pcw_24004 v0 h43 h44), pf_about_ph_3_0, Nat.le_of_ble_eq_true pf_about_ph_3_1, Nat.le_of_ble_eq_true pf_about_ph_3_2⟩

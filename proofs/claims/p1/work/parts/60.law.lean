/-! the law, one call on fresh objects: its walk -/
noncomputable abbrev lS (L : Nat) (xs : Nat → Int32) : pm_I → pm_F → pm_O := pm_step pm_cs pm_ms (pC 9) (some (L, xs)) 4 (some .boolean)
theorem lg_rr (r : Int64) : lg_cmp r r = 0 := by simp [lg_cmp]
theorem law_pre (L : Nat) (xs : Nat → Int32) : pm_law 10000 L xs = pm_run (lS L xs) (pm_at_pc pd_law) 9990 (18, [(3, .int 0), (2, .ref 225), (1, .ref 1), (0, .ref 0)], [], ph_3) := by
  show pm_run (lS L xs) (pm_at_pc pd_law) 10000 (0, [(0, .ref 0)], [], []) = _
  refine pm_r (F' := (3, [(0, .ref 0)], [.ref 1], ph_0)) el_0 (pm_sN rfl rfl) ?_
  refine pm_r (F' := (4, [(0, .ref 0)], [.ref 1, .ref 1], ph_0)) el_3 rfl ?_
  refine pm_r (F' := (7, [(0, .ref 0)], [.ref 1], ph_1)) el_4 (pm_sI (k := 100) lm_101 rfl rfl pc_1) ?_
  refine pm_r (F' := (8, [(1, .ref 1), (0, .ref 0)], [], ph_1)) el_7 rfl ?_
  refine pm_r (F' := (11, [(1, .ref 1), (0, .ref 0)], [.ref 225], ph_2)) el_8 (pm_sN rfl pz_1) ?_
  refine pm_r (F' := (12, [(1, .ref 1), (0, .ref 0)], [.ref 225, .ref 225], ph_2)) el_11 rfl ?_
  refine pm_r (F' := (15, [(1, .ref 1), (0, .ref 0)], [.ref 225], ph_3)) el_12 (pm_sI (k := 144) lm_145 rfl rfl pc_3) ?_
  refine pm_r (F' := (16, [(2, .ref 225), (1, .ref 1), (0, .ref 0)], [], ph_3)) el_15 rfl ?_
  refine pm_r (F' := (17, [(2, .ref 225), (1, .ref 1), (0, .ref 0)], [.int 0], ph_3)) el_16 rfl ?_
  refine pm_r (F' := (18, [(3, .int 0), (2, .ref 225), (1, .ref 1), (0, .ref 0)], [], ph_3)) el_17 rfl ?_
  rfl
theorem law_short0 (xs : Nat → Int32) : pm_run (lS 0 xs) (pm_at_pc pd_law) 9990 (18, [(3, .int 0), (2, .ref 225), (1, .ref 1), (0, .ref 0)], [], ph_3) = some (some (.int 1), ph_3) := by
  refine pm_r (F' := (19, [(3, .int 0), (2, .ref 225), (1, .ref 1), (0, .ref 0)], [.int 0], ph_3)) el_18 rfl ?_
  refine pm_r (F' := (20, [(3, .int 0), (2, .ref 225), (1, .ref 1), (0, .ref 0)], [.ref 0, .int 0], ph_3)) el_19 rfl ?_
  refine pm_r (F' := (21, [(3, .int 0), (2, .ref 225), (1, .ref 1), (0, .ref 0)], [.int 0, .int 0], ph_3)) el_20 rfl ?_
  refine pm_r (F' := (23, [(3, .int 0), (2, .ref 225), (1, .ref 1), (0, .ref 0)], [.int 6, .int 0, .int 0], ph_3)) el_21 rfl ?_
  refine pm_r (F' := (24, [(3, .int 0), (2, .ref 225), (1, .ref 1), (0, .ref 0)], [.int (-6), .int 0], ph_3)) el_23 rfl ?_
  refine pm_r (F' := (1015, [(3, .int 0), (2, .ref 225), (1, .ref 1), (0, .ref 0)], [], ph_3)) el_24 rfl ?_
  refine pm_r (F' := (1016, [(3, .int 0), (2, .ref 225), (1, .ref 1), (0, .ref 0)], [.int 1], ph_3)) el_1015 rfl ?_
  exact pm_rE el_1016 rfl
theorem law_short1 (xs : Nat → Int32) : pm_run (lS 1 xs) (pm_at_pc pd_law) 9990 (18, [(3, .int 0), (2, .ref 225), (1, .ref 1), (0, .ref 0)], [], ph_3) = some (some (.int 1), ph_3) := by
  refine pm_r (F' := (19, [(3, .int 0), (2, .ref 225), (1, .ref 1), (0, .ref 0)], [.int 0], ph_3)) el_18 rfl ?_
  refine pm_r (F' := (20, [(3, .int 0), (2, .ref 225), (1, .ref 1), (0, .ref 0)], [.ref 0, .int 0], ph_3)) el_19 rfl ?_
  refine pm_r (F' := (21, [(3, .int 0), (2, .ref 225), (1, .ref 1), (0, .ref 0)], [.int 1, .int 0], ph_3)) el_20 rfl ?_
  refine pm_r (F' := (23, [(3, .int 0), (2, .ref 225), (1, .ref 1), (0, .ref 0)], [.int 6, .int 1, .int 0], ph_3)) el_21 rfl ?_
  refine pm_r (F' := (24, [(3, .int 0), (2, .ref 225), (1, .ref 1), (0, .ref 0)], [.int (-5), .int 0], ph_3)) el_23 rfl ?_
  refine pm_r (F' := (1015, [(3, .int 0), (2, .ref 225), (1, .ref 1), (0, .ref 0)], [], ph_3)) el_24 rfl ?_
  refine pm_r (F' := (1016, [(3, .int 0), (2, .ref 225), (1, .ref 1), (0, .ref 0)], [.int 1], ph_3)) el_1015 rfl ?_
  exact pm_rE el_1016 rfl
theorem law_short2 (xs : Nat → Int32) : pm_run (lS 2 xs) (pm_at_pc pd_law) 9990 (18, [(3, .int 0), (2, .ref 225), (1, .ref 1), (0, .ref 0)], [], ph_3) = some (some (.int 1), ph_3) := by
  refine pm_r (F' := (19, [(3, .int 0), (2, .ref 225), (1, .ref 1), (0, .ref 0)], [.int 0], ph_3)) el_18 rfl ?_
  refine pm_r (F' := (20, [(3, .int 0), (2, .ref 225), (1, .ref 1), (0, .ref 0)], [.ref 0, .int 0], ph_3)) el_19 rfl ?_
  refine pm_r (F' := (21, [(3, .int 0), (2, .ref 225), (1, .ref 1), (0, .ref 0)], [.int 2, .int 0], ph_3)) el_20 rfl ?_
  refine pm_r (F' := (23, [(3, .int 0), (2, .ref 225), (1, .ref 1), (0, .ref 0)], [.int 6, .int 2, .int 0], ph_3)) el_21 rfl ?_
  refine pm_r (F' := (24, [(3, .int 0), (2, .ref 225), (1, .ref 1), (0, .ref 0)], [.int (-4), .int 0], ph_3)) el_23 rfl ?_
  refine pm_r (F' := (1015, [(3, .int 0), (2, .ref 225), (1, .ref 1), (0, .ref 0)], [], ph_3)) el_24 rfl ?_
  refine pm_r (F' := (1016, [(3, .int 0), (2, .ref 225), (1, .ref 1), (0, .ref 0)], [.int 1], ph_3)) el_1015 rfl ?_
  exact pm_rE el_1016 rfl
theorem law_short3 (xs : Nat → Int32) : pm_run (lS 3 xs) (pm_at_pc pd_law) 9990 (18, [(3, .int 0), (2, .ref 225), (1, .ref 1), (0, .ref 0)], [], ph_3) = some (some (.int 1), ph_3) := by
  refine pm_r (F' := (19, [(3, .int 0), (2, .ref 225), (1, .ref 1), (0, .ref 0)], [.int 0], ph_3)) el_18 rfl ?_
  refine pm_r (F' := (20, [(3, .int 0), (2, .ref 225), (1, .ref 1), (0, .ref 0)], [.ref 0, .int 0], ph_3)) el_19 rfl ?_
  refine pm_r (F' := (21, [(3, .int 0), (2, .ref 225), (1, .ref 1), (0, .ref 0)], [.int 3, .int 0], ph_3)) el_20 rfl ?_
  refine pm_r (F' := (23, [(3, .int 0), (2, .ref 225), (1, .ref 1), (0, .ref 0)], [.int 6, .int 3, .int 0], ph_3)) el_21 rfl ?_
  refine pm_r (F' := (24, [(3, .int 0), (2, .ref 225), (1, .ref 1), (0, .ref 0)], [.int (-3), .int 0], ph_3)) el_23 rfl ?_
  refine pm_r (F' := (1015, [(3, .int 0), (2, .ref 225), (1, .ref 1), (0, .ref 0)], [], ph_3)) el_24 rfl ?_
  refine pm_r (F' := (1016, [(3, .int 0), (2, .ref 225), (1, .ref 1), (0, .ref 0)], [.int 1], ph_3)) el_1015 rfl ?_
  exact pm_rE el_1016 rfl
theorem law_short4 (xs : Nat → Int32) : pm_run (lS 4 xs) (pm_at_pc pd_law) 9990 (18, [(3, .int 0), (2, .ref 225), (1, .ref 1), (0, .ref 0)], [], ph_3) = some (some (.int 1), ph_3) := by
  refine pm_r (F' := (19, [(3, .int 0), (2, .ref 225), (1, .ref 1), (0, .ref 0)], [.int 0], ph_3)) el_18 rfl ?_
  refine pm_r (F' := (20, [(3, .int 0), (2, .ref 225), (1, .ref 1), (0, .ref 0)], [.ref 0, .int 0], ph_3)) el_19 rfl ?_
  refine pm_r (F' := (21, [(3, .int 0), (2, .ref 225), (1, .ref 1), (0, .ref 0)], [.int 4, .int 0], ph_3)) el_20 rfl ?_
  refine pm_r (F' := (23, [(3, .int 0), (2, .ref 225), (1, .ref 1), (0, .ref 0)], [.int 6, .int 4, .int 0], ph_3)) el_21 rfl ?_
  refine pm_r (F' := (24, [(3, .int 0), (2, .ref 225), (1, .ref 1), (0, .ref 0)], [.int (-2), .int 0], ph_3)) el_23 rfl ?_
  refine pm_r (F' := (1015, [(3, .int 0), (2, .ref 225), (1, .ref 1), (0, .ref 0)], [], ph_3)) el_24 rfl ?_
  refine pm_r (F' := (1016, [(3, .int 0), (2, .ref 225), (1, .ref 1), (0, .ref 0)], [.int 1], ph_3)) el_1015 rfl ?_
  exact pm_rE el_1016 rfl
theorem law_short5 (xs : Nat → Int32) : pm_run (lS 5 xs) (pm_at_pc pd_law) 9990 (18, [(3, .int 0), (2, .ref 225), (1, .ref 1), (0, .ref 0)], [], ph_3) = some (some (.int 1), ph_3) := by
  refine pm_r (F' := (19, [(3, .int 0), (2, .ref 225), (1, .ref 1), (0, .ref 0)], [.int 0], ph_3)) el_18 rfl ?_
  refine pm_r (F' := (20, [(3, .int 0), (2, .ref 225), (1, .ref 1), (0, .ref 0)], [.ref 0, .int 0], ph_3)) el_19 rfl ?_
  refine pm_r (F' := (21, [(3, .int 0), (2, .ref 225), (1, .ref 1), (0, .ref 0)], [.int 5, .int 0], ph_3)) el_20 rfl ?_
  refine pm_r (F' := (23, [(3, .int 0), (2, .ref 225), (1, .ref 1), (0, .ref 0)], [.int 6, .int 5, .int 0], ph_3)) el_21 rfl ?_
  refine pm_r (F' := (24, [(3, .int 0), (2, .ref 225), (1, .ref 1), (0, .ref 0)], [.int (-1), .int 0], ph_3)) el_23 rfl ?_
  refine pm_r (F' := (1015, [(3, .int 0), (2, .ref 225), (1, .ref 1), (0, .ref 0)], [], ph_3)) el_24 rfl ?_
  refine pm_r (F' := (1016, [(3, .int 0), (2, .ref 225), (1, .ref 1), (0, .ref 0)], [.int 1], ph_3)) el_1015 rfl ?_
  exact pm_rE el_1016 rfl
theorem law_fin (xs : Nat → Int32) (H : pm_H) (n : Nat) : pm_run (lS 6 xs) (pm_at_pc pd_law) (n + 10) (1009, [(3, .int 0), (2, .ref 225), (1, .ref 1), (0, .ref 0)], [], H) = some (some (.int 1), H) := by
  refine pm_r (F' := (1012, [(3, .int 6), (2, .ref 225), (1, .ref 1), (0, .ref 0)], [], H)) el_1009 rfl ?_
  refine pm_r (F' := (18, [(3, .int 6), (2, .ref 225), (1, .ref 1), (0, .ref 0)], [], H)) el_1012 rfl ?_
  refine pm_r (F' := (19, [(3, .int 6), (2, .ref 225), (1, .ref 1), (0, .ref 0)], [.int 6], H)) el_18 rfl ?_
  refine pm_r (F' := (20, [(3, .int 6), (2, .ref 225), (1, .ref 1), (0, .ref 0)], [.ref 0, .int 6], H)) el_19 rfl ?_
  refine pm_r (F' := (21, [(3, .int 6), (2, .ref 225), (1, .ref 1), (0, .ref 0)], [.int 6, .int 6], H)) el_20 rfl ?_
  refine pm_r (F' := (23, [(3, .int 6), (2, .ref 225), (1, .ref 1), (0, .ref 0)], [.int 6, .int 6, .int 6], H)) el_21 rfl ?_
  refine pm_r (F' := (24, [(3, .int 6), (2, .ref 225), (1, .ref 1), (0, .ref 0)], [.int 0, .int 6], H)) el_23 rfl ?_
  refine pm_r (F' := (1015, [(3, .int 6), (2, .ref 225), (1, .ref 1), (0, .ref 0)], [], H)) el_24 rfl ?_
  refine pm_r (F' := (1016, [(3, .int 6), (2, .ref 225), (1, .ref 1), (0, .ref 0)], [.int 1], H)) el_1015 rfl ?_
  exact pm_rE el_1016 rfl
theorem law_head (xs : Nat → Int32) : pm_run (lS 6 xs) (pm_at_pc pd_law) 9990 (18, [(3, .int 0), (2, .ref 225), (1, .ref 1), (0, .ref 0)], [], ph_3) = pm_run (lS 6 xs) (pm_at_pc pd_law) 9979 (33, [(3, .int 0), (2, .ref 225), (1, .ref 1), (0, .ref 0)], [.int (xs 0 &&& 31)], ph_3) := by
  refine pm_r (F' := (19, [(3, .int 0), (2, .ref 225), (1, .ref 1), (0, .ref 0)], [.int 0], ph_3)) el_18 rfl ?_
  refine pm_r (F' := (20, [(3, .int 0), (2, .ref 225), (1, .ref 1), (0, .ref 0)], [.ref 0, .int 0], ph_3)) el_19 rfl ?_
  refine pm_r (F' := (21, [(3, .int 0), (2, .ref 225), (1, .ref 1), (0, .ref 0)], [.int 6, .int 0], ph_3)) el_20 rfl ?_
  refine pm_r (F' := (23, [(3, .int 0), (2, .ref 225), (1, .ref 1), (0, .ref 0)], [.int 6, .int 6, .int 0], ph_3)) el_21 rfl ?_
  refine pm_r (F' := (24, [(3, .int 0), (2, .ref 225), (1, .ref 1), (0, .ref 0)], [.int 0, .int 0], ph_3)) el_23 rfl ?_
  refine pm_r (F' := (27, [(3, .int 0), (2, .ref 225), (1, .ref 1), (0, .ref 0)], [], ph_3)) el_24 rfl ?_
  refine pm_r (F' := (28, [(3, .int 0), (2, .ref 225), (1, .ref 1), (0, .ref 0)], [.ref 0], ph_3)) el_27 rfl ?_
  refine pm_r (F' := (29, [(3, .int 0), (2, .ref 225), (1, .ref 1), (0, .ref 0)], [.int 0, .ref 0], ph_3)) el_28 rfl ?_
  refine pm_r (F' := (30, [(3, .int 0), (2, .ref 225), (1, .ref 1), (0, .ref 0)], [.int (xs 0)], ph_3)) el_29 rfl ?_
  refine pm_r (F' := (32, [(3, .int 0), (2, .ref 225), (1, .ref 1), (0, .ref 0)], [.int 31, .int (xs 0)], ph_3)) el_30 rfl ?_
  refine pm_r (F' := (33, [(3, .int 0), (2, .ref 225), (1, .ref 1), (0, .ref 0)], [.int (xs 0 &&& 31)], ph_3)) el_32 rfl ?_
  rfl
def law_ok (xs : Nat → Int32) (n : Nat) (F : pm_F) : Prop := ∃ hE, pm_run (lS 6 xs) (pm_at_pc pd_law) n F = some (some (.int 1), hE) ∧ hE.length ≤ 600000 ∧ pm_sls hE ≤ 7302250
theorem pz_31 : ph_3.length ≤ 600000 := by
  have z := pz_3
  rw [Bool.and_eq_true] at z
  have z1 := Nat.le_of_ble_eq_true z.1
  exact z1
theorem pz_32 : pm_sls ph_3 ≤ 7302250 := by
  have z := pz_3
  rw [Bool.and_eq_true] at z
  have z1 := Nat.le_of_ble_eq_true z.2
  exact z1
theorem po_31 : pm_clsOk 10 (pm_cell ph_3 1) = true := by
  have z := po_3
  rw [Bool.and_eq_true] at z
  exact z.1
theorem law_feed (xs : Nat → Int32) {r : Int32} (q : pq_ok 102 146 [.int (xs 1), .int (xs 2), .int (xs 3), .int (xs 4), .int (xs 5)] (.int r)) : law_ok xs 9978 (164, [(3, .int 0), (2, .ref 225), (1, .ref 1), (0, .ref 0)], [], ph_3) := by
  obtain ⟨h1, h2, c1, c2, o1, z1, z2⟩ := q
  refine ⟨h2, ?_, z1, z2⟩
  refine pm_r (F' := (165, [(3, .int 0), (2, .ref 225), (1, .ref 1), (0, .ref 0)], [.ref 1], ph_3)) el_164 rfl ?_
  refine pm_r (F' := (166, [(3, .int 0), (2, .ref 225), (1, .ref 1), (0, .ref 0)], [.ref 0, .ref 1], ph_3)) el_165 rfl ?_
  refine pm_r (F' := (167, [(3, .int 0), (2, .ref 225), (1, .ref 1), (0, .ref 0)], [.int 0, .ref 0, .ref 1], ph_3)) el_166 rfl ?_
  refine pm_r (F' := (168, [(3, .int 0), (2, .ref 225), (1, .ref 1), (0, .ref 0)], [.int 1, .int 0, .ref 0, .ref 1], ph_3)) el_167 rfl ?_
  refine pm_r (F' := (169, [(3, .int 0), (2, .ref 225), (1, .ref 1), (0, .ref 0)], [.int 1, .ref 0, .ref 1], ph_3)) el_168 rfl ?_
  refine pm_r (F' := (170, [(3, .int 0), (2, .ref 225), (1, .ref 1), (0, .ref 0)], [.int (xs 1), .ref 1], ph_3)) el_169 rfl ?_
  refine pm_r (F' := (171, [(3, .int 0), (2, .ref 225), (1, .ref 1), (0, .ref 0)], [.ref 0, .int (xs 1), .ref 1], ph_3)) el_170 rfl ?_
  refine pm_r (F' := (172, [(3, .int 0), (2, .ref 225), (1, .ref 1), (0, .ref 0)], [.int 0, .ref 0, .int (xs 1), .ref 1], ph_3)) el_171 rfl ?_
  refine pm_r (F' := (173, [(3, .int 0), (2, .ref 225), (1, .ref 1), (0, .ref 0)], [.int 2, .int 0, .ref 0, .int (xs 1), .ref 1], ph_3)) el_172 rfl ?_
  refine pm_r (F' := (174, [(3, .int 0), (2, .ref 225), (1, .ref 1), (0, .ref 0)], [.int 2, .ref 0, .int (xs 1), .ref 1], ph_3)) el_173 rfl ?_
  refine pm_r (F' := (175, [(3, .int 0), (2, .ref 225), (1, .ref 1), (0, .ref 0)], [.int (xs 2), .int (xs 1), .ref 1], ph_3)) el_174 rfl ?_
  refine pm_r (F' := (176, [(3, .int 0), (2, .ref 225), (1, .ref 1), (0, .ref 0)], [.ref 0, .int (xs 2), .int (xs 1), .ref 1], ph_3)) el_175 rfl ?_
  refine pm_r (F' := (177, [(3, .int 0), (2, .ref 225), (1, .ref 1), (0, .ref 0)], [.int 0, .ref 0, .int (xs 2), .int (xs 1), .ref 1], ph_3)) el_176 rfl ?_
  refine pm_r (F' := (178, [(3, .int 0), (2, .ref 225), (1, .ref 1), (0, .ref 0)], [.int 3, .int 0, .ref 0, .int (xs 2), .int (xs 1), .ref 1], ph_3)) el_177 rfl ?_
  refine pm_r (F' := (179, [(3, .int 0), (2, .ref 225), (1, .ref 1), (0, .ref 0)], [.int 3, .ref 0, .int (xs 2), .int (xs 1), .ref 1], ph_3)) el_178 rfl ?_
  refine pm_r (F' := (180, [(3, .int 0), (2, .ref 225), (1, .ref 1), (0, .ref 0)], [.int (xs 3), .int (xs 2), .int (xs 1), .ref 1], ph_3)) el_179 rfl ?_
  refine pm_r (F' := (181, [(3, .int 0), (2, .ref 225), (1, .ref 1), (0, .ref 0)], [.ref 0, .int (xs 3), .int (xs 2), .int (xs 1), .ref 1], ph_3)) el_180 rfl ?_
  refine pm_r (F' := (182, [(3, .int 0), (2, .ref 225), (1, .ref 1), (0, .ref 0)], [.int 0, .ref 0, .int (xs 3), .int (xs 2), .int (xs 1), .ref 1], ph_3)) el_181 rfl ?_
  refine pm_r (F' := (183, [(3, .int 0), (2, .ref 225), (1, .ref 1), (0, .ref 0)], [.int 4, .int 0, .ref 0, .int (xs 3), .int (xs 2), .int (xs 1), .ref 1], ph_3)) el_182 rfl ?_
  refine pm_r (F' := (184, [(3, .int 0), (2, .ref 225), (1, .ref 1), (0, .ref 0)], [.int 4, .ref 0, .int (xs 3), .int (xs 2), .int (xs 1), .ref 1], ph_3)) el_183 rfl ?_
  refine pm_r (F' := (185, [(3, .int 0), (2, .ref 225), (1, .ref 1), (0, .ref 0)], [.int (xs 4), .int (xs 3), .int (xs 2), .int (xs 1), .ref 1], ph_3)) el_184 rfl ?_
  refine pm_r (F' := (186, [(3, .int 0), (2, .ref 225), (1, .ref 1), (0, .ref 0)], [.ref 0, .int (xs 4), .int (xs 3), .int (xs 2), .int (xs 1), .ref 1], ph_3)) el_185 rfl ?_
  refine pm_r (F' := (187, [(3, .int 0), (2, .ref 225), (1, .ref 1), (0, .ref 0)], [.int 0, .ref 0, .int (xs 4), .int (xs 3), .int (xs 2), .int (xs 1), .ref 1], ph_3)) el_186 rfl ?_
  refine pm_r (F' := (188, [(3, .int 0), (2, .ref 225), (1, .ref 1), (0, .ref 0)], [.int 5, .int 0, .ref 0, .int (xs 4), .int (xs 3), .int (xs 2), .int (xs 1), .ref 1], ph_3)) el_187 rfl ?_
  refine pm_r (F' := (189, [(3, .int 0), (2, .ref 225), (1, .ref 1), (0, .ref 0)], [.int 5, .ref 0, .int (xs 4), .int (xs 3), .int (xs 2), .int (xs 1), .ref 1], ph_3)) el_188 rfl ?_
  refine pm_r (F' := (190, [(3, .int 0), (2, .ref 225), (1, .ref 1), (0, .ref 0)], [.int (xs 5), .int (xs 4), .int (xs 3), .int (xs 2), .int (xs 1), .ref 1], ph_3)) el_189 rfl ?_
  refine pm_r (F' := (193, [(3, .int 0), (2, .ref 225), (1, .ref 1), (0, .ref 0)], [.int r], h1)) el_190 (pm_sV lm_102 rfl rfl po_31 c1) ?_
  refine pm_r (F' := (194, [(3, .int 0), (2, .ref 225), (1, .ref 1), (0, .ref 0)], [.ref 225, .int r], h1)) el_193 rfl ?_
  refine pm_r (F' := (195, [(3, .int 0), (2, .ref 225), (1, .ref 1), (0, .ref 0)], [.ref 0, .ref 225, .int r], h1)) el_194 rfl ?_
  refine pm_r (F' := (196, [(3, .int 0), (2, .ref 225), (1, .ref 1), (0, .ref 0)], [.int 0, .ref 0, .ref 225, .int r], h1)) el_195 rfl ?_
  refine pm_r (F' := (197, [(3, .int 0), (2, .ref 225), (1, .ref 1), (0, .ref 0)], [.int 1, .int 0, .ref 0, .ref 225, .int r], h1)) el_196 rfl ?_
  refine pm_r (F' := (198, [(3, .int 0), (2, .ref 225), (1, .ref 1), (0, .ref 0)], [.int 1, .ref 0, .ref 225, .int r], h1)) el_197 rfl ?_
  refine pm_r (F' := (199, [(3, .int 0), (2, .ref 225), (1, .ref 1), (0, .ref 0)], [.int (xs 1), .ref 225, .int r], h1)) el_198 rfl ?_
  refine pm_r (F' := (200, [(3, .int 0), (2, .ref 225), (1, .ref 1), (0, .ref 0)], [.ref 0, .int (xs 1), .ref 225, .int r], h1)) el_199 rfl ?_
  refine pm_r (F' := (201, [(3, .int 0), (2, .ref 225), (1, .ref 1), (0, .ref 0)], [.int 0, .ref 0, .int (xs 1), .ref 225, .int r], h1)) el_200 rfl ?_
  refine pm_r (F' := (202, [(3, .int 0), (2, .ref 225), (1, .ref 1), (0, .ref 0)], [.int 2, .int 0, .ref 0, .int (xs 1), .ref 225, .int r], h1)) el_201 rfl ?_
  refine pm_r (F' := (203, [(3, .int 0), (2, .ref 225), (1, .ref 1), (0, .ref 0)], [.int 2, .ref 0, .int (xs 1), .ref 225, .int r], h1)) el_202 rfl ?_
  refine pm_r (F' := (204, [(3, .int 0), (2, .ref 225), (1, .ref 1), (0, .ref 0)], [.int (xs 2), .int (xs 1), .ref 225, .int r], h1)) el_203 rfl ?_
  refine pm_r (F' := (205, [(3, .int 0), (2, .ref 225), (1, .ref 1), (0, .ref 0)], [.ref 0, .int (xs 2), .int (xs 1), .ref 225, .int r], h1)) el_204 rfl ?_
  refine pm_r (F' := (206, [(3, .int 0), (2, .ref 225), (1, .ref 1), (0, .ref 0)], [.int 0, .ref 0, .int (xs 2), .int (xs 1), .ref 225, .int r], h1)) el_205 rfl ?_
  refine pm_r (F' := (207, [(3, .int 0), (2, .ref 225), (1, .ref 1), (0, .ref 0)], [.int 3, .int 0, .ref 0, .int (xs 2), .int (xs 1), .ref 225, .int r], h1)) el_206 rfl ?_
  refine pm_r (F' := (208, [(3, .int 0), (2, .ref 225), (1, .ref 1), (0, .ref 0)], [.int 3, .ref 0, .int (xs 2), .int (xs 1), .ref 225, .int r], h1)) el_207 rfl ?_
  refine pm_r (F' := (209, [(3, .int 0), (2, .ref 225), (1, .ref 1), (0, .ref 0)], [.int (xs 3), .int (xs 2), .int (xs 1), .ref 225, .int r], h1)) el_208 rfl ?_
  refine pm_r (F' := (210, [(3, .int 0), (2, .ref 225), (1, .ref 1), (0, .ref 0)], [.ref 0, .int (xs 3), .int (xs 2), .int (xs 1), .ref 225, .int r], h1)) el_209 rfl ?_
  refine pm_r (F' := (211, [(3, .int 0), (2, .ref 225), (1, .ref 1), (0, .ref 0)], [.int 0, .ref 0, .int (xs 3), .int (xs 2), .int (xs 1), .ref 225, .int r], h1)) el_210 rfl ?_
  refine pm_r (F' := (212, [(3, .int 0), (2, .ref 225), (1, .ref 1), (0, .ref 0)], [.int 4, .int 0, .ref 0, .int (xs 3), .int (xs 2), .int (xs 1), .ref 225, .int r], h1)) el_211 rfl ?_
  refine pm_r (F' := (213, [(3, .int 0), (2, .ref 225), (1, .ref 1), (0, .ref 0)], [.int 4, .ref 0, .int (xs 3), .int (xs 2), .int (xs 1), .ref 225, .int r], h1)) el_212 rfl ?_
  refine pm_r (F' := (214, [(3, .int 0), (2, .ref 225), (1, .ref 1), (0, .ref 0)], [.int (xs 4), .int (xs 3), .int (xs 2), .int (xs 1), .ref 225, .int r], h1)) el_213 rfl ?_
  refine pm_r (F' := (215, [(3, .int 0), (2, .ref 225), (1, .ref 1), (0, .ref 0)], [.ref 0, .int (xs 4), .int (xs 3), .int (xs 2), .int (xs 1), .ref 225, .int r], h1)) el_214 rfl ?_
  refine pm_r (F' := (216, [(3, .int 0), (2, .ref 225), (1, .ref 1), (0, .ref 0)], [.int 0, .ref 0, .int (xs 4), .int (xs 3), .int (xs 2), .int (xs 1), .ref 225, .int r], h1)) el_215 rfl ?_
  refine pm_r (F' := (217, [(3, .int 0), (2, .ref 225), (1, .ref 1), (0, .ref 0)], [.int 5, .int 0, .ref 0, .int (xs 4), .int (xs 3), .int (xs 2), .int (xs 1), .ref 225, .int r], h1)) el_216 rfl ?_
  refine pm_r (F' := (218, [(3, .int 0), (2, .ref 225), (1, .ref 1), (0, .ref 0)], [.int 5, .ref 0, .int (xs 4), .int (xs 3), .int (xs 2), .int (xs 1), .ref 225, .int r], h1)) el_217 rfl ?_
  refine pm_r (F' := (219, [(3, .int 0), (2, .ref 225), (1, .ref 1), (0, .ref 0)], [.int (xs 5), .int (xs 4), .int (xs 3), .int (xs 2), .int (xs 1), .ref 225, .int r], h1)) el_218 rfl ?_
  refine pm_r (F' := (222, [(3, .int 0), (2, .ref 225), (1, .ref 1), (0, .ref 0)], [.int r, .int r], h2)) el_219 (pm_sV lm_146 rfl rfl o1 c2) ?_
  refine pm_r (F' := (1009, [(3, .int 0), (2, .ref 225), (1, .ref 1), (0, .ref 0)], [], h2)) el_222 (pm_sJ rfl (pm_jt (decide_eq_true (rfl : r = r)))) ?_
  exact law_fin xs h2 9913
theorem law_end (xs : Nat → Int32) {r : Int32} (q : pq_ok 104 148 [.int (xs 1)] (.int r)) : law_ok xs 9978 (227, [(3, .int 0), (2, .ref 225), (1, .ref 1), (0, .ref 0)], [], ph_3) := by
  obtain ⟨h1, h2, c1, c2, o1, z1, z2⟩ := q
  refine ⟨h2, ?_, z1, z2⟩
  refine pm_r (F' := (228, [(3, .int 0), (2, .ref 225), (1, .ref 1), (0, .ref 0)], [.ref 1], ph_3)) el_227 rfl ?_
  refine pm_r (F' := (229, [(3, .int 0), (2, .ref 225), (1, .ref 1), (0, .ref 0)], [.ref 0, .ref 1], ph_3)) el_228 rfl ?_
  refine pm_r (F' := (230, [(3, .int 0), (2, .ref 225), (1, .ref 1), (0, .ref 0)], [.int 0, .ref 0, .ref 1], ph_3)) el_229 rfl ?_
  refine pm_r (F' := (231, [(3, .int 0), (2, .ref 225), (1, .ref 1), (0, .ref 0)], [.int 1, .int 0, .ref 0, .ref 1], ph_3)) el_230 rfl ?_
  refine pm_r (F' := (232, [(3, .int 0), (2, .ref 225), (1, .ref 1), (0, .ref 0)], [.int 1, .ref 0, .ref 1], ph_3)) el_231 rfl ?_
  refine pm_r (F' := (233, [(3, .int 0), (2, .ref 225), (1, .ref 1), (0, .ref 0)], [.int (xs 1), .ref 1], ph_3)) el_232 rfl ?_
  refine pm_r (F' := (236, [(3, .int 0), (2, .ref 225), (1, .ref 1), (0, .ref 0)], [.int r], h1)) el_233 (pm_sV lm_104 rfl rfl po_31 c1) ?_
  refine pm_r (F' := (237, [(3, .int 0), (2, .ref 225), (1, .ref 1), (0, .ref 0)], [.ref 225, .int r], h1)) el_236 rfl ?_
  refine pm_r (F' := (238, [(3, .int 0), (2, .ref 225), (1, .ref 1), (0, .ref 0)], [.ref 0, .ref 225, .int r], h1)) el_237 rfl ?_
  refine pm_r (F' := (239, [(3, .int 0), (2, .ref 225), (1, .ref 1), (0, .ref 0)], [.int 0, .ref 0, .ref 225, .int r], h1)) el_238 rfl ?_
  refine pm_r (F' := (240, [(3, .int 0), (2, .ref 225), (1, .ref 1), (0, .ref 0)], [.int 1, .int 0, .ref 0, .ref 225, .int r], h1)) el_239 rfl ?_
  refine pm_r (F' := (241, [(3, .int 0), (2, .ref 225), (1, .ref 1), (0, .ref 0)], [.int 1, .ref 0, .ref 225, .int r], h1)) el_240 rfl ?_
  refine pm_r (F' := (242, [(3, .int 0), (2, .ref 225), (1, .ref 1), (0, .ref 0)], [.int (xs 1), .ref 225, .int r], h1)) el_241 rfl ?_
  refine pm_r (F' := (245, [(3, .int 0), (2, .ref 225), (1, .ref 1), (0, .ref 0)], [.int r, .int r], h2)) el_242 (pm_sV lm_148 rfl rfl o1 c2) ?_
  refine pm_r (F' := (1009, [(3, .int 0), (2, .ref 225), (1, .ref 1), (0, .ref 0)], [], h2)) el_245 (pm_sJ rfl (pm_jt (decide_eq_true (rfl : r = r)))) ?_
  exact law_fin xs h2 9953
theorem law_ground (xs : Nat → Int32) {r : Int32} (q : pq_ok 105 171 [] (.int r)) : law_ok xs 9978 (250, [(3, .int 0), (2, .ref 225), (1, .ref 1), (0, .ref 0)], [], ph_3) := by
  obtain ⟨h1, h2, c1, c2, o1, z1, z2⟩ := q
  refine ⟨h2, ?_, z1, z2⟩
  refine pm_r (F' := (251, [(3, .int 0), (2, .ref 225), (1, .ref 1), (0, .ref 0)], [.ref 1], ph_3)) el_250 rfl ?_
  refine pm_r (F' := (254, [(3, .int 0), (2, .ref 225), (1, .ref 1), (0, .ref 0)], [.int r], h1)) el_251 (pm_sV lm_105 rfl rfl po_31 c1) ?_
  refine pm_r (F' := (255, [(3, .int 0), (2, .ref 225), (1, .ref 1), (0, .ref 0)], [.ref 225, .int r], h1)) el_254 rfl ?_
  refine pm_r (F' := (258, [(3, .int 0), (2, .ref 225), (1, .ref 1), (0, .ref 0)], [.int r, .int r], h2)) el_255 (pm_sV lm_171 rfl rfl o1 c2) ?_
  refine pm_r (F' := (1009, [(3, .int 0), (2, .ref 225), (1, .ref 1), (0, .ref 0)], [], h2)) el_258 (pm_sJ rfl (pm_jt (decide_eq_true (rfl : r = r)))) ?_
  exact law_fin xs h2 9963
theorem law_fault (xs : Nat → Int32) {r : Int32} (q : pq_ok 106 172 [.int (xs 1)] (.int r)) : law_ok xs 9978 (263, [(3, .int 0), (2, .ref 225), (1, .ref 1), (0, .ref 0)], [], ph_3) := by
  obtain ⟨h1, h2, c1, c2, o1, z1, z2⟩ := q
  refine ⟨h2, ?_, z1, z2⟩
  refine pm_r (F' := (264, [(3, .int 0), (2, .ref 225), (1, .ref 1), (0, .ref 0)], [.ref 1], ph_3)) el_263 rfl ?_
  refine pm_r (F' := (265, [(3, .int 0), (2, .ref 225), (1, .ref 1), (0, .ref 0)], [.ref 0, .ref 1], ph_3)) el_264 rfl ?_
  refine pm_r (F' := (266, [(3, .int 0), (2, .ref 225), (1, .ref 1), (0, .ref 0)], [.int 0, .ref 0, .ref 1], ph_3)) el_265 rfl ?_
  refine pm_r (F' := (267, [(3, .int 0), (2, .ref 225), (1, .ref 1), (0, .ref 0)], [.int 1, .int 0, .ref 0, .ref 1], ph_3)) el_266 rfl ?_
  refine pm_r (F' := (268, [(3, .int 0), (2, .ref 225), (1, .ref 1), (0, .ref 0)], [.int 1, .ref 0, .ref 1], ph_3)) el_267 rfl ?_
  refine pm_r (F' := (269, [(3, .int 0), (2, .ref 225), (1, .ref 1), (0, .ref 0)], [.int (xs 1), .ref 1], ph_3)) el_268 rfl ?_
  refine pm_r (F' := (272, [(3, .int 0), (2, .ref 225), (1, .ref 1), (0, .ref 0)], [.int r], h1)) el_269 (pm_sV lm_106 rfl rfl po_31 c1) ?_
  refine pm_r (F' := (273, [(3, .int 0), (2, .ref 225), (1, .ref 1), (0, .ref 0)], [.ref 225, .int r], h1)) el_272 rfl ?_
  refine pm_r (F' := (274, [(3, .int 0), (2, .ref 225), (1, .ref 1), (0, .ref 0)], [.ref 0, .ref 225, .int r], h1)) el_273 rfl ?_
  refine pm_r (F' := (275, [(3, .int 0), (2, .ref 225), (1, .ref 1), (0, .ref 0)], [.int 0, .ref 0, .ref 225, .int r], h1)) el_274 rfl ?_
  refine pm_r (F' := (276, [(3, .int 0), (2, .ref 225), (1, .ref 1), (0, .ref 0)], [.int 1, .int 0, .ref 0, .ref 225, .int r], h1)) el_275 rfl ?_
  refine pm_r (F' := (277, [(3, .int 0), (2, .ref 225), (1, .ref 1), (0, .ref 0)], [.int 1, .ref 0, .ref 225, .int r], h1)) el_276 rfl ?_
  refine pm_r (F' := (278, [(3, .int 0), (2, .ref 225), (1, .ref 1), (0, .ref 0)], [.int (xs 1), .ref 225, .int r], h1)) el_277 rfl ?_
  refine pm_r (F' := (281, [(3, .int 0), (2, .ref 225), (1, .ref 1), (0, .ref 0)], [.int r, .int r], h2)) el_278 (pm_sV lm_172 rfl rfl o1 c2) ?_
  refine pm_r (F' := (1009, [(3, .int 0), (2, .ref 225), (1, .ref 1), (0, .ref 0)], [], h2)) el_281 (pm_sJ rfl (pm_jt (decide_eq_true (rfl : r = r)))) ?_
  exact law_fin xs h2 9953
theorem law_point (xs : Nat → Int32) {r : Int32} (q : pq_ok 107 179 [.int (xs 1), .int (xs 2)] (.int r)) : law_ok xs 9978 (286, [(3, .int 0), (2, .ref 225), (1, .ref 1), (0, .ref 0)], [], ph_3) := by
  obtain ⟨h1, h2, c1, c2, o1, z1, z2⟩ := q
  refine ⟨h2, ?_, z1, z2⟩
  refine pm_r (F' := (287, [(3, .int 0), (2, .ref 225), (1, .ref 1), (0, .ref 0)], [.ref 1], ph_3)) el_286 rfl ?_
  refine pm_r (F' := (288, [(3, .int 0), (2, .ref 225), (1, .ref 1), (0, .ref 0)], [.ref 0, .ref 1], ph_3)) el_287 rfl ?_
  refine pm_r (F' := (289, [(3, .int 0), (2, .ref 225), (1, .ref 1), (0, .ref 0)], [.int 0, .ref 0, .ref 1], ph_3)) el_288 rfl ?_
  refine pm_r (F' := (290, [(3, .int 0), (2, .ref 225), (1, .ref 1), (0, .ref 0)], [.int 1, .int 0, .ref 0, .ref 1], ph_3)) el_289 rfl ?_
  refine pm_r (F' := (291, [(3, .int 0), (2, .ref 225), (1, .ref 1), (0, .ref 0)], [.int 1, .ref 0, .ref 1], ph_3)) el_290 rfl ?_
  refine pm_r (F' := (292, [(3, .int 0), (2, .ref 225), (1, .ref 1), (0, .ref 0)], [.int (xs 1), .ref 1], ph_3)) el_291 rfl ?_
  refine pm_r (F' := (293, [(3, .int 0), (2, .ref 225), (1, .ref 1), (0, .ref 0)], [.ref 0, .int (xs 1), .ref 1], ph_3)) el_292 rfl ?_
  refine pm_r (F' := (294, [(3, .int 0), (2, .ref 225), (1, .ref 1), (0, .ref 0)], [.int 0, .ref 0, .int (xs 1), .ref 1], ph_3)) el_293 rfl ?_
  refine pm_r (F' := (295, [(3, .int 0), (2, .ref 225), (1, .ref 1), (0, .ref 0)], [.int 2, .int 0, .ref 0, .int (xs 1), .ref 1], ph_3)) el_294 rfl ?_
  refine pm_r (F' := (296, [(3, .int 0), (2, .ref 225), (1, .ref 1), (0, .ref 0)], [.int 2, .ref 0, .int (xs 1), .ref 1], ph_3)) el_295 rfl ?_
  refine pm_r (F' := (297, [(3, .int 0), (2, .ref 225), (1, .ref 1), (0, .ref 0)], [.int (xs 2), .int (xs 1), .ref 1], ph_3)) el_296 rfl ?_
  refine pm_r (F' := (300, [(3, .int 0), (2, .ref 225), (1, .ref 1), (0, .ref 0)], [.int r], h1)) el_297 (pm_sV lm_107 rfl rfl po_31 c1) ?_
  refine pm_r (F' := (301, [(3, .int 0), (2, .ref 225), (1, .ref 1), (0, .ref 0)], [.ref 225, .int r], h1)) el_300 rfl ?_
  refine pm_r (F' := (302, [(3, .int 0), (2, .ref 225), (1, .ref 1), (0, .ref 0)], [.ref 0, .ref 225, .int r], h1)) el_301 rfl ?_
  refine pm_r (F' := (303, [(3, .int 0), (2, .ref 225), (1, .ref 1), (0, .ref 0)], [.int 0, .ref 0, .ref 225, .int r], h1)) el_302 rfl ?_
  refine pm_r (F' := (304, [(3, .int 0), (2, .ref 225), (1, .ref 1), (0, .ref 0)], [.int 1, .int 0, .ref 0, .ref 225, .int r], h1)) el_303 rfl ?_
  refine pm_r (F' := (305, [(3, .int 0), (2, .ref 225), (1, .ref 1), (0, .ref 0)], [.int 1, .ref 0, .ref 225, .int r], h1)) el_304 rfl ?_
  refine pm_r (F' := (306, [(3, .int 0), (2, .ref 225), (1, .ref 1), (0, .ref 0)], [.int (xs 1), .ref 225, .int r], h1)) el_305 rfl ?_
  refine pm_r (F' := (307, [(3, .int 0), (2, .ref 225), (1, .ref 1), (0, .ref 0)], [.ref 0, .int (xs 1), .ref 225, .int r], h1)) el_306 rfl ?_
  refine pm_r (F' := (308, [(3, .int 0), (2, .ref 225), (1, .ref 1), (0, .ref 0)], [.int 0, .ref 0, .int (xs 1), .ref 225, .int r], h1)) el_307 rfl ?_
  refine pm_r (F' := (309, [(3, .int 0), (2, .ref 225), (1, .ref 1), (0, .ref 0)], [.int 2, .int 0, .ref 0, .int (xs 1), .ref 225, .int r], h1)) el_308 rfl ?_
  refine pm_r (F' := (310, [(3, .int 0), (2, .ref 225), (1, .ref 1), (0, .ref 0)], [.int 2, .ref 0, .int (xs 1), .ref 225, .int r], h1)) el_309 rfl ?_
  refine pm_r (F' := (311, [(3, .int 0), (2, .ref 225), (1, .ref 1), (0, .ref 0)], [.int (xs 2), .int (xs 1), .ref 225, .int r], h1)) el_310 rfl ?_
  refine pm_r (F' := (314, [(3, .int 0), (2, .ref 225), (1, .ref 1), (0, .ref 0)], [.int r, .int r], h2)) el_311 (pm_sV lm_179 rfl rfl o1 c2) ?_
  refine pm_r (F' := (1009, [(3, .int 0), (2, .ref 225), (1, .ref 1), (0, .ref 0)], [], h2)) el_314 (pm_sJ rfl (pm_jt (decide_eq_true (rfl : r = r)))) ?_
  exact law_fin xs h2 9943
theorem law_number (xs : Nat → Int32) {r : Int64} (q : pq_ok 108 191 [.int (xs 1), .int (xs 2)] (.long r)) : law_ok xs 9978 (319, [(3, .int 0), (2, .ref 225), (1, .ref 1), (0, .ref 0)], [], ph_3) := by
  obtain ⟨h1, h2, c1, c2, o1, z1, z2⟩ := q
  refine ⟨h2, ?_, z1, z2⟩
  refine pm_r (F' := (320, [(3, .int 0), (2, .ref 225), (1, .ref 1), (0, .ref 0)], [.ref 1], ph_3)) el_319 rfl ?_
  refine pm_r (F' := (321, [(3, .int 0), (2, .ref 225), (1, .ref 1), (0, .ref 0)], [.ref 0, .ref 1], ph_3)) el_320 rfl ?_
  refine pm_r (F' := (322, [(3, .int 0), (2, .ref 225), (1, .ref 1), (0, .ref 0)], [.int 0, .ref 0, .ref 1], ph_3)) el_321 rfl ?_
  refine pm_r (F' := (323, [(3, .int 0), (2, .ref 225), (1, .ref 1), (0, .ref 0)], [.int 1, .int 0, .ref 0, .ref 1], ph_3)) el_322 rfl ?_
  refine pm_r (F' := (324, [(3, .int 0), (2, .ref 225), (1, .ref 1), (0, .ref 0)], [.int 1, .ref 0, .ref 1], ph_3)) el_323 rfl ?_
  refine pm_r (F' := (325, [(3, .int 0), (2, .ref 225), (1, .ref 1), (0, .ref 0)], [.int (xs 1), .ref 1], ph_3)) el_324 rfl ?_
  refine pm_r (F' := (326, [(3, .int 0), (2, .ref 225), (1, .ref 1), (0, .ref 0)], [.ref 0, .int (xs 1), .ref 1], ph_3)) el_325 rfl ?_
  refine pm_r (F' := (327, [(3, .int 0), (2, .ref 225), (1, .ref 1), (0, .ref 0)], [.int 0, .ref 0, .int (xs 1), .ref 1], ph_3)) el_326 rfl ?_
  refine pm_r (F' := (328, [(3, .int 0), (2, .ref 225), (1, .ref 1), (0, .ref 0)], [.int 2, .int 0, .ref 0, .int (xs 1), .ref 1], ph_3)) el_327 rfl ?_
  refine pm_r (F' := (329, [(3, .int 0), (2, .ref 225), (1, .ref 1), (0, .ref 0)], [.int 2, .ref 0, .int (xs 1), .ref 1], ph_3)) el_328 rfl ?_
  refine pm_r (F' := (330, [(3, .int 0), (2, .ref 225), (1, .ref 1), (0, .ref 0)], [.int (xs 2), .int (xs 1), .ref 1], ph_3)) el_329 rfl ?_
  refine pm_r (F' := (333, [(3, .int 0), (2, .ref 225), (1, .ref 1), (0, .ref 0)], [.long r], h1)) el_330 (pm_sV lm_108 rfl rfl po_31 c1) ?_
  refine pm_r (F' := (334, [(3, .int 0), (2, .ref 225), (1, .ref 1), (0, .ref 0)], [.ref 225, .long r], h1)) el_333 rfl ?_
  refine pm_r (F' := (335, [(3, .int 0), (2, .ref 225), (1, .ref 1), (0, .ref 0)], [.ref 0, .ref 225, .long r], h1)) el_334 rfl ?_
  refine pm_r (F' := (336, [(3, .int 0), (2, .ref 225), (1, .ref 1), (0, .ref 0)], [.int 0, .ref 0, .ref 225, .long r], h1)) el_335 rfl ?_
  refine pm_r (F' := (337, [(3, .int 0), (2, .ref 225), (1, .ref 1), (0, .ref 0)], [.int 1, .int 0, .ref 0, .ref 225, .long r], h1)) el_336 rfl ?_
  refine pm_r (F' := (338, [(3, .int 0), (2, .ref 225), (1, .ref 1), (0, .ref 0)], [.int 1, .ref 0, .ref 225, .long r], h1)) el_337 rfl ?_
  refine pm_r (F' := (339, [(3, .int 0), (2, .ref 225), (1, .ref 1), (0, .ref 0)], [.int (xs 1), .ref 225, .long r], h1)) el_338 rfl ?_
  refine pm_r (F' := (340, [(3, .int 0), (2, .ref 225), (1, .ref 1), (0, .ref 0)], [.ref 0, .int (xs 1), .ref 225, .long r], h1)) el_339 rfl ?_
  refine pm_r (F' := (341, [(3, .int 0), (2, .ref 225), (1, .ref 1), (0, .ref 0)], [.int 0, .ref 0, .int (xs 1), .ref 225, .long r], h1)) el_340 rfl ?_
  refine pm_r (F' := (342, [(3, .int 0), (2, .ref 225), (1, .ref 1), (0, .ref 0)], [.int 2, .int 0, .ref 0, .int (xs 1), .ref 225, .long r], h1)) el_341 rfl ?_
  refine pm_r (F' := (343, [(3, .int 0), (2, .ref 225), (1, .ref 1), (0, .ref 0)], [.int 2, .ref 0, .int (xs 1), .ref 225, .long r], h1)) el_342 rfl ?_
  refine pm_r (F' := (344, [(3, .int 0), (2, .ref 225), (1, .ref 1), (0, .ref 0)], [.int (xs 2), .int (xs 1), .ref 225, .long r], h1)) el_343 rfl ?_
  refine pm_r (F' := (347, [(3, .int 0), (2, .ref 225), (1, .ref 1), (0, .ref 0)], [.long r, .long r], h2)) el_344 (pm_sV lm_191 rfl rfl o1 c2) ?_
  refine pm_r (F' := (348, [(3, .int 0), (2, .ref 225), (1, .ref 1), (0, .ref 0)], [.int (lg_cmp r r)], h2)) el_347 rfl ?_
  refine pm_r (F' := (1009, [(3, .int 0), (2, .ref 225), (1, .ref 1), (0, .ref 0)], [], h2)) el_348 (pm_sJ rfl (pm_jt (decide_eq_true (lg_rr r)))) ?_
  exact law_fin xs h2 9942
theorem law_loops (xs : Nat → Int32) {r : Int32} (q : pq_ok 109 192 [.int (xs 1), .int (xs 2)] (.int r)) : law_ok xs 9978 (353, [(3, .int 0), (2, .ref 225), (1, .ref 1), (0, .ref 0)], [], ph_3) := by
  obtain ⟨h1, h2, c1, c2, o1, z1, z2⟩ := q
  refine ⟨h2, ?_, z1, z2⟩
  refine pm_r (F' := (354, [(3, .int 0), (2, .ref 225), (1, .ref 1), (0, .ref 0)], [.ref 1], ph_3)) el_353 rfl ?_
  refine pm_r (F' := (355, [(3, .int 0), (2, .ref 225), (1, .ref 1), (0, .ref 0)], [.ref 0, .ref 1], ph_3)) el_354 rfl ?_
  refine pm_r (F' := (356, [(3, .int 0), (2, .ref 225), (1, .ref 1), (0, .ref 0)], [.int 0, .ref 0, .ref 1], ph_3)) el_355 rfl ?_
  refine pm_r (F' := (357, [(3, .int 0), (2, .ref 225), (1, .ref 1), (0, .ref 0)], [.int 1, .int 0, .ref 0, .ref 1], ph_3)) el_356 rfl ?_
  refine pm_r (F' := (358, [(3, .int 0), (2, .ref 225), (1, .ref 1), (0, .ref 0)], [.int 1, .ref 0, .ref 1], ph_3)) el_357 rfl ?_
  refine pm_r (F' := (359, [(3, .int 0), (2, .ref 225), (1, .ref 1), (0, .ref 0)], [.int (xs 1), .ref 1], ph_3)) el_358 rfl ?_
  refine pm_r (F' := (360, [(3, .int 0), (2, .ref 225), (1, .ref 1), (0, .ref 0)], [.ref 0, .int (xs 1), .ref 1], ph_3)) el_359 rfl ?_
  refine pm_r (F' := (361, [(3, .int 0), (2, .ref 225), (1, .ref 1), (0, .ref 0)], [.int 0, .ref 0, .int (xs 1), .ref 1], ph_3)) el_360 rfl ?_
  refine pm_r (F' := (362, [(3, .int 0), (2, .ref 225), (1, .ref 1), (0, .ref 0)], [.int 2, .int 0, .ref 0, .int (xs 1), .ref 1], ph_3)) el_361 rfl ?_
  refine pm_r (F' := (363, [(3, .int 0), (2, .ref 225), (1, .ref 1), (0, .ref 0)], [.int 2, .ref 0, .int (xs 1), .ref 1], ph_3)) el_362 rfl ?_
  refine pm_r (F' := (364, [(3, .int 0), (2, .ref 225), (1, .ref 1), (0, .ref 0)], [.int (xs 2), .int (xs 1), .ref 1], ph_3)) el_363 rfl ?_
  refine pm_r (F' := (367, [(3, .int 0), (2, .ref 225), (1, .ref 1), (0, .ref 0)], [.int r], h1)) el_364 (pm_sV lm_109 rfl rfl po_31 c1) ?_
  refine pm_r (F' := (368, [(3, .int 0), (2, .ref 225), (1, .ref 1), (0, .ref 0)], [.ref 225, .int r], h1)) el_367 rfl ?_
  refine pm_r (F' := (369, [(3, .int 0), (2, .ref 225), (1, .ref 1), (0, .ref 0)], [.ref 0, .ref 225, .int r], h1)) el_368 rfl ?_
  refine pm_r (F' := (370, [(3, .int 0), (2, .ref 225), (1, .ref 1), (0, .ref 0)], [.int 0, .ref 0, .ref 225, .int r], h1)) el_369 rfl ?_
  refine pm_r (F' := (371, [(3, .int 0), (2, .ref 225), (1, .ref 1), (0, .ref 0)], [.int 1, .int 0, .ref 0, .ref 225, .int r], h1)) el_370 rfl ?_
  refine pm_r (F' := (372, [(3, .int 0), (2, .ref 225), (1, .ref 1), (0, .ref 0)], [.int 1, .ref 0, .ref 225, .int r], h1)) el_371 rfl ?_
  refine pm_r (F' := (373, [(3, .int 0), (2, .ref 225), (1, .ref 1), (0, .ref 0)], [.int (xs 1), .ref 225, .int r], h1)) el_372 rfl ?_
  refine pm_r (F' := (374, [(3, .int 0), (2, .ref 225), (1, .ref 1), (0, .ref 0)], [.ref 0, .int (xs 1), .ref 225, .int r], h1)) el_373 rfl ?_
  refine pm_r (F' := (375, [(3, .int 0), (2, .ref 225), (1, .ref 1), (0, .ref 0)], [.int 0, .ref 0, .int (xs 1), .ref 225, .int r], h1)) el_374 rfl ?_
  refine pm_r (F' := (376, [(3, .int 0), (2, .ref 225), (1, .ref 1), (0, .ref 0)], [.int 2, .int 0, .ref 0, .int (xs 1), .ref 225, .int r], h1)) el_375 rfl ?_
  refine pm_r (F' := (377, [(3, .int 0), (2, .ref 225), (1, .ref 1), (0, .ref 0)], [.int 2, .ref 0, .int (xs 1), .ref 225, .int r], h1)) el_376 rfl ?_
  refine pm_r (F' := (378, [(3, .int 0), (2, .ref 225), (1, .ref 1), (0, .ref 0)], [.int (xs 2), .int (xs 1), .ref 225, .int r], h1)) el_377 rfl ?_
  refine pm_r (F' := (381, [(3, .int 0), (2, .ref 225), (1, .ref 1), (0, .ref 0)], [.int r, .int r], h2)) el_378 (pm_sV lm_192 rfl rfl o1 c2) ?_
  refine pm_r (F' := (1009, [(3, .int 0), (2, .ref 225), (1, .ref 1), (0, .ref 0)], [], h2)) el_381 (pm_sJ rfl (pm_jt (decide_eq_true (rfl : r = r)))) ?_
  exact law_fin xs h2 9943
theorem law_traced (xs : Nat → Int32) {r : Int32} (q : pq_ok 110 194 [.int (xs 1), .int (xs 2)] (.int r)) : law_ok xs 9978 (386, [(3, .int 0), (2, .ref 225), (1, .ref 1), (0, .ref 0)], [], ph_3) := by
  obtain ⟨h1, h2, c1, c2, o1, z1, z2⟩ := q
  refine ⟨h2, ?_, z1, z2⟩
  refine pm_r (F' := (387, [(3, .int 0), (2, .ref 225), (1, .ref 1), (0, .ref 0)], [.ref 1], ph_3)) el_386 rfl ?_
  refine pm_r (F' := (388, [(3, .int 0), (2, .ref 225), (1, .ref 1), (0, .ref 0)], [.ref 0, .ref 1], ph_3)) el_387 rfl ?_
  refine pm_r (F' := (389, [(3, .int 0), (2, .ref 225), (1, .ref 1), (0, .ref 0)], [.int 0, .ref 0, .ref 1], ph_3)) el_388 rfl ?_
  refine pm_r (F' := (390, [(3, .int 0), (2, .ref 225), (1, .ref 1), (0, .ref 0)], [.int 1, .int 0, .ref 0, .ref 1], ph_3)) el_389 rfl ?_
  refine pm_r (F' := (391, [(3, .int 0), (2, .ref 225), (1, .ref 1), (0, .ref 0)], [.int 1, .ref 0, .ref 1], ph_3)) el_390 rfl ?_
  refine pm_r (F' := (392, [(3, .int 0), (2, .ref 225), (1, .ref 1), (0, .ref 0)], [.int (xs 1), .ref 1], ph_3)) el_391 rfl ?_
  refine pm_r (F' := (393, [(3, .int 0), (2, .ref 225), (1, .ref 1), (0, .ref 0)], [.ref 0, .int (xs 1), .ref 1], ph_3)) el_392 rfl ?_
  refine pm_r (F' := (394, [(3, .int 0), (2, .ref 225), (1, .ref 1), (0, .ref 0)], [.int 0, .ref 0, .int (xs 1), .ref 1], ph_3)) el_393 rfl ?_
  refine pm_r (F' := (395, [(3, .int 0), (2, .ref 225), (1, .ref 1), (0, .ref 0)], [.int 2, .int 0, .ref 0, .int (xs 1), .ref 1], ph_3)) el_394 rfl ?_
  refine pm_r (F' := (396, [(3, .int 0), (2, .ref 225), (1, .ref 1), (0, .ref 0)], [.int 2, .ref 0, .int (xs 1), .ref 1], ph_3)) el_395 rfl ?_
  refine pm_r (F' := (397, [(3, .int 0), (2, .ref 225), (1, .ref 1), (0, .ref 0)], [.int (xs 2), .int (xs 1), .ref 1], ph_3)) el_396 rfl ?_
  refine pm_r (F' := (400, [(3, .int 0), (2, .ref 225), (1, .ref 1), (0, .ref 0)], [.int r], h1)) el_397 (pm_sV lm_110 rfl rfl po_31 c1) ?_
  refine pm_r (F' := (401, [(3, .int 0), (2, .ref 225), (1, .ref 1), (0, .ref 0)], [.ref 225, .int r], h1)) el_400 rfl ?_
  refine pm_r (F' := (402, [(3, .int 0), (2, .ref 225), (1, .ref 1), (0, .ref 0)], [.ref 0, .ref 225, .int r], h1)) el_401 rfl ?_
  refine pm_r (F' := (403, [(3, .int 0), (2, .ref 225), (1, .ref 1), (0, .ref 0)], [.int 0, .ref 0, .ref 225, .int r], h1)) el_402 rfl ?_
  refine pm_r (F' := (404, [(3, .int 0), (2, .ref 225), (1, .ref 1), (0, .ref 0)], [.int 1, .int 0, .ref 0, .ref 225, .int r], h1)) el_403 rfl ?_
  refine pm_r (F' := (405, [(3, .int 0), (2, .ref 225), (1, .ref 1), (0, .ref 0)], [.int 1, .ref 0, .ref 225, .int r], h1)) el_404 rfl ?_
  refine pm_r (F' := (406, [(3, .int 0), (2, .ref 225), (1, .ref 1), (0, .ref 0)], [.int (xs 1), .ref 225, .int r], h1)) el_405 rfl ?_
  refine pm_r (F' := (407, [(3, .int 0), (2, .ref 225), (1, .ref 1), (0, .ref 0)], [.ref 0, .int (xs 1), .ref 225, .int r], h1)) el_406 rfl ?_
  refine pm_r (F' := (408, [(3, .int 0), (2, .ref 225), (1, .ref 1), (0, .ref 0)], [.int 0, .ref 0, .int (xs 1), .ref 225, .int r], h1)) el_407 rfl ?_
  refine pm_r (F' := (409, [(3, .int 0), (2, .ref 225), (1, .ref 1), (0, .ref 0)], [.int 2, .int 0, .ref 0, .int (xs 1), .ref 225, .int r], h1)) el_408 rfl ?_
  refine pm_r (F' := (410, [(3, .int 0), (2, .ref 225), (1, .ref 1), (0, .ref 0)], [.int 2, .ref 0, .int (xs 1), .ref 225, .int r], h1)) el_409 rfl ?_
  refine pm_r (F' := (411, [(3, .int 0), (2, .ref 225), (1, .ref 1), (0, .ref 0)], [.int (xs 2), .int (xs 1), .ref 225, .int r], h1)) el_410 rfl ?_
  refine pm_r (F' := (414, [(3, .int 0), (2, .ref 225), (1, .ref 1), (0, .ref 0)], [.int r, .int r], h2)) el_411 (pm_sV lm_194 rfl rfl o1 c2) ?_
  refine pm_r (F' := (1009, [(3, .int 0), (2, .ref 225), (1, .ref 1), (0, .ref 0)], [], h2)) el_414 (pm_sJ rfl (pm_jt (decide_eq_true (rfl : r = r)))) ?_
  exact law_fin xs h2 9943
theorem law_flips (xs : Nat → Int32) {r : Int32} (q : pq_ok 111 202 [.int (xs 1)] (.int r)) : law_ok xs 9978 (419, [(3, .int 0), (2, .ref 225), (1, .ref 1), (0, .ref 0)], [], ph_3) := by
  obtain ⟨h1, h2, c1, c2, o1, z1, z2⟩ := q
  refine ⟨h2, ?_, z1, z2⟩
  refine pm_r (F' := (420, [(3, .int 0), (2, .ref 225), (1, .ref 1), (0, .ref 0)], [.ref 1], ph_3)) el_419 rfl ?_
  refine pm_r (F' := (421, [(3, .int 0), (2, .ref 225), (1, .ref 1), (0, .ref 0)], [.ref 0, .ref 1], ph_3)) el_420 rfl ?_
  refine pm_r (F' := (422, [(3, .int 0), (2, .ref 225), (1, .ref 1), (0, .ref 0)], [.int 0, .ref 0, .ref 1], ph_3)) el_421 rfl ?_
  refine pm_r (F' := (423, [(3, .int 0), (2, .ref 225), (1, .ref 1), (0, .ref 0)], [.int 1, .int 0, .ref 0, .ref 1], ph_3)) el_422 rfl ?_
  refine pm_r (F' := (424, [(3, .int 0), (2, .ref 225), (1, .ref 1), (0, .ref 0)], [.int 1, .ref 0, .ref 1], ph_3)) el_423 rfl ?_
  refine pm_r (F' := (425, [(3, .int 0), (2, .ref 225), (1, .ref 1), (0, .ref 0)], [.int (xs 1), .ref 1], ph_3)) el_424 rfl ?_
  refine pm_r (F' := (428, [(3, .int 0), (2, .ref 225), (1, .ref 1), (0, .ref 0)], [.int r], h1)) el_425 (pm_sV lm_111 rfl rfl po_31 c1) ?_
  refine pm_r (F' := (429, [(3, .int 0), (2, .ref 225), (1, .ref 1), (0, .ref 0)], [.ref 225, .int r], h1)) el_428 rfl ?_
  refine pm_r (F' := (430, [(3, .int 0), (2, .ref 225), (1, .ref 1), (0, .ref 0)], [.ref 0, .ref 225, .int r], h1)) el_429 rfl ?_
  refine pm_r (F' := (431, [(3, .int 0), (2, .ref 225), (1, .ref 1), (0, .ref 0)], [.int 0, .ref 0, .ref 225, .int r], h1)) el_430 rfl ?_
  refine pm_r (F' := (432, [(3, .int 0), (2, .ref 225), (1, .ref 1), (0, .ref 0)], [.int 1, .int 0, .ref 0, .ref 225, .int r], h1)) el_431 rfl ?_
  refine pm_r (F' := (433, [(3, .int 0), (2, .ref 225), (1, .ref 1), (0, .ref 0)], [.int 1, .ref 0, .ref 225, .int r], h1)) el_432 rfl ?_
  refine pm_r (F' := (434, [(3, .int 0), (2, .ref 225), (1, .ref 1), (0, .ref 0)], [.int (xs 1), .ref 225, .int r], h1)) el_433 rfl ?_
  refine pm_r (F' := (437, [(3, .int 0), (2, .ref 225), (1, .ref 1), (0, .ref 0)], [.int r, .int r], h2)) el_434 (pm_sV lm_202 rfl rfl o1 c2) ?_
  refine pm_r (F' := (1009, [(3, .int 0), (2, .ref 225), (1, .ref 1), (0, .ref 0)], [], h2)) el_437 (pm_sJ rfl (pm_jt (decide_eq_true (rfl : r = r)))) ?_
  exact law_fin xs h2 9953
theorem law_flip (xs : Nat → Int32) {r : Int32} (q : pq_ok 112 203 [.int (xs 1), .int (xs 2)] (.int r)) : law_ok xs 9978 (442, [(3, .int 0), (2, .ref 225), (1, .ref 1), (0, .ref 0)], [], ph_3) := by
  obtain ⟨h1, h2, c1, c2, o1, z1, z2⟩ := q
  refine ⟨h2, ?_, z1, z2⟩
  refine pm_r (F' := (443, [(3, .int 0), (2, .ref 225), (1, .ref 1), (0, .ref 0)], [.ref 1], ph_3)) el_442 rfl ?_
  refine pm_r (F' := (444, [(3, .int 0), (2, .ref 225), (1, .ref 1), (0, .ref 0)], [.ref 0, .ref 1], ph_3)) el_443 rfl ?_
  refine pm_r (F' := (445, [(3, .int 0), (2, .ref 225), (1, .ref 1), (0, .ref 0)], [.int 0, .ref 0, .ref 1], ph_3)) el_444 rfl ?_
  refine pm_r (F' := (446, [(3, .int 0), (2, .ref 225), (1, .ref 1), (0, .ref 0)], [.int 1, .int 0, .ref 0, .ref 1], ph_3)) el_445 rfl ?_
  refine pm_r (F' := (447, [(3, .int 0), (2, .ref 225), (1, .ref 1), (0, .ref 0)], [.int 1, .ref 0, .ref 1], ph_3)) el_446 rfl ?_
  refine pm_r (F' := (448, [(3, .int 0), (2, .ref 225), (1, .ref 1), (0, .ref 0)], [.int (xs 1), .ref 1], ph_3)) el_447 rfl ?_
  refine pm_r (F' := (449, [(3, .int 0), (2, .ref 225), (1, .ref 1), (0, .ref 0)], [.ref 0, .int (xs 1), .ref 1], ph_3)) el_448 rfl ?_
  refine pm_r (F' := (450, [(3, .int 0), (2, .ref 225), (1, .ref 1), (0, .ref 0)], [.int 0, .ref 0, .int (xs 1), .ref 1], ph_3)) el_449 rfl ?_
  refine pm_r (F' := (451, [(3, .int 0), (2, .ref 225), (1, .ref 1), (0, .ref 0)], [.int 2, .int 0, .ref 0, .int (xs 1), .ref 1], ph_3)) el_450 rfl ?_
  refine pm_r (F' := (452, [(3, .int 0), (2, .ref 225), (1, .ref 1), (0, .ref 0)], [.int 2, .ref 0, .int (xs 1), .ref 1], ph_3)) el_451 rfl ?_
  refine pm_r (F' := (453, [(3, .int 0), (2, .ref 225), (1, .ref 1), (0, .ref 0)], [.int (xs 2), .int (xs 1), .ref 1], ph_3)) el_452 rfl ?_
  refine pm_r (F' := (456, [(3, .int 0), (2, .ref 225), (1, .ref 1), (0, .ref 0)], [.int r], h1)) el_453 (pm_sV lm_112 rfl rfl po_31 c1) ?_
  refine pm_r (F' := (457, [(3, .int 0), (2, .ref 225), (1, .ref 1), (0, .ref 0)], [.ref 225, .int r], h1)) el_456 rfl ?_
  refine pm_r (F' := (458, [(3, .int 0), (2, .ref 225), (1, .ref 1), (0, .ref 0)], [.ref 0, .ref 225, .int r], h1)) el_457 rfl ?_
  refine pm_r (F' := (459, [(3, .int 0), (2, .ref 225), (1, .ref 1), (0, .ref 0)], [.int 0, .ref 0, .ref 225, .int r], h1)) el_458 rfl ?_
  refine pm_r (F' := (460, [(3, .int 0), (2, .ref 225), (1, .ref 1), (0, .ref 0)], [.int 1, .int 0, .ref 0, .ref 225, .int r], h1)) el_459 rfl ?_
  refine pm_r (F' := (461, [(3, .int 0), (2, .ref 225), (1, .ref 1), (0, .ref 0)], [.int 1, .ref 0, .ref 225, .int r], h1)) el_460 rfl ?_
  refine pm_r (F' := (462, [(3, .int 0), (2, .ref 225), (1, .ref 1), (0, .ref 0)], [.int (xs 1), .ref 225, .int r], h1)) el_461 rfl ?_
  refine pm_r (F' := (463, [(3, .int 0), (2, .ref 225), (1, .ref 1), (0, .ref 0)], [.ref 0, .int (xs 1), .ref 225, .int r], h1)) el_462 rfl ?_
  refine pm_r (F' := (464, [(3, .int 0), (2, .ref 225), (1, .ref 1), (0, .ref 0)], [.int 0, .ref 0, .int (xs 1), .ref 225, .int r], h1)) el_463 rfl ?_
  refine pm_r (F' := (465, [(3, .int 0), (2, .ref 225), (1, .ref 1), (0, .ref 0)], [.int 2, .int 0, .ref 0, .int (xs 1), .ref 225, .int r], h1)) el_464 rfl ?_
  refine pm_r (F' := (466, [(3, .int 0), (2, .ref 225), (1, .ref 1), (0, .ref 0)], [.int 2, .ref 0, .int (xs 1), .ref 225, .int r], h1)) el_465 rfl ?_
  refine pm_r (F' := (467, [(3, .int 0), (2, .ref 225), (1, .ref 1), (0, .ref 0)], [.int (xs 2), .int (xs 1), .ref 225, .int r], h1)) el_466 rfl ?_
  refine pm_r (F' := (470, [(3, .int 0), (2, .ref 225), (1, .ref 1), (0, .ref 0)], [.int r, .int r], h2)) el_467 (pm_sV lm_203 rfl rfl o1 c2) ?_
  refine pm_r (F' := (1009, [(3, .int 0), (2, .ref 225), (1, .ref 1), (0, .ref 0)], [], h2)) el_470 (pm_sJ rfl (pm_jt (decide_eq_true (rfl : r = r)))) ?_
  exact law_fin xs h2 9943
theorem law_cross (xs : Nat → Int32) {r : Int64} (q : pq_ok 113 215 [.int (xs 1), .int (xs 2)] (.long r)) : law_ok xs 9978 (475, [(3, .int 0), (2, .ref 225), (1, .ref 1), (0, .ref 0)], [], ph_3) := by
  obtain ⟨h1, h2, c1, c2, o1, z1, z2⟩ := q
  refine ⟨h2, ?_, z1, z2⟩
  refine pm_r (F' := (476, [(3, .int 0), (2, .ref 225), (1, .ref 1), (0, .ref 0)], [.ref 1], ph_3)) el_475 rfl ?_
  refine pm_r (F' := (477, [(3, .int 0), (2, .ref 225), (1, .ref 1), (0, .ref 0)], [.ref 0, .ref 1], ph_3)) el_476 rfl ?_
  refine pm_r (F' := (478, [(3, .int 0), (2, .ref 225), (1, .ref 1), (0, .ref 0)], [.int 0, .ref 0, .ref 1], ph_3)) el_477 rfl ?_
  refine pm_r (F' := (479, [(3, .int 0), (2, .ref 225), (1, .ref 1), (0, .ref 0)], [.int 1, .int 0, .ref 0, .ref 1], ph_3)) el_478 rfl ?_
  refine pm_r (F' := (480, [(3, .int 0), (2, .ref 225), (1, .ref 1), (0, .ref 0)], [.int 1, .ref 0, .ref 1], ph_3)) el_479 rfl ?_
  refine pm_r (F' := (481, [(3, .int 0), (2, .ref 225), (1, .ref 1), (0, .ref 0)], [.int (xs 1), .ref 1], ph_3)) el_480 rfl ?_
  refine pm_r (F' := (482, [(3, .int 0), (2, .ref 225), (1, .ref 1), (0, .ref 0)], [.ref 0, .int (xs 1), .ref 1], ph_3)) el_481 rfl ?_
  refine pm_r (F' := (483, [(3, .int 0), (2, .ref 225), (1, .ref 1), (0, .ref 0)], [.int 0, .ref 0, .int (xs 1), .ref 1], ph_3)) el_482 rfl ?_
  refine pm_r (F' := (484, [(3, .int 0), (2, .ref 225), (1, .ref 1), (0, .ref 0)], [.int 2, .int 0, .ref 0, .int (xs 1), .ref 1], ph_3)) el_483 rfl ?_
  refine pm_r (F' := (485, [(3, .int 0), (2, .ref 225), (1, .ref 1), (0, .ref 0)], [.int 2, .ref 0, .int (xs 1), .ref 1], ph_3)) el_484 rfl ?_
  refine pm_r (F' := (486, [(3, .int 0), (2, .ref 225), (1, .ref 1), (0, .ref 0)], [.int (xs 2), .int (xs 1), .ref 1], ph_3)) el_485 rfl ?_
  refine pm_r (F' := (489, [(3, .int 0), (2, .ref 225), (1, .ref 1), (0, .ref 0)], [.long r], h1)) el_486 (pm_sV lm_113 rfl rfl po_31 c1) ?_
  refine pm_r (F' := (490, [(3, .int 0), (2, .ref 225), (1, .ref 1), (0, .ref 0)], [.ref 225, .long r], h1)) el_489 rfl ?_
  refine pm_r (F' := (491, [(3, .int 0), (2, .ref 225), (1, .ref 1), (0, .ref 0)], [.ref 0, .ref 225, .long r], h1)) el_490 rfl ?_
  refine pm_r (F' := (492, [(3, .int 0), (2, .ref 225), (1, .ref 1), (0, .ref 0)], [.int 0, .ref 0, .ref 225, .long r], h1)) el_491 rfl ?_
  refine pm_r (F' := (493, [(3, .int 0), (2, .ref 225), (1, .ref 1), (0, .ref 0)], [.int 1, .int 0, .ref 0, .ref 225, .long r], h1)) el_492 rfl ?_
  refine pm_r (F' := (494, [(3, .int 0), (2, .ref 225), (1, .ref 1), (0, .ref 0)], [.int 1, .ref 0, .ref 225, .long r], h1)) el_493 rfl ?_
  refine pm_r (F' := (495, [(3, .int 0), (2, .ref 225), (1, .ref 1), (0, .ref 0)], [.int (xs 1), .ref 225, .long r], h1)) el_494 rfl ?_
  refine pm_r (F' := (496, [(3, .int 0), (2, .ref 225), (1, .ref 1), (0, .ref 0)], [.ref 0, .int (xs 1), .ref 225, .long r], h1)) el_495 rfl ?_
  refine pm_r (F' := (497, [(3, .int 0), (2, .ref 225), (1, .ref 1), (0, .ref 0)], [.int 0, .ref 0, .int (xs 1), .ref 225, .long r], h1)) el_496 rfl ?_
  refine pm_r (F' := (498, [(3, .int 0), (2, .ref 225), (1, .ref 1), (0, .ref 0)], [.int 2, .int 0, .ref 0, .int (xs 1), .ref 225, .long r], h1)) el_497 rfl ?_
  refine pm_r (F' := (499, [(3, .int 0), (2, .ref 225), (1, .ref 1), (0, .ref 0)], [.int 2, .ref 0, .int (xs 1), .ref 225, .long r], h1)) el_498 rfl ?_
  refine pm_r (F' := (500, [(3, .int 0), (2, .ref 225), (1, .ref 1), (0, .ref 0)], [.int (xs 2), .int (xs 1), .ref 225, .long r], h1)) el_499 rfl ?_
  refine pm_r (F' := (503, [(3, .int 0), (2, .ref 225), (1, .ref 1), (0, .ref 0)], [.long r, .long r], h2)) el_500 (pm_sV lm_215 rfl rfl o1 c2) ?_
  refine pm_r (F' := (504, [(3, .int 0), (2, .ref 225), (1, .ref 1), (0, .ref 0)], [.int (lg_cmp r r)], h2)) el_503 rfl ?_
  refine pm_r (F' := (1009, [(3, .int 0), (2, .ref 225), (1, .ref 1), (0, .ref 0)], [], h2)) el_504 (pm_sJ rfl (pm_jt (decide_eq_true (lg_rr r)))) ?_
  exact law_fin xs h2 9942
theorem law_across (xs : Nat → Int32) {r : Int32} (q : pq_ok 114 217 [.int (xs 1), .int (xs 2)] (.int r)) : law_ok xs 9978 (509, [(3, .int 0), (2, .ref 225), (1, .ref 1), (0, .ref 0)], [], ph_3) := by
  obtain ⟨h1, h2, c1, c2, o1, z1, z2⟩ := q
  refine ⟨h2, ?_, z1, z2⟩
  refine pm_r (F' := (510, [(3, .int 0), (2, .ref 225), (1, .ref 1), (0, .ref 0)], [.ref 1], ph_3)) el_509 rfl ?_
  refine pm_r (F' := (511, [(3, .int 0), (2, .ref 225), (1, .ref 1), (0, .ref 0)], [.ref 0, .ref 1], ph_3)) el_510 rfl ?_
  refine pm_r (F' := (512, [(3, .int 0), (2, .ref 225), (1, .ref 1), (0, .ref 0)], [.int 0, .ref 0, .ref 1], ph_3)) el_511 rfl ?_
  refine pm_r (F' := (513, [(3, .int 0), (2, .ref 225), (1, .ref 1), (0, .ref 0)], [.int 1, .int 0, .ref 0, .ref 1], ph_3)) el_512 rfl ?_
  refine pm_r (F' := (514, [(3, .int 0), (2, .ref 225), (1, .ref 1), (0, .ref 0)], [.int 1, .ref 0, .ref 1], ph_3)) el_513 rfl ?_
  refine pm_r (F' := (515, [(3, .int 0), (2, .ref 225), (1, .ref 1), (0, .ref 0)], [.int (xs 1), .ref 1], ph_3)) el_514 rfl ?_
  refine pm_r (F' := (516, [(3, .int 0), (2, .ref 225), (1, .ref 1), (0, .ref 0)], [.ref 0, .int (xs 1), .ref 1], ph_3)) el_515 rfl ?_
  refine pm_r (F' := (517, [(3, .int 0), (2, .ref 225), (1, .ref 1), (0, .ref 0)], [.int 0, .ref 0, .int (xs 1), .ref 1], ph_3)) el_516 rfl ?_
  refine pm_r (F' := (518, [(3, .int 0), (2, .ref 225), (1, .ref 1), (0, .ref 0)], [.int 2, .int 0, .ref 0, .int (xs 1), .ref 1], ph_3)) el_517 rfl ?_
  refine pm_r (F' := (519, [(3, .int 0), (2, .ref 225), (1, .ref 1), (0, .ref 0)], [.int 2, .ref 0, .int (xs 1), .ref 1], ph_3)) el_518 rfl ?_
  refine pm_r (F' := (520, [(3, .int 0), (2, .ref 225), (1, .ref 1), (0, .ref 0)], [.int (xs 2), .int (xs 1), .ref 1], ph_3)) el_519 rfl ?_
  refine pm_r (F' := (523, [(3, .int 0), (2, .ref 225), (1, .ref 1), (0, .ref 0)], [.int r], h1)) el_520 (pm_sV lm_114 rfl rfl po_31 c1) ?_
  refine pm_r (F' := (524, [(3, .int 0), (2, .ref 225), (1, .ref 1), (0, .ref 0)], [.ref 225, .int r], h1)) el_523 rfl ?_
  refine pm_r (F' := (525, [(3, .int 0), (2, .ref 225), (1, .ref 1), (0, .ref 0)], [.ref 0, .ref 225, .int r], h1)) el_524 rfl ?_
  refine pm_r (F' := (526, [(3, .int 0), (2, .ref 225), (1, .ref 1), (0, .ref 0)], [.int 0, .ref 0, .ref 225, .int r], h1)) el_525 rfl ?_
  refine pm_r (F' := (527, [(3, .int 0), (2, .ref 225), (1, .ref 1), (0, .ref 0)], [.int 1, .int 0, .ref 0, .ref 225, .int r], h1)) el_526 rfl ?_
  refine pm_r (F' := (528, [(3, .int 0), (2, .ref 225), (1, .ref 1), (0, .ref 0)], [.int 1, .ref 0, .ref 225, .int r], h1)) el_527 rfl ?_
  refine pm_r (F' := (529, [(3, .int 0), (2, .ref 225), (1, .ref 1), (0, .ref 0)], [.int (xs 1), .ref 225, .int r], h1)) el_528 rfl ?_
  refine pm_r (F' := (530, [(3, .int 0), (2, .ref 225), (1, .ref 1), (0, .ref 0)], [.ref 0, .int (xs 1), .ref 225, .int r], h1)) el_529 rfl ?_
  refine pm_r (F' := (531, [(3, .int 0), (2, .ref 225), (1, .ref 1), (0, .ref 0)], [.int 0, .ref 0, .int (xs 1), .ref 225, .int r], h1)) el_530 rfl ?_
  refine pm_r (F' := (532, [(3, .int 0), (2, .ref 225), (1, .ref 1), (0, .ref 0)], [.int 2, .int 0, .ref 0, .int (xs 1), .ref 225, .int r], h1)) el_531 rfl ?_
  refine pm_r (F' := (533, [(3, .int 0), (2, .ref 225), (1, .ref 1), (0, .ref 0)], [.int 2, .ref 0, .int (xs 1), .ref 225, .int r], h1)) el_532 rfl ?_
  refine pm_r (F' := (534, [(3, .int 0), (2, .ref 225), (1, .ref 1), (0, .ref 0)], [.int (xs 2), .int (xs 1), .ref 225, .int r], h1)) el_533 rfl ?_
  refine pm_r (F' := (537, [(3, .int 0), (2, .ref 225), (1, .ref 1), (0, .ref 0)], [.int r, .int r], h2)) el_534 (pm_sV lm_217 rfl rfl o1 c2) ?_
  refine pm_r (F' := (1009, [(3, .int 0), (2, .ref 225), (1, .ref 1), (0, .ref 0)], [], h2)) el_537 (pm_sJ rfl (pm_jt (decide_eq_true (rfl : r = r)))) ?_
  exact law_fin xs h2 9943
theorem law_kept (xs : Nat → Int32) {r : Int32} (q : pq_ok 115 220 [.int (xs 1)] (.int r)) : law_ok xs 9978 (542, [(3, .int 0), (2, .ref 225), (1, .ref 1), (0, .ref 0)], [], ph_3) := by
  obtain ⟨h1, h2, c1, c2, o1, z1, z2⟩ := q
  refine ⟨h2, ?_, z1, z2⟩
  refine pm_r (F' := (543, [(3, .int 0), (2, .ref 225), (1, .ref 1), (0, .ref 0)], [.ref 1], ph_3)) el_542 rfl ?_
  refine pm_r (F' := (544, [(3, .int 0), (2, .ref 225), (1, .ref 1), (0, .ref 0)], [.ref 0, .ref 1], ph_3)) el_543 rfl ?_
  refine pm_r (F' := (545, [(3, .int 0), (2, .ref 225), (1, .ref 1), (0, .ref 0)], [.int 0, .ref 0, .ref 1], ph_3)) el_544 rfl ?_
  refine pm_r (F' := (546, [(3, .int 0), (2, .ref 225), (1, .ref 1), (0, .ref 0)], [.int 1, .int 0, .ref 0, .ref 1], ph_3)) el_545 rfl ?_
  refine pm_r (F' := (547, [(3, .int 0), (2, .ref 225), (1, .ref 1), (0, .ref 0)], [.int 1, .ref 0, .ref 1], ph_3)) el_546 rfl ?_
  refine pm_r (F' := (548, [(3, .int 0), (2, .ref 225), (1, .ref 1), (0, .ref 0)], [.int (xs 1), .ref 1], ph_3)) el_547 rfl ?_
  refine pm_r (F' := (551, [(3, .int 0), (2, .ref 225), (1, .ref 1), (0, .ref 0)], [.int r], h1)) el_548 (pm_sV lm_115 rfl rfl po_31 c1) ?_
  refine pm_r (F' := (552, [(3, .int 0), (2, .ref 225), (1, .ref 1), (0, .ref 0)], [.ref 225, .int r], h1)) el_551 rfl ?_
  refine pm_r (F' := (553, [(3, .int 0), (2, .ref 225), (1, .ref 1), (0, .ref 0)], [.ref 0, .ref 225, .int r], h1)) el_552 rfl ?_
  refine pm_r (F' := (554, [(3, .int 0), (2, .ref 225), (1, .ref 1), (0, .ref 0)], [.int 0, .ref 0, .ref 225, .int r], h1)) el_553 rfl ?_
  refine pm_r (F' := (555, [(3, .int 0), (2, .ref 225), (1, .ref 1), (0, .ref 0)], [.int 1, .int 0, .ref 0, .ref 225, .int r], h1)) el_554 rfl ?_
  refine pm_r (F' := (556, [(3, .int 0), (2, .ref 225), (1, .ref 1), (0, .ref 0)], [.int 1, .ref 0, .ref 225, .int r], h1)) el_555 rfl ?_
  refine pm_r (F' := (557, [(3, .int 0), (2, .ref 225), (1, .ref 1), (0, .ref 0)], [.int (xs 1), .ref 225, .int r], h1)) el_556 rfl ?_
  refine pm_r (F' := (560, [(3, .int 0), (2, .ref 225), (1, .ref 1), (0, .ref 0)], [.int r, .int r], h2)) el_557 (pm_sV lm_220 rfl rfl o1 c2) ?_
  refine pm_r (F' := (1009, [(3, .int 0), (2, .ref 225), (1, .ref 1), (0, .ref 0)], [], h2)) el_560 (pm_sJ rfl (pm_jt (decide_eq_true (rfl : r = r)))) ?_
  exact law_fin xs h2 9953
theorem law_alike (xs : Nat → Int32) {r : Int32} (q : pq_ok 116 221 [.int (xs 1), .int (xs 2)] (.int r)) : law_ok xs 9978 (565, [(3, .int 0), (2, .ref 225), (1, .ref 1), (0, .ref 0)], [], ph_3) := by
  obtain ⟨h1, h2, c1, c2, o1, z1, z2⟩ := q
  refine ⟨h2, ?_, z1, z2⟩
  refine pm_r (F' := (566, [(3, .int 0), (2, .ref 225), (1, .ref 1), (0, .ref 0)], [.ref 1], ph_3)) el_565 rfl ?_
  refine pm_r (F' := (567, [(3, .int 0), (2, .ref 225), (1, .ref 1), (0, .ref 0)], [.ref 0, .ref 1], ph_3)) el_566 rfl ?_
  refine pm_r (F' := (568, [(3, .int 0), (2, .ref 225), (1, .ref 1), (0, .ref 0)], [.int 0, .ref 0, .ref 1], ph_3)) el_567 rfl ?_
  refine pm_r (F' := (569, [(3, .int 0), (2, .ref 225), (1, .ref 1), (0, .ref 0)], [.int 1, .int 0, .ref 0, .ref 1], ph_3)) el_568 rfl ?_
  refine pm_r (F' := (570, [(3, .int 0), (2, .ref 225), (1, .ref 1), (0, .ref 0)], [.int 1, .ref 0, .ref 1], ph_3)) el_569 rfl ?_
  refine pm_r (F' := (571, [(3, .int 0), (2, .ref 225), (1, .ref 1), (0, .ref 0)], [.int (xs 1), .ref 1], ph_3)) el_570 rfl ?_
  refine pm_r (F' := (572, [(3, .int 0), (2, .ref 225), (1, .ref 1), (0, .ref 0)], [.ref 0, .int (xs 1), .ref 1], ph_3)) el_571 rfl ?_
  refine pm_r (F' := (573, [(3, .int 0), (2, .ref 225), (1, .ref 1), (0, .ref 0)], [.int 0, .ref 0, .int (xs 1), .ref 1], ph_3)) el_572 rfl ?_
  refine pm_r (F' := (574, [(3, .int 0), (2, .ref 225), (1, .ref 1), (0, .ref 0)], [.int 2, .int 0, .ref 0, .int (xs 1), .ref 1], ph_3)) el_573 rfl ?_
  refine pm_r (F' := (575, [(3, .int 0), (2, .ref 225), (1, .ref 1), (0, .ref 0)], [.int 2, .ref 0, .int (xs 1), .ref 1], ph_3)) el_574 rfl ?_
  refine pm_r (F' := (576, [(3, .int 0), (2, .ref 225), (1, .ref 1), (0, .ref 0)], [.int (xs 2), .int (xs 1), .ref 1], ph_3)) el_575 rfl ?_
  refine pm_r (F' := (579, [(3, .int 0), (2, .ref 225), (1, .ref 1), (0, .ref 0)], [.int r], h1)) el_576 (pm_sV lm_116 rfl rfl po_31 c1) ?_
  refine pm_r (F' := (580, [(3, .int 0), (2, .ref 225), (1, .ref 1), (0, .ref 0)], [.ref 225, .int r], h1)) el_579 rfl ?_
  refine pm_r (F' := (581, [(3, .int 0), (2, .ref 225), (1, .ref 1), (0, .ref 0)], [.ref 0, .ref 225, .int r], h1)) el_580 rfl ?_
  refine pm_r (F' := (582, [(3, .int 0), (2, .ref 225), (1, .ref 1), (0, .ref 0)], [.int 0, .ref 0, .ref 225, .int r], h1)) el_581 rfl ?_
  refine pm_r (F' := (583, [(3, .int 0), (2, .ref 225), (1, .ref 1), (0, .ref 0)], [.int 1, .int 0, .ref 0, .ref 225, .int r], h1)) el_582 rfl ?_
  refine pm_r (F' := (584, [(3, .int 0), (2, .ref 225), (1, .ref 1), (0, .ref 0)], [.int 1, .ref 0, .ref 225, .int r], h1)) el_583 rfl ?_
  refine pm_r (F' := (585, [(3, .int 0), (2, .ref 225), (1, .ref 1), (0, .ref 0)], [.int (xs 1), .ref 225, .int r], h1)) el_584 rfl ?_
  refine pm_r (F' := (586, [(3, .int 0), (2, .ref 225), (1, .ref 1), (0, .ref 0)], [.ref 0, .int (xs 1), .ref 225, .int r], h1)) el_585 rfl ?_
  refine pm_r (F' := (587, [(3, .int 0), (2, .ref 225), (1, .ref 1), (0, .ref 0)], [.int 0, .ref 0, .int (xs 1), .ref 225, .int r], h1)) el_586 rfl ?_
  refine pm_r (F' := (588, [(3, .int 0), (2, .ref 225), (1, .ref 1), (0, .ref 0)], [.int 2, .int 0, .ref 0, .int (xs 1), .ref 225, .int r], h1)) el_587 rfl ?_
  refine pm_r (F' := (589, [(3, .int 0), (2, .ref 225), (1, .ref 1), (0, .ref 0)], [.int 2, .ref 0, .int (xs 1), .ref 225, .int r], h1)) el_588 rfl ?_
  refine pm_r (F' := (590, [(3, .int 0), (2, .ref 225), (1, .ref 1), (0, .ref 0)], [.int (xs 2), .int (xs 1), .ref 225, .int r], h1)) el_589 rfl ?_
  refine pm_r (F' := (593, [(3, .int 0), (2, .ref 225), (1, .ref 1), (0, .ref 0)], [.int r, .int r], h2)) el_590 (pm_sV lm_221 rfl rfl o1 c2) ?_
  refine pm_r (F' := (1009, [(3, .int 0), (2, .ref 225), (1, .ref 1), (0, .ref 0)], [], h2)) el_593 (pm_sJ rfl (pm_jt (decide_eq_true (rfl : r = r)))) ?_
  exact law_fin xs h2 9943
theorem law_order (xs : Nat → Int32) {r : Int32} (q : pq_ok 117 223 [.int (xs 1)] (.int r)) : law_ok xs 9978 (598, [(3, .int 0), (2, .ref 225), (1, .ref 1), (0, .ref 0)], [], ph_3) := by
  obtain ⟨h1, h2, c1, c2, o1, z1, z2⟩ := q
  refine ⟨h2, ?_, z1, z2⟩
  refine pm_r (F' := (599, [(3, .int 0), (2, .ref 225), (1, .ref 1), (0, .ref 0)], [.ref 1], ph_3)) el_598 rfl ?_
  refine pm_r (F' := (600, [(3, .int 0), (2, .ref 225), (1, .ref 1), (0, .ref 0)], [.ref 0, .ref 1], ph_3)) el_599 rfl ?_
  refine pm_r (F' := (601, [(3, .int 0), (2, .ref 225), (1, .ref 1), (0, .ref 0)], [.int 0, .ref 0, .ref 1], ph_3)) el_600 rfl ?_
  refine pm_r (F' := (602, [(3, .int 0), (2, .ref 225), (1, .ref 1), (0, .ref 0)], [.int 1, .int 0, .ref 0, .ref 1], ph_3)) el_601 rfl ?_
  refine pm_r (F' := (603, [(3, .int 0), (2, .ref 225), (1, .ref 1), (0, .ref 0)], [.int 1, .ref 0, .ref 1], ph_3)) el_602 rfl ?_
  refine pm_r (F' := (604, [(3, .int 0), (2, .ref 225), (1, .ref 1), (0, .ref 0)], [.int (xs 1), .ref 1], ph_3)) el_603 rfl ?_
  refine pm_r (F' := (607, [(3, .int 0), (2, .ref 225), (1, .ref 1), (0, .ref 0)], [.int r], h1)) el_604 (pm_sV lm_117 rfl rfl po_31 c1) ?_
  refine pm_r (F' := (608, [(3, .int 0), (2, .ref 225), (1, .ref 1), (0, .ref 0)], [.ref 225, .int r], h1)) el_607 rfl ?_
  refine pm_r (F' := (609, [(3, .int 0), (2, .ref 225), (1, .ref 1), (0, .ref 0)], [.ref 0, .ref 225, .int r], h1)) el_608 rfl ?_
  refine pm_r (F' := (610, [(3, .int 0), (2, .ref 225), (1, .ref 1), (0, .ref 0)], [.int 0, .ref 0, .ref 225, .int r], h1)) el_609 rfl ?_
  refine pm_r (F' := (611, [(3, .int 0), (2, .ref 225), (1, .ref 1), (0, .ref 0)], [.int 1, .int 0, .ref 0, .ref 225, .int r], h1)) el_610 rfl ?_
  refine pm_r (F' := (612, [(3, .int 0), (2, .ref 225), (1, .ref 1), (0, .ref 0)], [.int 1, .ref 0, .ref 225, .int r], h1)) el_611 rfl ?_
  refine pm_r (F' := (613, [(3, .int 0), (2, .ref 225), (1, .ref 1), (0, .ref 0)], [.int (xs 1), .ref 225, .int r], h1)) el_612 rfl ?_
  refine pm_r (F' := (616, [(3, .int 0), (2, .ref 225), (1, .ref 1), (0, .ref 0)], [.int r, .int r], h2)) el_613 (pm_sV lm_223 rfl rfl o1 c2) ?_
  refine pm_r (F' := (1009, [(3, .int 0), (2, .ref 225), (1, .ref 1), (0, .ref 0)], [], h2)) el_616 (pm_sJ rfl (pm_jt (decide_eq_true (rfl : r = r)))) ?_
  exact law_fin xs h2 9953
theorem law_stretch (xs : Nat → Int32) {r : Int64} (q : pq_ok 118 224 [.int (xs 1), .int (xs 2), .int (xs 3)] (.long r)) : law_ok xs 9978 (621, [(3, .int 0), (2, .ref 225), (1, .ref 1), (0, .ref 0)], [], ph_3) := by
  obtain ⟨h1, h2, c1, c2, o1, z1, z2⟩ := q
  refine ⟨h2, ?_, z1, z2⟩
  refine pm_r (F' := (622, [(3, .int 0), (2, .ref 225), (1, .ref 1), (0, .ref 0)], [.ref 1], ph_3)) el_621 rfl ?_
  refine pm_r (F' := (623, [(3, .int 0), (2, .ref 225), (1, .ref 1), (0, .ref 0)], [.ref 0, .ref 1], ph_3)) el_622 rfl ?_
  refine pm_r (F' := (624, [(3, .int 0), (2, .ref 225), (1, .ref 1), (0, .ref 0)], [.int 0, .ref 0, .ref 1], ph_3)) el_623 rfl ?_
  refine pm_r (F' := (625, [(3, .int 0), (2, .ref 225), (1, .ref 1), (0, .ref 0)], [.int 1, .int 0, .ref 0, .ref 1], ph_3)) el_624 rfl ?_
  refine pm_r (F' := (626, [(3, .int 0), (2, .ref 225), (1, .ref 1), (0, .ref 0)], [.int 1, .ref 0, .ref 1], ph_3)) el_625 rfl ?_
  refine pm_r (F' := (627, [(3, .int 0), (2, .ref 225), (1, .ref 1), (0, .ref 0)], [.int (xs 1), .ref 1], ph_3)) el_626 rfl ?_
  refine pm_r (F' := (628, [(3, .int 0), (2, .ref 225), (1, .ref 1), (0, .ref 0)], [.ref 0, .int (xs 1), .ref 1], ph_3)) el_627 rfl ?_
  refine pm_r (F' := (629, [(3, .int 0), (2, .ref 225), (1, .ref 1), (0, .ref 0)], [.int 0, .ref 0, .int (xs 1), .ref 1], ph_3)) el_628 rfl ?_
  refine pm_r (F' := (630, [(3, .int 0), (2, .ref 225), (1, .ref 1), (0, .ref 0)], [.int 2, .int 0, .ref 0, .int (xs 1), .ref 1], ph_3)) el_629 rfl ?_
  refine pm_r (F' := (631, [(3, .int 0), (2, .ref 225), (1, .ref 1), (0, .ref 0)], [.int 2, .ref 0, .int (xs 1), .ref 1], ph_3)) el_630 rfl ?_
  refine pm_r (F' := (632, [(3, .int 0), (2, .ref 225), (1, .ref 1), (0, .ref 0)], [.int (xs 2), .int (xs 1), .ref 1], ph_3)) el_631 rfl ?_
  refine pm_r (F' := (633, [(3, .int 0), (2, .ref 225), (1, .ref 1), (0, .ref 0)], [.ref 0, .int (xs 2), .int (xs 1), .ref 1], ph_3)) el_632 rfl ?_
  refine pm_r (F' := (634, [(3, .int 0), (2, .ref 225), (1, .ref 1), (0, .ref 0)], [.int 0, .ref 0, .int (xs 2), .int (xs 1), .ref 1], ph_3)) el_633 rfl ?_
  refine pm_r (F' := (635, [(3, .int 0), (2, .ref 225), (1, .ref 1), (0, .ref 0)], [.int 3, .int 0, .ref 0, .int (xs 2), .int (xs 1), .ref 1], ph_3)) el_634 rfl ?_
  refine pm_r (F' := (636, [(3, .int 0), (2, .ref 225), (1, .ref 1), (0, .ref 0)], [.int 3, .ref 0, .int (xs 2), .int (xs 1), .ref 1], ph_3)) el_635 rfl ?_
  refine pm_r (F' := (637, [(3, .int 0), (2, .ref 225), (1, .ref 1), (0, .ref 0)], [.int (xs 3), .int (xs 2), .int (xs 1), .ref 1], ph_3)) el_636 rfl ?_
  refine pm_r (F' := (640, [(3, .int 0), (2, .ref 225), (1, .ref 1), (0, .ref 0)], [.long r], h1)) el_637 (pm_sV lm_118 rfl rfl po_31 c1) ?_
  refine pm_r (F' := (641, [(3, .int 0), (2, .ref 225), (1, .ref 1), (0, .ref 0)], [.ref 225, .long r], h1)) el_640 rfl ?_
  refine pm_r (F' := (642, [(3, .int 0), (2, .ref 225), (1, .ref 1), (0, .ref 0)], [.ref 0, .ref 225, .long r], h1)) el_641 rfl ?_
  refine pm_r (F' := (643, [(3, .int 0), (2, .ref 225), (1, .ref 1), (0, .ref 0)], [.int 0, .ref 0, .ref 225, .long r], h1)) el_642 rfl ?_
  refine pm_r (F' := (644, [(3, .int 0), (2, .ref 225), (1, .ref 1), (0, .ref 0)], [.int 1, .int 0, .ref 0, .ref 225, .long r], h1)) el_643 rfl ?_
  refine pm_r (F' := (645, [(3, .int 0), (2, .ref 225), (1, .ref 1), (0, .ref 0)], [.int 1, .ref 0, .ref 225, .long r], h1)) el_644 rfl ?_
  refine pm_r (F' := (646, [(3, .int 0), (2, .ref 225), (1, .ref 1), (0, .ref 0)], [.int (xs 1), .ref 225, .long r], h1)) el_645 rfl ?_
  refine pm_r (F' := (647, [(3, .int 0), (2, .ref 225), (1, .ref 1), (0, .ref 0)], [.ref 0, .int (xs 1), .ref 225, .long r], h1)) el_646 rfl ?_
  refine pm_r (F' := (648, [(3, .int 0), (2, .ref 225), (1, .ref 1), (0, .ref 0)], [.int 0, .ref 0, .int (xs 1), .ref 225, .long r], h1)) el_647 rfl ?_
  refine pm_r (F' := (649, [(3, .int 0), (2, .ref 225), (1, .ref 1), (0, .ref 0)], [.int 2, .int 0, .ref 0, .int (xs 1), .ref 225, .long r], h1)) el_648 rfl ?_
  refine pm_r (F' := (650, [(3, .int 0), (2, .ref 225), (1, .ref 1), (0, .ref 0)], [.int 2, .ref 0, .int (xs 1), .ref 225, .long r], h1)) el_649 rfl ?_
  refine pm_r (F' := (651, [(3, .int 0), (2, .ref 225), (1, .ref 1), (0, .ref 0)], [.int (xs 2), .int (xs 1), .ref 225, .long r], h1)) el_650 rfl ?_
  refine pm_r (F' := (652, [(3, .int 0), (2, .ref 225), (1, .ref 1), (0, .ref 0)], [.ref 0, .int (xs 2), .int (xs 1), .ref 225, .long r], h1)) el_651 rfl ?_
  refine pm_r (F' := (653, [(3, .int 0), (2, .ref 225), (1, .ref 1), (0, .ref 0)], [.int 0, .ref 0, .int (xs 2), .int (xs 1), .ref 225, .long r], h1)) el_652 rfl ?_
  refine pm_r (F' := (654, [(3, .int 0), (2, .ref 225), (1, .ref 1), (0, .ref 0)], [.int 3, .int 0, .ref 0, .int (xs 2), .int (xs 1), .ref 225, .long r], h1)) el_653 rfl ?_
  refine pm_r (F' := (655, [(3, .int 0), (2, .ref 225), (1, .ref 1), (0, .ref 0)], [.int 3, .ref 0, .int (xs 2), .int (xs 1), .ref 225, .long r], h1)) el_654 rfl ?_
  refine pm_r (F' := (656, [(3, .int 0), (2, .ref 225), (1, .ref 1), (0, .ref 0)], [.int (xs 3), .int (xs 2), .int (xs 1), .ref 225, .long r], h1)) el_655 rfl ?_
  refine pm_r (F' := (659, [(3, .int 0), (2, .ref 225), (1, .ref 1), (0, .ref 0)], [.long r, .long r], h2)) el_656 (pm_sV lm_224 rfl rfl o1 c2) ?_
  refine pm_r (F' := (660, [(3, .int 0), (2, .ref 225), (1, .ref 1), (0, .ref 0)], [.int (lg_cmp r r)], h2)) el_659 rfl ?_
  refine pm_r (F' := (1009, [(3, .int 0), (2, .ref 225), (1, .ref 1), (0, .ref 0)], [], h2)) el_660 (pm_sJ rfl (pm_jt (decide_eq_true (lg_rr r)))) ?_
  exact law_fin xs h2 9932
theorem law_table (xs : Nat → Int32) {r : Int32} (q : pq_ok 119 226 [.int (xs 1), .int (xs 2), .int (xs 3), .int (xs 4)] (.int r)) : law_ok xs 9978 (665, [(3, .int 0), (2, .ref 225), (1, .ref 1), (0, .ref 0)], [], ph_3) := by
  obtain ⟨h1, h2, c1, c2, o1, z1, z2⟩ := q
  refine ⟨h2, ?_, z1, z2⟩
  refine pm_r (F' := (666, [(3, .int 0), (2, .ref 225), (1, .ref 1), (0, .ref 0)], [.ref 1], ph_3)) el_665 rfl ?_
  refine pm_r (F' := (667, [(3, .int 0), (2, .ref 225), (1, .ref 1), (0, .ref 0)], [.ref 0, .ref 1], ph_3)) el_666 rfl ?_
  refine pm_r (F' := (668, [(3, .int 0), (2, .ref 225), (1, .ref 1), (0, .ref 0)], [.int 0, .ref 0, .ref 1], ph_3)) el_667 rfl ?_
  refine pm_r (F' := (669, [(3, .int 0), (2, .ref 225), (1, .ref 1), (0, .ref 0)], [.int 1, .int 0, .ref 0, .ref 1], ph_3)) el_668 rfl ?_
  refine pm_r (F' := (670, [(3, .int 0), (2, .ref 225), (1, .ref 1), (0, .ref 0)], [.int 1, .ref 0, .ref 1], ph_3)) el_669 rfl ?_
  refine pm_r (F' := (671, [(3, .int 0), (2, .ref 225), (1, .ref 1), (0, .ref 0)], [.int (xs 1), .ref 1], ph_3)) el_670 rfl ?_
  refine pm_r (F' := (672, [(3, .int 0), (2, .ref 225), (1, .ref 1), (0, .ref 0)], [.ref 0, .int (xs 1), .ref 1], ph_3)) el_671 rfl ?_
  refine pm_r (F' := (673, [(3, .int 0), (2, .ref 225), (1, .ref 1), (0, .ref 0)], [.int 0, .ref 0, .int (xs 1), .ref 1], ph_3)) el_672 rfl ?_
  refine pm_r (F' := (674, [(3, .int 0), (2, .ref 225), (1, .ref 1), (0, .ref 0)], [.int 2, .int 0, .ref 0, .int (xs 1), .ref 1], ph_3)) el_673 rfl ?_
  refine pm_r (F' := (675, [(3, .int 0), (2, .ref 225), (1, .ref 1), (0, .ref 0)], [.int 2, .ref 0, .int (xs 1), .ref 1], ph_3)) el_674 rfl ?_
  refine pm_r (F' := (676, [(3, .int 0), (2, .ref 225), (1, .ref 1), (0, .ref 0)], [.int (xs 2), .int (xs 1), .ref 1], ph_3)) el_675 rfl ?_
  refine pm_r (F' := (677, [(3, .int 0), (2, .ref 225), (1, .ref 1), (0, .ref 0)], [.ref 0, .int (xs 2), .int (xs 1), .ref 1], ph_3)) el_676 rfl ?_
  refine pm_r (F' := (678, [(3, .int 0), (2, .ref 225), (1, .ref 1), (0, .ref 0)], [.int 0, .ref 0, .int (xs 2), .int (xs 1), .ref 1], ph_3)) el_677 rfl ?_
  refine pm_r (F' := (679, [(3, .int 0), (2, .ref 225), (1, .ref 1), (0, .ref 0)], [.int 3, .int 0, .ref 0, .int (xs 2), .int (xs 1), .ref 1], ph_3)) el_678 rfl ?_
  refine pm_r (F' := (680, [(3, .int 0), (2, .ref 225), (1, .ref 1), (0, .ref 0)], [.int 3, .ref 0, .int (xs 2), .int (xs 1), .ref 1], ph_3)) el_679 rfl ?_
  refine pm_r (F' := (681, [(3, .int 0), (2, .ref 225), (1, .ref 1), (0, .ref 0)], [.int (xs 3), .int (xs 2), .int (xs 1), .ref 1], ph_3)) el_680 rfl ?_
  refine pm_r (F' := (682, [(3, .int 0), (2, .ref 225), (1, .ref 1), (0, .ref 0)], [.ref 0, .int (xs 3), .int (xs 2), .int (xs 1), .ref 1], ph_3)) el_681 rfl ?_
  refine pm_r (F' := (683, [(3, .int 0), (2, .ref 225), (1, .ref 1), (0, .ref 0)], [.int 0, .ref 0, .int (xs 3), .int (xs 2), .int (xs 1), .ref 1], ph_3)) el_682 rfl ?_
  refine pm_r (F' := (684, [(3, .int 0), (2, .ref 225), (1, .ref 1), (0, .ref 0)], [.int 4, .int 0, .ref 0, .int (xs 3), .int (xs 2), .int (xs 1), .ref 1], ph_3)) el_683 rfl ?_
  refine pm_r (F' := (685, [(3, .int 0), (2, .ref 225), (1, .ref 1), (0, .ref 0)], [.int 4, .ref 0, .int (xs 3), .int (xs 2), .int (xs 1), .ref 1], ph_3)) el_684 rfl ?_
  refine pm_r (F' := (686, [(3, .int 0), (2, .ref 225), (1, .ref 1), (0, .ref 0)], [.int (xs 4), .int (xs 3), .int (xs 2), .int (xs 1), .ref 1], ph_3)) el_685 rfl ?_
  refine pm_r (F' := (689, [(3, .int 0), (2, .ref 225), (1, .ref 1), (0, .ref 0)], [.int r], h1)) el_686 (pm_sV lm_119 rfl rfl po_31 c1) ?_
  refine pm_r (F' := (690, [(3, .int 0), (2, .ref 225), (1, .ref 1), (0, .ref 0)], [.ref 225, .int r], h1)) el_689 rfl ?_
  refine pm_r (F' := (691, [(3, .int 0), (2, .ref 225), (1, .ref 1), (0, .ref 0)], [.ref 0, .ref 225, .int r], h1)) el_690 rfl ?_
  refine pm_r (F' := (692, [(3, .int 0), (2, .ref 225), (1, .ref 1), (0, .ref 0)], [.int 0, .ref 0, .ref 225, .int r], h1)) el_691 rfl ?_
  refine pm_r (F' := (693, [(3, .int 0), (2, .ref 225), (1, .ref 1), (0, .ref 0)], [.int 1, .int 0, .ref 0, .ref 225, .int r], h1)) el_692 rfl ?_
  refine pm_r (F' := (694, [(3, .int 0), (2, .ref 225), (1, .ref 1), (0, .ref 0)], [.int 1, .ref 0, .ref 225, .int r], h1)) el_693 rfl ?_
  refine pm_r (F' := (695, [(3, .int 0), (2, .ref 225), (1, .ref 1), (0, .ref 0)], [.int (xs 1), .ref 225, .int r], h1)) el_694 rfl ?_
  refine pm_r (F' := (696, [(3, .int 0), (2, .ref 225), (1, .ref 1), (0, .ref 0)], [.ref 0, .int (xs 1), .ref 225, .int r], h1)) el_695 rfl ?_
  refine pm_r (F' := (697, [(3, .int 0), (2, .ref 225), (1, .ref 1), (0, .ref 0)], [.int 0, .ref 0, .int (xs 1), .ref 225, .int r], h1)) el_696 rfl ?_
  refine pm_r (F' := (698, [(3, .int 0), (2, .ref 225), (1, .ref 1), (0, .ref 0)], [.int 2, .int 0, .ref 0, .int (xs 1), .ref 225, .int r], h1)) el_697 rfl ?_
  refine pm_r (F' := (699, [(3, .int 0), (2, .ref 225), (1, .ref 1), (0, .ref 0)], [.int 2, .ref 0, .int (xs 1), .ref 225, .int r], h1)) el_698 rfl ?_
  refine pm_r (F' := (700, [(3, .int 0), (2, .ref 225), (1, .ref 1), (0, .ref 0)], [.int (xs 2), .int (xs 1), .ref 225, .int r], h1)) el_699 rfl ?_
  refine pm_r (F' := (701, [(3, .int 0), (2, .ref 225), (1, .ref 1), (0, .ref 0)], [.ref 0, .int (xs 2), .int (xs 1), .ref 225, .int r], h1)) el_700 rfl ?_
  refine pm_r (F' := (702, [(3, .int 0), (2, .ref 225), (1, .ref 1), (0, .ref 0)], [.int 0, .ref 0, .int (xs 2), .int (xs 1), .ref 225, .int r], h1)) el_701 rfl ?_
  refine pm_r (F' := (703, [(3, .int 0), (2, .ref 225), (1, .ref 1), (0, .ref 0)], [.int 3, .int 0, .ref 0, .int (xs 2), .int (xs 1), .ref 225, .int r], h1)) el_702 rfl ?_
  refine pm_r (F' := (704, [(3, .int 0), (2, .ref 225), (1, .ref 1), (0, .ref 0)], [.int 3, .ref 0, .int (xs 2), .int (xs 1), .ref 225, .int r], h1)) el_703 rfl ?_
  refine pm_r (F' := (705, [(3, .int 0), (2, .ref 225), (1, .ref 1), (0, .ref 0)], [.int (xs 3), .int (xs 2), .int (xs 1), .ref 225, .int r], h1)) el_704 rfl ?_
  refine pm_r (F' := (706, [(3, .int 0), (2, .ref 225), (1, .ref 1), (0, .ref 0)], [.ref 0, .int (xs 3), .int (xs 2), .int (xs 1), .ref 225, .int r], h1)) el_705 rfl ?_
  refine pm_r (F' := (707, [(3, .int 0), (2, .ref 225), (1, .ref 1), (0, .ref 0)], [.int 0, .ref 0, .int (xs 3), .int (xs 2), .int (xs 1), .ref 225, .int r], h1)) el_706 rfl ?_
  refine pm_r (F' := (708, [(3, .int 0), (2, .ref 225), (1, .ref 1), (0, .ref 0)], [.int 4, .int 0, .ref 0, .int (xs 3), .int (xs 2), .int (xs 1), .ref 225, .int r], h1)) el_707 rfl ?_
  refine pm_r (F' := (709, [(3, .int 0), (2, .ref 225), (1, .ref 1), (0, .ref 0)], [.int 4, .ref 0, .int (xs 3), .int (xs 2), .int (xs 1), .ref 225, .int r], h1)) el_708 rfl ?_
  refine pm_r (F' := (710, [(3, .int 0), (2, .ref 225), (1, .ref 1), (0, .ref 0)], [.int (xs 4), .int (xs 3), .int (xs 2), .int (xs 1), .ref 225, .int r], h1)) el_709 rfl ?_
  refine pm_r (F' := (713, [(3, .int 0), (2, .ref 225), (1, .ref 1), (0, .ref 0)], [.int r, .int r], h2)) el_710 (pm_sV lm_226 rfl rfl o1 c2) ?_
  refine pm_r (F' := (1009, [(3, .int 0), (2, .ref 225), (1, .ref 1), (0, .ref 0)], [], h2)) el_713 (pm_sJ rfl (pm_jt (decide_eq_true (rfl : r = r)))) ?_
  exact law_fin xs h2 9923
theorem law_polynomial (xs : Nat → Int32) {r : Int32} (q : pq_ok 120 230 [.int (xs 1), .int (xs 2), .int (xs 3)] (.int r)) : law_ok xs 9978 (718, [(3, .int 0), (2, .ref 225), (1, .ref 1), (0, .ref 0)], [], ph_3) := by
  obtain ⟨h1, h2, c1, c2, o1, z1, z2⟩ := q
  refine ⟨h2, ?_, z1, z2⟩
  refine pm_r (F' := (719, [(3, .int 0), (2, .ref 225), (1, .ref 1), (0, .ref 0)], [.ref 1], ph_3)) el_718 rfl ?_
  refine pm_r (F' := (720, [(3, .int 0), (2, .ref 225), (1, .ref 1), (0, .ref 0)], [.ref 0, .ref 1], ph_3)) el_719 rfl ?_
  refine pm_r (F' := (721, [(3, .int 0), (2, .ref 225), (1, .ref 1), (0, .ref 0)], [.int 0, .ref 0, .ref 1], ph_3)) el_720 rfl ?_
  refine pm_r (F' := (722, [(3, .int 0), (2, .ref 225), (1, .ref 1), (0, .ref 0)], [.int 1, .int 0, .ref 0, .ref 1], ph_3)) el_721 rfl ?_
  refine pm_r (F' := (723, [(3, .int 0), (2, .ref 225), (1, .ref 1), (0, .ref 0)], [.int 1, .ref 0, .ref 1], ph_3)) el_722 rfl ?_
  refine pm_r (F' := (724, [(3, .int 0), (2, .ref 225), (1, .ref 1), (0, .ref 0)], [.int (xs 1), .ref 1], ph_3)) el_723 rfl ?_
  refine pm_r (F' := (725, [(3, .int 0), (2, .ref 225), (1, .ref 1), (0, .ref 0)], [.ref 0, .int (xs 1), .ref 1], ph_3)) el_724 rfl ?_
  refine pm_r (F' := (726, [(3, .int 0), (2, .ref 225), (1, .ref 1), (0, .ref 0)], [.int 0, .ref 0, .int (xs 1), .ref 1], ph_3)) el_725 rfl ?_
  refine pm_r (F' := (727, [(3, .int 0), (2, .ref 225), (1, .ref 1), (0, .ref 0)], [.int 2, .int 0, .ref 0, .int (xs 1), .ref 1], ph_3)) el_726 rfl ?_
  refine pm_r (F' := (728, [(3, .int 0), (2, .ref 225), (1, .ref 1), (0, .ref 0)], [.int 2, .ref 0, .int (xs 1), .ref 1], ph_3)) el_727 rfl ?_
  refine pm_r (F' := (729, [(3, .int 0), (2, .ref 225), (1, .ref 1), (0, .ref 0)], [.int (xs 2), .int (xs 1), .ref 1], ph_3)) el_728 rfl ?_
  refine pm_r (F' := (730, [(3, .int 0), (2, .ref 225), (1, .ref 1), (0, .ref 0)], [.ref 0, .int (xs 2), .int (xs 1), .ref 1], ph_3)) el_729 rfl ?_
  refine pm_r (F' := (731, [(3, .int 0), (2, .ref 225), (1, .ref 1), (0, .ref 0)], [.int 0, .ref 0, .int (xs 2), .int (xs 1), .ref 1], ph_3)) el_730 rfl ?_
  refine pm_r (F' := (732, [(3, .int 0), (2, .ref 225), (1, .ref 1), (0, .ref 0)], [.int 3, .int 0, .ref 0, .int (xs 2), .int (xs 1), .ref 1], ph_3)) el_731 rfl ?_
  refine pm_r (F' := (733, [(3, .int 0), (2, .ref 225), (1, .ref 1), (0, .ref 0)], [.int 3, .ref 0, .int (xs 2), .int (xs 1), .ref 1], ph_3)) el_732 rfl ?_
  refine pm_r (F' := (734, [(3, .int 0), (2, .ref 225), (1, .ref 1), (0, .ref 0)], [.int (xs 3), .int (xs 2), .int (xs 1), .ref 1], ph_3)) el_733 rfl ?_
  refine pm_r (F' := (737, [(3, .int 0), (2, .ref 225), (1, .ref 1), (0, .ref 0)], [.int r], h1)) el_734 (pm_sV lm_120 rfl rfl po_31 c1) ?_
  refine pm_r (F' := (738, [(3, .int 0), (2, .ref 225), (1, .ref 1), (0, .ref 0)], [.ref 225, .int r], h1)) el_737 rfl ?_
  refine pm_r (F' := (739, [(3, .int 0), (2, .ref 225), (1, .ref 1), (0, .ref 0)], [.ref 0, .ref 225, .int r], h1)) el_738 rfl ?_
  refine pm_r (F' := (740, [(3, .int 0), (2, .ref 225), (1, .ref 1), (0, .ref 0)], [.int 0, .ref 0, .ref 225, .int r], h1)) el_739 rfl ?_
  refine pm_r (F' := (741, [(3, .int 0), (2, .ref 225), (1, .ref 1), (0, .ref 0)], [.int 1, .int 0, .ref 0, .ref 225, .int r], h1)) el_740 rfl ?_
  refine pm_r (F' := (742, [(3, .int 0), (2, .ref 225), (1, .ref 1), (0, .ref 0)], [.int 1, .ref 0, .ref 225, .int r], h1)) el_741 rfl ?_
  refine pm_r (F' := (743, [(3, .int 0), (2, .ref 225), (1, .ref 1), (0, .ref 0)], [.int (xs 1), .ref 225, .int r], h1)) el_742 rfl ?_
  refine pm_r (F' := (744, [(3, .int 0), (2, .ref 225), (1, .ref 1), (0, .ref 0)], [.ref 0, .int (xs 1), .ref 225, .int r], h1)) el_743 rfl ?_
  refine pm_r (F' := (745, [(3, .int 0), (2, .ref 225), (1, .ref 1), (0, .ref 0)], [.int 0, .ref 0, .int (xs 1), .ref 225, .int r], h1)) el_744 rfl ?_
  refine pm_r (F' := (746, [(3, .int 0), (2, .ref 225), (1, .ref 1), (0, .ref 0)], [.int 2, .int 0, .ref 0, .int (xs 1), .ref 225, .int r], h1)) el_745 rfl ?_
  refine pm_r (F' := (747, [(3, .int 0), (2, .ref 225), (1, .ref 1), (0, .ref 0)], [.int 2, .ref 0, .int (xs 1), .ref 225, .int r], h1)) el_746 rfl ?_
  refine pm_r (F' := (748, [(3, .int 0), (2, .ref 225), (1, .ref 1), (0, .ref 0)], [.int (xs 2), .int (xs 1), .ref 225, .int r], h1)) el_747 rfl ?_
  refine pm_r (F' := (749, [(3, .int 0), (2, .ref 225), (1, .ref 1), (0, .ref 0)], [.ref 0, .int (xs 2), .int (xs 1), .ref 225, .int r], h1)) el_748 rfl ?_
  refine pm_r (F' := (750, [(3, .int 0), (2, .ref 225), (1, .ref 1), (0, .ref 0)], [.int 0, .ref 0, .int (xs 2), .int (xs 1), .ref 225, .int r], h1)) el_749 rfl ?_
  refine pm_r (F' := (751, [(3, .int 0), (2, .ref 225), (1, .ref 1), (0, .ref 0)], [.int 3, .int 0, .ref 0, .int (xs 2), .int (xs 1), .ref 225, .int r], h1)) el_750 rfl ?_
  refine pm_r (F' := (752, [(3, .int 0), (2, .ref 225), (1, .ref 1), (0, .ref 0)], [.int 3, .ref 0, .int (xs 2), .int (xs 1), .ref 225, .int r], h1)) el_751 rfl ?_
  refine pm_r (F' := (753, [(3, .int 0), (2, .ref 225), (1, .ref 1), (0, .ref 0)], [.int (xs 3), .int (xs 2), .int (xs 1), .ref 225, .int r], h1)) el_752 rfl ?_
  refine pm_r (F' := (756, [(3, .int 0), (2, .ref 225), (1, .ref 1), (0, .ref 0)], [.int r, .int r], h2)) el_753 (pm_sV lm_230 rfl rfl o1 c2) ?_
  refine pm_r (F' := (1009, [(3, .int 0), (2, .ref 225), (1, .ref 1), (0, .ref 0)], [], h2)) el_756 (pm_sJ rfl (pm_jt (decide_eq_true (rfl : r = r)))) ?_
  exact law_fin xs h2 9933
theorem law_least (xs : Nat → Int32) {r : Int32} (q : pq_ok 121 235 [.int (xs 1), .int (xs 2)] (.int r)) : law_ok xs 9978 (761, [(3, .int 0), (2, .ref 225), (1, .ref 1), (0, .ref 0)], [], ph_3) := by
  obtain ⟨h1, h2, c1, c2, o1, z1, z2⟩ := q
  refine ⟨h2, ?_, z1, z2⟩
  refine pm_r (F' := (762, [(3, .int 0), (2, .ref 225), (1, .ref 1), (0, .ref 0)], [.ref 1], ph_3)) el_761 rfl ?_
  refine pm_r (F' := (763, [(3, .int 0), (2, .ref 225), (1, .ref 1), (0, .ref 0)], [.ref 0, .ref 1], ph_3)) el_762 rfl ?_
  refine pm_r (F' := (764, [(3, .int 0), (2, .ref 225), (1, .ref 1), (0, .ref 0)], [.int 0, .ref 0, .ref 1], ph_3)) el_763 rfl ?_
  refine pm_r (F' := (765, [(3, .int 0), (2, .ref 225), (1, .ref 1), (0, .ref 0)], [.int 1, .int 0, .ref 0, .ref 1], ph_3)) el_764 rfl ?_
  refine pm_r (F' := (766, [(3, .int 0), (2, .ref 225), (1, .ref 1), (0, .ref 0)], [.int 1, .ref 0, .ref 1], ph_3)) el_765 rfl ?_
  refine pm_r (F' := (767, [(3, .int 0), (2, .ref 225), (1, .ref 1), (0, .ref 0)], [.int (xs 1), .ref 1], ph_3)) el_766 rfl ?_
  refine pm_r (F' := (768, [(3, .int 0), (2, .ref 225), (1, .ref 1), (0, .ref 0)], [.ref 0, .int (xs 1), .ref 1], ph_3)) el_767 rfl ?_
  refine pm_r (F' := (769, [(3, .int 0), (2, .ref 225), (1, .ref 1), (0, .ref 0)], [.int 0, .ref 0, .int (xs 1), .ref 1], ph_3)) el_768 rfl ?_
  refine pm_r (F' := (770, [(3, .int 0), (2, .ref 225), (1, .ref 1), (0, .ref 0)], [.int 2, .int 0, .ref 0, .int (xs 1), .ref 1], ph_3)) el_769 rfl ?_
  refine pm_r (F' := (771, [(3, .int 0), (2, .ref 225), (1, .ref 1), (0, .ref 0)], [.int 2, .ref 0, .int (xs 1), .ref 1], ph_3)) el_770 rfl ?_
  refine pm_r (F' := (772, [(3, .int 0), (2, .ref 225), (1, .ref 1), (0, .ref 0)], [.int (xs 2), .int (xs 1), .ref 1], ph_3)) el_771 rfl ?_
  refine pm_r (F' := (775, [(3, .int 0), (2, .ref 225), (1, .ref 1), (0, .ref 0)], [.int r], h1)) el_772 (pm_sV lm_121 rfl rfl po_31 c1) ?_
  refine pm_r (F' := (776, [(3, .int 0), (2, .ref 225), (1, .ref 1), (0, .ref 0)], [.ref 225, .int r], h1)) el_775 rfl ?_
  refine pm_r (F' := (777, [(3, .int 0), (2, .ref 225), (1, .ref 1), (0, .ref 0)], [.ref 0, .ref 225, .int r], h1)) el_776 rfl ?_
  refine pm_r (F' := (778, [(3, .int 0), (2, .ref 225), (1, .ref 1), (0, .ref 0)], [.int 0, .ref 0, .ref 225, .int r], h1)) el_777 rfl ?_
  refine pm_r (F' := (779, [(3, .int 0), (2, .ref 225), (1, .ref 1), (0, .ref 0)], [.int 1, .int 0, .ref 0, .ref 225, .int r], h1)) el_778 rfl ?_
  refine pm_r (F' := (780, [(3, .int 0), (2, .ref 225), (1, .ref 1), (0, .ref 0)], [.int 1, .ref 0, .ref 225, .int r], h1)) el_779 rfl ?_
  refine pm_r (F' := (781, [(3, .int 0), (2, .ref 225), (1, .ref 1), (0, .ref 0)], [.int (xs 1), .ref 225, .int r], h1)) el_780 rfl ?_
  refine pm_r (F' := (782, [(3, .int 0), (2, .ref 225), (1, .ref 1), (0, .ref 0)], [.ref 0, .int (xs 1), .ref 225, .int r], h1)) el_781 rfl ?_
  refine pm_r (F' := (783, [(3, .int 0), (2, .ref 225), (1, .ref 1), (0, .ref 0)], [.int 0, .ref 0, .int (xs 1), .ref 225, .int r], h1)) el_782 rfl ?_
  refine pm_r (F' := (784, [(3, .int 0), (2, .ref 225), (1, .ref 1), (0, .ref 0)], [.int 2, .int 0, .ref 0, .int (xs 1), .ref 225, .int r], h1)) el_783 rfl ?_
  refine pm_r (F' := (785, [(3, .int 0), (2, .ref 225), (1, .ref 1), (0, .ref 0)], [.int 2, .ref 0, .int (xs 1), .ref 225, .int r], h1)) el_784 rfl ?_
  refine pm_r (F' := (786, [(3, .int 0), (2, .ref 225), (1, .ref 1), (0, .ref 0)], [.int (xs 2), .int (xs 1), .ref 225, .int r], h1)) el_785 rfl ?_
  refine pm_r (F' := (789, [(3, .int 0), (2, .ref 225), (1, .ref 1), (0, .ref 0)], [.int r, .int r], h2)) el_786 (pm_sV lm_235 rfl rfl o1 c2) ?_
  refine pm_r (F' := (1009, [(3, .int 0), (2, .ref 225), (1, .ref 1), (0, .ref 0)], [], h2)) el_789 (pm_sJ rfl (pm_jt (decide_eq_true (rfl : r = r)))) ?_
  exact law_fin xs h2 9943
theorem law_lies (xs : Nat → Int32) {r : Int32} (q : pq_ok 122 238 [.int (xs 1)] (.int r)) : law_ok xs 9978 (794, [(3, .int 0), (2, .ref 225), (1, .ref 1), (0, .ref 0)], [], ph_3) := by
  obtain ⟨h1, h2, c1, c2, o1, z1, z2⟩ := q
  refine ⟨h2, ?_, z1, z2⟩
  refine pm_r (F' := (795, [(3, .int 0), (2, .ref 225), (1, .ref 1), (0, .ref 0)], [.ref 1], ph_3)) el_794 rfl ?_
  refine pm_r (F' := (796, [(3, .int 0), (2, .ref 225), (1, .ref 1), (0, .ref 0)], [.ref 0, .ref 1], ph_3)) el_795 rfl ?_
  refine pm_r (F' := (797, [(3, .int 0), (2, .ref 225), (1, .ref 1), (0, .ref 0)], [.int 0, .ref 0, .ref 1], ph_3)) el_796 rfl ?_
  refine pm_r (F' := (798, [(3, .int 0), (2, .ref 225), (1, .ref 1), (0, .ref 0)], [.int 1, .int 0, .ref 0, .ref 1], ph_3)) el_797 rfl ?_
  refine pm_r (F' := (799, [(3, .int 0), (2, .ref 225), (1, .ref 1), (0, .ref 0)], [.int 1, .ref 0, .ref 1], ph_3)) el_798 rfl ?_
  refine pm_r (F' := (800, [(3, .int 0), (2, .ref 225), (1, .ref 1), (0, .ref 0)], [.int (xs 1), .ref 1], ph_3)) el_799 rfl ?_
  refine pm_r (F' := (803, [(3, .int 0), (2, .ref 225), (1, .ref 1), (0, .ref 0)], [.int r], h1)) el_800 (pm_sV lm_122 rfl rfl po_31 c1) ?_
  refine pm_r (F' := (804, [(3, .int 0), (2, .ref 225), (1, .ref 1), (0, .ref 0)], [.ref 225, .int r], h1)) el_803 rfl ?_
  refine pm_r (F' := (805, [(3, .int 0), (2, .ref 225), (1, .ref 1), (0, .ref 0)], [.ref 0, .ref 225, .int r], h1)) el_804 rfl ?_
  refine pm_r (F' := (806, [(3, .int 0), (2, .ref 225), (1, .ref 1), (0, .ref 0)], [.int 0, .ref 0, .ref 225, .int r], h1)) el_805 rfl ?_
  refine pm_r (F' := (807, [(3, .int 0), (2, .ref 225), (1, .ref 1), (0, .ref 0)], [.int 1, .int 0, .ref 0, .ref 225, .int r], h1)) el_806 rfl ?_
  refine pm_r (F' := (808, [(3, .int 0), (2, .ref 225), (1, .ref 1), (0, .ref 0)], [.int 1, .ref 0, .ref 225, .int r], h1)) el_807 rfl ?_
  refine pm_r (F' := (809, [(3, .int 0), (2, .ref 225), (1, .ref 1), (0, .ref 0)], [.int (xs 1), .ref 225, .int r], h1)) el_808 rfl ?_
  refine pm_r (F' := (812, [(3, .int 0), (2, .ref 225), (1, .ref 1), (0, .ref 0)], [.int r, .int r], h2)) el_809 (pm_sV lm_238 rfl rfl o1 c2) ?_
  refine pm_r (F' := (1009, [(3, .int 0), (2, .ref 225), (1, .ref 1), (0, .ref 0)], [], h2)) el_812 (pm_sJ rfl (pm_jt (decide_eq_true (rfl : r = r)))) ?_
  exact law_fin xs h2 9953
theorem law_lay (xs : Nat → Int32) {r : Int64} (q : pq_ok 123 242 [.int (xs 1)] (.long r)) : law_ok xs 9978 (817, [(3, .int 0), (2, .ref 225), (1, .ref 1), (0, .ref 0)], [], ph_3) := by
  obtain ⟨h1, h2, c1, c2, o1, z1, z2⟩ := q
  refine ⟨h2, ?_, z1, z2⟩
  refine pm_r (F' := (818, [(3, .int 0), (2, .ref 225), (1, .ref 1), (0, .ref 0)], [.ref 1], ph_3)) el_817 rfl ?_
  refine pm_r (F' := (819, [(3, .int 0), (2, .ref 225), (1, .ref 1), (0, .ref 0)], [.ref 0, .ref 1], ph_3)) el_818 rfl ?_
  refine pm_r (F' := (820, [(3, .int 0), (2, .ref 225), (1, .ref 1), (0, .ref 0)], [.int 0, .ref 0, .ref 1], ph_3)) el_819 rfl ?_
  refine pm_r (F' := (821, [(3, .int 0), (2, .ref 225), (1, .ref 1), (0, .ref 0)], [.int 1, .int 0, .ref 0, .ref 1], ph_3)) el_820 rfl ?_
  refine pm_r (F' := (822, [(3, .int 0), (2, .ref 225), (1, .ref 1), (0, .ref 0)], [.int 1, .ref 0, .ref 1], ph_3)) el_821 rfl ?_
  refine pm_r (F' := (823, [(3, .int 0), (2, .ref 225), (1, .ref 1), (0, .ref 0)], [.int (xs 1), .ref 1], ph_3)) el_822 rfl ?_
  refine pm_r (F' := (826, [(3, .int 0), (2, .ref 225), (1, .ref 1), (0, .ref 0)], [.long r], h1)) el_823 (pm_sV lm_123 rfl rfl po_31 c1) ?_
  refine pm_r (F' := (827, [(3, .int 0), (2, .ref 225), (1, .ref 1), (0, .ref 0)], [.ref 225, .long r], h1)) el_826 rfl ?_
  refine pm_r (F' := (828, [(3, .int 0), (2, .ref 225), (1, .ref 1), (0, .ref 0)], [.ref 0, .ref 225, .long r], h1)) el_827 rfl ?_
  refine pm_r (F' := (829, [(3, .int 0), (2, .ref 225), (1, .ref 1), (0, .ref 0)], [.int 0, .ref 0, .ref 225, .long r], h1)) el_828 rfl ?_
  refine pm_r (F' := (830, [(3, .int 0), (2, .ref 225), (1, .ref 1), (0, .ref 0)], [.int 1, .int 0, .ref 0, .ref 225, .long r], h1)) el_829 rfl ?_
  refine pm_r (F' := (831, [(3, .int 0), (2, .ref 225), (1, .ref 1), (0, .ref 0)], [.int 1, .ref 0, .ref 225, .long r], h1)) el_830 rfl ?_
  refine pm_r (F' := (832, [(3, .int 0), (2, .ref 225), (1, .ref 1), (0, .ref 0)], [.int (xs 1), .ref 225, .long r], h1)) el_831 rfl ?_
  refine pm_r (F' := (835, [(3, .int 0), (2, .ref 225), (1, .ref 1), (0, .ref 0)], [.long r, .long r], h2)) el_832 (pm_sV lm_242 rfl rfl o1 c2) ?_
  refine pm_r (F' := (836, [(3, .int 0), (2, .ref 225), (1, .ref 1), (0, .ref 0)], [.int (lg_cmp r r)], h2)) el_835 rfl ?_
  refine pm_r (F' := (1009, [(3, .int 0), (2, .ref 225), (1, .ref 1), (0, .ref 0)], [], h2)) el_836 (pm_sJ rfl (pm_jt (decide_eq_true (lg_rr r)))) ?_
  exact law_fin xs h2 9952
theorem law_twist (xs : Nat → Int32) {r : Int64} (q : pq_ok 124 243 [.int (xs 1), .int (xs 2)] (.long r)) : law_ok xs 9978 (841, [(3, .int 0), (2, .ref 225), (1, .ref 1), (0, .ref 0)], [], ph_3) := by
  obtain ⟨h1, h2, c1, c2, o1, z1, z2⟩ := q
  refine ⟨h2, ?_, z1, z2⟩
  refine pm_r (F' := (842, [(3, .int 0), (2, .ref 225), (1, .ref 1), (0, .ref 0)], [.ref 1], ph_3)) el_841 rfl ?_
  refine pm_r (F' := (843, [(3, .int 0), (2, .ref 225), (1, .ref 1), (0, .ref 0)], [.ref 0, .ref 1], ph_3)) el_842 rfl ?_
  refine pm_r (F' := (844, [(3, .int 0), (2, .ref 225), (1, .ref 1), (0, .ref 0)], [.int 0, .ref 0, .ref 1], ph_3)) el_843 rfl ?_
  refine pm_r (F' := (845, [(3, .int 0), (2, .ref 225), (1, .ref 1), (0, .ref 0)], [.int 1, .int 0, .ref 0, .ref 1], ph_3)) el_844 rfl ?_
  refine pm_r (F' := (846, [(3, .int 0), (2, .ref 225), (1, .ref 1), (0, .ref 0)], [.int 1, .ref 0, .ref 1], ph_3)) el_845 rfl ?_
  refine pm_r (F' := (847, [(3, .int 0), (2, .ref 225), (1, .ref 1), (0, .ref 0)], [.int (xs 1), .ref 1], ph_3)) el_846 rfl ?_
  refine pm_r (F' := (848, [(3, .int 0), (2, .ref 225), (1, .ref 1), (0, .ref 0)], [.ref 0, .int (xs 1), .ref 1], ph_3)) el_847 rfl ?_
  refine pm_r (F' := (849, [(3, .int 0), (2, .ref 225), (1, .ref 1), (0, .ref 0)], [.int 0, .ref 0, .int (xs 1), .ref 1], ph_3)) el_848 rfl ?_
  refine pm_r (F' := (850, [(3, .int 0), (2, .ref 225), (1, .ref 1), (0, .ref 0)], [.int 2, .int 0, .ref 0, .int (xs 1), .ref 1], ph_3)) el_849 rfl ?_
  refine pm_r (F' := (851, [(3, .int 0), (2, .ref 225), (1, .ref 1), (0, .ref 0)], [.int 2, .ref 0, .int (xs 1), .ref 1], ph_3)) el_850 rfl ?_
  refine pm_r (F' := (852, [(3, .int 0), (2, .ref 225), (1, .ref 1), (0, .ref 0)], [.int (xs 2), .int (xs 1), .ref 1], ph_3)) el_851 rfl ?_
  refine pm_r (F' := (855, [(3, .int 0), (2, .ref 225), (1, .ref 1), (0, .ref 0)], [.long r], h1)) el_852 (pm_sV lm_124 rfl rfl po_31 c1) ?_
  refine pm_r (F' := (856, [(3, .int 0), (2, .ref 225), (1, .ref 1), (0, .ref 0)], [.ref 225, .long r], h1)) el_855 rfl ?_
  refine pm_r (F' := (857, [(3, .int 0), (2, .ref 225), (1, .ref 1), (0, .ref 0)], [.ref 0, .ref 225, .long r], h1)) el_856 rfl ?_
  refine pm_r (F' := (858, [(3, .int 0), (2, .ref 225), (1, .ref 1), (0, .ref 0)], [.int 0, .ref 0, .ref 225, .long r], h1)) el_857 rfl ?_
  refine pm_r (F' := (859, [(3, .int 0), (2, .ref 225), (1, .ref 1), (0, .ref 0)], [.int 1, .int 0, .ref 0, .ref 225, .long r], h1)) el_858 rfl ?_
  refine pm_r (F' := (860, [(3, .int 0), (2, .ref 225), (1, .ref 1), (0, .ref 0)], [.int 1, .ref 0, .ref 225, .long r], h1)) el_859 rfl ?_
  refine pm_r (F' := (861, [(3, .int 0), (2, .ref 225), (1, .ref 1), (0, .ref 0)], [.int (xs 1), .ref 225, .long r], h1)) el_860 rfl ?_
  refine pm_r (F' := (862, [(3, .int 0), (2, .ref 225), (1, .ref 1), (0, .ref 0)], [.ref 0, .int (xs 1), .ref 225, .long r], h1)) el_861 rfl ?_
  refine pm_r (F' := (863, [(3, .int 0), (2, .ref 225), (1, .ref 1), (0, .ref 0)], [.int 0, .ref 0, .int (xs 1), .ref 225, .long r], h1)) el_862 rfl ?_
  refine pm_r (F' := (864, [(3, .int 0), (2, .ref 225), (1, .ref 1), (0, .ref 0)], [.int 2, .int 0, .ref 0, .int (xs 1), .ref 225, .long r], h1)) el_863 rfl ?_
  refine pm_r (F' := (865, [(3, .int 0), (2, .ref 225), (1, .ref 1), (0, .ref 0)], [.int 2, .ref 0, .int (xs 1), .ref 225, .long r], h1)) el_864 rfl ?_
  refine pm_r (F' := (866, [(3, .int 0), (2, .ref 225), (1, .ref 1), (0, .ref 0)], [.int (xs 2), .int (xs 1), .ref 225, .long r], h1)) el_865 rfl ?_
  refine pm_r (F' := (869, [(3, .int 0), (2, .ref 225), (1, .ref 1), (0, .ref 0)], [.long r, .long r], h2)) el_866 (pm_sV lm_243 rfl rfl o1 c2) ?_
  refine pm_r (F' := (870, [(3, .int 0), (2, .ref 225), (1, .ref 1), (0, .ref 0)], [.int (lg_cmp r r)], h2)) el_869 rfl ?_
  refine pm_r (F' := (1009, [(3, .int 0), (2, .ref 225), (1, .ref 1), (0, .ref 0)], [], h2)) el_870 (pm_sJ rfl (pm_jt (decide_eq_true (lg_rr r)))) ?_
  exact law_fin xs h2 9942
theorem law_go (xs : Nat → Int32) {r : Int64} (q : pq_ok 125 244 [.int (xs 1)] (.long r)) : law_ok xs 9978 (875, [(3, .int 0), (2, .ref 225), (1, .ref 1), (0, .ref 0)], [], ph_3) := by
  obtain ⟨h1, h2, c1, c2, o1, z1, z2⟩ := q
  refine ⟨h2, ?_, z1, z2⟩
  refine pm_r (F' := (876, [(3, .int 0), (2, .ref 225), (1, .ref 1), (0, .ref 0)], [.ref 1], ph_3)) el_875 rfl ?_
  refine pm_r (F' := (877, [(3, .int 0), (2, .ref 225), (1, .ref 1), (0, .ref 0)], [.ref 0, .ref 1], ph_3)) el_876 rfl ?_
  refine pm_r (F' := (878, [(3, .int 0), (2, .ref 225), (1, .ref 1), (0, .ref 0)], [.int 0, .ref 0, .ref 1], ph_3)) el_877 rfl ?_
  refine pm_r (F' := (879, [(3, .int 0), (2, .ref 225), (1, .ref 1), (0, .ref 0)], [.int 1, .int 0, .ref 0, .ref 1], ph_3)) el_878 rfl ?_
  refine pm_r (F' := (880, [(3, .int 0), (2, .ref 225), (1, .ref 1), (0, .ref 0)], [.int 1, .ref 0, .ref 1], ph_3)) el_879 rfl ?_
  refine pm_r (F' := (881, [(3, .int 0), (2, .ref 225), (1, .ref 1), (0, .ref 0)], [.int (xs 1), .ref 1], ph_3)) el_880 rfl ?_
  refine pm_r (F' := (884, [(3, .int 0), (2, .ref 225), (1, .ref 1), (0, .ref 0)], [.long r], h1)) el_881 (pm_sV lm_125 rfl rfl po_31 c1) ?_
  refine pm_r (F' := (885, [(3, .int 0), (2, .ref 225), (1, .ref 1), (0, .ref 0)], [.ref 225, .long r], h1)) el_884 rfl ?_
  refine pm_r (F' := (886, [(3, .int 0), (2, .ref 225), (1, .ref 1), (0, .ref 0)], [.ref 0, .ref 225, .long r], h1)) el_885 rfl ?_
  refine pm_r (F' := (887, [(3, .int 0), (2, .ref 225), (1, .ref 1), (0, .ref 0)], [.int 0, .ref 0, .ref 225, .long r], h1)) el_886 rfl ?_
  refine pm_r (F' := (888, [(3, .int 0), (2, .ref 225), (1, .ref 1), (0, .ref 0)], [.int 1, .int 0, .ref 0, .ref 225, .long r], h1)) el_887 rfl ?_
  refine pm_r (F' := (889, [(3, .int 0), (2, .ref 225), (1, .ref 1), (0, .ref 0)], [.int 1, .ref 0, .ref 225, .long r], h1)) el_888 rfl ?_
  refine pm_r (F' := (890, [(3, .int 0), (2, .ref 225), (1, .ref 1), (0, .ref 0)], [.int (xs 1), .ref 225, .long r], h1)) el_889 rfl ?_
  refine pm_r (F' := (893, [(3, .int 0), (2, .ref 225), (1, .ref 1), (0, .ref 0)], [.long r, .long r], h2)) el_890 (pm_sV lm_244 rfl rfl o1 c2) ?_
  refine pm_r (F' := (894, [(3, .int 0), (2, .ref 225), (1, .ref 1), (0, .ref 0)], [.int (lg_cmp r r)], h2)) el_893 rfl ?_
  refine pm_r (F' := (1009, [(3, .int 0), (2, .ref 225), (1, .ref 1), (0, .ref 0)], [], h2)) el_894 (pm_sJ rfl (pm_jt (decide_eq_true (lg_rr r)))) ?_
  exact law_fin xs h2 9952
theorem law_undo (xs : Nat → Int32) {r : Int32} (q : pq_ok 127 246 [] (.int r)) : law_ok xs 9978 (899, [(3, .int 0), (2, .ref 225), (1, .ref 1), (0, .ref 0)], [], ph_3) := by
  obtain ⟨h1, h2, c1, c2, o1, z1, z2⟩ := q
  refine ⟨h2, ?_, z1, z2⟩
  refine pm_r (F' := (900, [(3, .int 0), (2, .ref 225), (1, .ref 1), (0, .ref 0)], [.ref 1], ph_3)) el_899 rfl ?_
  refine pm_r (F' := (903, [(3, .int 0), (2, .ref 225), (1, .ref 1), (0, .ref 0)], [.int r], h1)) el_900 (pm_sV lm_127 rfl rfl po_31 c1) ?_
  refine pm_r (F' := (904, [(3, .int 0), (2, .ref 225), (1, .ref 1), (0, .ref 0)], [.ref 225, .int r], h1)) el_903 rfl ?_
  refine pm_r (F' := (907, [(3, .int 0), (2, .ref 225), (1, .ref 1), (0, .ref 0)], [.int r, .int r], h2)) el_904 (pm_sV lm_246 rfl rfl o1 c2) ?_
  refine pm_r (F' := (1009, [(3, .int 0), (2, .ref 225), (1, .ref 1), (0, .ref 0)], [], h2)) el_907 (pm_sJ rfl (pm_jt (decide_eq_true (rfl : r = r)))) ?_
  exact law_fin xs h2 9963
theorem law_redo (xs : Nat → Int32) {r : Int32} (q : pq_ok 128 247 [] (.int r)) : law_ok xs 9978 (912, [(3, .int 0), (2, .ref 225), (1, .ref 1), (0, .ref 0)], [], ph_3) := by
  obtain ⟨h1, h2, c1, c2, o1, z1, z2⟩ := q
  refine ⟨h2, ?_, z1, z2⟩
  refine pm_r (F' := (913, [(3, .int 0), (2, .ref 225), (1, .ref 1), (0, .ref 0)], [.ref 1], ph_3)) el_912 rfl ?_
  refine pm_r (F' := (916, [(3, .int 0), (2, .ref 225), (1, .ref 1), (0, .ref 0)], [.int r], h1)) el_913 (pm_sV lm_128 rfl rfl po_31 c1) ?_
  refine pm_r (F' := (917, [(3, .int 0), (2, .ref 225), (1, .ref 1), (0, .ref 0)], [.ref 225, .int r], h1)) el_916 rfl ?_
  refine pm_r (F' := (920, [(3, .int 0), (2, .ref 225), (1, .ref 1), (0, .ref 0)], [.int r, .int r], h2)) el_917 (pm_sV lm_247 rfl rfl o1 c2) ?_
  refine pm_r (F' := (1009, [(3, .int 0), (2, .ref 225), (1, .ref 1), (0, .ref 0)], [], h2)) el_920 (pm_sJ rfl (pm_jt (decide_eq_true (rfl : r = r)))) ?_
  exact law_fin xs h2 9963
theorem law_sketch (xs : Nat → Int32) {r : Int32} (q : pq_ok 129 253 [] (.int r)) : law_ok xs 9978 (925, [(3, .int 0), (2, .ref 225), (1, .ref 1), (0, .ref 0)], [], ph_3) := by
  obtain ⟨h1, h2, c1, c2, o1, z1, z2⟩ := q
  refine ⟨h2, ?_, z1, z2⟩
  refine pm_r (F' := (926, [(3, .int 0), (2, .ref 225), (1, .ref 1), (0, .ref 0)], [.ref 1], ph_3)) el_925 rfl ?_
  refine pm_r (F' := (929, [(3, .int 0), (2, .ref 225), (1, .ref 1), (0, .ref 0)], [.int r], h1)) el_926 (pm_sV lm_129 rfl rfl po_31 c1) ?_
  refine pm_r (F' := (930, [(3, .int 0), (2, .ref 225), (1, .ref 1), (0, .ref 0)], [.ref 225, .int r], h1)) el_929 rfl ?_
  refine pm_r (F' := (933, [(3, .int 0), (2, .ref 225), (1, .ref 1), (0, .ref 0)], [.int r, .int r], h2)) el_930 (pm_sV lm_253 rfl rfl o1 c2) ?_
  refine pm_r (F' := (1009, [(3, .int 0), (2, .ref 225), (1, .ref 1), (0, .ref 0)], [], h2)) el_933 (pm_sJ rfl (pm_jt (decide_eq_true (rfl : r = r)))) ?_
  exact law_fin xs h2 9963
theorem law_image (xs : Nat → Int32) {r : Int64} (q : pq_ok 130 255 [.int (xs 1)] (.long r)) : law_ok xs 9978 (938, [(3, .int 0), (2, .ref 225), (1, .ref 1), (0, .ref 0)], [], ph_3) := by
  obtain ⟨h1, h2, c1, c2, o1, z1, z2⟩ := q
  refine ⟨h2, ?_, z1, z2⟩
  refine pm_r (F' := (939, [(3, .int 0), (2, .ref 225), (1, .ref 1), (0, .ref 0)], [.ref 1], ph_3)) el_938 rfl ?_
  refine pm_r (F' := (940, [(3, .int 0), (2, .ref 225), (1, .ref 1), (0, .ref 0)], [.ref 0, .ref 1], ph_3)) el_939 rfl ?_
  refine pm_r (F' := (941, [(3, .int 0), (2, .ref 225), (1, .ref 1), (0, .ref 0)], [.int 0, .ref 0, .ref 1], ph_3)) el_940 rfl ?_
  refine pm_r (F' := (942, [(3, .int 0), (2, .ref 225), (1, .ref 1), (0, .ref 0)], [.int 1, .int 0, .ref 0, .ref 1], ph_3)) el_941 rfl ?_
  refine pm_r (F' := (943, [(3, .int 0), (2, .ref 225), (1, .ref 1), (0, .ref 0)], [.int 1, .ref 0, .ref 1], ph_3)) el_942 rfl ?_
  refine pm_r (F' := (944, [(3, .int 0), (2, .ref 225), (1, .ref 1), (0, .ref 0)], [.int (xs 1), .ref 1], ph_3)) el_943 rfl ?_
  refine pm_r (F' := (947, [(3, .int 0), (2, .ref 225), (1, .ref 1), (0, .ref 0)], [.long r], h1)) el_944 (pm_sV lm_130 rfl rfl po_31 c1) ?_
  refine pm_r (F' := (948, [(3, .int 0), (2, .ref 225), (1, .ref 1), (0, .ref 0)], [.ref 225, .long r], h1)) el_947 rfl ?_
  refine pm_r (F' := (949, [(3, .int 0), (2, .ref 225), (1, .ref 1), (0, .ref 0)], [.ref 0, .ref 225, .long r], h1)) el_948 rfl ?_
  refine pm_r (F' := (950, [(3, .int 0), (2, .ref 225), (1, .ref 1), (0, .ref 0)], [.int 0, .ref 0, .ref 225, .long r], h1)) el_949 rfl ?_
  refine pm_r (F' := (951, [(3, .int 0), (2, .ref 225), (1, .ref 1), (0, .ref 0)], [.int 1, .int 0, .ref 0, .ref 225, .long r], h1)) el_950 rfl ?_
  refine pm_r (F' := (952, [(3, .int 0), (2, .ref 225), (1, .ref 1), (0, .ref 0)], [.int 1, .ref 0, .ref 225, .long r], h1)) el_951 rfl ?_
  refine pm_r (F' := (953, [(3, .int 0), (2, .ref 225), (1, .ref 1), (0, .ref 0)], [.int (xs 1), .ref 225, .long r], h1)) el_952 rfl ?_
  refine pm_r (F' := (956, [(3, .int 0), (2, .ref 225), (1, .ref 1), (0, .ref 0)], [.long r, .long r], h2)) el_953 (pm_sV lm_255 rfl rfl o1 c2) ?_
  refine pm_r (F' := (957, [(3, .int 0), (2, .ref 225), (1, .ref 1), (0, .ref 0)], [.int (lg_cmp r r)], h2)) el_956 rfl ?_
  refine pm_r (F' := (1009, [(3, .int 0), (2, .ref 225), (1, .ref 1), (0, .ref 0)], [], h2)) el_957 (pm_sJ rfl (pm_jt (decide_eq_true (lg_rr r)))) ?_
  exact law_fin xs h2 9952
theorem law_back (xs : Nat → Int32) {r : Int64} (q : pq_ok 131 256 [.int (xs 1)] (.long r)) : law_ok xs 9978 (962, [(3, .int 0), (2, .ref 225), (1, .ref 1), (0, .ref 0)], [], ph_3) := by
  obtain ⟨h1, h2, c1, c2, o1, z1, z2⟩ := q
  refine ⟨h2, ?_, z1, z2⟩
  refine pm_r (F' := (963, [(3, .int 0), (2, .ref 225), (1, .ref 1), (0, .ref 0)], [.ref 1], ph_3)) el_962 rfl ?_
  refine pm_r (F' := (964, [(3, .int 0), (2, .ref 225), (1, .ref 1), (0, .ref 0)], [.ref 0, .ref 1], ph_3)) el_963 rfl ?_
  refine pm_r (F' := (965, [(3, .int 0), (2, .ref 225), (1, .ref 1), (0, .ref 0)], [.int 0, .ref 0, .ref 1], ph_3)) el_964 rfl ?_
  refine pm_r (F' := (966, [(3, .int 0), (2, .ref 225), (1, .ref 1), (0, .ref 0)], [.int 1, .int 0, .ref 0, .ref 1], ph_3)) el_965 rfl ?_
  refine pm_r (F' := (967, [(3, .int 0), (2, .ref 225), (1, .ref 1), (0, .ref 0)], [.int 1, .ref 0, .ref 1], ph_3)) el_966 rfl ?_
  refine pm_r (F' := (968, [(3, .int 0), (2, .ref 225), (1, .ref 1), (0, .ref 0)], [.int (xs 1), .ref 1], ph_3)) el_967 rfl ?_
  refine pm_r (F' := (971, [(3, .int 0), (2, .ref 225), (1, .ref 1), (0, .ref 0)], [.long r], h1)) el_968 (pm_sV lm_131 rfl rfl po_31 c1) ?_
  refine pm_r (F' := (972, [(3, .int 0), (2, .ref 225), (1, .ref 1), (0, .ref 0)], [.ref 225, .long r], h1)) el_971 rfl ?_
  refine pm_r (F' := (973, [(3, .int 0), (2, .ref 225), (1, .ref 1), (0, .ref 0)], [.ref 0, .ref 225, .long r], h1)) el_972 rfl ?_
  refine pm_r (F' := (974, [(3, .int 0), (2, .ref 225), (1, .ref 1), (0, .ref 0)], [.int 0, .ref 0, .ref 225, .long r], h1)) el_973 rfl ?_
  refine pm_r (F' := (975, [(3, .int 0), (2, .ref 225), (1, .ref 1), (0, .ref 0)], [.int 1, .int 0, .ref 0, .ref 225, .long r], h1)) el_974 rfl ?_
  refine pm_r (F' := (976, [(3, .int 0), (2, .ref 225), (1, .ref 1), (0, .ref 0)], [.int 1, .ref 0, .ref 225, .long r], h1)) el_975 rfl ?_
  refine pm_r (F' := (977, [(3, .int 0), (2, .ref 225), (1, .ref 1), (0, .ref 0)], [.int (xs 1), .ref 225, .long r], h1)) el_976 rfl ?_
  refine pm_r (F' := (980, [(3, .int 0), (2, .ref 225), (1, .ref 1), (0, .ref 0)], [.long r, .long r], h2)) el_977 (pm_sV lm_256 rfl rfl o1 c2) ?_
  refine pm_r (F' := (981, [(3, .int 0), (2, .ref 225), (1, .ref 1), (0, .ref 0)], [.int (lg_cmp r r)], h2)) el_980 rfl ?_
  refine pm_r (F' := (1009, [(3, .int 0), (2, .ref 225), (1, .ref 1), (0, .ref 0)], [], h2)) el_981 (pm_sJ rfl (pm_jt (decide_eq_true (lg_rr r)))) ?_
  exact law_fin xs h2 9952
theorem law_about (xs : Nat → Int32) {r : Int32} (q : pq_ok 132 257 [.int (xs 1)] (.int r)) : law_ok xs 9978 (986, [(3, .int 0), (2, .ref 225), (1, .ref 1), (0, .ref 0)], [], ph_3) := by
  obtain ⟨h1, h2, c1, c2, o1, z1, z2⟩ := q
  refine ⟨h2, ?_, z1, z2⟩
  refine pm_r (F' := (987, [(3, .int 0), (2, .ref 225), (1, .ref 1), (0, .ref 0)], [.ref 1], ph_3)) el_986 rfl ?_
  refine pm_r (F' := (988, [(3, .int 0), (2, .ref 225), (1, .ref 1), (0, .ref 0)], [.ref 0, .ref 1], ph_3)) el_987 rfl ?_
  refine pm_r (F' := (989, [(3, .int 0), (2, .ref 225), (1, .ref 1), (0, .ref 0)], [.int 0, .ref 0, .ref 1], ph_3)) el_988 rfl ?_
  refine pm_r (F' := (990, [(3, .int 0), (2, .ref 225), (1, .ref 1), (0, .ref 0)], [.int 1, .int 0, .ref 0, .ref 1], ph_3)) el_989 rfl ?_
  refine pm_r (F' := (991, [(3, .int 0), (2, .ref 225), (1, .ref 1), (0, .ref 0)], [.int 1, .ref 0, .ref 1], ph_3)) el_990 rfl ?_
  refine pm_r (F' := (992, [(3, .int 0), (2, .ref 225), (1, .ref 1), (0, .ref 0)], [.int (xs 1), .ref 1], ph_3)) el_991 rfl ?_
  refine pm_r (F' := (995, [(3, .int 0), (2, .ref 225), (1, .ref 1), (0, .ref 0)], [.int r], h1)) el_992 (pm_sV lm_132 rfl rfl po_31 c1) ?_
  refine pm_r (F' := (996, [(3, .int 0), (2, .ref 225), (1, .ref 1), (0, .ref 0)], [.ref 225, .int r], h1)) el_995 rfl ?_
  refine pm_r (F' := (997, [(3, .int 0), (2, .ref 225), (1, .ref 1), (0, .ref 0)], [.ref 0, .ref 225, .int r], h1)) el_996 rfl ?_
  refine pm_r (F' := (998, [(3, .int 0), (2, .ref 225), (1, .ref 1), (0, .ref 0)], [.int 0, .ref 0, .ref 225, .int r], h1)) el_997 rfl ?_
  refine pm_r (F' := (999, [(3, .int 0), (2, .ref 225), (1, .ref 1), (0, .ref 0)], [.int 1, .int 0, .ref 0, .ref 225, .int r], h1)) el_998 rfl ?_
  refine pm_r (F' := (1000, [(3, .int 0), (2, .ref 225), (1, .ref 1), (0, .ref 0)], [.int 1, .ref 0, .ref 225, .int r], h1)) el_999 rfl ?_
  refine pm_r (F' := (1001, [(3, .int 0), (2, .ref 225), (1, .ref 1), (0, .ref 0)], [.int (xs 1), .ref 225, .int r], h1)) el_1000 rfl ?_
  refine pm_r (F' := (1004, [(3, .int 0), (2, .ref 225), (1, .ref 1), (0, .ref 0)], [.int r, .int r], h2)) el_1001 (pm_sV lm_257 rfl rfl o1 c2) ?_
  refine pm_r (F' := (1009, [(3, .int 0), (2, .ref 225), (1, .ref 1), (0, .ref 0)], [], h2)) el_1004 (pm_sJ rfl (pm_jt (decide_eq_true (rfl : r = r)))) ?_
  exact law_fin xs h2 9953
theorem law_none (xs : Nat → Int32) : law_ok xs 9978 (1009, [(3, .int 0), (2, .ref 225), (1, .ref 1), (0, .ref 0)], [], ph_3) := ⟨ph_3, law_fin xs ph_3 9968, pz_31, pz_32⟩
theorem law_sw0 (xs : Nat → Int32) (e : xs 0 &&& 31 = nI 0) : law_ok xs 9979 (33, [(3, .int 0), (2, .ref 225), (1, .ref 1), (0, .ref 0)], [.int (xs 0 &&& 31)], ph_3) := by
  rw [e]
  have h : law_ok xs 9978 (164, [(3, .int 0), (2, .ref 225), (1, .ref 1), (0, .ref 0)], [], ph_3) := by obtain ⟨r, q⟩ := pq_feed (xs 1) (xs 2) (xs 3) (xs 4) (xs 5); exact law_feed xs q
  obtain ⟨hE, h1, h2, h3⟩ := h
  exact ⟨hE, pm_r el_33 rfl h1, h2, h3⟩
theorem law_sw1 (xs : Nat → Int32) (e : xs 0 &&& 31 = nI 1) : law_ok xs 9979 (33, [(3, .int 0), (2, .ref 225), (1, .ref 1), (0, .ref 0)], [.int (xs 0 &&& 31)], ph_3) := by
  rw [e]
  have h : law_ok xs 9978 (227, [(3, .int 0), (2, .ref 225), (1, .ref 1), (0, .ref 0)], [], ph_3) := by obtain ⟨r, q⟩ := pq_end (xs 1); exact law_end xs q
  obtain ⟨hE, h1, h2, h3⟩ := h
  exact ⟨hE, pm_r el_33 rfl h1, h2, h3⟩
theorem law_sw2 (xs : Nat → Int32) (e : xs 0 &&& 31 = nI 2) : law_ok xs 9979 (33, [(3, .int 0), (2, .ref 225), (1, .ref 1), (0, .ref 0)], [.int (xs 0 &&& 31)], ph_3) := by
  rw [e]
  have h : law_ok xs 9978 (250, [(3, .int 0), (2, .ref 225), (1, .ref 1), (0, .ref 0)], [], ph_3) := by exact law_ground xs pq_ground
  obtain ⟨hE, h1, h2, h3⟩ := h
  exact ⟨hE, pm_r el_33 rfl h1, h2, h3⟩
theorem law_sw3 (xs : Nat → Int32) (e : xs 0 &&& 31 = nI 3) : law_ok xs 9979 (33, [(3, .int 0), (2, .ref 225), (1, .ref 1), (0, .ref 0)], [.int (xs 0 &&& 31)], ph_3) := by
  rw [e]
  have h : law_ok xs 9978 (263, [(3, .int 0), (2, .ref 225), (1, .ref 1), (0, .ref 0)], [], ph_3) := by obtain ⟨r, q⟩ := pq_fault (xs 1); exact law_fault xs q
  obtain ⟨hE, h1, h2, h3⟩ := h
  exact ⟨hE, pm_r el_33 rfl h1, h2, h3⟩
theorem law_sw4 (xs : Nat → Int32) (e : xs 0 &&& 31 = nI 4) : law_ok xs 9979 (33, [(3, .int 0), (2, .ref 225), (1, .ref 1), (0, .ref 0)], [.int (xs 0 &&& 31)], ph_3) := by
  rw [e]
  have h : law_ok xs 9978 (286, [(3, .int 0), (2, .ref 225), (1, .ref 1), (0, .ref 0)], [], ph_3) := by obtain ⟨r, q⟩ := pq_point (xs 1) (xs 2); exact law_point xs q
  obtain ⟨hE, h1, h2, h3⟩ := h
  exact ⟨hE, pm_r el_33 rfl h1, h2, h3⟩
theorem law_sw5 (xs : Nat → Int32) (e : xs 0 &&& 31 = nI 5) : law_ok xs 9979 (33, [(3, .int 0), (2, .ref 225), (1, .ref 1), (0, .ref 0)], [.int (xs 0 &&& 31)], ph_3) := by
  rw [e]
  have h : law_ok xs 9978 (319, [(3, .int 0), (2, .ref 225), (1, .ref 1), (0, .ref 0)], [], ph_3) := by obtain ⟨r, q⟩ := pq_number (xs 1) (xs 2); exact law_number xs q
  obtain ⟨hE, h1, h2, h3⟩ := h
  exact ⟨hE, pm_r el_33 rfl h1, h2, h3⟩
theorem law_sw6 (xs : Nat → Int32) (e : xs 0 &&& 31 = nI 6) : law_ok xs 9979 (33, [(3, .int 0), (2, .ref 225), (1, .ref 1), (0, .ref 0)], [.int (xs 0 &&& 31)], ph_3) := by
  rw [e]
  have h : law_ok xs 9978 (353, [(3, .int 0), (2, .ref 225), (1, .ref 1), (0, .ref 0)], [], ph_3) := by obtain ⟨r, q⟩ := pq_loops (xs 1) (xs 2); exact law_loops xs q
  obtain ⟨hE, h1, h2, h3⟩ := h
  exact ⟨hE, pm_r el_33 rfl h1, h2, h3⟩
theorem law_sw7 (xs : Nat → Int32) (e : xs 0 &&& 31 = nI 7) : law_ok xs 9979 (33, [(3, .int 0), (2, .ref 225), (1, .ref 1), (0, .ref 0)], [.int (xs 0 &&& 31)], ph_3) := by
  rw [e]
  have h : law_ok xs 9978 (386, [(3, .int 0), (2, .ref 225), (1, .ref 1), (0, .ref 0)], [], ph_3) := by obtain ⟨r, q⟩ := pq_traced (xs 1) (xs 2); exact law_traced xs q
  obtain ⟨hE, h1, h2, h3⟩ := h
  exact ⟨hE, pm_r el_33 rfl h1, h2, h3⟩
theorem law_sw8 (xs : Nat → Int32) (e : xs 0 &&& 31 = nI 8) : law_ok xs 9979 (33, [(3, .int 0), (2, .ref 225), (1, .ref 1), (0, .ref 0)], [.int (xs 0 &&& 31)], ph_3) := by
  rw [e]
  have h : law_ok xs 9978 (419, [(3, .int 0), (2, .ref 225), (1, .ref 1), (0, .ref 0)], [], ph_3) := by obtain ⟨r, q⟩ := pq_flips (xs 1); exact law_flips xs q
  obtain ⟨hE, h1, h2, h3⟩ := h
  exact ⟨hE, pm_r el_33 rfl h1, h2, h3⟩
theorem law_sw9 (xs : Nat → Int32) (e : xs 0 &&& 31 = nI 9) : law_ok xs 9979 (33, [(3, .int 0), (2, .ref 225), (1, .ref 1), (0, .ref 0)], [.int (xs 0 &&& 31)], ph_3) := by
  rw [e]
  have h : law_ok xs 9978 (442, [(3, .int 0), (2, .ref 225), (1, .ref 1), (0, .ref 0)], [], ph_3) := by obtain ⟨r, q⟩ := pq_flip (xs 1) (xs 2); exact law_flip xs q
  obtain ⟨hE, h1, h2, h3⟩ := h
  exact ⟨hE, pm_r el_33 rfl h1, h2, h3⟩
theorem law_sw10 (xs : Nat → Int32) (e : xs 0 &&& 31 = nI 10) : law_ok xs 9979 (33, [(3, .int 0), (2, .ref 225), (1, .ref 1), (0, .ref 0)], [.int (xs 0 &&& 31)], ph_3) := by
  rw [e]
  have h : law_ok xs 9978 (475, [(3, .int 0), (2, .ref 225), (1, .ref 1), (0, .ref 0)], [], ph_3) := by obtain ⟨r, q⟩ := pq_cross (xs 1) (xs 2); exact law_cross xs q
  obtain ⟨hE, h1, h2, h3⟩ := h
  exact ⟨hE, pm_r el_33 rfl h1, h2, h3⟩
theorem law_sw11 (xs : Nat → Int32) (e : xs 0 &&& 31 = nI 11) : law_ok xs 9979 (33, [(3, .int 0), (2, .ref 225), (1, .ref 1), (0, .ref 0)], [.int (xs 0 &&& 31)], ph_3) := by
  rw [e]
  have h : law_ok xs 9978 (509, [(3, .int 0), (2, .ref 225), (1, .ref 1), (0, .ref 0)], [], ph_3) := by obtain ⟨r, q⟩ := pq_across (xs 1) (xs 2); exact law_across xs q
  obtain ⟨hE, h1, h2, h3⟩ := h
  exact ⟨hE, pm_r el_33 rfl h1, h2, h3⟩
theorem law_sw12 (xs : Nat → Int32) (e : xs 0 &&& 31 = nI 12) : law_ok xs 9979 (33, [(3, .int 0), (2, .ref 225), (1, .ref 1), (0, .ref 0)], [.int (xs 0 &&& 31)], ph_3) := by
  rw [e]
  have h : law_ok xs 9978 (542, [(3, .int 0), (2, .ref 225), (1, .ref 1), (0, .ref 0)], [], ph_3) := by obtain ⟨r, q⟩ := pq_kept (xs 1); exact law_kept xs q
  obtain ⟨hE, h1, h2, h3⟩ := h
  exact ⟨hE, pm_r el_33 rfl h1, h2, h3⟩
theorem law_sw13 (xs : Nat → Int32) (e : xs 0 &&& 31 = nI 13) : law_ok xs 9979 (33, [(3, .int 0), (2, .ref 225), (1, .ref 1), (0, .ref 0)], [.int (xs 0 &&& 31)], ph_3) := by
  rw [e]
  have h : law_ok xs 9978 (565, [(3, .int 0), (2, .ref 225), (1, .ref 1), (0, .ref 0)], [], ph_3) := by obtain ⟨r, q⟩ := pq_alike (xs 1) (xs 2); exact law_alike xs q
  obtain ⟨hE, h1, h2, h3⟩ := h
  exact ⟨hE, pm_r el_33 rfl h1, h2, h3⟩
theorem law_sw14 (xs : Nat → Int32) (e : xs 0 &&& 31 = nI 14) : law_ok xs 9979 (33, [(3, .int 0), (2, .ref 225), (1, .ref 1), (0, .ref 0)], [.int (xs 0 &&& 31)], ph_3) := by
  rw [e]
  have h : law_ok xs 9978 (598, [(3, .int 0), (2, .ref 225), (1, .ref 1), (0, .ref 0)], [], ph_3) := by obtain ⟨r, q⟩ := pq_order (xs 1); exact law_order xs q
  obtain ⟨hE, h1, h2, h3⟩ := h
  exact ⟨hE, pm_r el_33 rfl h1, h2, h3⟩
theorem law_sw15 (xs : Nat → Int32) (e : xs 0 &&& 31 = nI 15) : law_ok xs 9979 (33, [(3, .int 0), (2, .ref 225), (1, .ref 1), (0, .ref 0)], [.int (xs 0 &&& 31)], ph_3) := by
  rw [e]
  have h : law_ok xs 9978 (621, [(3, .int 0), (2, .ref 225), (1, .ref 1), (0, .ref 0)], [], ph_3) := by obtain ⟨r, q⟩ := pq_stretch (xs 1) (xs 2) (xs 3); exact law_stretch xs q
  obtain ⟨hE, h1, h2, h3⟩ := h
  exact ⟨hE, pm_r el_33 rfl h1, h2, h3⟩
theorem law_sw16 (xs : Nat → Int32) (e : xs 0 &&& 31 = nI 16) : law_ok xs 9979 (33, [(3, .int 0), (2, .ref 225), (1, .ref 1), (0, .ref 0)], [.int (xs 0 &&& 31)], ph_3) := by
  rw [e]
  have h : law_ok xs 9978 (665, [(3, .int 0), (2, .ref 225), (1, .ref 1), (0, .ref 0)], [], ph_3) := by obtain ⟨r, q⟩ := pq_table (xs 1) (xs 2) (xs 3) (xs 4); exact law_table xs q
  obtain ⟨hE, h1, h2, h3⟩ := h
  exact ⟨hE, pm_r el_33 rfl h1, h2, h3⟩
theorem law_sw17 (xs : Nat → Int32) (e : xs 0 &&& 31 = nI 17) : law_ok xs 9979 (33, [(3, .int 0), (2, .ref 225), (1, .ref 1), (0, .ref 0)], [.int (xs 0 &&& 31)], ph_3) := by
  rw [e]
  have h : law_ok xs 9978 (718, [(3, .int 0), (2, .ref 225), (1, .ref 1), (0, .ref 0)], [], ph_3) := by obtain ⟨r, q⟩ := pq_polynomial (xs 1) (xs 2) (xs 3); exact law_polynomial xs q
  obtain ⟨hE, h1, h2, h3⟩ := h
  exact ⟨hE, pm_r el_33 rfl h1, h2, h3⟩
theorem law_sw18 (xs : Nat → Int32) (e : xs 0 &&& 31 = nI 18) : law_ok xs 9979 (33, [(3, .int 0), (2, .ref 225), (1, .ref 1), (0, .ref 0)], [.int (xs 0 &&& 31)], ph_3) := by
  rw [e]
  have h : law_ok xs 9978 (761, [(3, .int 0), (2, .ref 225), (1, .ref 1), (0, .ref 0)], [], ph_3) := by obtain ⟨r, q⟩ := pq_least (xs 1) (xs 2); exact law_least xs q
  obtain ⟨hE, h1, h2, h3⟩ := h
  exact ⟨hE, pm_r el_33 rfl h1, h2, h3⟩
theorem law_sw19 (xs : Nat → Int32) (e : xs 0 &&& 31 = nI 19) : law_ok xs 9979 (33, [(3, .int 0), (2, .ref 225), (1, .ref 1), (0, .ref 0)], [.int (xs 0 &&& 31)], ph_3) := by
  rw [e]
  have h : law_ok xs 9978 (794, [(3, .int 0), (2, .ref 225), (1, .ref 1), (0, .ref 0)], [], ph_3) := by obtain ⟨r, q⟩ := pq_lies (xs 1); exact law_lies xs q
  obtain ⟨hE, h1, h2, h3⟩ := h
  exact ⟨hE, pm_r el_33 rfl h1, h2, h3⟩
theorem law_sw20 (xs : Nat → Int32) (e : xs 0 &&& 31 = nI 20) : law_ok xs 9979 (33, [(3, .int 0), (2, .ref 225), (1, .ref 1), (0, .ref 0)], [.int (xs 0 &&& 31)], ph_3) := by
  rw [e]
  have h : law_ok xs 9978 (817, [(3, .int 0), (2, .ref 225), (1, .ref 1), (0, .ref 0)], [], ph_3) := by obtain ⟨r, q⟩ := pq_lay (xs 1); exact law_lay xs q
  obtain ⟨hE, h1, h2, h3⟩ := h
  exact ⟨hE, pm_r el_33 rfl h1, h2, h3⟩
theorem law_sw21 (xs : Nat → Int32) (e : xs 0 &&& 31 = nI 21) : law_ok xs 9979 (33, [(3, .int 0), (2, .ref 225), (1, .ref 1), (0, .ref 0)], [.int (xs 0 &&& 31)], ph_3) := by
  rw [e]
  have h : law_ok xs 9978 (841, [(3, .int 0), (2, .ref 225), (1, .ref 1), (0, .ref 0)], [], ph_3) := by obtain ⟨r, q⟩ := pq_twist (xs 1) (xs 2); exact law_twist xs q
  obtain ⟨hE, h1, h2, h3⟩ := h
  exact ⟨hE, pm_r el_33 rfl h1, h2, h3⟩
theorem law_sw22 (xs : Nat → Int32) (e : xs 0 &&& 31 = nI 22) : law_ok xs 9979 (33, [(3, .int 0), (2, .ref 225), (1, .ref 1), (0, .ref 0)], [.int (xs 0 &&& 31)], ph_3) := by
  rw [e]
  have h : law_ok xs 9978 (875, [(3, .int 0), (2, .ref 225), (1, .ref 1), (0, .ref 0)], [], ph_3) := by obtain ⟨r, q⟩ := pq_go (xs 1); exact law_go xs q
  obtain ⟨hE, h1, h2, h3⟩ := h
  exact ⟨hE, pm_r el_33 rfl h1, h2, h3⟩
theorem law_sw23 (xs : Nat → Int32) (e : xs 0 &&& 31 = nI 23) : law_ok xs 9979 (33, [(3, .int 0), (2, .ref 225), (1, .ref 1), (0, .ref 0)], [.int (xs 0 &&& 31)], ph_3) := by
  rw [e]
  have h : law_ok xs 9978 (899, [(3, .int 0), (2, .ref 225), (1, .ref 1), (0, .ref 0)], [], ph_3) := by exact law_undo xs pq_undo
  obtain ⟨hE, h1, h2, h3⟩ := h
  exact ⟨hE, pm_r el_33 rfl h1, h2, h3⟩
theorem law_sw24 (xs : Nat → Int32) (e : xs 0 &&& 31 = nI 24) : law_ok xs 9979 (33, [(3, .int 0), (2, .ref 225), (1, .ref 1), (0, .ref 0)], [.int (xs 0 &&& 31)], ph_3) := by
  rw [e]
  have h : law_ok xs 9978 (912, [(3, .int 0), (2, .ref 225), (1, .ref 1), (0, .ref 0)], [], ph_3) := by exact law_redo xs pq_redo
  obtain ⟨hE, h1, h2, h3⟩ := h
  exact ⟨hE, pm_r el_33 rfl h1, h2, h3⟩
theorem law_sw25 (xs : Nat → Int32) (e : xs 0 &&& 31 = nI 25) : law_ok xs 9979 (33, [(3, .int 0), (2, .ref 225), (1, .ref 1), (0, .ref 0)], [.int (xs 0 &&& 31)], ph_3) := by
  rw [e]
  have h : law_ok xs 9978 (925, [(3, .int 0), (2, .ref 225), (1, .ref 1), (0, .ref 0)], [], ph_3) := by exact law_sketch xs pq_sketch
  obtain ⟨hE, h1, h2, h3⟩ := h
  exact ⟨hE, pm_r el_33 rfl h1, h2, h3⟩
theorem law_sw26 (xs : Nat → Int32) (e : xs 0 &&& 31 = nI 26) : law_ok xs 9979 (33, [(3, .int 0), (2, .ref 225), (1, .ref 1), (0, .ref 0)], [.int (xs 0 &&& 31)], ph_3) := by
  rw [e]
  have h : law_ok xs 9978 (938, [(3, .int 0), (2, .ref 225), (1, .ref 1), (0, .ref 0)], [], ph_3) := by obtain ⟨r, q⟩ := pq_image (xs 1); exact law_image xs q
  obtain ⟨hE, h1, h2, h3⟩ := h
  exact ⟨hE, pm_r el_33 rfl h1, h2, h3⟩
theorem law_sw27 (xs : Nat → Int32) (e : xs 0 &&& 31 = nI 27) : law_ok xs 9979 (33, [(3, .int 0), (2, .ref 225), (1, .ref 1), (0, .ref 0)], [.int (xs 0 &&& 31)], ph_3) := by
  rw [e]
  have h : law_ok xs 9978 (962, [(3, .int 0), (2, .ref 225), (1, .ref 1), (0, .ref 0)], [], ph_3) := by obtain ⟨r, q⟩ := pq_back (xs 1); exact law_back xs q
  obtain ⟨hE, h1, h2, h3⟩ := h
  exact ⟨hE, pm_r el_33 rfl h1, h2, h3⟩
theorem law_sw28 (xs : Nat → Int32) (e : xs 0 &&& 31 = nI 28) : law_ok xs 9979 (33, [(3, .int 0), (2, .ref 225), (1, .ref 1), (0, .ref 0)], [.int (xs 0 &&& 31)], ph_3) := by
  rw [e]
  have h : law_ok xs 9978 (986, [(3, .int 0), (2, .ref 225), (1, .ref 1), (0, .ref 0)], [], ph_3) := by obtain ⟨r, q⟩ := pq_about (xs 1); exact law_about xs q
  obtain ⟨hE, h1, h2, h3⟩ := h
  exact ⟨hE, pm_r el_33 rfl h1, h2, h3⟩
theorem law_sw29 (xs : Nat → Int32) (e : xs 0 &&& 31 = nI 29) : law_ok xs 9979 (33, [(3, .int 0), (2, .ref 225), (1, .ref 1), (0, .ref 0)], [.int (xs 0 &&& 31)], ph_3) := by
  rw [e]
  have h : law_ok xs 9978 (1009, [(3, .int 0), (2, .ref 225), (1, .ref 1), (0, .ref 0)], [], ph_3) := by exact law_none xs
  obtain ⟨hE, h1, h2, h3⟩ := h
  exact ⟨hE, pm_r el_33 rfl h1, h2, h3⟩
theorem law_sw30 (xs : Nat → Int32) (e : xs 0 &&& 31 = nI 30) : law_ok xs 9979 (33, [(3, .int 0), (2, .ref 225), (1, .ref 1), (0, .ref 0)], [.int (xs 0 &&& 31)], ph_3) := by
  rw [e]
  have h : law_ok xs 9978 (1009, [(3, .int 0), (2, .ref 225), (1, .ref 1), (0, .ref 0)], [], ph_3) := by exact law_none xs
  obtain ⟨hE, h1, h2, h3⟩ := h
  exact ⟨hE, pm_r el_33 rfl h1, h2, h3⟩
theorem law_sw31 (xs : Nat → Int32) (e : xs 0 &&& 31 = nI 31) : law_ok xs 9979 (33, [(3, .int 0), (2, .ref 225), (1, .ref 1), (0, .ref 0)], [.int (xs 0 &&& 31)], ph_3) := by
  rw [e]
  have h : law_ok xs 9978 (1009, [(3, .int 0), (2, .ref 225), (1, .ref 1), (0, .ref 0)], [], ph_3) := by exact law_none xs
  obtain ⟨hE, h1, h2, h3⟩ := h
  exact ⟨hE, pm_r el_33 rfl h1, h2, h3⟩
theorem law_all (L : Nat) (xs : Nat → Int32) (hL : L ≤ 6) : ∃ hE, pm_law 10000 L xs = some (some (.int 1), hE) ∧ hE.length ≤ 600000 ∧ pm_sls hE ≤ 7302250 := by
  rw [law_pre]
  rcases (show L = 0 ∨ L = 1 ∨ L = 2 ∨ L = 3 ∨ L = 4 ∨ L = 5 ∨ L = 6 by omega) with rfl | rfl | rfl | rfl | rfl | rfl | rfl
  · exact ⟨ph_3, law_short0 xs, pz_31, pz_32⟩
  · exact ⟨ph_3, law_short1 xs, pz_31, pz_32⟩
  · exact ⟨ph_3, law_short2 xs, pz_31, pz_32⟩
  · exact ⟨ph_3, law_short3 xs, pz_31, pz_32⟩
  · exact ⟨ph_3, law_short4 xs, pz_31, pz_32⟩
  · exact ⟨ph_3, law_short5 xs, pz_31, pz_32⟩
  · rw [law_head]
    obtain ⟨j, hj, e⟩ := pk_andE (xs 0) (m := 31) 5 (by decide)
    have hj : j < 32 := hj
    rcases (show j = 0 ∨ j = 1 ∨ j = 2 ∨ j = 3 ∨ j = 4 ∨ j = 5 ∨ j = 6 ∨ j = 7 ∨ j = 8 ∨ j = 9 ∨ j = 10 ∨ j = 11 ∨ j = 12 ∨ j = 13 ∨ j = 14 ∨ j = 15 ∨ j = 16 ∨ j = 17 ∨ j = 18 ∨ j = 19 ∨ j = 20 ∨ j = 21 ∨ j = 22 ∨ j = 23 ∨ j = 24 ∨ j = 25 ∨ j = 26 ∨ j = 27 ∨ j = 28 ∨ j = 29 ∨ j = 30 ∨ j = 31 by omega) with rfl | rfl | rfl | rfl | rfl | rfl | rfl | rfl | rfl | rfl | rfl | rfl | rfl | rfl | rfl | rfl | rfl | rfl | rfl | rfl | rfl | rfl | rfl | rfl | rfl | rfl | rfl | rfl | rfl | rfl | rfl | rfl
    · exact law_sw0 xs e
    · exact law_sw1 xs e
    · exact law_sw2 xs e
    · exact law_sw3 xs e
    · exact law_sw4 xs e
    · exact law_sw5 xs e
    · exact law_sw6 xs e
    · exact law_sw7 xs e
    · exact law_sw8 xs e
    · exact law_sw9 xs e
    · exact law_sw10 xs e
    · exact law_sw11 xs e
    · exact law_sw12 xs e
    · exact law_sw13 xs e
    · exact law_sw14 xs e
    · exact law_sw15 xs e
    · exact law_sw16 xs e
    · exact law_sw17 xs e
    · exact law_sw18 xs e
    · exact law_sw19 xs e
    · exact law_sw20 xs e
    · exact law_sw21 xs e
    · exact law_sw22 xs e
    · exact law_sw23 xs e
    · exact law_sw24 xs e
    · exact law_sw25 xs e
    · exact law_sw26 xs e
    · exact law_sw27 xs e
    · exact law_sw28 xs e
    · exact law_sw29 xs e
    · exact law_sw30 xs e
    · exact law_sw31 xs e

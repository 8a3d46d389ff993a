/-! feed, on objects with room on their tapes -/
theorem pm_cw_ne {h : pm_H} {a b : Nat} {e : pm_E} (hab : b ≠ a) : pm_cell (pm_wr h a e) b = pm_cell h b := by
  cases a with
  | zero => rfl
  | succ a =>
    cases b with
    | zero => rfl
    | succ b =>
      show pm_nth (pm_put h e a) b = pm_nth h b
      rw [pm_nth_eq, pm_nth_eq, pm_put_eq, List.getElem?_set_ne (by omega)]
theorem pm_cw_eq {h : pm_H} {a : Nat} {e x : pm_E} (hx : pm_cell h a = some x) : pm_cell (pm_wr h a e) a = some e := by
  obtain ⟨k, rfl, q⟩ := pm_cell_s hx
  show pm_nth (pm_put h e k) k = some e
  have hlt := (List.getElem?_eq_some_iff.mp q).1
  rw [pm_nth_eq, pm_put_eq, List.getElem?_set_self hlt]
theorem pm_cw_sz {h : pm_H} {a : Nat} {e x : pm_E} (hx : pm_cell h a = some x) (he : pm_sl e = pm_sl x) : (pm_wr h a e).length = h.length ∧ pm_sls (pm_wr h a e) = pm_sls h := by
  obtain ⟨k, rfl, q⟩ := pm_cell_s hx
  exact pm_wr_sls q he
/-- a tape with n bytes: the object at X of class ci, its tape at T of kind kd, its count in the field sl -/
def pb_at (X ci sl T kd n : Nat) (h : pm_H) : Prop := ∃ fs f, pm_cell h X = some (.inr (ci, fs)) ∧ fs[0]? = some (.ref T) ∧ fs[sl]? = some (.int (nI n)) ∧ pm_cell h T = some (.inl (kd, 1600, .inl f))
def pb_fr (X T : Nat) (h h' : pm_H) : Prop := h'.length = h.length ∧ pm_sls h' = pm_sls h ∧ ∀ b, b ≠ X → b ≠ T → pm_cell h' b = pm_cell h b
theorem pb_fr_tr {X T : Nat} {a b c : pm_H} (h1 : pb_fr X T a b) (h2 : pb_fr X T b c) : pb_fr X T a c := ⟨h2.1.trans h1.1, h2.2.1.trans h1.2.1, fun q h3 h4 => (h2.2.2 q h3 h4).trans (h1.2.2 q h3 h4)⟩
theorem pb_gf {h : pm_H} {X ci k : Nat} {fs : List Value} {v : Value} (h1 : pm_cell h X = some (.inr (ci, fs))) (h2 : fs[k]? = some v) : pm_gf ci k (pm_cell h X) = some v := by
  rw [h1]
  show (match Nat.beq ci ci with | true => pm_nth fs k | false => none) = _
  rw [Nat.beq_refl, pm_nth_eq]
  exact h2
theorem pb_pf {h : pm_H} {X ci k : Nat} {fs : List Value} {v : Value} {ty : Int} (h1 : pm_cell h X = some (.inr (ci, fs))) (h2 : k < fs.length) (h3 : pm_fit ty v = true) : pm_pf ci k ty v (pm_cell h X) = some (.inr (ci, fs.set k v)) := by
  rw [h1]
  show (match Nat.beq ci ci, pm_fit ty v, Nat.ble (k + 1) fs.length with | true, true, true => some (Sum.inr (ci, pm_put fs v k)) | _, _, _ => (none : Option pm_E)) = _
  rw [Nat.beq_refl, h3, Nat.ble_eq_true_of_le h2, pm_put_eq]
theorem pb_ix {n : Nat} (h : n < 1600) : pm_ix (nI n) 1600 = some n := by
  unfold pm_ix
  rw [if_neg (nI_pos (by omega)), nI_clamp (by omega)]
  cases e : Nat.ble 1600 n with
  | true => exact absurd (Nat.le_of_ble_eq_true e) (by omega)
  | false => rfl
section PMF
variable {cs : Nat → List Value} {ms : Nat → Option pm_M} {call : pm_C} {scr : pm_S} {nL : Nat} {rt : Option FieldType} {pc len r1 r2 : Nat} {cst : Int} {hs : List (Nat × Nat)} {lv : pm_L} {st r : List Value} {h h' : pm_H}
theorem pm_sL {a : Nat} {v : Value} (hf : pm_len (pm_cell h (a + 1)) = some v) : pm_step cs ms call scr nL rt (.arraylength, len, r1, r2, cst, hs) (pc, lv, .ref (a + 1) :: r, h) = some (.inl (pc + 1, lv, v :: r, h)) := by
  show pm_o4 _ _ (pm_psh h r (pm_len (pm_cell h (a + 1)))) = _
  rw [hf]; rfl
theorem pm_sB {a : Nat} {i x : Int32} {y : pm_E} (hf : pm_wrb i x (pm_cell h a) = some y) : pm_step cs ms call scr nL rt (.bastore, len, r1, r2, cst, hs) (pc, lv, .int x :: .int i :: .ref a :: r, h) = some (.inl (pc + 1, lv, r, pm_wr h a y)) := by
  show pm_o4 _ _ (pm_wrs h a r (pm_wrb i x (pm_cell h a))) = _
  rw [hf]; rfl
theorem pm_sW {a : Nat} {i x : Int32} {y : pm_E} (hf : pm_wri i x (pm_cell h a) = some y) : pm_step cs ms call scr nL rt (.iastore, len, r1, r2, cst, hs) (pc, lv, .int x :: .int i :: .ref a :: r, h) = some (.inl (pc + 1, lv, r, pm_wr h a y)) := by
  show pm_o4 _ _ (pm_wrs h a r (pm_wri i x (pm_cell h a))) = _
  rw [hf]; rfl
end PMF
theorem em_102 : pm_ms 102 = some (yX10_feed, cX10_feed, 6, (some .int), 5, 10) := rfl
theorem e_102_0 : pm_ins 102 0 = some (.aload_n 0, 1, 0, 0, 0, []) := rfl
theorem e_102_1 : pm_ins 102 1 = some (.getfield 95, 3, 10, 15, 0, [(2, 186)]) := rfl
theorem e_102_4 : pm_ins 102 4 = some (.bipush 20, 2, 0, 0, 0, []) := rfl
theorem e_102_6 : pm_ins 102 6 = some (.iadd, 1, 0, 0, 0, []) := rfl
theorem e_102_7 : pm_ins 102 7 = some (.sipush 1600, 3, 0, 0, 0, []) := rfl
theorem e_102_10 : pm_ins 102 10 = some (.if_icmp .le 5, 3, 15, 0, 0, []) := rfl
theorem e_102_13 : pm_ins 102 13 = some (.iconst (-1), 1, 0, 0, 0, []) := rfl
theorem e_102_14 : pm_ins 102 14 = some (.ireturn, 1, 0, 0, 0, []) := rfl
theorem e_102_15 : pm_ins 102 15 = some (.aload_n 0, 1, 0, 0, 0, []) := rfl
theorem e_102_16 : pm_ins 102 16 = some (.iload_n 1, 1, 0, 0, 0, []) := rfl
theorem e_102_17 : pm_ins 102 17 = some (.invokevirtual 98, 3, 103, 0, 0, [(2, 233), (2, 235), (0, 0)]) := rfl
theorem e_102_20 : pm_ins 102 20 = some (.aload_n 0, 1, 0, 0, 0, []) := rfl
theorem e_102_21 : pm_ins 102 21 = some (.iload_n 2, 1, 0, 0, 0, []) := rfl
theorem e_102_22 : pm_ins 102 22 = some (.invokevirtual 98, 3, 103, 0, 0, [(2, 233), (2, 235), (0, 0)]) := rfl
theorem e_102_25 : pm_ins 102 25 = some (.aload_n 0, 1, 0, 0, 0, []) := rfl
theorem e_102_26 : pm_ins 102 26 = some (.iload_n 3, 1, 0, 0, 0, []) := rfl
theorem e_102_27 : pm_ins 102 27 = some (.invokevirtual 98, 3, 103, 0, 0, [(2, 233), (2, 235), (0, 0)]) := rfl
theorem e_102_30 : pm_ins 102 30 = some (.aload_n 0, 1, 0, 0, 0, []) := rfl
theorem e_102_31 : pm_ins 102 31 = some (.iload 4, 2, 0, 0, 0, []) := rfl
theorem e_102_33 : pm_ins 102 33 = some (.invokevirtual 98, 3, 103, 0, 0, [(2, 233), (2, 235), (0, 0)]) := rfl
theorem e_102_36 : pm_ins 102 36 = some (.aload_n 0, 1, 0, 0, 0, []) := rfl
theorem e_102_37 : pm_ins 102 37 = some (.iload 5, 2, 0, 0, 0, []) := rfl
theorem e_102_39 : pm_ins 102 39 = some (.invokevirtual 98, 3, 103, 0, 0, [(2, 233), (2, 235), (0, 0)]) := rfl
theorem e_102_42 : pm_ins 102 42 = some (.aload_n 0, 1, 0, 0, 0, []) := rfl
theorem e_102_43 : pm_ins 102 43 = some (.getfield 95, 3, 10, 15, 0, [(2, 186)]) := rfl
theorem e_102_46 : pm_ins 102 46 = some (.ireturn, 1, 0, 0, 0, []) := rfl
theorem em_103 : pm_ms 103 = some (yX10_putBytes, cX10_putBytes, 3, none, 1, 10) := rfl
theorem e_103_0 : pm_ins 103 0 = some (.bipush 24, 2, 0, 0, 0, []) := rfl
theorem e_103_2 : pm_ins 103 2 = some (.istore_n 2, 1, 0, 0, 0, []) := rfl
theorem e_103_3 : pm_ins 103 3 = some (.iload_n 2, 1, 0, 0, 0, []) := rfl
theorem e_103_4 : pm_ins 103 4 = some (.ifCond .lt 51, 3, 55, 0, 0, []) := rfl
theorem e_103_7 : pm_ins 103 7 = some (.aload_n 0, 1, 0, 0, 0, []) := rfl
theorem e_103_8 : pm_ins 103 8 = some (.getfield 95, 3, 10, 15, 0, [(2, 186)]) := rfl
theorem e_103_11 : pm_ins 103 11 = some (.ifCond .lt 38, 3, 49, 0, 0, []) := rfl
theorem e_103_14 : pm_ins 103 14 = some (.aload_n 0, 1, 0, 0, 0, []) := rfl
theorem e_103_15 : pm_ins 103 15 = some (.getfield 95, 3, 10, 15, 0, [(2, 186)]) := rfl
theorem e_103_18 : pm_ins 103 18 = some (.aload_n 0, 1, 0, 0, 0, []) := rfl
theorem e_103_19 : pm_ins 103 19 = some (.getfield 9, 3, 10, 0, 3, [(2, 171)]) := rfl
theorem e_103_22 : pm_ins 103 22 = some (.arraylength, 1, 0, 0, 0, []) := rfl
theorem e_103_23 : pm_ins 103 23 = some (.if_icmp .ge 26, 3, 49, 0, 0, []) := rfl
theorem e_103_26 : pm_ins 103 26 = some (.aload_n 0, 1, 0, 0, 0, []) := rfl
theorem e_103_27 : pm_ins 103 27 = some (.getfield 9, 3, 10, 0, 3, [(2, 171)]) := rfl
theorem e_103_30 : pm_ins 103 30 = some (.aload_n 0, 1, 0, 0, 0, []) := rfl
theorem e_103_31 : pm_ins 103 31 = some (.getfield 95, 3, 10, 15, 0, [(2, 186)]) := rfl
theorem e_103_34 : pm_ins 103 34 = some (.iload_n 1, 1, 0, 0, 0, []) := rfl
theorem e_103_35 : pm_ins 103 35 = some (.iload_n 2, 1, 0, 0, 0, []) := rfl
theorem e_103_36 : pm_ins 103 36 = some (.ishr, 1, 0, 0, 0, []) := rfl
theorem e_103_37 : pm_ins 103 37 = some (.i2b, 1, 0, 0, 0, []) := rfl
theorem e_103_38 : pm_ins 103 38 = some (.bastore, 1, 0, 0, 0, []) := rfl
theorem e_103_39 : pm_ins 103 39 = some (.aload_n 0, 1, 0, 0, 0, []) := rfl
theorem e_103_40 : pm_ins 103 40 = some (.dup, 1, 0, 0, 0, []) := rfl
theorem e_103_41 : pm_ins 103 41 = some (.getfield 95, 3, 10, 15, 0, [(2, 186)]) := rfl
theorem e_103_44 : pm_ins 103 44 = some (.iconst 1, 1, 0, 0, 0, []) := rfl
theorem e_103_45 : pm_ins 103 45 = some (.iadd, 1, 0, 0, 0, []) := rfl
theorem e_103_46 : pm_ins 103 46 = some (.putfield 95, 3, 10, 15, 0, [(2, 186)]) := rfl
theorem e_103_49 : pm_ins 103 49 = some (.iinc 2 (-8), 3, 0, 0, 0, []) := rfl
theorem e_103_52 : pm_ins 103 52 = some (.goto (-49), 3, 3, 0, 0, []) := rfl
theorem e_103_55 : pm_ins 103 55 = some (.return_, 1, 0, 0, 0, []) := rfl
theorem em_146 : pm_ms 146 = some (yX11_feed, cX11_feed, 6, (some .int), 5, 11) := rfl
theorem e_146_0 : pm_ins 146 0 = some (.aload_n 0, 1, 0, 0, 0, []) := rfl
theorem e_146_1 : pm_ins 146 1 = some (.getfield 170, 3, 11, 1, 0, [(5, 106)]) := rfl
theorem e_146_4 : pm_ins 146 4 = some (.bipush 20, 2, 0, 0, 0, []) := rfl
theorem e_146_6 : pm_ins 146 6 = some (.iadd, 1, 0, 0, 0, []) := rfl
theorem e_146_7 : pm_ins 146 7 = some (.sipush 1600, 3, 0, 0, 0, []) := rfl
theorem e_146_10 : pm_ins 146 10 = some (.if_icmp .le 5, 3, 15, 0, 0, []) := rfl
theorem e_146_13 : pm_ins 146 13 = some (.iconst (-1), 1, 0, 0, 0, []) := rfl
theorem e_146_14 : pm_ins 146 14 = some (.ireturn, 1, 0, 0, 0, []) := rfl
theorem e_146_15 : pm_ins 146 15 = some (.aload_n 0, 1, 0, 0, 0, []) := rfl
theorem e_146_16 : pm_ins 146 16 = some (.iload_n 1, 1, 0, 0, 0, []) := rfl
theorem e_146_17 : pm_ins 146 17 = some (.invokevirtual 173, 3, 147, 0, 0, [(6, 113), (6, 115), (0, 53)]) := rfl
theorem e_146_20 : pm_ins 146 20 = some (.aload_n 0, 1, 0, 0, 0, []) := rfl
theorem e_146_21 : pm_ins 146 21 = some (.iload_n 2, 1, 0, 0, 0, []) := rfl
theorem e_146_22 : pm_ins 146 22 = some (.invokevirtual 173, 3, 147, 0, 0, [(6, 113), (6, 115), (0, 53)]) := rfl
theorem e_146_25 : pm_ins 146 25 = some (.aload_n 0, 1, 0, 0, 0, []) := rfl
theorem e_146_26 : pm_ins 146 26 = some (.iload_n 3, 1, 0, 0, 0, []) := rfl
theorem e_146_27 : pm_ins 146 27 = some (.invokevirtual 173, 3, 147, 0, 0, [(6, 113), (6, 115), (0, 53)]) := rfl
theorem e_146_30 : pm_ins 146 30 = some (.aload_n 0, 1, 0, 0, 0, []) := rfl
theorem e_146_31 : pm_ins 146 31 = some (.iload 4, 2, 0, 0, 0, []) := rfl
theorem e_146_33 : pm_ins 146 33 = some (.invokevirtual 173, 3, 147, 0, 0, [(6, 113), (6, 115), (0, 53)]) := rfl
theorem e_146_36 : pm_ins 146 36 = some (.aload_n 0, 1, 0, 0, 0, []) := rfl
theorem e_146_37 : pm_ins 146 37 = some (.iload 5, 2, 0, 0, 0, []) := rfl
theorem e_146_39 : pm_ins 146 39 = some (.invokevirtual 173, 3, 147, 0, 0, [(6, 113), (6, 115), (0, 53)]) := rfl
theorem e_146_42 : pm_ins 146 42 = some (.aload_n 0, 1, 0, 0, 0, []) := rfl
theorem e_146_43 : pm_ins 146 43 = some (.getfield 170, 3, 11, 1, 0, [(5, 106)]) := rfl
theorem e_146_46 : pm_ins 146 46 = some (.ireturn, 1, 0, 0, 0, []) := rfl
theorem em_147 : pm_ms 147 = some (yX11_four, cX11_four, 3, none, 1, 11) := rfl
theorem e_147_0 : pm_ins 147 0 = some (.bipush 24, 2, 0, 0, 0, []) := rfl
theorem e_147_2 : pm_ins 147 2 = some (.istore_n 2, 1, 0, 0, 0, []) := rfl
theorem e_147_3 : pm_ins 147 3 = some (.iload_n 2, 1, 0, 0, 0, []) := rfl
theorem e_147_4 : pm_ins 147 4 = some (.ifCond .lt 35, 3, 39, 0, 0, []) := rfl
theorem e_147_7 : pm_ins 147 7 = some (.aload_n 0, 1, 0, 0, 0, []) := rfl
theorem e_147_8 : pm_ins 147 8 = some (.getfield 7, 3, 11, 0, 3, [(5, 105)]) := rfl
theorem e_147_11 : pm_ins 147 11 = some (.aload_n 0, 1, 0, 0, 0, []) := rfl
theorem e_147_12 : pm_ins 147 12 = some (.getfield 170, 3, 11, 1, 0, [(5, 106)]) := rfl
theorem e_147_15 : pm_ins 147 15 = some (.iload_n 1, 1, 0, 0, 0, []) := rfl
theorem e_147_16 : pm_ins 147 16 = some (.iload_n 2, 1, 0, 0, 0, []) := rfl
theorem e_147_17 : pm_ins 147 17 = some (.ishr, 1, 0, 0, 0, []) := rfl
theorem e_147_18 : pm_ins 147 18 = some (.sipush 255, 3, 0, 0, 0, []) := rfl
theorem e_147_21 : pm_ins 147 21 = some (.iand, 1, 0, 0, 0, []) := rfl
theorem e_147_22 : pm_ins 147 22 = some (.iastore, 1, 0, 0, 0, []) := rfl
theorem e_147_23 : pm_ins 147 23 = some (.aload_n 0, 1, 0, 0, 0, []) := rfl
theorem e_147_24 : pm_ins 147 24 = some (.dup, 1, 0, 0, 0, []) := rfl
theorem e_147_25 : pm_ins 147 25 = some (.getfield 170, 3, 11, 1, 0, [(5, 106)]) := rfl
theorem e_147_28 : pm_ins 147 28 = some (.iconst 1, 1, 0, 0, 0, []) := rfl
theorem e_147_29 : pm_ins 147 29 = some (.iadd, 1, 0, 0, 0, []) := rfl
theorem e_147_30 : pm_ins 147 30 = some (.putfield 170, 3, 11, 1, 0, [(5, 106)]) := rfl
theorem e_147_33 : pm_ins 147 33 = some (.iinc 2 (-8), 3, 0, 0, 0, []) := rfl
theorem e_147_36 : pm_ins 147 36 = some (.goto (-33), 3, 3, 0, 0, []) := rfl
theorem e_147_39 : pm_ins 147 39 = some (.return_, 1, 0, 0, 0, []) := rfl
/-- once round -/
theorem fx_it (d : Nat) (a s s' : Int32) (hs : ¬ s < 0) (hs' : s + Int32.ofInt (-8) = s') {n : Nat} (hn : n < 1600) {h : pm_H} (hb : pb_at 1 10 15 2 2 n h) : ∃ h', pb_at 1 10 15 2 2 (n + 1) h' ∧ pb_fr 1 2 h h' ∧ ∀ u, pm_run (pm_step pm_cs pm_ms (pC d) none 3 none) (pm_ins 103) (u + 28) (3, [(2, .int s), (0, .ref 1), (1, .int a)], [], h) = pm_run (pm_step pm_cs pm_ms (pC d) none 3 none) (pm_ins 103) u (3, [(2, .int s'), (0, .ref 1), (1, .int a)], [], h') := by
  subst hs'
  obtain ⟨fs, f, hX, hf0, hf1, hT⟩ := hb
  obtain ⟨y1, ey1⟩ : ∃ y1 : pm_E, y1 = .inl (2, 1600, .inl (upd f n (vp_nar .byte (a >>> (s &&& 31)).toInt8.toInt32))) := ⟨_, rfl⟩
  obtain ⟨y2, ey2⟩ : ∃ y2 : pm_E, y2 = .inr (10, fs.set 15 (.int (nI n + 1))) := ⟨_, rfl⟩
  have hl : 15 < fs.length := (List.getElem?_eq_some_iff.mp hf1).1
  have g0 : pm_gf 10 0 (pm_cell h 1) = some (.ref 2) := pb_gf hX hf0
  have g1 : pm_gf 10 15 (pm_cell h 1) = some (.int (nI n)) := pb_gf hX hf1
  have g2 : pm_len (pm_cell h 2) = some (.int (nI 1600)) := by rw [hT]; rfl
  have g3 : pm_wrb (nI n) (a >>> (s &&& 31)).toInt8.toInt32 (pm_cell h 2) = some y1 := by rw [ey1]; unfold pm_wrb; rw [hT]; dsimp only; rw [pb_ix hn]
  have hX1 : pm_cell (pm_wr h 2 y1) 1 = some (.inr (10, fs)) := by rw [pm_cw_ne (by decide)]; exact hX
  have g4 : pm_gf 10 15 (pm_cell (pm_wr h 2 y1) 1) = some (.int (nI n)) := pb_gf hX1 hf1
  have g5 : pm_pf 10 15 0 (.int (nI n + 1)) (pm_cell (pm_wr h 2 y1) 1) = some y2 := by rw [ey2]; exact pb_pf hX1 hl rfl
  have hT1 : pm_cell (pm_wr h 2 y1) 2 = some y1 := pm_cw_eq hT
  obtain ⟨z1, z2⟩ := pm_cw_sz (e := y1) hT (by rw [ey1]; rfl)
  obtain ⟨z3, z4⟩ := pm_cw_sz (e := y2) hX1 (by rw [ey2]; exact List.length_set)
  refine ⟨pm_wr (pm_wr h 2 y1) 1 y2, ⟨fs.set 15 (.int (nI n + 1)), upd f n (vp_nar .byte (a >>> (s &&& 31)).toInt8.toInt32), by rw [pm_cw_eq hX1, ey2], ?_, ?_, ?_⟩, ⟨z3.trans z1, z4.trans z2, fun b h1 h2 => by rw [pm_cw_ne h1, pm_cw_ne h2]⟩, ?_⟩
  · rw [List.getElem?_set_ne (by decide)]; exact hf0
  · rw [List.getElem?_set_self hl, nI_1]
  · rw [pm_cw_ne (by decide), hT1, ey1]
  intro u
  refine pm_r (F' := (4, [(2, .int s), (0, .ref 1), (1, .int a)], [.int s], h)) e_103_3 rfl ?_
  refine pm_r (F' := (7, [(2, .int s), (0, .ref 1), (1, .int a)], [], h)) e_103_4 (pm_sJ rfl (pm_jf (decide_eq_false hs))) ?_
  refine pm_r (F' := (8, [(2, .int s), (0, .ref 1), (1, .int a)], [.ref 1], h)) e_103_7 rfl ?_
  refine pm_r (F' := (11, [(2, .int s), (0, .ref 1), (1, .int a)], [.int (nI n)], h)) e_103_8 (pm_sG g1) ?_
  refine pm_r (F' := (14, [(2, .int s), (0, .ref 1), (1, .int a)], [], h)) e_103_11 (pm_sJ rfl (pm_jf (decide_eq_false (nI_pos (by omega))))) ?_
  refine pm_r (F' := (15, [(2, .int s), (0, .ref 1), (1, .int a)], [.ref 1], h)) e_103_14 rfl ?_
  refine pm_r (F' := (18, [(2, .int s), (0, .ref 1), (1, .int a)], [.int (nI n)], h)) e_103_15 (pm_sG g1) ?_
  refine pm_r (F' := (19, [(2, .int s), (0, .ref 1), (1, .int a)], [.ref 1, .int (nI n)], h)) e_103_18 rfl ?_
  refine pm_r (F' := (22, [(2, .int s), (0, .ref 1), (1, .int a)], [.ref 2, .int (nI n)], h)) e_103_19 (pm_sG g0) ?_
  refine pm_r (F' := (23, [(2, .int s), (0, .ref 1), (1, .int a)], [.int (nI 1600), .int (nI n)], h)) e_103_22 (pm_sL g2) ?_
  refine pm_r (F' := (26, [(2, .int s), (0, .ref 1), (1, .int a)], [], h)) e_103_23 (pm_sJ rfl (pm_jf (decide_eq_false (nI_ge hn (by omega))))) ?_
  refine pm_r (F' := (27, [(2, .int s), (0, .ref 1), (1, .int a)], [.ref 1], h)) e_103_26 rfl ?_
  refine pm_r (F' := (30, [(2, .int s), (0, .ref 1), (1, .int a)], [.ref 2], h)) e_103_27 (pm_sG g0) ?_
  refine pm_r (F' := (31, [(2, .int s), (0, .ref 1), (1, .int a)], [.ref 1, .ref 2], h)) e_103_30 rfl ?_
  refine pm_r (F' := (34, [(2, .int s), (0, .ref 1), (1, .int a)], [.int (nI n), .ref 2], h)) e_103_31 (pm_sG g1) ?_
  refine pm_r (F' := (35, [(2, .int s), (0, .ref 1), (1, .int a)], [.int a, .int (nI n), .ref 2], h)) e_103_34 rfl ?_
  refine pm_r (F' := (36, [(2, .int s), (0, .ref 1), (1, .int a)], [.int s, .int a, .int (nI n), .ref 2], h)) e_103_35 rfl ?_
  refine pm_r (F' := (37, [(2, .int s), (0, .ref 1), (1, .int a)], [.int (a >>> (s &&& 31)), .int (nI n), .ref 2], h)) e_103_36 rfl ?_
  refine pm_r (F' := (38, [(2, .int s), (0, .ref 1), (1, .int a)], [.int (a >>> (s &&& 31)).toInt8.toInt32, .int (nI n), .ref 2], h)) e_103_37 rfl ?_
  refine pm_r (F' := (39, [(2, .int s), (0, .ref 1), (1, .int a)], [], (pm_wr h 2 y1))) e_103_38 (pm_sB g3) ?_
  refine pm_r (F' := (40, [(2, .int s), (0, .ref 1), (1, .int a)], [.ref 1], (pm_wr h 2 y1))) e_103_39 rfl ?_
  refine pm_r (F' := (41, [(2, .int s), (0, .ref 1), (1, .int a)], [.ref 1, .ref 1], (pm_wr h 2 y1))) e_103_40 rfl ?_
  refine pm_r (F' := (44, [(2, .int s), (0, .ref 1), (1, .int a)], [.int (nI n), .ref 1], (pm_wr h 2 y1))) e_103_41 (pm_sG g4) ?_
  refine pm_r (F' := (45, [(2, .int s), (0, .ref 1), (1, .int a)], [.int 1, .int (nI n), .ref 1], (pm_wr h 2 y1))) e_103_44 rfl ?_
  refine pm_r (F' := (46, [(2, .int s), (0, .ref 1), (1, .int a)], [.int (nI n + 1), .ref 1], (pm_wr h 2 y1))) e_103_45 rfl ?_
  refine pm_r (F' := (49, [(2, .int s), (0, .ref 1), (1, .int a)], [], (pm_wr (pm_wr h 2 y1) 1 y2))) e_103_46 (pm_sP g5) ?_
  refine pm_r (F' := (52, [(2, .int (s + Int32.ofInt (-8))), (0, .ref 1), (1, .int a)], [], (pm_wr (pm_wr h 2 y1) 1 y2))) e_103_49 rfl ?_
  refine pm_r (F' := (3, [(2, .int (s + Int32.ofInt (-8))), (0, .ref 1), (1, .int a)], [], (pm_wr (pm_wr h 2 y1) 1 y2))) e_103_52 rfl ?_
  rfl
theorem fx_put (d : Nat) (a : Int32) {n : Nat} (hn : n + 4 ≤ 1600) {h : pm_H} (hb : pb_at 1 10 15 2 2 n h) : ∃ h', pb_at 1 10 15 2 2 (n + 4) h' ∧ pb_fr 1 2 h h' ∧ pC (d + 1) 103 [.ref 1, .int a] h = some (none, h') := by
  obtain ⟨h1, b1, f1, r1⟩ := fx_it d a 24 16 (by decide) (by decide) (show n < 1600 by omega) hb
  obtain ⟨h2, b2, f2, r2⟩ := fx_it d a 16 8 (by decide) (by decide) (show n + 1 < 1600 by omega) b1
  obtain ⟨h3, b3, f3, r3⟩ := fx_it d a 8 0 (by decide) (by decide) (show n + 1 + 1 < 1600 by omega) b2
  obtain ⟨h4, b4, f4, r4⟩ := fx_it d a 0 (-8) (by decide) (by decide) (show n + 1 + 1 + 1 < 1600 by omega) b3
  refine ⟨h4, b4, pb_fr_tr f1 (pb_fr_tr f2 (pb_fr_tr f3 f4)), ?_⟩
  refine pm_cE em_103 rfl ?_
  refine pm_r (F' := (2, [(0, .ref 1), (1, .int a)], [.int 24], h)) e_103_0 rfl ?_
  refine pm_r (F' := (3, [(2, .int 24), (0, .ref 1), (1, .int a)], [], h)) e_103_2 rfl ?_
  refine (r1 9970).trans ?_
  refine (r2 9942).trans ?_
  refine (r3 9914).trans ?_
  refine (r4 9886).trans ?_
  refine pm_r (F' := (4, [(2, .int (-8)), (0, .ref 1), (1, .int a)], [.int (-8)], h4)) e_103_3 rfl ?_
  refine pm_r (F' := (55, [(2, .int (-8)), (0, .ref 1), (1, .int a)], [], h4)) e_103_4 rfl ?_
  exact pm_rE e_103_55 rfl
theorem fx_feed (d : Nat) (a b c dd ee : Int32) {n : Nat} (hn : n + 20 ≤ 1600) {h : pm_H} (b0 : pb_at 1 10 15 2 2 n h) : ∃ h', pb_at 1 10 15 2 2 (n + 20) h' ∧ pb_fr 1 2 h h' ∧ pC (d + 2) 102 [.ref 1, .int a, .int b, .int c, .int dd, .int ee] h = some (some (.int (nI (n + 20))), h') := by
  have o0 : pm_clsOk 10 (pm_cell h 1) = true := by obtain ⟨fs, f, hX, -⟩ := b0; rw [hX]; rfl
  obtain ⟨h1, b1, f1, c1⟩ := fx_put d a (show n + 4 ≤ 1600 by omega) b0
  have o1 : pm_clsOk 10 (pm_cell h1 1) = true := by obtain ⟨fs, f, hX, -⟩ := b1; rw [hX]; rfl
  obtain ⟨h2, b2, f2, c2⟩ := fx_put d b (show n + 4 + 4 ≤ 1600 by omega) b1
  have o2 : pm_clsOk 10 (pm_cell h2 1) = true := by obtain ⟨fs, f, hX, -⟩ := b2; rw [hX]; rfl
  obtain ⟨h3, b3, f3, c3⟩ := fx_put d c (show n + 4 + 4 + 4 ≤ 1600 by omega) b2
  have o3 : pm_clsOk 10 (pm_cell h3 1) = true := by obtain ⟨fs, f, hX, -⟩ := b3; rw [hX]; rfl
  obtain ⟨h4, b4, f4, c4⟩ := fx_put d dd (show n + 4 + 4 + 4 + 4 ≤ 1600 by omega) b3
  have o4 : pm_clsOk 10 (pm_cell h4 1) = true := by obtain ⟨fs, f, hX, -⟩ := b4; rw [hX]; rfl
  obtain ⟨h5, b5, f5, c5⟩ := fx_put d ee (show n + 4 + 4 + 4 + 4 + 4 ≤ 1600 by omega) b4
  have o5 : pm_clsOk 10 (pm_cell h5 1) = true := by obtain ⟨fs, f, hX, -⟩ := b5; rw [hX]; rfl
  obtain ⟨fs, f, hX, -, hf1, -⟩ := id b0
  have hle : nI n + 20 ≤ (1600 : Int32) := by
    have := nI_le (a := n + 20) (b := 1600) hn (by decide)
    rw [← nI_add] at this
    exact this
  have g9 : pm_gf 10 15 (pm_cell h5 1) = some (.int (nI (n + 20))) := by
    obtain ⟨fs, f, hX, -, hf1, -⟩ := b5
    exact pb_gf hX hf1
  refine ⟨h5, b5, pb_fr_tr f1 (pb_fr_tr f2 (pb_fr_tr f3 (pb_fr_tr f4 f5))), ?_⟩
  refine pm_cE em_102 rfl ?_
  refine pm_r (F' := (1, [(0, .ref 1), (1, .int a), (2, .int b), (3, .int c), (4, .int dd), (5, .int ee)], [.ref 1], h)) e_102_0 rfl ?_
  refine pm_r (F' := (4, [(0, .ref 1), (1, .int a), (2, .int b), (3, .int c), (4, .int dd), (5, .int ee)], [.int (nI n)], h)) e_102_1 (pm_sG (pb_gf hX hf1)) ?_
  refine pm_r (F' := (6, [(0, .ref 1), (1, .int a), (2, .int b), (3, .int c), (4, .int dd), (5, .int ee)], [.int 20, .int (nI n)], h)) e_102_4 rfl ?_
  refine pm_r (F' := (7, [(0, .ref 1), (1, .int a), (2, .int b), (3, .int c), (4, .int dd), (5, .int ee)], [.int (nI n + 20)], h)) e_102_6 rfl ?_
  refine pm_r (F' := (10, [(0, .ref 1), (1, .int a), (2, .int b), (3, .int c), (4, .int dd), (5, .int ee)], [.int 1600, .int (nI n + 20)], h)) e_102_7 rfl ?_
  refine pm_r (F' := (15, [(0, .ref 1), (1, .int a), (2, .int b), (3, .int c), (4, .int dd), (5, .int ee)], [], h)) e_102_10 (pm_sJ rfl (pm_jt (decide_eq_true hle))) ?_
  refine pm_r (F' := (16, [(0, .ref 1), (1, .int a), (2, .int b), (3, .int c), (4, .int dd), (5, .int ee)], [.ref 1], h)) e_102_15 rfl ?_
  refine pm_r (F' := (17, [(0, .ref 1), (1, .int a), (2, .int b), (3, .int c), (4, .int dd), (5, .int ee)], [.int a, .ref 1], h)) e_102_16 rfl ?_
  refine pm_r (F' := (20, [(0, .ref 1), (1, .int a), (2, .int b), (3, .int c), (4, .int dd), (5, .int ee)], [], h1)) e_102_17 (pm_sV em_103 rfl rfl o0 c1) ?_
  refine pm_r (F' := (21, [(0, .ref 1), (1, .int a), (2, .int b), (3, .int c), (4, .int dd), (5, .int ee)], [.ref 1], h1)) e_102_20 rfl ?_
  refine pm_r (F' := (22, [(0, .ref 1), (1, .int a), (2, .int b), (3, .int c), (4, .int dd), (5, .int ee)], [.int b, .ref 1], h1)) e_102_21 rfl ?_
  refine pm_r (F' := (25, [(0, .ref 1), (1, .int a), (2, .int b), (3, .int c), (4, .int dd), (5, .int ee)], [], h2)) e_102_22 (pm_sV em_103 rfl rfl o1 c2) ?_
  refine pm_r (F' := (26, [(0, .ref 1), (1, .int a), (2, .int b), (3, .int c), (4, .int dd), (5, .int ee)], [.ref 1], h2)) e_102_25 rfl ?_
  refine pm_r (F' := (27, [(0, .ref 1), (1, .int a), (2, .int b), (3, .int c), (4, .int dd), (5, .int ee)], [.int c, .ref 1], h2)) e_102_26 rfl ?_
  refine pm_r (F' := (30, [(0, .ref 1), (1, .int a), (2, .int b), (3, .int c), (4, .int dd), (5, .int ee)], [], h3)) e_102_27 (pm_sV em_103 rfl rfl o2 c3) ?_
  refine pm_r (F' := (31, [(0, .ref 1), (1, .int a), (2, .int b), (3, .int c), (4, .int dd), (5, .int ee)], [.ref 1], h3)) e_102_30 rfl ?_
  refine pm_r (F' := (33, [(0, .ref 1), (1, .int a), (2, .int b), (3, .int c), (4, .int dd), (5, .int ee)], [.int dd, .ref 1], h3)) e_102_31 rfl ?_
  refine pm_r (F' := (36, [(0, .ref 1), (1, .int a), (2, .int b), (3, .int c), (4, .int dd), (5, .int ee)], [], h4)) e_102_33 (pm_sV em_103 rfl rfl o3 c4) ?_
  refine pm_r (F' := (37, [(0, .ref 1), (1, .int a), (2, .int b), (3, .int c), (4, .int dd), (5, .int ee)], [.ref 1], h4)) e_102_36 rfl ?_
  refine pm_r (F' := (39, [(0, .ref 1), (1, .int a), (2, .int b), (3, .int c), (4, .int dd), (5, .int ee)], [.int ee, .ref 1], h4)) e_102_37 rfl ?_
  refine pm_r (F' := (42, [(0, .ref 1), (1, .int a), (2, .int b), (3, .int c), (4, .int dd), (5, .int ee)], [], h5)) e_102_39 (pm_sV em_103 rfl rfl o4 c5) ?_
  refine pm_r (F' := (43, [(0, .ref 1), (1, .int a), (2, .int b), (3, .int c), (4, .int dd), (5, .int ee)], [.ref 1], h5)) e_102_42 rfl ?_
  refine pm_r (F' := (46, [(0, .ref 1), (1, .int a), (2, .int b), (3, .int c), (4, .int dd), (5, .int ee)], [.int (nI (n + 20))], h5)) e_102_43 (pm_sG g9) ?_
  exact pm_rE e_102_46 rfl
/-- once round -/
theorem fm_it (d : Nat) (a s s' : Int32) (hs : ¬ s < 0) (hs' : s + Int32.ofInt (-8) = s') {n : Nat} (hn : n < 1600) {h : pm_H} (hb : pb_at 225 11 1 226 0 n h) : ∃ h', pb_at 225 11 1 226 0 (n + 1) h' ∧ pb_fr 225 226 h h' ∧ ∀ u, pm_run (pm_step pm_cs pm_ms (pC d) none 3 none) (pm_ins 147) (u + 20) (3, [(2, .int s), (0, .ref 225), (1, .int a)], [], h) = pm_run (pm_step pm_cs pm_ms (pC d) none 3 none) (pm_ins 147) u (3, [(2, .int s'), (0, .ref 225), (1, .int a)], [], h') := by
  subst hs'
  obtain ⟨fs, f, hX, hf0, hf1, hT⟩ := hb
  obtain ⟨y1, ey1⟩ : ∃ y1 : pm_E, y1 = .inl (0, 1600, .inl (upd f n ((a >>> (s &&& 31)) &&& 255))) := ⟨_, rfl⟩
  obtain ⟨y2, ey2⟩ : ∃ y2 : pm_E, y2 = .inr (11, fs.set 1 (.int (nI n + 1))) := ⟨_, rfl⟩
  have hl : 1 < fs.length := (List.getElem?_eq_some_iff.mp hf1).1
  have g0 : pm_gf 11 0 (pm_cell h 225) = some (.ref 226) := pb_gf hX hf0
  have g1 : pm_gf 11 1 (pm_cell h 225) = some (.int (nI n)) := pb_gf hX hf1
  have g2 : pm_len (pm_cell h 226) = some (.int (nI 1600)) := by rw [hT]; rfl
  have g3 : pm_wri (nI n) ((a >>> (s &&& 31)) &&& 255) (pm_cell h 226) = some y1 := by rw [ey1]; unfold pm_wri; rw [hT]; dsimp only; rw [pb_ix hn]
  have hX1 : pm_cell (pm_wr h 226 y1) 225 = some (.inr (11, fs)) := by rw [pm_cw_ne (by decide)]; exact hX
  have g4 : pm_gf 11 1 (pm_cell (pm_wr h 226 y1) 225) = some (.int (nI n)) := pb_gf hX1 hf1
  have g5 : pm_pf 11 1 0 (.int (nI n + 1)) (pm_cell (pm_wr h 226 y1) 225) = some y2 := by rw [ey2]; exact pb_pf hX1 hl rfl
  have hT1 : pm_cell (pm_wr h 226 y1) 226 = some y1 := pm_cw_eq hT
  obtain ⟨z1, z2⟩ := pm_cw_sz (e := y1) hT (by rw [ey1]; rfl)
  obtain ⟨z3, z4⟩ := pm_cw_sz (e := y2) hX1 (by rw [ey2]; exact List.length_set)
  refine ⟨pm_wr (pm_wr h 226 y1) 225 y2, ⟨fs.set 1 (.int (nI n + 1)), upd f n ((a >>> (s &&& 31)) &&& 255), by rw [pm_cw_eq hX1, ey2], ?_, ?_, ?_⟩, ⟨z3.trans z1, z4.trans z2, fun b h1 h2 => by rw [pm_cw_ne h1, pm_cw_ne h2]⟩, ?_⟩
  · rw [List.getElem?_set_ne (by decide)]; exact hf0
  · rw [List.getElem?_set_self hl, nI_1]
  · rw [pm_cw_ne (by decide), hT1, ey1]
  intro u
  refine pm_r (F' := (4, [(2, .int s), (0, .ref 225), (1, .int a)], [.int s], h)) e_147_3 rfl ?_
  refine pm_r (F' := (7, [(2, .int s), (0, .ref 225), (1, .int a)], [], h)) e_147_4 (pm_sJ rfl (pm_jf (decide_eq_false hs))) ?_
  refine pm_r (F' := (8, [(2, .int s), (0, .ref 225), (1, .int a)], [.ref 225], h)) e_147_7 rfl ?_
  refine pm_r (F' := (11, [(2, .int s), (0, .ref 225), (1, .int a)], [.ref 226], h)) e_147_8 (pm_sG g0) ?_
  refine pm_r (F' := (12, [(2, .int s), (0, .ref 225), (1, .int a)], [.ref 225, .ref 226], h)) e_147_11 rfl ?_
  refine pm_r (F' := (15, [(2, .int s), (0, .ref 225), (1, .int a)], [.int (nI n), .ref 226], h)) e_147_12 (pm_sG g1) ?_
  refine pm_r (F' := (16, [(2, .int s), (0, .ref 225), (1, .int a)], [.int a, .int (nI n), .ref 226], h)) e_147_15 rfl ?_
  refine pm_r (F' := (17, [(2, .int s), (0, .ref 225), (1, .int a)], [.int s, .int a, .int (nI n), .ref 226], h)) e_147_16 rfl ?_
  refine pm_r (F' := (18, [(2, .int s), (0, .ref 225), (1, .int a)], [.int (a >>> (s &&& 31)), .int (nI n), .ref 226], h)) e_147_17 rfl ?_
  refine pm_r (F' := (21, [(2, .int s), (0, .ref 225), (1, .int a)], [.int 255, .int (a >>> (s &&& 31)), .int (nI n), .ref 226], h)) e_147_18 rfl ?_
  refine pm_r (F' := (22, [(2, .int s), (0, .ref 225), (1, .int a)], [.int ((a >>> (s &&& 31)) &&& 255), .int (nI n), .ref 226], h)) e_147_21 rfl ?_
  refine pm_r (F' := (23, [(2, .int s), (0, .ref 225), (1, .int a)], [], (pm_wr h 226 y1))) e_147_22 (pm_sW g3) ?_
  refine pm_r (F' := (24, [(2, .int s), (0, .ref 225), (1, .int a)], [.ref 225], (pm_wr h 226 y1))) e_147_23 rfl ?_
  refine pm_r (F' := (25, [(2, .int s), (0, .ref 225), (1, .int a)], [.ref 225, .ref 225], (pm_wr h 226 y1))) e_147_24 rfl ?_
  refine pm_r (F' := (28, [(2, .int s), (0, .ref 225), (1, .int a)], [.int (nI n), .ref 225], (pm_wr h 226 y1))) e_147_25 (pm_sG g4) ?_
  refine pm_r (F' := (29, [(2, .int s), (0, .ref 225), (1, .int a)], [.int 1, .int (nI n), .ref 225], (pm_wr h 226 y1))) e_147_28 rfl ?_
  refine pm_r (F' := (30, [(2, .int s), (0, .ref 225), (1, .int a)], [.int (nI n + 1), .ref 225], (pm_wr h 226 y1))) e_147_29 rfl ?_
  refine pm_r (F' := (33, [(2, .int s), (0, .ref 225), (1, .int a)], [], (pm_wr (pm_wr h 226 y1) 225 y2))) e_147_30 (pm_sP g5) ?_
  refine pm_r (F' := (36, [(2, .int (s + Int32.ofInt (-8))), (0, .ref 225), (1, .int a)], [], (pm_wr (pm_wr h 226 y1) 225 y2))) e_147_33 rfl ?_
  refine pm_r (F' := (3, [(2, .int (s + Int32.ofInt (-8))), (0, .ref 225), (1, .int a)], [], (pm_wr (pm_wr h 226 y1) 225 y2))) e_147_36 rfl ?_
  rfl
theorem fm_put (d : Nat) (a : Int32) {n : Nat} (hn : n + 4 ≤ 1600) {h : pm_H} (hb : pb_at 225 11 1 226 0 n h) : ∃ h', pb_at 225 11 1 226 0 (n + 4) h' ∧ pb_fr 225 226 h h' ∧ pC (d + 1) 147 [.ref 225, .int a] h = some (none, h') := by
  obtain ⟨h1, b1, f1, r1⟩ := fm_it d a 24 16 (by decide) (by decide) (show n < 1600 by omega) hb
  obtain ⟨h2, b2, f2, r2⟩ := fm_it d a 16 8 (by decide) (by decide) (show n + 1 < 1600 by omega) b1
  obtain ⟨h3, b3, f3, r3⟩ := fm_it d a 8 0 (by decide) (by decide) (show n + 1 + 1 < 1600 by omega) b2
  obtain ⟨h4, b4, f4, r4⟩ := fm_it d a 0 (-8) (by decide) (by decide) (show n + 1 + 1 + 1 < 1600 by omega) b3
  refine ⟨h4, b4, pb_fr_tr f1 (pb_fr_tr f2 (pb_fr_tr f3 f4)), ?_⟩
  refine pm_cE em_147 rfl ?_
  refine pm_r (F' := (2, [(0, .ref 225), (1, .int a)], [.int 24], h)) e_147_0 rfl ?_
  refine pm_r (F' := (3, [(2, .int 24), (0, .ref 225), (1, .int a)], [], h)) e_147_2 rfl ?_
  refine (r1 9978).trans ?_
  refine (r2 9958).trans ?_
  refine (r3 9938).trans ?_
  refine (r4 9918).trans ?_
  refine pm_r (F' := (4, [(2, .int (-8)), (0, .ref 225), (1, .int a)], [.int (-8)], h4)) e_147_3 rfl ?_
  refine pm_r (F' := (39, [(2, .int (-8)), (0, .ref 225), (1, .int a)], [], h4)) e_147_4 rfl ?_
  exact pm_rE e_147_39 rfl
theorem fm_feed (d : Nat) (a b c dd ee : Int32) {n : Nat} (hn : n + 20 ≤ 1600) {h : pm_H} (b0 : pb_at 225 11 1 226 0 n h) : ∃ h', pb_at 225 11 1 226 0 (n + 20) h' ∧ pb_fr 225 226 h h' ∧ pC (d + 2) 146 [.ref 225, .int a, .int b, .int c, .int dd, .int ee] h = some (some (.int (nI (n + 20))), h') := by
  have o0 : pm_clsOk 11 (pm_cell h 225) = true := by obtain ⟨fs, f, hX, -⟩ := b0; rw [hX]; rfl
  obtain ⟨h1, b1, f1, c1⟩ := fm_put d a (show n + 4 ≤ 1600 by omega) b0
  have o1 : pm_clsOk 11 (pm_cell h1 225) = true := by obtain ⟨fs, f, hX, -⟩ := b1; rw [hX]; rfl
  obtain ⟨h2, b2, f2, c2⟩ := fm_put d b (show n + 4 + 4 ≤ 1600 by omega) b1
  have o2 : pm_clsOk 11 (pm_cell h2 225) = true := by obtain ⟨fs, f, hX, -⟩ := b2; rw [hX]; rfl
  obtain ⟨h3, b3, f3, c3⟩ := fm_put d c (show n + 4 + 4 + 4 ≤ 1600 by omega) b2
  have o3 : pm_clsOk 11 (pm_cell h3 225) = true := by obtain ⟨fs, f, hX, -⟩ := b3; rw [hX]; rfl
  obtain ⟨h4, b4, f4, c4⟩ := fm_put d dd (show n + 4 + 4 + 4 + 4 ≤ 1600 by omega) b3
  have o4 : pm_clsOk 11 (pm_cell h4 225) = true := by obtain ⟨fs, f, hX, -⟩ := b4; rw [hX]; rfl
  obtain ⟨h5, b5, f5, c5⟩ := fm_put d ee (show n + 4 + 4 + 4 + 4 + 4 ≤ 1600 by omega) b4
  have o5 : pm_clsOk 11 (pm_cell h5 225) = true := by obtain ⟨fs, f, hX, -⟩ := b5; rw [hX]; rfl
  obtain ⟨fs, f, hX, -, hf1, -⟩ := id b0
  have hle : nI n + 20 ≤ (1600 : Int32) := by
    have := nI_le (a := n + 20) (b := 1600) hn (by decide)
    rw [← nI_add] at this
    exact this
  have g9 : pm_gf 11 1 (pm_cell h5 225) = some (.int (nI (n + 20))) := by
    obtain ⟨fs, f, hX, -, hf1, -⟩ := b5
    exact pb_gf hX hf1
  refine ⟨h5, b5, pb_fr_tr f1 (pb_fr_tr f2 (pb_fr_tr f3 (pb_fr_tr f4 f5))), ?_⟩
  refine pm_cE em_146 rfl ?_
  refine pm_r (F' := (1, [(0, .ref 225), (1, .int a), (2, .int b), (3, .int c), (4, .int dd), (5, .int ee)], [.ref 225], h)) e_146_0 rfl ?_
  refine pm_r (F' := (4, [(0, .ref 225), (1, .int a), (2, .int b), (3, .int c), (4, .int dd), (5, .int ee)], [.int (nI n)], h)) e_146_1 (pm_sG (pb_gf hX hf1)) ?_
  refine pm_r (F' := (6, [(0, .ref 225), (1, .int a), (2, .int b), (3, .int c), (4, .int dd), (5, .int ee)], [.int 20, .int (nI n)], h)) e_146_4 rfl ?_
  refine pm_r (F' := (7, [(0, .ref 225), (1, .int a), (2, .int b), (3, .int c), (4, .int dd), (5, .int ee)], [.int (nI n + 20)], h)) e_146_6 rfl ?_
  refine pm_r (F' := (10, [(0, .ref 225), (1, .int a), (2, .int b), (3, .int c), (4, .int dd), (5, .int ee)], [.int 1600, .int (nI n + 20)], h)) e_146_7 rfl ?_
  refine pm_r (F' := (15, [(0, .ref 225), (1, .int a), (2, .int b), (3, .int c), (4, .int dd), (5, .int ee)], [], h)) e_146_10 (pm_sJ rfl (pm_jt (decide_eq_true hle))) ?_
  refine pm_r (F' := (16, [(0, .ref 225), (1, .int a), (2, .int b), (3, .int c), (4, .int dd), (5, .int ee)], [.ref 225], h)) e_146_15 rfl ?_
  refine pm_r (F' := (17, [(0, .ref 225), (1, .int a), (2, .int b), (3, .int c), (4, .int dd), (5, .int ee)], [.int a, .ref 225], h)) e_146_16 rfl ?_
  refine pm_r (F' := (20, [(0, .ref 225), (1, .int a), (2, .int b), (3, .int c), (4, .int dd), (5, .int ee)], [], h1)) e_146_17 (pm_sV em_147 rfl rfl o0 c1) ?_
  refine pm_r (F' := (21, [(0, .ref 225), (1, .int a), (2, .int b), (3, .int c), (4, .int dd), (5, .int ee)], [.ref 225], h1)) e_146_20 rfl ?_
  refine pm_r (F' := (22, [(0, .ref 225), (1, .int a), (2, .int b), (3, .int c), (4, .int dd), (5, .int ee)], [.int b, .ref 225], h1)) e_146_21 rfl ?_
  refine pm_r (F' := (25, [(0, .ref 225), (1, .int a), (2, .int b), (3, .int c), (4, .int dd), (5, .int ee)], [], h2)) e_146_22 (pm_sV em_147 rfl rfl o1 c2) ?_
  refine pm_r (F' := (26, [(0, .ref 225), (1, .int a), (2, .int b), (3, .int c), (4, .int dd), (5, .int ee)], [.ref 225], h2)) e_146_25 rfl ?_
  refine pm_r (F' := (27, [(0, .ref 225), (1, .int a), (2, .int b), (3, .int c), (4, .int dd), (5, .int ee)], [.int c, .ref 225], h2)) e_146_26 rfl ?_
  refine pm_r (F' := (30, [(0, .ref 225), (1, .int a), (2, .int b), (3, .int c), (4, .int dd), (5, .int ee)], [], h3)) e_146_27 (pm_sV em_147 rfl rfl o2 c3) ?_
  refine pm_r (F' := (31, [(0, .ref 225), (1, .int a), (2, .int b), (3, .int c), (4, .int dd), (5, .int ee)], [.ref 225], h3)) e_146_30 rfl ?_
  refine pm_r (F' := (33, [(0, .ref 225), (1, .int a), (2, .int b), (3, .int c), (4, .int dd), (5, .int ee)], [.int dd, .ref 225], h3)) e_146_31 rfl ?_
  refine pm_r (F' := (36, [(0, .ref 225), (1, .int a), (2, .int b), (3, .int c), (4, .int dd), (5, .int ee)], [], h4)) e_146_33 (pm_sV em_147 rfl rfl o3 c4) ?_
  refine pm_r (F' := (37, [(0, .ref 225), (1, .int a), (2, .int b), (3, .int c), (4, .int dd), (5, .int ee)], [.ref 225], h4)) e_146_36 rfl ?_
  refine pm_r (F' := (39, [(0, .ref 225), (1, .int a), (2, .int b), (3, .int c), (4, .int dd), (5, .int ee)], [.int ee, .ref 225], h4)) e_146_37 rfl ?_
  refine pm_r (F' := (42, [(0, .ref 225), (1, .int a), (2, .int b), (3, .int c), (4, .int dd), (5, .int ee)], [], h5)) e_146_39 (pm_sV em_147 rfl rfl o4 c5) ?_
  refine pm_r (F' := (43, [(0, .ref 225), (1, .int a), (2, .int b), (3, .int c), (4, .int dd), (5, .int ee)], [.ref 225], h5)) e_146_42 rfl ?_
  refine pm_r (F' := (46, [(0, .ref 225), (1, .int a), (2, .int b), (3, .int c), (4, .int dd), (5, .int ee)], [.int (nI (n + 20))], h5)) e_146_43 (pm_sG g9) ?_
  exact pm_rE e_146_46 rfl
noncomputable def pb_ck (X ci sl T kd : Nat) (h : pm_H) : Bool := match pm_cell h X, pm_cell h T with
  | some (.inr (c, fs)), some (.inl (k, 1600, .inl _)) => Nat.beq c ci && (decide (fs[0]? = some (.ref T)) && (decide (fs[sl]? = some (.int 0)) && Nat.beq k kd))
  | _, _ => false
theorem pb_of {X ci sl T kd : Nat} {h : pm_H} (q : pb_ck X ci sl T kd h = true) : pb_at X ci sl T kd 0 h := by
  unfold pb_ck at q
  split at q
  · rename_i c fs k f e1 e2
    simp only [Bool.and_eq_true, decide_eq_true_eq] at q
    obtain ⟨q1, q2, q3, q4⟩ := q
    cases pm_beq q1
    cases pm_beq q4
    exact ⟨fs, f, e1, q2, q3, e2⟩
  · cases q
set_option maxRecDepth 100000 in
theorem pb_x : pb_ck 1 10 15 2 2 ph_3 = true := by decide +kernel
set_option maxRecDepth 100000 in
theorem pb_m : pb_ck 225 11 1 226 0 ph_3 = true := by decide +kernel
theorem pq_feed (v0 v1 v2 v3 v4 : Int32) : ∃ r : Int32, pq_ok 102 146 [.int v0, .int v1, .int v2, .int v3, .int v4] (.int r) := by
  obtain ⟨h1, b1, f1, c1⟩ := fx_feed 7 v0 v1 v2 v3 v4 (by decide) (pb_of pb_x)
  have b2 : pb_at 225 11 1 226 0 0 h1 := by
    obtain ⟨fs, f, e1, e2, e3, e4⟩ := pb_of pb_m
    exact ⟨fs, f, by rw [f1.2.2 225 (by decide) (by decide)]; exact e1, e2, e3, by rw [f1.2.2 226 (by decide) (by decide)]; exact e4⟩
  obtain ⟨h2, b3, f2, c2⟩ := fm_feed 7 v0 v1 v2 v3 v4 (by decide) b2
  have z := pz_3
  rw [Bool.and_eq_true] at z
  have z1 := Nat.le_of_ble_eq_true z.1
  have z2 := Nat.le_of_ble_eq_true z.2
  refine ⟨nI 20, h1, h2, c1, c2, ?_, ?_, ?_⟩
  · obtain ⟨fs, f, e1, -⟩ := b2
    rw [e1]; rfl
  · rw [f2.1, f1.1]; exact z1
  · rw [f2.2.1, f1.2.1]; exact z2
set_option maxRecDepth 100000 in
theorem pq_undo : pq_ok 127 246 [] (.int 0) := pq_of (by decide +kernel)
set_option maxRecDepth 100000 in
theorem pq_redo : pq_ok 128 247 [] (.int 0) := pq_of (by decide +kernel)
set_option maxRecDepth 100000 in
theorem pq_sketch : pq_ok 129 253 [] (.int (-1)) := pq_of (by decide +kernel)

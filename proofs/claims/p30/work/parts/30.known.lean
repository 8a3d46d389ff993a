/-! the classes, as the tables have them -/
set_option maxRecDepth 100000 in
theorem pin_0 : pm_hs [(2, 27), (2, 29), (2, 31), (2, 33)] (u_ws RX0 TX0 4) = true := by decide +kernel
theorem pdf_0 : ∀ j, j < 4 → defaultValue (tyX0 j) = vp_V (pm_cs 0) j := by decide +kernel
theorem psh_0 : ∀ v ∈ pm_cs 0, ∀ b base, pm_sh b base v = v := by
  intro v hv b base
  have h2 : ∀ v ∈ pm_cs 0, v = .int 0 ∨ v = .long 0 ∨ v = .null := by decide +kernel
  rcases h2 v hv with rfl | rfl | rfl <;> rfl
set_option maxRecDepth 100000 in
theorem pin_1 : pm_hs [(1, 223), (1, 225), (1, 227)] (u_ws RX1 TX1 3) = true := by decide +kernel
theorem pdf_1 : ∀ j, j < 3 → defaultValue (tyX1 j) = vp_V (pm_cs 1) j := by decide +kernel
theorem psh_1 : ∀ v ∈ pm_cs 1, ∀ b base, pm_sh b base v = v := by
  intro v hv b base
  have h2 : ∀ v ∈ pm_cs 1, v = .int 0 ∨ v = .long 0 ∨ v = .null := by decide +kernel
  rcases h2 v hv with rfl | rfl | rfl <;> rfl
set_option maxRecDepth 100000 in
theorem pin_2 : pm_hs [(2, 2), (2, 4), (2, 6), (2, 8), (2, 10)] (u_ws RX2 TX2 5) = true := by decide +kernel
theorem pdf_2 : ∀ j, j < 5 → defaultValue (tyX2 j) = vp_V (pm_cs 2) j := by decide +kernel
theorem psh_2 : ∀ v ∈ pm_cs 2, ∀ b base, pm_sh b base v = v := by
  intro v hv b base
  have h2 : ∀ v ∈ pm_cs 2, v = .int 0 ∨ v = .long 0 ∨ v = .null := by decide +kernel
  rcases h2 v hv with rfl | rfl | rfl <;> rfl
set_option maxRecDepth 100000 in
theorem pin_3 : pm_hs [(1, 206), (1, 208), (1, 210)] (u_ws RX3 TX3 3) = true := by decide +kernel
theorem pdf_3 : ∀ j, j < 3 → defaultValue (tyX3 j) = vp_V (pm_cs 3) j := by decide +kernel
theorem psh_3 : ∀ v ∈ pm_cs 3, ∀ b base, pm_sh b base v = v := by
  intro v hv b base
  have h2 : ∀ v ∈ pm_cs 3, v = .int 0 ∨ v = .long 0 ∨ v = .null := by decide +kernel
  rcases h2 v hv with rfl | rfl | rfl <;> rfl
set_option maxRecDepth 100000 in
theorem pin_4 : pm_hs [(1, 41), (1, 43), (1, 45), (1, 47), (1, 49), (1, 51), (1, 53), (1, 55), (1, 57), (1, 59), (1, 61)] (u_ws RX4 TX4 11) = true := by decide +kernel
theorem pdf_4 : ∀ j, j < 11 → defaultValue (tyX4 j) = vp_V (pm_cs 4) j := by decide +kernel
theorem psh_4 : ∀ v ∈ pm_cs 4, ∀ b base, pm_sh b base v = v := by
  intro v hv b base
  have h2 : ∀ v ∈ pm_cs 4, v = .int 0 ∨ v = .long 0 ∨ v = .null := by decide +kernel
  rcases h2 v hv with rfl | rfl | rfl <;> rfl
set_option maxRecDepth 100000 in
theorem pin_5 : pm_hs [(1, 188), (1, 190), (1, 192), (1, 194), (1, 196), (1, 198), (1, 200)] (u_ws RX5 TX5 7) = true := by decide +kernel
theorem pdf_5 : ∀ j, j < 7 → defaultValue (tyX5 j) = vp_V (pm_cs 5) j := by decide +kernel
theorem psh_5 : ∀ v ∈ pm_cs 5, ∀ b base, pm_sh b base v = v := by
  intro v hv b base
  have h2 : ∀ v ∈ pm_cs 5, v = .int 0 ∨ v = .long 0 ∨ v = .null := by decide +kernel
  rcases h2 v hv with rfl | rfl | rfl <;> rfl
set_option maxRecDepth 100000 in
theorem pin_6 : pm_hs [(1, 141), (1, 143), (1, 145), (1, 147), (1, 149), (1, 151), (1, 153), (1, 155), (1, 157), (1, 159), (1, 161)] (u_ws RX6 TX6 11) = true := by decide +kernel
theorem pdf_6 : ∀ j, j < 11 → defaultValue (tyX6 j) = vp_V (pm_cs 6) j := by decide +kernel
theorem psh_6 : ∀ v ∈ pm_cs 6, ∀ b base, pm_sh b base v = v := by
  intro v hv b base
  have h2 : ∀ v ∈ pm_cs 6, v = .int 0 ∨ v = .long 0 ∨ v = .null := by decide +kernel
  rcases h2 v hv with rfl | rfl | rfl <;> rfl
set_option maxRecDepth 100000 in
theorem pin_7 : pm_hs [(2, 52), (2, 54), (2, 56), (2, 58), (2, 60), (2, 62), (2, 64), (2, 66), (2, 68)] (u_ws RX7 TX7 9) = true := by decide +kernel
theorem pdf_7 : ∀ j, j < 9 → defaultValue (tyX7 j) = vp_V (pm_cs 7) j := by decide +kernel
theorem psh_7 : ∀ v ∈ pm_cs 7, ∀ b base, pm_sh b base v = v := by
  intro v hv b base
  have h2 : ∀ v ∈ pm_cs 7, v = .int 0 ∨ v = .long 0 ∨ v = .null := by decide +kernel
  rcases h2 v hv with rfl | rfl | rfl <;> rfl
set_option maxRecDepth 100000 in
theorem pin_8 : pm_hs [(2, 135), (2, 137), (2, 139), (2, 141), (2, 143), (2, 145), (2, 147), (2, 149), (2, 151), (2, 153), (2, 155), (2, 157), (2, 159), (2, 161), (2, 163), (2, 165), (2, 167)] (u_ws RX8 TX8 17) = true := by decide +kernel
theorem pdf_8 : ∀ j, j < 17 → defaultValue (tyX8 j) = vp_V (pm_cs 8) j := by decide +kernel
theorem psh_8 : ∀ v ∈ pm_cs 8, ∀ b base, pm_sh b base v = v := by
  intro v hv b base
  have h2 : ∀ v ∈ pm_cs 8, v = .int 0 ∨ v = .long 0 ∨ v = .null := by decide +kernel
  rcases h2 v hv with rfl | rfl | rfl <;> rfl
set_option maxRecDepth 100000 in
theorem pin_9 : pm_hs [(1, 87), (1, 89), (1, 91), (1, 93), (1, 95), (1, 97), (1, 99), (1, 101), (1, 103), (1, 105), (1, 107), (1, 109), (1, 111), (1, 113)] (u_ws RX9 TX9 14) = true := by decide +kernel
theorem pdf_9 : ∀ j, j < 14 → defaultValue (tyX9 j) = vp_V (pm_cs 9) j := by decide +kernel
theorem psh_9 : ∀ v ∈ pm_cs 9, ∀ b base, pm_sh b base v = v := by
  intro v hv b base
  have h2 : ∀ v ∈ pm_cs 9, v = .int 0 ∨ v = .long 0 ∨ v = .null := by decide +kernel
  rcases h2 v hv with rfl | rfl | rfl <;> rfl
set_option maxRecDepth 100000 in
theorem pin_10 : pm_hs [(2, 190), (2, 192), (2, 194), (2, 196), (2, 198), (2, 200), (2, 202), (2, 204), (2, 206), (2, 208), (2, 210), (2, 212), (2, 214), (2, 216), (2, 218), (2, 220), (2, 222), (2, 224), (2, 226)] (u_ws RX10 TX10 19) = true := by decide +kernel
theorem pdf_10 : ∀ j, j < 19 → defaultValue (tyX10 j) = vp_V (pm_cs 10) j := by decide +kernel
theorem psh_10 : ∀ v ∈ pm_cs 10, ∀ b base, pm_sh b base v = v := by
  intro v hv b base
  have h2 : ∀ v ∈ pm_cs 10, v = .int 0 ∨ v = .long 0 ∨ v = .null := by decide +kernel
  rcases h2 v hv with rfl | rfl | rfl <;> rfl
set_option maxRecDepth 100000 in
theorem pin_11 : pm_hs [(5, 186), (5, 188), (5, 190), (5, 192), (5, 194), (5, 196), (5, 198), (5, 200), (5, 202), (5, 204), (5, 206), (5, 208), (5, 210), (5, 212), (5, 214), (5, 216), (5, 218), (5, 220), (5, 222), (5, 224), (5, 226), (5, 228), (5, 230), (5, 232), (5, 234), (5, 236), (5, 238), (6, 0), (6, 2), (6, 4), (6, 6), (6, 8), (6, 10), (6, 12), (6, 14), (6, 16), (6, 18), (6, 20), (6, 22), (6, 24), (6, 26), (6, 28), (6, 30), (6, 32), (6, 34), (6, 36), (6, 38), (6, 40), (6, 42), (6, 44), (6, 46), (6, 48), (6, 50), (6, 52), (6, 54), (6, 56), (6, 58), (6, 60), (6, 62), (6, 64), (6, 66), (6, 68), (6, 70), (6, 72), (6, 74), (6, 76), (6, 78), (6, 80), (6, 82), (6, 84), (6, 86), (6, 88), (6, 90), (6, 92), (6, 94), (6, 96), (6, 98), (6, 100), (6, 102), (6, 104), (6, 106)] (u_ws RX11 TX11 81) = true := by decide +kernel
theorem pdf_11 : ∀ j, j < 81 → defaultValue (tyX11 j) = vp_V (pm_cs 11) j := by decide +kernel
theorem psh_11 : ∀ v ∈ pm_cs 11, ∀ b base, pm_sh b base v = v := by
  intro v hv b base
  have h2 : ∀ v ∈ pm_cs 11, v = .int 0 ∨ v = .long 0 ∨ v = .null := by decide +kernel
  rcases h2 v hv with rfl | rfl | rfl <;> rfl
theorem pm_clsOk2 : pm_clOk vwCl pm_TB pm_cs := by
  intro ci C T N h
  match ci, h with
  | 0, h => cases h; exact ⟨fun w hw => pm_hs_in _ _ pin_0 w hw, nmX0, ⟨tyX0, tyX0_ok, pdf_0⟩, rfl, psh_0⟩
  | 1, h => cases h; exact ⟨fun w hw => pm_hs_in _ _ pin_1 w hw, nmX1, ⟨tyX1, tyX1_ok, pdf_1⟩, rfl, psh_1⟩
  | 2, h => cases h; exact ⟨fun w hw => pm_hs_in _ _ pin_2 w hw, nmX2, ⟨tyX2, tyX2_ok, pdf_2⟩, rfl, psh_2⟩
  | 3, h => cases h; exact ⟨fun w hw => pm_hs_in _ _ pin_3 w hw, nmX3, ⟨tyX3, tyX3_ok, pdf_3⟩, rfl, psh_3⟩
  | 4, h => cases h; exact ⟨fun w hw => pm_hs_in _ _ pin_4 w hw, nmX4, ⟨tyX4, tyX4_ok, pdf_4⟩, rfl, psh_4⟩
  | 5, h => cases h; exact ⟨fun w hw => pm_hs_in _ _ pin_5 w hw, nmX5, ⟨tyX5, tyX5_ok, pdf_5⟩, rfl, psh_5⟩
  | 6, h => cases h; exact ⟨fun w hw => pm_hs_in _ _ pin_6 w hw, nmX6, ⟨tyX6, tyX6_ok, pdf_6⟩, rfl, psh_6⟩
  | 7, h => cases h; exact ⟨fun w hw => pm_hs_in _ _ pin_7 w hw, nmX7, ⟨tyX7, tyX7_ok, pdf_7⟩, rfl, psh_7⟩
  | 8, h => cases h; exact ⟨fun w hw => pm_hs_in _ _ pin_8 w hw, nmX8, ⟨tyX8, tyX8_ok, pdf_8⟩, rfl, psh_8⟩
  | 9, h => cases h; exact ⟨fun w hw => pm_hs_in _ _ pin_9 w hw, nmX9, ⟨tyX9, tyX9_ok, pdf_9⟩, rfl, psh_9⟩
  | 10, h => cases h; exact ⟨fun w hw => pm_hs_in _ _ pin_10 w hw, nmX10, ⟨tyX10, tyX10_ok, pdf_10⟩, rfl, psh_10⟩
  | 11, h => cases h; exact ⟨fun w hw => pm_hs_in _ _ pin_11 w hw, nmX11, ⟨tyX11, tyX11_ok, pdf_11⟩, rfl, psh_11⟩
  | n + 12, h => exact pm_no h
def pm_iw : List Cond := [.instantiable RX0 4, .instantiable RX1 3, .instantiable RX2 5, .instantiable RX3 3, .instantiable RX4 11, .instantiable RX5 7, .instantiable RX6 11, .instantiable RX7 9, .instantiable RX8 17, .instantiable RX9 14, .instantiable RX10 19, .instantiable RX11 81, .arrayClass .int, .arrayClass .long, .arrayClass .byte, .arrayClass .boolean, .arrayOver (.array .long), .arrayOver (.array .int), .arrayOver (.object pm_RD)]
set_option maxRecDepth 100000 in
theorem pin_iw : pm_hs [(2, 14), (1, 214), (1, 231), (1, 119), (1, 23), (1, 166), (1, 125), (2, 37), (2, 73), (1, 66), (1, 15), (5, 92), (1, 117), (1, 116), (1, 64), (2, 170), (2, 20), (2, 80), (1, 165)] pm_iw = true := by decide +kernel
theorem pm_inst_in (k : Nat) (q : vw_C) (h : vwCl[k]? = some q) : Jvm.Cond.instantiable q.1 q.2.2 ∈ pm_TB := by
  match k, h with
  | 0, h => cases h; exact pm_hs_in _ _ pin_iw _ (List.mem_of_getElem? (i := 0) rfl)
  | 1, h => cases h; exact pm_hs_in _ _ pin_iw _ (List.mem_of_getElem? (i := 1) rfl)
  | 2, h => cases h; exact pm_hs_in _ _ pin_iw _ (List.mem_of_getElem? (i := 2) rfl)
  | 3, h => cases h; exact pm_hs_in _ _ pin_iw _ (List.mem_of_getElem? (i := 3) rfl)
  | 4, h => cases h; exact pm_hs_in _ _ pin_iw _ (List.mem_of_getElem? (i := 4) rfl)
  | 5, h => cases h; exact pm_hs_in _ _ pin_iw _ (List.mem_of_getElem? (i := 5) rfl)
  | 6, h => cases h; exact pm_hs_in _ _ pin_iw _ (List.mem_of_getElem? (i := 6) rfl)
  | 7, h => cases h; exact pm_hs_in _ _ pin_iw _ (List.mem_of_getElem? (i := 7) rfl)
  | 8, h => cases h; exact pm_hs_in _ _ pin_iw _ (List.mem_of_getElem? (i := 8) rfl)
  | 9, h => cases h; exact pm_hs_in _ _ pin_iw _ (List.mem_of_getElem? (i := 9) rfl)
  | 10, h => cases h; exact pm_hs_in _ _ pin_iw _ (List.mem_of_getElem? (i := 10) rfl)
  | 11, h => cases h; exact pm_hs_in _ _ pin_iw _ (List.mem_of_getElem? (i := 11) rfl)
  | n + 12, h => exact pm_no h
theorem piw_0 : Jvm.Cond.arrayClass .int ∈ pm_TB := pm_hs_in _ _ pin_iw _ (List.mem_of_getElem? (i := 12) rfl)
theorem piw_1 : Jvm.Cond.arrayClass .long ∈ pm_TB := pm_hs_in _ _ pin_iw _ (List.mem_of_getElem? (i := 13) rfl)
theorem piw_2 : Jvm.Cond.arrayClass .byte ∈ pm_TB := pm_hs_in _ _ pin_iw _ (List.mem_of_getElem? (i := 14) rfl)
theorem piw_3 : Jvm.Cond.arrayClass .boolean ∈ pm_TB := pm_hs_in _ _ pin_iw _ (List.mem_of_getElem? (i := 15) rfl)
theorem piw_4 : Jvm.Cond.arrayOver (.array .long) ∈ pm_TB := pm_hs_in _ _ pin_iw _ (List.mem_of_getElem? (i := 16) rfl)
theorem piw_5 : Jvm.Cond.arrayOver (.array .int) ∈ pm_TB := pm_hs_in _ _ pin_iw _ (List.mem_of_getElem? (i := 17) rfl)
theorem piw_6 : Jvm.Cond.arrayOver (.object pm_RD) ∈ pm_TB := pm_hs_in _ _ pin_iw _ (List.mem_of_getElem? (i := 18) rfl)
theorem pm_known {A : Array Value} {s : State} (hts : ∀ w ∈ pm_TB, w.before A s = true) : ∃ (D : va_G) (cA : Nat → ClassId), va_K D vwCl (pm_tys pm_RD cA) s := by
  have hex : ∀ k : Nat, ∃ (cC : ClassId) (iS : Nat → Nat), ∀ q : vw_C, vwCl[k]? = some q → u_Kn s q.1 q.2.1 q.2.2 cC iS := by
    intro k
    cases h : vwCl[k]? with
    | none => exact ⟨0, fun _ => 0, fun q hq => by cases hq⟩
    | some q =>
      obtain ⟨C, T, N⟩ := q
      obtain ⟨cC, iS, hk⟩ := u_known (C := C) (T := T) (N := N) (n := N) hts (pm_clsOk2 _ _ _ _ h).1 (hts _ (pm_inst_in _ _ h))
      exact ⟨cC, iS, fun q hq => by cases hq; exact hk⟩
  have hpr : ∀ ty : FieldType, (Jvm.Cond.arrayClass ty).before A s = true → ∃ cA : ClassId, ArrOfT s cA ty ∧ s.vm.findClass ("[" ++ ty.toString) = some cA := by
    intro ty h
    obtain ⟨cA, kA, comp, h1, h2, h3⟩ := Cond.arrayClass_spec h
    exact ⟨cA, fun n z => ⟨fun k h => (by cases h), kA, h2, comp, h3⟩, h1⟩
  have har : ∀ ty : FieldType, (Jvm.Cond.arrayOver (.array ty)).before A s = true → ∃ cA : ClassId, ArrOfT s cA (.array ty) ∧ s.vm.findClass ("[" ++ (FieldType.array ty).toString) = some cA := by
    intro ty h
    obtain ⟨comp, cA, kA, h1, h2, h3, h4, h5⟩ := arrayOverA_spec h
    exact ⟨cA, fun n z => ⟨fun k h => (by cases h), kA, h3, comp, h4⟩, h5⟩
  obtain ⟨a0, p0, q0⟩ := hpr _ (hts _ piw_0)
  obtain ⟨a1, p1, q1⟩ := hpr _ (hts _ piw_1)
  obtain ⟨a2, p2, q2⟩ := hpr _ (hts _ piw_2)
  obtain ⟨a3, p3, q3⟩ := hpr _ (hts _ piw_3)
  obtain ⟨a4, p4, q4⟩ := har _ (hts _ piw_4)
  obtain ⟨a5, p5, q5⟩ := har _ (hts _ piw_5)
  obtain ⟨comp, a6, k6, h1, h2, h3, h4, h5⟩ := Cond.arrayOver_spec (hts _ piw_6)
  refine ⟨(fun k => Classical.choose (hex k), fun k => Classical.choose (Classical.choose_spec (hex k))), fun k => match k with | 0 => a0 | 1 => a1 | 2 => a2 | 3 => a3 | 4 => a4 | 5 => a5 | _ => a6, ?_, ?_⟩
  · intro k q hq
    exact Classical.choose_spec (Classical.choose_spec (hex k)) q hq
  · intro k q hq
    match k, hq with
    | 0, hq => cases hq; exact ⟨p0, q0⟩
    | 1, hq => cases hq; exact ⟨p1, q1⟩
    | 2, hq => cases hq; exact ⟨p2, q2⟩
    | 3, hq => cases hq; exact ⟨p3, q3⟩
    | 4, hq => cases hq; exact ⟨p4, q4⟩
    | 5, hq => cases hq; exact ⟨p5, q5⟩
    | 6, hq => cases hq; exact ⟨fun n z => ⟨fun k h => (by cases h), k6, h3, comp, h4⟩, k6, comp, h3, h4, h1, h5⟩
    | n + 7, hq => exact pm_no hq

/-! each method: itself, and its instructions -/
theorem pn_0 : plainName (oN 0) = true := by decide +kernel
theorem pe_0 : oN 0 ≠ "java/lang/invoke/MethodHandle" ∧ oN 0 ≠ "java/lang/invoke/VarHandle" := ⟨by decide +kernel, by decide +kernel⟩
theorem pn_1 : plainName (oN 1) = true := by decide +kernel
theorem pe_1 : oN 1 ≠ "java/lang/invoke/MethodHandle" ∧ oN 1 ≠ "java/lang/invoke/VarHandle" := ⟨by decide +kernel, by decide +kernel⟩
theorem pn_2 : plainName (oN 2) = true := by decide +kernel
theorem pe_2 : oN 2 ≠ "java/lang/invoke/MethodHandle" ∧ oN 2 ≠ "java/lang/invoke/VarHandle" := ⟨by decide +kernel, by decide +kernel⟩
theorem pn_3 : plainName (oN 3) = true := by decide +kernel
theorem pe_3 : oN 3 ≠ "java/lang/invoke/MethodHandle" ∧ oN 3 ≠ "java/lang/invoke/VarHandle" := ⟨by decide +kernel, by decide +kernel⟩
theorem pn_4 : plainName (oN 4) = true := by decide +kernel
theorem pe_4 : oN 4 ≠ "java/lang/invoke/MethodHandle" ∧ oN 4 ≠ "java/lang/invoke/VarHandle" := ⟨by decide +kernel, by decide +kernel⟩
theorem pn_5 : plainName (oN 5) = true := by decide +kernel
theorem pe_5 : oN 5 ≠ "java/lang/invoke/MethodHandle" ∧ oN 5 ≠ "java/lang/invoke/VarHandle" := ⟨by decide +kernel, by decide +kernel⟩
theorem pn_6 : plainName (oN 6) = true := by decide +kernel
theorem pe_6 : oN 6 ≠ "java/lang/invoke/MethodHandle" ∧ oN 6 ≠ "java/lang/invoke/VarHandle" := ⟨by decide +kernel, by decide +kernel⟩
theorem pn_7 : plainName (oN 7) = true := by decide +kernel
theorem pe_7 : oN 7 ≠ "java/lang/invoke/MethodHandle" ∧ oN 7 ≠ "java/lang/invoke/VarHandle" := ⟨by decide +kernel, by decide +kernel⟩
theorem pn_8 : plainName (oN 8) = true := by decide +kernel
theorem pe_8 : oN 8 ≠ "java/lang/invoke/MethodHandle" ∧ oN 8 ≠ "java/lang/invoke/VarHandle" := ⟨by decide +kernel, by decide +kernel⟩
theorem pn_9 : plainName (oN 9) = true := by decide +kernel
theorem pe_9 : oN 9 ≠ "java/lang/invoke/MethodHandle" ∧ oN 9 ≠ "java/lang/invoke/VarHandle" := ⟨by decide +kernel, by decide +kernel⟩
theorem pn_10 : plainName (oN 10) = true := by decide +kernel
theorem pe_10 : oN 10 ≠ "java/lang/invoke/MethodHandle" ∧ oN 10 ≠ "java/lang/invoke/VarHandle" := ⟨by decide +kernel, by decide +kernel⟩
theorem pn_11 : plainName (oN 11) = true := by decide +kernel
theorem pe_11 : oN 11 ≠ "java/lang/invoke/MethodHandle" ∧ oN 11 ≠ "java/lang/invoke/VarHandle" := ⟨by decide +kernel, by decide +kernel⟩
theorem pe_12 : oN 12 ≠ "java/lang/invoke/MethodHandle" ∧ oN 12 ≠ "java/lang/invoke/VarHandle" := ⟨by decide +kernel, by decide +kernel⟩
theorem ps_0 : (parseMethodDescriptor "()V").map (fun d => d.parameters.length) = some 0 := by decide +kernel
theorem ps_1 : (parseMethodDescriptor "()[J").map (fun d => d.parameters.length) = some 0 := by decide +kernel
theorem ps_2 : (parseMethodDescriptor "([J)V").map (fun d => d.parameters.length) = some 1 := by decide +kernel
theorem ps_3 : (parseMethodDescriptor "()Z").map (fun d => d.parameters.length) = some 0 := by decide +kernel
theorem ps_4 : (parseMethodDescriptor "(LLoopGround$Told;I)Z").map (fun d => d.parameters.length) = some 2 := by decide +kernel
theorem ps_5 : (parseMethodDescriptor "()I").map (fun d => d.parameters.length) = some 0 := by decide +kernel
theorem ps_6 : (parseMethodDescriptor "(I)Z").map (fun d => d.parameters.length) = some 1 := by decide +kernel
theorem ps_7 : (parseMethodDescriptor "(LLoopGround$Told;[BI)Z").map (fun d => d.parameters.length) = some 3 := by decide +kernel
theorem ps_8 : (parseMethodDescriptor "(LLoopGround$Told;II)I").map (fun d => d.parameters.length) = some 3 := by decide +kernel
theorem ps_9 : (parseMethodDescriptor "(LLoopGround$Told;)V").map (fun d => d.parameters.length) = some 1 := by decide +kernel
theorem ps_10 : (parseMethodDescriptor "(LLoopGround$Told;LLoopGround$Tracer;)Z").map (fun d => d.parameters.length) = some 2 := by decide +kernel
theorem ps_11 : (parseMethodDescriptor "(II)Z").map (fun d => d.parameters.length) = some 2 := by decide +kernel
theorem ps_12 : (parseMethodDescriptor "(LLoopGround$Told;LLoopGround$Tracer;)V").map (fun d => d.parameters.length) = some 2 := by decide +kernel
theorem ps_13 : (parseMethodDescriptor "(I)LLoopGround$Road;").map (fun d => d.parameters.length) = some 1 := by decide +kernel
theorem ps_14 : (parseMethodDescriptor "([JI)J").map (fun d => d.parameters.length) = some 2 := by decide +kernel
theorem ps_15 : (parseMethodDescriptor "([JILLoopGround$Table;)Z").map (fun d => d.parameters.length) = some 3 := by decide +kernel
theorem ps_16 : (parseMethodDescriptor "([JIILLoopGround$Table;)Z").map (fun d => d.parameters.length) = some 4 := by decide +kernel
theorem ps_17 : (parseMethodDescriptor "([JLLoopGround$Road;ZLLoopGround$Table;)Z").map (fun d => d.parameters.length) = some 4 := by decide +kernel
theorem ps_18 : (parseMethodDescriptor "([JIIIIILLoopGround$Table;)Z").map (fun d => d.parameters.length) = some 7 := by decide +kernel
theorem ps_19 : (parseMethodDescriptor "([JIILLoopGround$Table;)V").map (fun d => d.parameters.length) = some 4 := by decide +kernel
theorem ps_20 : (parseMethodDescriptor "([BILLoopGround$Told;)Z").map (fun d => d.parameters.length) = some 3 := by decide +kernel
theorem ps_21 : (parseMethodDescriptor "(II)V").map (fun d => d.parameters.length) = some 2 := by decide +kernel
theorem ps_22 : (parseMethodDescriptor "(I)I").map (fun d => d.parameters.length) = some 1 := by decide +kernel
theorem ps_23 : (parseMethodDescriptor "(LLoopGround$Told;ILLoopGround$Tracer;LLoopGround$Road;)V").map (fun d => d.parameters.length) = some 4 := by decide +kernel
theorem ps_24 : (parseMethodDescriptor "(LLoopGround$Road;)V").map (fun d => d.parameters.length) = some 1 := by decide +kernel
theorem ps_25 : (parseMethodDescriptor "(I)V").map (fun d => d.parameters.length) = some 1 := by decide +kernel
theorem ps_26 : (parseMethodDescriptor "(III)V").map (fun d => d.parameters.length) = some 3 := by decide +kernel
theorem ps_27 : (parseMethodDescriptor "([[J)V").map (fun d => d.parameters.length) = some 1 := by decide +kernel
theorem ps_28 : (parseMethodDescriptor "(II)I").map (fun d => d.parameters.length) = some 2 := by decide +kernel
theorem ps_29 : (parseMethodDescriptor "(I)J").map (fun d => d.parameters.length) = some 1 := by decide +kernel
theorem ps_30 : (parseMethodDescriptor "(I[J)Z").map (fun d => d.parameters.length) = some 2 := by decide +kernel
theorem ps_31 : (parseMethodDescriptor "([J)Z").map (fun d => d.parameters.length) = some 1 := by decide +kernel
theorem ps_32 : (parseMethodDescriptor "(J)I").map (fun d => d.parameters.length) = some 1 := by decide +kernel
theorem ps_33 : (parseMethodDescriptor "(J[JI)I").map (fun d => d.parameters.length) = some 3 := by decide +kernel
theorem ps_34 : (parseMethodDescriptor "(LLoopGround$Told;[J)Z").map (fun d => d.parameters.length) = some 2 := by decide +kernel
theorem ps_35 : (parseMethodDescriptor "([I)I").map (fun d => d.parameters.length) = some 1 := by decide +kernel
theorem ps_36 : (parseMethodDescriptor "(LLoopGround$Told;[J[J)I").map (fun d => d.parameters.length) = some 3 := by decide +kernel
theorem ps_37 : (parseMethodDescriptor "([I)V").map (fun d => d.parameters.length) = some 1 := by decide +kernel
theorem ps_38 : (parseMethodDescriptor "(IIIII)I").map (fun d => d.parameters.length) = some 5 := by decide +kernel
theorem ps_39 : (parseMethodDescriptor "(II)J").map (fun d => d.parameters.length) = some 2 := by decide +kernel
theorem ps_40 : (parseMethodDescriptor "(III)J").map (fun d => d.parameters.length) = some 3 := by decide +kernel
theorem ps_41 : (parseMethodDescriptor "(IIII)I").map (fun d => d.parameters.length) = some 4 := by decide +kernel
theorem ps_42 : (parseMethodDescriptor "(III)I").map (fun d => d.parameters.length) = some 3 := by decide +kernel
theorem ps_43 : (parseMethodDescriptor "(Z)J").map (fun d => d.parameters.length) = some 1 := by decide +kernel
theorem ps_44 : (parseMethodDescriptor "(I)[J").map (fun d => d.parameters.length) = some 1 := by decide +kernel
theorem ps_45 : (parseMethodDescriptor "([J[J)V").map (fun d => d.parameters.length) = some 2 := by decide +kernel
theorem ps_46 : (parseMethodDescriptor "([J[J)Z").map (fun d => d.parameters.length) = some 2 := by decide +kernel
theorem ps_47 : (parseMethodDescriptor "([J)J").map (fun d => d.parameters.length) = some 1 := by decide +kernel
theorem ps_48 : (parseMethodDescriptor "(J)Z").map (fun d => d.parameters.length) = some 1 := by decide +kernel
theorem ps_49 : (parseMethodDescriptor "(J)V").map (fun d => d.parameters.length) = some 1 := by decide +kernel
theorem ps_50 : (parseMethodDescriptor "(IZIIIII)V").map (fun d => d.parameters.length) = some 7 := by decide +kernel
theorem ps_51 : (parseMethodDescriptor "(IIIIII)V").map (fun d => d.parameters.length) = some 6 := by decide +kernel
theorem ps_52 : (parseMethodDescriptor "()J").map (fun d => d.parameters.length) = some 0 := by decide +kernel
theorem ps_53 : (parseMethodDescriptor "(J)J").map (fun d => d.parameters.length) = some 1 := by decide +kernel
theorem ps_54 : (parseMethodDescriptor "(JJ)J").map (fun d => d.parameters.length) = some 2 := by decide +kernel
theorem ps_55 : (parseMethodDescriptor "(IZ)Z").map (fun d => d.parameters.length) = some 2 := by decide +kernel
set_option maxRecDepth 100000 in
theorem pk_1 : qd_one pd_1 := ⟨⟨pm_in (j := 2) (i := 17) rfl rfl, pm_in (j := 1) (i := 9) rfl rfl, plainFor_of_name pn_0, pe_0, ps_0, by decide⟩, 0, true, rfl, fun _ => rfl, by decide +kernel⟩
set_option maxRecDepth 100000 in
theorem pk_2 : qd_one pd_2 := ⟨⟨pm_in (j := 3) (i := 227) rfl rfl, pm_in (j := 1) (i := 9) rfl rfl, plainFor_of_name pn_0, pe_0, ps_1, by decide⟩, 0, false, rfl, fun h => Bool.noConfusion h, by decide +kernel⟩
set_option maxRecDepth 100000 in
theorem pk_3 : qd_one pd_3 := ⟨⟨pm_in (j := 5) (i := 8) rfl rfl, pm_in (j := 1) (i := 9) rfl rfl, plainFor_of_name pn_0, pe_0, ps_2, by decide⟩, 0, false, rfl, fun h => Bool.noConfusion h, by decide +kernel⟩
set_option maxRecDepth 100000 in
theorem pk_4 : qd_one pd_4 := ⟨⟨pm_in (j := 3) (i := 223) rfl rfl, pm_in (j := 1) (i := 9) rfl rfl, plainFor_of_name pn_0, pe_0, ps_2, by decide⟩, 0, false, rfl, fun h => Bool.noConfusion h, by decide +kernel⟩
set_option maxRecDepth 100000 in
theorem pk_5 : qd_one pd_5 := ⟨⟨pm_in (j := 5) (i := 30) rfl rfl, pm_in (j := 1) (i := 9) rfl rfl, plainFor_of_name pn_0, pe_0, ps_3, by decide⟩, 0, false, rfl, fun h => Bool.noConfusion h, by decide +kernel⟩
set_option maxRecDepth 100000 in
theorem pk_6 : qd_one pd_6 := ⟨⟨pm_in (j := 5) (i := 38) rfl rfl, pm_in (j := 1) (i := 9) rfl rfl, plainFor_of_name pn_0, pe_0, ps_3, by decide⟩, 0, false, rfl, fun h => Bool.noConfusion h, by decide +kernel⟩
set_option maxRecDepth 100000 in
theorem pk_7 : qd_one pd_7 := ⟨⟨pm_in (j := 1) (i := 217) rfl rfl, pm_in (j := 1) (i := 7) rfl rfl, plainFor_of_name pn_1, pe_1, ps_0, by decide⟩, 1, true, rfl, fun _ => rfl, by decide +kernel⟩
set_option maxRecDepth 100000 in
theorem pk_8 : qd_one pd_8 := ⟨⟨pm_in (j := 4) (i := 209) rfl rfl, pm_in (j := 1) (i := 7) rfl rfl, plainFor_of_name pn_1, pe_1, ps_4, by decide⟩, 1, false, rfl, fun h => Bool.noConfusion h, by decide +kernel⟩
set_option maxRecDepth 100000 in
theorem pk_9 : qd_one pd_9 := ⟨⟨pm_in (j := 4) (i := 215) rfl rfl, pm_in (j := 1) (i := 7) rfl rfl, plainFor_of_name pn_1, pe_1, ps_3, by decide⟩, 1, false, rfl, fun h => Bool.noConfusion h, by decide +kernel⟩
set_option maxRecDepth 100000 in
theorem pk_10 : qd_one pd_10 := ⟨⟨pm_in (j := 4) (i := 224) rfl rfl, pm_in (j := 1) (i := 7) rfl rfl, plainFor_of_name pn_1, pe_1, ps_5, by decide⟩, 1, false, rfl, fun h => Bool.noConfusion h, by decide +kernel⟩
set_option maxRecDepth 100000 in
theorem pk_11 : qd_one pd_11 := ⟨⟨pm_in (j := 4) (i := 220) rfl rfl, pm_in (j := 1) (i := 7) rfl rfl, plainFor_of_name pn_1, pe_1, ps_6, by decide⟩, 1, false, rfl, fun h => Bool.noConfusion h, by decide +kernel⟩
set_option maxRecDepth 100000 in
theorem pk_12 : qd_one pd_12 := ⟨⟨pm_in (j := 1) (i := 234) rfl rfl, pm_in (j := 1) (i := 8) rfl rfl, plainFor_of_name pn_2, pe_2, ps_0, by decide⟩, 2, true, rfl, fun _ => rfl, by decide +kernel⟩
set_option maxRecDepth 100000 in
theorem pk_13 : qd_one pd_13 := ⟨⟨pm_in (j := 5) (i := 46) rfl rfl, pm_in (j := 1) (i := 8) rfl rfl, plainFor_of_name pn_2, pe_2, ps_7, by decide⟩, 2, false, rfl, fun h => Bool.noConfusion h, by decide +kernel⟩
set_option maxRecDepth 100000 in
theorem pk_14 : qd_one pd_14 := ⟨⟨pm_in (j := 5) (i := 49) rfl rfl, pm_in (j := 1) (i := 8) rfl rfl, plainFor_of_name pn_2, pe_2, ps_8, by decide⟩, 2, false, rfl, fun h => Bool.noConfusion h, by decide +kernel⟩
set_option maxRecDepth 100000 in
theorem pk_15 : qd_one pd_15 := ⟨⟨pm_in (j := 5) (i := 53) rfl rfl, pm_in (j := 1) (i := 8) rfl rfl, plainFor_of_name pn_2, pe_2, ps_9, by decide⟩, 2, false, rfl, fun h => Bool.noConfusion h, by decide +kernel⟩
set_option maxRecDepth 100000 in
theorem pk_16 : qd_one pd_16 := ⟨⟨pm_in (j := 5) (i := 69) rfl rfl, pm_in (j := 1) (i := 8) rfl rfl, plainFor_of_name pn_2, pe_2, ps_5, by decide⟩, 2, false, rfl, fun h => Bool.noConfusion h, by decide +kernel⟩
set_option maxRecDepth 100000 in
theorem pk_17 : qd_one pd_17 := ⟨⟨pm_in (j := 5) (i := 57) rfl rfl, pm_in (j := 1) (i := 8) rfl rfl, plainFor_of_name pn_2, pe_2, ps_10, by decide⟩, 2, false, rfl, fun h => Bool.noConfusion h, by decide +kernel⟩
set_option maxRecDepth 100000 in
theorem pk_18 : qd_one pd_18 := ⟨⟨pm_in (j := 5) (i := 73) rfl rfl, pm_in (j := 1) (i := 8) rfl rfl, plainFor_of_name pn_2, pe_2, ps_3, by decide⟩, 2, false, rfl, fun h => Bool.noConfusion h, by decide +kernel⟩
set_option maxRecDepth 100000 in
theorem pk_19 : qd_one pd_19 := ⟨⟨pm_in (j := 5) (i := 77) rfl rfl, pm_in (j := 1) (i := 8) rfl rfl, plainFor_of_name pn_2, pe_2, ps_11, by decide⟩, 2, false, rfl, fun h => Bool.noConfusion h, by decide +kernel⟩
set_option maxRecDepth 100000 in
theorem pk_20 : qd_one pd_20 := ⟨⟨pm_in (j := 1) (i := 122) rfl rfl, pm_in (j := 1) (i := 4) rfl rfl, plainFor_of_name pn_3, pe_3, ps_0, by decide⟩, 3, true, rfl, fun _ => rfl, by decide +kernel⟩
set_option maxRecDepth 100000 in
theorem pk_21 : qd_one pd_21 := ⟨⟨pm_in (j := 3) (i := 131) rfl rfl, pm_in (j := 1) (i := 4) rfl rfl, plainFor_of_name pn_3, pe_3, ps_12, by decide⟩, 3, false, rfl, fun h => Bool.noConfusion h, by decide +kernel⟩
set_option maxRecDepth 100000 in
theorem pk_22 : qd_one pd_22 := ⟨⟨pm_in (j := 4) (i := 44) rfl rfl, pm_in (j := 1) (i := 4) rfl rfl, plainFor_of_name pn_3, pe_3, ps_13, by decide⟩, 3, false, rfl, fun h => Bool.noConfusion h, by decide +kernel⟩
set_option maxRecDepth 100000 in
theorem pk_23 : qd_one pd_23 := ⟨⟨pm_in (j := 4) (i := 60) rfl rfl, pm_in (j := 1) (i := 4) rfl rfl, plainFor_of_name pn_3, pe_3, ps_6, by decide⟩, 3, false, rfl, fun h => Bool.noConfusion h, by decide +kernel⟩
set_option maxRecDepth 100000 in
theorem pk_24 : qd_one pd_24 := ⟨⟨pm_in (j := 4) (i := 109) rfl rfl, pm_in (j := 1) (i := 4) rfl rfl, plainFor_of_name pn_3, pe_3, ps_6, by decide⟩, 3, false, rfl, fun h => Bool.noConfusion h, by decide +kernel⟩
set_option maxRecDepth 100000 in
theorem pk_25 : qd_one pd_25 := ⟨⟨pm_in (j := 4) (i := 67) rfl rfl, pm_in (j := 1) (i := 4) rfl rfl, plainFor_of_name pn_3, pe_3, ps_14, by decide⟩, 3, false, rfl, fun h => Bool.noConfusion h, by decide +kernel⟩
set_option maxRecDepth 100000 in
theorem pk_26 : qd_one pd_26 := ⟨⟨pm_in (j := 4) (i := 118) rfl rfl, pm_in (j := 1) (i := 4) rfl rfl, plainFor_of_name pn_3, pe_3, ps_15, by decide⟩, 3, false, rfl, fun h => Bool.noConfusion h, by decide +kernel⟩
set_option maxRecDepth 100000 in
theorem pk_27 : qd_one pd_27 := ⟨⟨pm_in (j := 4) (i := 122) rfl rfl, pm_in (j := 1) (i := 4) rfl rfl, plainFor_of_name pn_3, pe_3, ps_16, by decide⟩, 3, false, rfl, fun h => Bool.noConfusion h, by decide +kernel⟩
set_option maxRecDepth 100000 in
theorem pk_28 : qd_one pd_28 := ⟨⟨pm_in (j := 4) (i := 71) rfl rfl, pm_in (j := 1) (i := 4) rfl rfl, plainFor_of_name pn_3, pe_3, ps_17, by decide⟩, 3, false, rfl, fun h => Bool.noConfusion h, by decide +kernel⟩
set_option maxRecDepth 100000 in
theorem pk_29 : qd_one pd_29 := ⟨⟨pm_in (j := 4) (i := 75) rfl rfl, pm_in (j := 1) (i := 4) rfl rfl, plainFor_of_name pn_3, pe_3, ps_18, by decide⟩, 3, false, rfl, fun h => Bool.noConfusion h, by decide +kernel⟩
set_option maxRecDepth 100000 in
theorem pk_30 : qd_one pd_30 := ⟨⟨pm_in (j := 4) (i := 129) rfl rfl, pm_in (j := 1) (i := 4) rfl rfl, plainFor_of_name pn_3, pe_3, ps_19, by decide⟩, 3, false, rfl, fun h => Bool.noConfusion h, by decide +kernel⟩
set_option maxRecDepth 100000 in
theorem pk_31 : qd_one pd_31 := ⟨⟨pm_in (j := 1) (i := 26) rfl rfl, pm_in (j := 1) (i := 2) rfl rfl, plainFor_of_name pn_4, pe_4, ps_0, by decide⟩, 4, true, rfl, fun _ => rfl, by decide +kernel⟩
set_option maxRecDepth 100000 in
theorem pk_32 : qd_one pd_32 := ⟨⟨pm_in (j := 3) (i := 8) rfl rfl, pm_in (j := 1) (i := 2) rfl rfl, plainFor_of_name pn_4, pe_4, ps_20, by decide⟩, 4, false, rfl, fun h => Bool.noConfusion h, by decide +kernel⟩
set_option maxRecDepth 100000 in
theorem pk_33 : qd_one pd_33 := ⟨⟨pm_in (j := 3) (i := 60) rfl rfl, pm_in (j := 1) (i := 2) rfl rfl, plainFor_of_name pn_4, pe_4, ps_21, by decide⟩, 4, false, rfl, fun h => Bool.noConfusion h, by decide +kernel⟩
set_option maxRecDepth 100000 in
theorem pk_34 : qd_one pd_34 := ⟨⟨pm_in (j := 3) (i := 56) rfl rfl, pm_in (j := 1) (i := 2) rfl rfl, plainFor_of_name pn_4, pe_4, ps_3, by decide⟩, 4, false, rfl, fun h => Bool.noConfusion h, by decide +kernel⟩
set_option maxRecDepth 100000 in
theorem pk_35 : qd_one pd_35 := ⟨⟨pm_in (j := 3) (i := 76) rfl rfl, pm_in (j := 1) (i := 2) rfl rfl, plainFor_of_name pn_4, pe_4, ps_3, by decide⟩, 4, false, rfl, fun h => Bool.noConfusion h, by decide +kernel⟩
set_option maxRecDepth 100000 in
theorem pk_36 : qd_one pd_36 := ⟨⟨pm_in (j := 3) (i := 52) rfl rfl, pm_in (j := 1) (i := 2) rfl rfl, plainFor_of_name pn_4, pe_4, ps_0, by decide⟩, 4, false, rfl, fun h => Bool.noConfusion h, by decide +kernel⟩
set_option maxRecDepth 100000 in
theorem pk_37 : qd_one pd_37 := ⟨⟨pm_in (j := 3) (i := 64) rfl rfl, pm_in (j := 1) (i := 2) rfl rfl, plainFor_of_name pn_4, pe_4, ps_6, by decide⟩, 4, false, rfl, fun h => Bool.noConfusion h, by decide +kernel⟩
set_option maxRecDepth 100000 in
theorem pk_38 : qd_one pd_38 := ⟨⟨pm_in (j := 3) (i := 95) rfl rfl, pm_in (j := 1) (i := 2) rfl rfl, plainFor_of_name pn_4, pe_4, ps_0, by decide⟩, 4, false, rfl, fun h => Bool.noConfusion h, by decide +kernel⟩
set_option maxRecDepth 100000 in
theorem pk_39 : qd_one pd_39 := ⟨⟨pm_in (j := 3) (i := 119) rfl rfl, pm_in (j := 1) (i := 2) rfl rfl, plainFor_of_name pn_4, pe_4, ps_0, by decide⟩, 4, false, rfl, fun h => Bool.noConfusion h, by decide +kernel⟩
set_option maxRecDepth 100000 in
theorem pk_40 : qd_one pd_40 := ⟨⟨pm_in (j := 3) (i := 127) rfl rfl, pm_in (j := 1) (i := 2) rfl rfl, plainFor_of_name pn_4, pe_4, ps_11, by decide⟩, 4, false, rfl, fun h => Bool.noConfusion h, by decide +kernel⟩
set_option maxRecDepth 100000 in
theorem pk_41 : qd_one pd_41 := ⟨⟨pm_in (j := 3) (i := 106) rfl rfl, pm_in (j := 1) (i := 2) rfl rfl, plainFor_of_name pn_4, pe_4, ps_6, by decide⟩, 4, false, rfl, fun h => Bool.noConfusion h, by decide +kernel⟩
set_option maxRecDepth 100000 in
theorem pk_42 : qd_one pd_42 := ⟨⟨pm_in (j := 3) (i := 72) rfl rfl, pm_in (j := 1) (i := 2) rfl rfl, plainFor_of_name pn_4, pe_4, ps_6, by decide⟩, 4, false, rfl, fun h => Bool.noConfusion h, by decide +kernel⟩
set_option maxRecDepth 100000 in
theorem pk_43 : qd_one pd_43 := ⟨⟨pm_in (j := 3) (i := 23) rfl rfl, pm_in (j := 1) (i := 2) rfl rfl, plainFor_of_name pn_4, pe_4, ps_22, by decide⟩, 4, false, rfl, fun h => Bool.noConfusion h, by decide +kernel⟩
set_option maxRecDepth 100000 in
theorem pk_44 : qd_one pd_44 := ⟨⟨pm_in (j := 3) (i := 26) rfl rfl, pm_in (j := 1) (i := 2) rfl rfl, plainFor_of_name pn_4, pe_4, ps_6, by decide⟩, 4, false, rfl, fun h => Bool.noConfusion h, by decide +kernel⟩
set_option maxRecDepth 100000 in
theorem pk_45 : qd_one pd_45 := ⟨⟨pm_in (j := 3) (i := 44) rfl rfl, pm_in (j := 1) (i := 2) rfl rfl, plainFor_of_name pn_4, pe_4, ps_6, by decide⟩, 4, false, rfl, fun h => Bool.noConfusion h, by decide +kernel⟩
set_option maxRecDepth 100000 in
theorem pk_46 : qd_one pd_46 := ⟨⟨pm_in (j := 3) (i := 19) rfl rfl, pm_in (j := 1) (i := 2) rfl rfl, plainFor_of_name pn_4, pe_4, ps_0, by decide⟩, 4, false, rfl, fun h => Bool.noConfusion h, by decide +kernel⟩
set_option maxRecDepth 100000 in
theorem pk_47 : qd_one pd_47 := ⟨⟨pm_in (j := 3) (i := 30) rfl rfl, pm_in (j := 1) (i := 2) rfl rfl, plainFor_of_name pn_4, pe_4, ps_0, by decide⟩, 4, false, rfl, fun h => Bool.noConfusion h, by decide +kernel⟩
set_option maxRecDepth 100000 in
theorem pk_48 : qd_one pd_48 := ⟨⟨pm_in (j := 3) (i := 36) rfl rfl, pm_in (j := 1) (i := 2) rfl rfl, plainFor_of_name pn_4, pe_4, ps_5, by decide⟩, 4, false, rfl, fun h => Bool.noConfusion h, by decide +kernel⟩
set_option maxRecDepth 100000 in
theorem pk_49 : qd_one pd_49 := ⟨⟨pm_in (j := 3) (i := 48) rfl rfl, pm_in (j := 1) (i := 2) rfl rfl, plainFor_of_name pn_4, pe_4, ps_0, by decide⟩, 4, false, rfl, fun h => Bool.noConfusion h, by decide +kernel⟩
set_option maxRecDepth 100000 in
theorem pk_50 : qd_one pd_50 := ⟨⟨pm_in (j := 1) (i := 169) rfl rfl, pm_in (j := 1) (i := 6) rfl rfl, plainFor_of_name pn_5, pe_5, ps_0, by decide⟩, 5, true, rfl, fun _ => rfl, by decide +kernel⟩
set_option maxRecDepth 100000 in
theorem pk_51 : qd_one pd_51 := ⟨⟨pm_in (j := 4) (i := 52) rfl rfl, pm_in (j := 1) (i := 6) rfl rfl, plainFor_of_name pn_5, pe_5, ps_22, by decide⟩, 5, false, rfl, fun h => Bool.noConfusion h, by decide +kernel⟩
set_option maxRecDepth 100000 in
theorem pk_52 : qd_one pd_52 := ⟨⟨pm_in (j := 1) (i := 128) rfl rfl, pm_in (j := 1) (i := 5) rfl rfl, plainFor_of_name pn_6, pe_6, ps_0, by decide⟩, 6, true, rfl, fun _ => rfl, by decide +kernel⟩
set_option maxRecDepth 100000 in
theorem pk_53 : qd_one pd_53 := ⟨⟨pm_in (j := 3) (i := 135) rfl rfl, pm_in (j := 1) (i := 5) rfl rfl, plainFor_of_name pn_6, pe_6, ps_23, by decide⟩, 6, false, rfl, fun h => Bool.noConfusion h, by decide +kernel⟩
set_option maxRecDepth 100000 in
theorem pk_54 : qd_one pd_54 := ⟨⟨pm_in (j := 3) (i := 194) rfl rfl, pm_in (j := 1) (i := 5) rfl rfl, plainFor_of_name pn_6, pe_6, ps_24, by decide⟩, 6, false, rfl, fun h => Bool.noConfusion h, by decide +kernel⟩
set_option maxRecDepth 100000 in
theorem pk_55 : qd_one pd_55 := ⟨⟨pm_in (j := 3) (i := 190) rfl rfl, pm_in (j := 1) (i := 5) rfl rfl, plainFor_of_name pn_6, pe_6, ps_0, by decide⟩, 6, false, rfl, fun h => Bool.noConfusion h, by decide +kernel⟩
set_option maxRecDepth 100000 in
theorem pk_56 : qd_one pd_56 := ⟨⟨pm_in (j := 3) (i := 198) rfl rfl, pm_in (j := 1) (i := 5) rfl rfl, plainFor_of_name pn_6, pe_6, ps_3, by decide⟩, 6, false, rfl, fun h => Bool.noConfusion h, by decide +kernel⟩
set_option maxRecDepth 100000 in
theorem pk_57 : qd_one pd_57 := ⟨⟨pm_in (j := 3) (i := 202) rfl rfl, pm_in (j := 1) (i := 5) rfl rfl, plainFor_of_name pn_6, pe_6, ps_5, by decide⟩, 6, false, rfl, fun h => Bool.noConfusion h, by decide +kernel⟩
set_option maxRecDepth 100000 in
theorem pk_58 : qd_one pd_58 := ⟨⟨pm_in (j := 3) (i := 206) rfl rfl, pm_in (j := 1) (i := 5) rfl rfl, plainFor_of_name pn_6, pe_6, ps_25, by decide⟩, 6, false, rfl, fun h => Bool.noConfusion h, by decide +kernel⟩
set_option maxRecDepth 100000 in
theorem pk_59 : qd_one pd_59 := ⟨⟨pm_in (j := 3) (i := 215) rfl rfl, pm_in (j := 1) (i := 5) rfl rfl, plainFor_of_name pn_6, pe_6, ps_25, by decide⟩, 6, false, rfl, fun h => Bool.noConfusion h, by decide +kernel⟩
set_option maxRecDepth 100000 in
theorem pk_60 : qd_one pd_60 := ⟨⟨pm_in (j := 3) (i := 219) rfl rfl, pm_in (j := 1) (i := 5) rfl rfl, plainFor_of_name pn_6, pe_6, ps_24, by decide⟩, 6, false, rfl, fun h => Bool.noConfusion h, by decide +kernel⟩
set_option maxRecDepth 100000 in
theorem pk_61 : qd_one pd_61 := ⟨⟨pm_in (j := 2) (i := 40) rfl rfl, pm_in (j := 1) (i := 10) rfl rfl, plainFor_of_name pn_7, pe_7, ps_0, by decide⟩, 7, true, rfl, fun _ => rfl, by decide +kernel⟩
set_option maxRecDepth 100000 in
theorem pk_62 : qd_one pd_62 := ⟨⟨pm_in (j := 3) (i := 231) rfl rfl, pm_in (j := 1) (i := 10) rfl rfl, plainFor_of_name pn_7, pe_7, ps_0, by decide⟩, 7, false, rfl, fun h => Bool.noConfusion h, by decide +kernel⟩
set_option maxRecDepth 100000 in
theorem pk_63 : qd_one pd_63 := ⟨⟨pm_in (j := 4) (i := 166) rfl rfl, pm_in (j := 1) (i := 10) rfl rfl, plainFor_of_name pn_7, pe_7, ps_11, by decide⟩, 7, false, rfl, fun h => Bool.noConfusion h, by decide +kernel⟩
set_option maxRecDepth 100000 in
theorem pk_64 : qd_one pd_64 := ⟨⟨pm_in (j := 4) (i := 170) rfl rfl, pm_in (j := 1) (i := 10) rfl rfl, plainFor_of_name pn_7, pe_7, ps_26, by decide⟩, 7, false, rfl, fun h => Bool.noConfusion h, by decide +kernel⟩
set_option maxRecDepth 100000 in
theorem pk_65 : qd_one pd_65 := ⟨⟨pm_in (j := 4) (i := 174) rfl rfl, pm_in (j := 1) (i := 10) rfl rfl, plainFor_of_name pn_7, pe_7, ps_27, by decide⟩, 7, false, rfl, fun h => Bool.noConfusion h, by decide +kernel⟩
set_option maxRecDepth 100000 in
theorem pk_66 : qd_one pd_66 := ⟨⟨pm_in (j := 4) (i := 80) rfl rfl, pm_in (j := 1) (i := 10) rfl rfl, plainFor_of_name pn_7, pe_7, ps_26, by decide⟩, 7, false, rfl, fun h => Bool.noConfusion h, by decide +kernel⟩
set_option maxRecDepth 100000 in
theorem pk_67 : qd_one pd_67 := ⟨⟨pm_in (j := 4) (i := 133) rfl rfl, pm_in (j := 1) (i := 10) rfl rfl, plainFor_of_name pn_7, pe_7, ps_21, by decide⟩, 7, false, rfl, fun h => Bool.noConfusion h, by decide +kernel⟩
set_option maxRecDepth 100000 in
theorem pk_68 : qd_one pd_68 := ⟨⟨pm_in (j := 4) (i := 178) rfl rfl, pm_in (j := 1) (i := 10) rfl rfl, plainFor_of_name pn_7, pe_7, ps_28, by decide⟩, 7, false, rfl, fun h => Bool.noConfusion h, by decide +kernel⟩
set_option maxRecDepth 100000 in
theorem pk_69 : qd_one pd_69 := ⟨⟨pm_in (j := 4) (i := 186) rfl rfl, pm_in (j := 1) (i := 10) rfl rfl, plainFor_of_name pn_7, pe_7, ps_22, by decide⟩, 7, false, rfl, fun h => Bool.noConfusion h, by decide +kernel⟩
set_option maxRecDepth 100000 in
theorem pk_70 : qd_one pd_70 := ⟨⟨pm_in (j := 4) (i := 190) rfl rfl, pm_in (j := 1) (i := 10) rfl rfl, plainFor_of_name pn_7, pe_7, ps_0, by decide⟩, 7, false, rfl, fun h => Bool.noConfusion h, by decide +kernel⟩
set_option maxRecDepth 100000 in
theorem pk_71 : qd_one pd_71 := ⟨⟨pm_in (j := 4) (i := 194) rfl rfl, pm_in (j := 1) (i := 10) rfl rfl, plainFor_of_name pn_7, pe_7, ps_0, by decide⟩, 7, false, rfl, fun h => Bool.noConfusion h, by decide +kernel⟩
set_option maxRecDepth 100000 in
theorem pk_72 : qd_one pd_72 := ⟨⟨pm_in (j := 4) (i := 197) rfl rfl, pm_in (j := 1) (i := 10) rfl rfl, plainFor_of_name pn_7, pe_7, ps_29, by decide⟩, 7, false, rfl, fun h => Bool.noConfusion h, by decide +kernel⟩
set_option maxRecDepth 100000 in
theorem pk_73 : qd_one pd_73 := ⟨⟨pm_in (j := 2) (i := 76) rfl rfl, pm_in (j := 1) (i := 11) rfl rfl, plainFor_of_name pn_8, pe_8, ps_0, by decide⟩, 8, true, rfl, fun _ => rfl, by decide +kernel⟩
set_option maxRecDepth 100000 in
theorem pk_74 : qd_one pd_74 := ⟨⟨pm_in (j := 3) (i := 15) rfl rfl, pm_in (j := 1) (i := 11) rfl rfl, plainFor_of_name pn_8, pe_8, ps_0, by decide⟩, 8, false, rfl, fun h => Bool.noConfusion h, by decide +kernel⟩
set_option maxRecDepth 100000 in
theorem pk_75 : qd_one pd_75 := ⟨⟨pm_in (j := 3) (i := 68) rfl rfl, pm_in (j := 1) (i := 11) rfl rfl, plainFor_of_name pn_8, pe_8, ps_21, by decide⟩, 8, false, rfl, fun h => Bool.noConfusion h, by decide +kernel⟩
set_option maxRecDepth 100000 in
theorem pk_76 : qd_one pd_76 := ⟨⟨pm_in (j := 3) (i := 80) rfl rfl, pm_in (j := 1) (i := 11) rfl rfl, plainFor_of_name pn_8, pe_8, ps_3, by decide⟩, 8, false, rfl, fun h => Bool.noConfusion h, by decide +kernel⟩
set_option maxRecDepth 100000 in
theorem pk_77 : qd_one pd_77 := ⟨⟨pm_in (j := 3) (i := 84) rfl rfl, pm_in (j := 1) (i := 11) rfl rfl, plainFor_of_name pn_8, pe_8, ps_3, by decide⟩, 8, false, rfl, fun h => Bool.noConfusion h, by decide +kernel⟩
set_option maxRecDepth 100000 in
theorem pk_78 : qd_one pd_78 := ⟨⟨pm_in (j := 3) (i := 88) rfl rfl, pm_in (j := 1) (i := 11) rfl rfl, plainFor_of_name pn_8, pe_8, ps_0, by decide⟩, 8, false, rfl, fun h => Bool.noConfusion h, by decide +kernel⟩
set_option maxRecDepth 100000 in
theorem pk_79 : qd_one pd_79 := ⟨⟨pm_in (j := 3) (i := 114) rfl rfl, pm_in (j := 1) (i := 11) rfl rfl, plainFor_of_name pn_8, pe_8, ps_30, by decide⟩, 8, false, rfl, fun h => Bool.noConfusion h, by decide +kernel⟩
set_option maxRecDepth 100000 in
theorem pk_80 : qd_one pd_80 := ⟨⟨pm_in (j := 3) (i := 110) rfl rfl, pm_in (j := 1) (i := 11) rfl rfl, plainFor_of_name pn_8, pe_8, ps_31, by decide⟩, 8, false, rfl, fun h => Bool.noConfusion h, by decide +kernel⟩
set_option maxRecDepth 100000 in
theorem pk_81 : qd_one pd_81 := ⟨⟨pm_in (j := 4) (i := 229) rfl rfl, pm_in (j := 1) (i := 11) rfl rfl, plainFor_of_name pn_8, pe_8, ps_22, by decide⟩, 8, false, rfl, fun h => Bool.noConfusion h, by decide +kernel⟩
set_option maxRecDepth 100000 in
theorem pk_82 : qd_one pd_82 := ⟨⟨pm_in (j := 3) (i := 99) rfl rfl, pm_in (j := 1) (i := 11) rfl rfl, plainFor_of_name pn_8, pe_8, ps_32, by decide⟩, 8, false, rfl, fun h => Bool.noConfusion h, by decide +kernel⟩
set_option maxRecDepth 100000 in
theorem pk_83 : qd_one pd_83 := ⟨⟨pm_in (j := 3) (i := 123) rfl rfl, pm_in (j := 1) (i := 11) rfl rfl, plainFor_of_name pn_8, pe_8, ps_32, by decide⟩, 8, false, rfl, fun h => Bool.noConfusion h, by decide +kernel⟩
set_option maxRecDepth 100000 in
theorem pk_84 : qd_one pd_84 := ⟨⟨pm_in (j := 3) (i := 102) rfl rfl, pm_in (j := 1) (i := 11) rfl rfl, plainFor_of_name pn_8, pe_8, ps_33, by decide⟩, 8, false, rfl, fun h => Bool.noConfusion h, by decide +kernel⟩
set_option maxRecDepth 100000 in
theorem pk_85 : qd_one pd_85 := ⟨⟨pm_in (j := 1) (i := 69) rfl rfl, pm_in (j := 1) (i := 3) rfl rfl, plainFor_of_name pn_9, pe_9, ps_0, by decide⟩, 9, true, rfl, fun _ => rfl, by decide +kernel⟩
set_option maxRecDepth 100000 in
theorem pk_86 : qd_one pd_86 := ⟨⟨pm_in (j := 3) (i := 139) rfl rfl, pm_in (j := 1) (i := 3) rfl rfl, plainFor_of_name pn_9, pe_9, ps_34, by decide⟩, 9, false, rfl, fun h => Bool.noConfusion h, by decide +kernel⟩
set_option maxRecDepth 100000 in
theorem pk_87 : qd_one pd_87 := ⟨⟨pm_in (j := 3) (i := 155) rfl rfl, pm_in (j := 1) (i := 3) rfl rfl, plainFor_of_name pn_9, pe_9, ps_21, by decide⟩, 9, false, rfl, fun h => Bool.noConfusion h, by decide +kernel⟩
set_option maxRecDepth 100000 in
theorem pk_88 : qd_one pd_88 := ⟨⟨pm_in (j := 4) (i := 36) rfl rfl, pm_in (j := 1) (i := 3) rfl rfl, plainFor_of_name pn_9, pe_9, ps_3, by decide⟩, 9, false, rfl, fun h => Bool.noConfusion h, by decide +kernel⟩
set_option maxRecDepth 100000 in
theorem pk_89 : qd_one pd_89 := ⟨⟨pm_in (j := 3) (i := 179) rfl rfl, pm_in (j := 1) (i := 3) rfl rfl, plainFor_of_name pn_9, pe_9, ps_3, by decide⟩, 9, false, rfl, fun h => Bool.noConfusion h, by decide +kernel⟩
set_option maxRecDepth 100000 in
theorem pk_90 : qd_one pd_90 := ⟨⟨pm_in (j := 3) (i := 171) rfl rfl, pm_in (j := 1) (i := 3) rfl rfl, plainFor_of_name pn_9, pe_9, ps_22, by decide⟩, 9, false, rfl, fun h => Bool.noConfusion h, by decide +kernel⟩
set_option maxRecDepth 100000 in
theorem pk_91 : qd_one pd_91 := ⟨⟨pm_in (j := 3) (i := 167) rfl rfl, pm_in (j := 1) (i := 3) rfl rfl, plainFor_of_name pn_9, pe_9, ps_0, by decide⟩, 9, false, rfl, fun h => Bool.noConfusion h, by decide +kernel⟩
set_option maxRecDepth 100000 in
theorem pk_92 : qd_one pd_92 := ⟨⟨pm_in (j := 3) (i := 163) rfl rfl, pm_in (j := 1) (i := 3) rfl rfl, plainFor_of_name pn_9, pe_9, ps_5, by decide⟩, 9, false, rfl, fun h => Bool.noConfusion h, by decide +kernel⟩
set_option maxRecDepth 100000 in
theorem pk_93 : qd_one pd_93 := ⟨⟨pm_in (j := 3) (i := 147) rfl rfl, pm_in (j := 1) (i := 3) rfl rfl, plainFor_of_name pn_9, pe_9, ps_0, by decide⟩, 9, false, rfl, fun h => Bool.noConfusion h, by decide +kernel⟩
set_option maxRecDepth 100000 in
theorem pk_94 : qd_one pd_94 := ⟨⟨pm_in (j := 3) (i := 151) rfl rfl, pm_in (j := 1) (i := 3) rfl rfl, plainFor_of_name pn_9, pe_9, ps_6, by decide⟩, 9, false, rfl, fun h => Bool.noConfusion h, by decide +kernel⟩
set_option maxRecDepth 100000 in
theorem pk_95 : qd_one pd_95 := ⟨⟨pm_in (j := 3) (i := 159) rfl rfl, pm_in (j := 1) (i := 3) rfl rfl, plainFor_of_name pn_9, pe_9, ps_3, by decide⟩, 9, false, rfl, fun h => Bool.noConfusion h, by decide +kernel⟩
set_option maxRecDepth 100000 in
theorem pk_96 : qd_one pd_96 := ⟨⟨pm_in (j := 3) (i := 183) rfl rfl, pm_in (j := 1) (i := 3) rfl rfl, plainFor_of_name pn_9, pe_9, ps_3, by decide⟩, 9, false, rfl, fun h => Bool.noConfusion h, by decide +kernel⟩
set_option maxRecDepth 100000 in
theorem pk_97 : qd_one pd_97 := ⟨⟨pm_in (j := 4) (i := 32) rfl rfl, pm_in (j := 1) (i := 3) rfl rfl, plainFor_of_name pn_9, pe_9, ps_22, by decide⟩, 9, false, rfl, fun h => Bool.noConfusion h, by decide +kernel⟩
set_option maxRecDepth 100000 in
theorem pk_98 : qd_one pd_98 := ⟨⟨pm_in (j := 5) (i := 65) rfl rfl, pm_in (j := 1) (i := 3) rfl rfl, plainFor_of_name pn_9, pe_9, ps_35, by decide⟩, 9, false, rfl, fun h => Bool.noConfusion h, by decide +kernel⟩
set_option maxRecDepth 100000 in
theorem pk_99 : qd_one pd_99 := ⟨⟨pm_in (j := 4) (i := 95) rfl rfl, pm_in (j := 1) (i := 3) rfl rfl, plainFor_of_name pn_9, pe_9, ps_36, by decide⟩, 9, false, rfl, fun h => Bool.noConfusion h, by decide +kernel⟩
set_option maxRecDepth 100000 in
theorem pk_100 : qd_one pd_100 := ⟨⟨pm_in (j := 4) (i := 101) rfl rfl, pm_in (j := 1) (i := 3) rfl rfl, plainFor_of_name pn_9, pe_9, ps_37, by decide⟩, 9, false, rfl, fun h => Bool.noConfusion h, by decide +kernel⟩
set_option maxRecDepth 100000 in
theorem pk_101 : qd_one pd_101 := ⟨⟨pm_in (j := 1) (i := 18) rfl rfl, pm_in (j := 1) (i := 1) rfl rfl, plainFor_of_name pn_10, pe_10, ps_0, by decide⟩, 10, true, rfl, fun _ => rfl, by decide +kernel⟩
set_option maxRecDepth 100000 in
theorem pk_102 : qd_one pd_102 := ⟨⟨pm_in (j := 2) (i := 232) rfl rfl, pm_in (j := 1) (i := 1) rfl rfl, plainFor_of_name pn_10, pe_10, ps_38, by decide⟩, 10, false, rfl, fun h => Bool.noConfusion h, by decide +kernel⟩
set_option maxRecDepth 100000 in
theorem pk_103 : qd_one pd_103 := ⟨⟨pm_in (j := 2) (i := 236) rfl rfl, pm_in (j := 1) (i := 1) rfl rfl, plainFor_of_name pn_10, pe_10, ps_25, by decide⟩, 10, false, rfl, fun h => Bool.noConfusion h, by decide +kernel⟩
set_option maxRecDepth 100000 in
theorem pk_104 : qd_one pd_104 := ⟨⟨pm_in (j := 3) (i := 0) rfl rfl, pm_in (j := 1) (i := 1) rfl rfl, plainFor_of_name pn_10, pe_10, ps_22, by decide⟩, 10, false, rfl, fun h => Bool.noConfusion h, by decide +kernel⟩
set_option maxRecDepth 100000 in
theorem pk_105 : qd_one pd_105 := ⟨⟨pm_in (j := 3) (i := 4) rfl rfl, pm_in (j := 1) (i := 1) rfl rfl, plainFor_of_name pn_10, pe_10, ps_5, by decide⟩, 10, false, rfl, fun h => Bool.noConfusion h, by decide +kernel⟩
set_option maxRecDepth 100000 in
theorem pk_106 : qd_one pd_106 := ⟨⟨pm_in (j := 3) (i := 235) rfl rfl, pm_in (j := 1) (i := 1) rfl rfl, plainFor_of_name pn_10, pe_10, ps_22, by decide⟩, 10, false, rfl, fun h => Bool.noConfusion h, by decide +kernel⟩
set_option maxRecDepth 100000 in
theorem pk_107 : qd_one pd_107 := ⟨⟨pm_in (j := 3) (i := 239) rfl rfl, pm_in (j := 1) (i := 1) rfl rfl, plainFor_of_name pn_10, pe_10, ps_28, by decide⟩, 10, false, rfl, fun h => Bool.noConfusion h, by decide +kernel⟩
set_option maxRecDepth 100000 in
theorem pk_108 : qd_one pd_108 := ⟨⟨pm_in (j := 4) (i := 3) rfl rfl, pm_in (j := 1) (i := 1) rfl rfl, plainFor_of_name pn_10, pe_10, ps_39, by decide⟩, 10, false, rfl, fun h => Bool.noConfusion h, by decide +kernel⟩
set_option maxRecDepth 100000 in
theorem pk_109 : qd_one pd_109 := ⟨⟨pm_in (j := 4) (i := 21) rfl rfl, pm_in (j := 1) (i := 1) rfl rfl, plainFor_of_name pn_10, pe_10, ps_28, by decide⟩, 10, false, rfl, fun h => Bool.noConfusion h, by decide +kernel⟩
set_option maxRecDepth 100000 in
theorem pk_110 : qd_one pd_110 := ⟨⟨pm_in (j := 4) (i := 28) rfl rfl, pm_in (j := 1) (i := 1) rfl rfl, plainFor_of_name pn_10, pe_10, ps_28, by decide⟩, 10, false, rfl, fun h => Bool.noConfusion h, by decide +kernel⟩
set_option maxRecDepth 100000 in
theorem pk_111 : qd_one pd_111 := ⟨⟨pm_in (j := 4) (i := 40) rfl rfl, pm_in (j := 1) (i := 1) rfl rfl, plainFor_of_name pn_10, pe_10, ps_22, by decide⟩, 10, false, rfl, fun h => Bool.noConfusion h, by decide +kernel⟩

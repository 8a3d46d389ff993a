/-! facts of fields and methods, told once -/
def oN (o : Nat) : String := match o with
  | 0 => RX0
  | 1 => RX1
  | 2 => RX2
  | 3 => RX3
  | 4 => RX4
  | 5 => RX5
  | 6 => RX6
  | 7 => RX7
  | 8 => RX8
  | 9 => RX9
  | 10 => RX10
  | 11 => RX11
  | 12 => RJ9
  | _ => RL
theorem pm_in {j i : Nat} {w : Cond} (h : pm_nth (pm_chunk j) i = some w) (s : pm_stb w = true) : w ∈ pm_TB := by
  rw [pm_nth_eq] at h
  exact List.mem_filter.mpr ⟨pm_chunk_in (List.mem_of_getElem? h), s⟩
def pf_P (f : Nat × Nat × Nat × Nat) : Prop := ∃ (C : String) (T : u_T) (N : Nat), vwCl[f.2.2.1]? = some (C, T, N) ∧ f.2.2.2 < N ∧ Jvm.Cond.fieldLink (oN f.1) f.2.1 (T f.2.2.2).1 (T f.2.2.2).2.1 (T f.2.2.2).2.2.1 ∈ pm_TB
def qp_P (f : Nat × Nat × Nat × Int × Bool) : Prop := ∃ (C : String) (T : u_T) (N : Nat) (ty : FieldType), vwCl[f.2.1]? = some (C, T, N) ∧ parseFieldDescriptor (T f.2.2.1).2.2.1 = some ty ∧ pm_tyc ty = f.2.2.2.1 ∧ ((T f.2.2.1).2.2.2 = true → f.2.2.2.2 = true ∧ (T f.2.2.1).1 = oN f.1)
def mf_K (TB : List Cond) (y : MethodName) (rt : Option FieldType) (ci : Nat) (k : Nat) : Prop := match k with
  | 0 => Jvm.Cond.static y ∈ TB
  | 1 => Jvm.Cond.instanceMethod y ∈ TB ∧ (∃ (T : u_T) (N : Nat), vwCl[ci]? = some (y.cls, T, N) ∧ Jvm.Cond.selects y.cls y y ∈ TB)
  | _ => rt = none ∧ y.name = "<init>" ∧ Jvm.Cond.instanceMethod y ∈ TB
def mf_P (f : Nat × Nat × Nat × Nat) : Prop := ∃ (y : MethodName) (bytes : ByteArray) (nL : Nat) (rt : Option FieldType) (na ci : Nat), pm_msT pm_tab f.2.2.1 = some (y, bytes, nL, rt, na, ci) ∧ pm_lnk pm_TB (oN f.1) f.2.1 y ∧ mf_K pm_TB y rt ci f.2.2.2
def pf_0 : List (Nat × Nat × Nat × Nat) := [(0, 13, 0, 3), (0, 16, 0, 2), (0, 20, 0, 0), (0, 23, 0, 1), (1, 9, 1, 0), (1, 15, 1, 1), (1, 19, 1, 2), (1, 23, 8, 1), (1, 39, 8, 0), (2, 9, 2, 0), (2, 15, 2, 1), (2, 19, 2, 2), (2, 22, 2, 3), (2, 26, 2, 4), (2, 29, 8, 0), (2, 38, 8, 6)]
theorem pf_0_0 : pf_P (0, 13, 0, 3) := ⟨_, _, _, rfl, by decide, pm_in (j := 2) (i := 26) rfl rfl⟩
theorem pf_0_1 : pf_P (0, 16, 0, 2) := ⟨_, _, _, rfl, by decide, pm_in (j := 2) (i := 25) rfl rfl⟩
theorem pf_0_2 : pf_P (0, 20, 0, 0) := ⟨_, _, _, rfl, by decide, pm_in (j := 2) (i := 21) rfl rfl⟩
theorem pf_0_3 : pf_P (0, 23, 0, 1) := ⟨_, _, _, rfl, by decide, pm_in (j := 2) (i := 23) rfl rfl⟩
theorem pf_0_4 : pf_P (1, 9, 1, 0) := ⟨_, _, _, rfl, by decide, pm_in (j := 1) (i := 219) rfl rfl⟩
theorem pf_0_5 : pf_P (1, 15, 1, 1) := ⟨_, _, _, rfl, by decide, pm_in (j := 1) (i := 221) rfl rfl⟩
theorem pf_0_6 : pf_P (1, 19, 1, 2) := ⟨_, _, _, rfl, by decide, pm_in (j := 1) (i := 222) rfl rfl⟩
theorem pf_0_7 : pf_P (1, 23, 8, 1) := ⟨_, _, _, rfl, by decide, pm_in (j := 2) (i := 89) rfl rfl⟩
theorem pf_0_8 : pf_P (1, 39, 8, 0) := ⟨_, _, _, rfl, by decide, pm_in (j := 2) (i := 84) rfl rfl⟩
theorem pf_0_9 : pf_P (2, 9, 2, 0) := ⟨_, _, _, rfl, by decide, pm_in (j := 1) (i := 236) rfl rfl⟩
theorem pf_0_10 : pf_P (2, 15, 2, 1) := ⟨_, _, _, rfl, by decide, pm_in (j := 1) (i := 238) rfl rfl⟩
theorem pf_0_11 : pf_P (2, 19, 2, 2) := ⟨_, _, _, rfl, by decide, pm_in (j := 1) (i := 239) rfl rfl⟩
theorem pf_0_12 : pf_P (2, 22, 2, 3) := ⟨_, _, _, rfl, by decide, pm_in (j := 2) (i := 0) rfl rfl⟩
theorem pf_0_13 : pf_P (2, 26, 2, 4) := ⟨_, _, _, rfl, by decide, pm_in (j := 2) (i := 1) rfl rfl⟩
theorem pf_0_14 : pf_P (2, 29, 8, 0) := ⟨_, _, _, rfl, by decide, pm_in (j := 2) (i := 82) rfl rfl⟩
theorem pf_0_15 : pf_P (2, 38, 8, 6) := ⟨_, _, _, rfl, by decide, pm_in (j := 2) (i := 109) rfl rfl⟩
theorem pf_0_ok : ∀ f ∈ pf_0, pf_P f := List.forall_mem_cons.mpr ⟨pf_0_0, List.forall_mem_cons.mpr ⟨pf_0_1, List.forall_mem_cons.mpr ⟨pf_0_2, List.forall_mem_cons.mpr ⟨pf_0_3, List.forall_mem_cons.mpr ⟨pf_0_4, List.forall_mem_cons.mpr ⟨pf_0_5, List.forall_mem_cons.mpr ⟨pf_0_6, List.forall_mem_cons.mpr ⟨pf_0_7, List.forall_mem_cons.mpr ⟨pf_0_8, List.forall_mem_cons.mpr ⟨pf_0_9, List.forall_mem_cons.mpr ⟨pf_0_10, List.forall_mem_cons.mpr ⟨pf_0_11, List.forall_mem_cons.mpr ⟨pf_0_12, List.forall_mem_cons.mpr ⟨pf_0_13, List.forall_mem_cons.mpr ⟨pf_0_14, List.forall_mem_cons.mpr ⟨pf_0_15, fun _ h => absurd h List.not_mem_nil⟩⟩⟩⟩⟩⟩⟩⟩⟩⟩⟩⟩⟩⟩⟩⟩
def pf_1 : List (Nat × Nat × Nat × Nat) := [(2, 41, 8, 5), (3, 12, 3, 0), (3, 20, 3, 1), (3, 25, 3, 2), (3, 29, 8, 3), (3, 43, 5, 0), (3, 46, 8, 4), (3, 49, 8, 14), (3, 53, 8, 15), (3, 67, 5, 4), (3, 70, 5, 5), (3, 79, 5, 2), (3, 82, 5, 3), (3, 89, 8, 16), (3, 107, 5, 1), (3, 110, 5, 6)]
theorem pf_1_0 : pf_P (2, 41, 8, 5) := ⟨_, _, _, rfl, by decide, pm_in (j := 2) (i := 106) rfl rfl⟩
theorem pf_1_1 : pf_P (3, 12, 3, 0) := ⟨_, _, _, rfl, by decide, pm_in (j := 1) (i := 203) rfl rfl⟩
theorem pf_1_2 : pf_P (3, 20, 3, 1) := ⟨_, _, _, rfl, by decide, pm_in (j := 1) (i := 204) rfl rfl⟩
theorem pf_1_3 : pf_P (3, 25, 3, 2) := ⟨_, _, _, rfl, by decide, pm_in (j := 1) (i := 205) rfl rfl⟩
theorem pf_1_4 : pf_P (3, 29, 8, 3) := ⟨_, _, _, rfl, by decide, pm_in (j := 2) (i := 96) rfl rfl⟩
theorem pf_1_5 : pf_P (3, 43, 5, 0) := ⟨_, _, _, rfl, by decide, pm_in (j := 1) (i := 172) rfl rfl⟩
theorem pf_1_6 : pf_P (3, 46, 8, 4) := ⟨_, _, _, rfl, by decide, pm_in (j := 2) (i := 101) rfl rfl⟩
theorem pf_1_7 : pf_P (3, 49, 8, 14) := ⟨_, _, _, rfl, by decide, pm_in (j := 2) (i := 127) rfl rfl⟩
theorem pf_1_8 : pf_P (3, 53, 8, 15) := ⟨_, _, _, rfl, by decide, pm_in (j := 2) (i := 130) rfl rfl⟩
theorem pf_1_9 : pf_P (3, 67, 5, 4) := ⟨_, _, _, rfl, by decide, pm_in (j := 1) (i := 181) rfl rfl⟩
theorem pf_1_10 : pf_P (3, 70, 5, 5) := ⟨_, _, _, rfl, by decide, pm_in (j := 1) (i := 183) rfl rfl⟩
theorem pf_1_11 : pf_P (3, 79, 5, 2) := ⟨_, _, _, rfl, by decide, pm_in (j := 1) (i := 177) rfl rfl⟩
theorem pf_1_12 : pf_P (3, 82, 5, 3) := ⟨_, _, _, rfl, by decide, pm_in (j := 1) (i := 179) rfl rfl⟩
theorem pf_1_13 : pf_P (3, 89, 8, 16) := ⟨_, _, _, rfl, by decide, pm_in (j := 2) (i := 133) rfl rfl⟩
theorem pf_1_14 : pf_P (3, 107, 5, 1) := ⟨_, _, _, rfl, by decide, pm_in (j := 1) (i := 175) rfl rfl⟩
theorem pf_1_15 : pf_P (3, 110, 5, 6) := ⟨_, _, _, rfl, by decide, pm_in (j := 1) (i := 187) rfl rfl⟩
theorem pf_1_ok : ∀ f ∈ pf_1, pf_P f := List.forall_mem_cons.mpr ⟨pf_1_0, List.forall_mem_cons.mpr ⟨pf_1_1, List.forall_mem_cons.mpr ⟨pf_1_2, List.forall_mem_cons.mpr ⟨pf_1_3, List.forall_mem_cons.mpr ⟨pf_1_4, List.forall_mem_cons.mpr ⟨pf_1_5, List.forall_mem_cons.mpr ⟨pf_1_6, List.forall_mem_cons.mpr ⟨pf_1_7, List.forall_mem_cons.mpr ⟨pf_1_8, List.forall_mem_cons.mpr ⟨pf_1_9, List.forall_mem_cons.mpr ⟨pf_1_10, List.forall_mem_cons.mpr ⟨pf_1_11, List.forall_mem_cons.mpr ⟨pf_1_12, List.forall_mem_cons.mpr ⟨pf_1_13, List.forall_mem_cons.mpr ⟨pf_1_14, List.forall_mem_cons.mpr ⟨pf_1_15, fun _ h => absurd h List.not_mem_nil⟩⟩⟩⟩⟩⟩⟩⟩⟩⟩⟩⟩⟩⟩⟩⟩
def pf_2 : List (Nat × Nat × Nat × Nat) := [(4, 9, 4, 2), (4, 21, 4, 3), (4, 25, 4, 4), (4, 34, 4, 0), (4, 37, 4, 1), (4, 40, 4, 5), (4, 44, 4, 6), (4, 50, 4, 7), (4, 69, 4, 8), (4, 79, 8, 0), (4, 89, 4, 9), (4, 92, 8, 8), (4, 99, 8, 3), (4, 102, 4, 10), (4, 113, 8, 11), (4, 117, 8, 1)]
theorem pf_2_0 : pf_P (4, 9, 4, 2) := ⟨_, _, _, rfl, by decide, pm_in (j := 1) (i := 32) rfl rfl⟩
theorem pf_2_1 : pf_P (4, 21, 4, 3) := ⟨_, _, _, rfl, by decide, pm_in (j := 1) (i := 33) rfl rfl⟩
theorem pf_2_2 : pf_P (4, 25, 4, 4) := ⟨_, _, _, rfl, by decide, pm_in (j := 1) (i := 34) rfl rfl⟩
theorem pf_2_3 : pf_P (4, 34, 4, 0) := ⟨_, _, _, rfl, by decide, pm_in (j := 1) (i := 28) rfl rfl⟩
theorem pf_2_4 : pf_P (4, 37, 4, 1) := ⟨_, _, _, rfl, by decide, pm_in (j := 1) (i := 30) rfl rfl⟩
theorem pf_2_5 : pf_P (4, 40, 4, 5) := ⟨_, _, _, rfl, by decide, pm_in (j := 1) (i := 35) rfl rfl⟩
theorem pf_2_6 : pf_P (4, 44, 4, 6) := ⟨_, _, _, rfl, by decide, pm_in (j := 1) (i := 36) rfl rfl⟩
theorem pf_2_7 : pf_P (4, 50, 4, 7) := ⟨_, _, _, rfl, by decide, pm_in (j := 1) (i := 37) rfl rfl⟩
theorem pf_2_8 : pf_P (4, 69, 4, 8) := ⟨_, _, _, rfl, by decide, pm_in (j := 1) (i := 38) rfl rfl⟩
theorem pf_2_9 : pf_P (4, 79, 8, 0) := ⟨_, _, _, rfl, by decide, pm_in (j := 2) (i := 85) rfl rfl⟩
theorem pf_2_10 : pf_P (4, 89, 4, 9) := ⟨_, _, _, rfl, by decide, pm_in (j := 1) (i := 39) rfl rfl⟩
theorem pf_2_11 : pf_P (4, 92, 8, 8) := ⟨_, _, _, rfl, by decide, pm_in (j := 2) (i := 114) rfl rfl⟩
theorem pf_2_12 : pf_P (4, 99, 8, 3) := ⟨_, _, _, rfl, by decide, pm_in (j := 2) (i := 99) rfl rfl⟩
theorem pf_2_13 : pf_P (4, 102, 4, 10) := ⟨_, _, _, rfl, by decide, pm_in (j := 1) (i := 40) rfl rfl⟩
theorem pf_2_14 : pf_P (4, 113, 8, 11) := ⟨_, _, _, rfl, by decide, pm_in (j := 2) (i := 120) rfl rfl⟩
theorem pf_2_15 : pf_P (4, 117, 8, 1) := ⟨_, _, _, rfl, by decide, pm_in (j := 2) (i := 92) rfl rfl⟩
theorem pf_2_ok : ∀ f ∈ pf_2, pf_P f := List.forall_mem_cons.mpr ⟨pf_2_0, List.forall_mem_cons.mpr ⟨pf_2_1, List.forall_mem_cons.mpr ⟨pf_2_2, List.forall_mem_cons.mpr ⟨pf_2_3, List.forall_mem_cons.mpr ⟨pf_2_4, List.forall_mem_cons.mpr ⟨pf_2_5, List.forall_mem_cons.mpr ⟨pf_2_6, List.forall_mem_cons.mpr ⟨pf_2_7, List.forall_mem_cons.mpr ⟨pf_2_8, List.forall_mem_cons.mpr ⟨pf_2_9, List.forall_mem_cons.mpr ⟨pf_2_10, List.forall_mem_cons.mpr ⟨pf_2_11, List.forall_mem_cons.mpr ⟨pf_2_12, List.forall_mem_cons.mpr ⟨pf_2_13, List.forall_mem_cons.mpr ⟨pf_2_14, List.forall_mem_cons.mpr ⟨pf_2_15, fun _ h => absurd h List.not_mem_nil⟩⟩⟩⟩⟩⟩⟩⟩⟩⟩⟩⟩⟩⟩⟩⟩
def pf_3 : List (Nat × Nat × Nat × Nat) := [(4, 124, 8, 12), (4, 128, 8, 4), (4, 138, 8, 13), (4, 141, 8, 14), (4, 144, 8, 15), (4, 148, 8, 16), (5, 11, 5, 6), (6, 9, 6, 0), (6, 15, 6, 1), (6, 18, 6, 2), (6, 21, 6, 3), (6, 25, 5, 1), (6, 31, 5, 0), (6, 34, 8, 11), (6, 53, 8, 0), (6, 56, 6, 4)]
theorem pf_3_0 : pf_P (4, 124, 8, 12) := ⟨_, _, _, rfl, by decide, pm_in (j := 2) (i := 123) rfl rfl⟩
theorem pf_3_1 : pf_P (4, 128, 8, 4) := ⟨_, _, _, rfl, by decide, pm_in (j := 2) (i := 102) rfl rfl⟩
theorem pf_3_2 : pf_P (4, 138, 8, 13) := ⟨_, _, _, rfl, by decide, pm_in (j := 2) (i := 125) rfl rfl⟩
theorem pf_3_3 : pf_P (4, 141, 8, 14) := ⟨_, _, _, rfl, by decide, pm_in (j := 2) (i := 128) rfl rfl⟩
theorem pf_3_4 : pf_P (4, 144, 8, 15) := ⟨_, _, _, rfl, by decide, pm_in (j := 2) (i := 131) rfl rfl⟩
theorem pf_3_5 : pf_P (4, 148, 8, 16) := ⟨_, _, _, rfl, by decide, pm_in (j := 2) (i := 134) rfl rfl⟩
theorem pf_3_6 : pf_P (5, 11, 5, 6) := ⟨_, _, _, rfl, by decide, pm_in (j := 1) (i := 185) rfl rfl⟩
theorem pf_3_7 : pf_P (6, 9, 6, 0) := ⟨_, _, _, rfl, by decide, pm_in (j := 1) (i := 130) rfl rfl⟩
theorem pf_3_8 : pf_P (6, 15, 6, 1) := ⟨_, _, _, rfl, by decide, pm_in (j := 1) (i := 131) rfl rfl⟩
theorem pf_3_9 : pf_P (6, 18, 6, 2) := ⟨_, _, _, rfl, by decide, pm_in (j := 1) (i := 132) rfl rfl⟩
theorem pf_3_10 : pf_P (6, 21, 6, 3) := ⟨_, _, _, rfl, by decide, pm_in (j := 1) (i := 133) rfl rfl⟩
theorem pf_3_11 : pf_P (6, 25, 5, 1) := ⟨_, _, _, rfl, by decide, pm_in (j := 1) (i := 174) rfl rfl⟩
theorem pf_3_12 : pf_P (6, 31, 5, 0) := ⟨_, _, _, rfl, by decide, pm_in (j := 1) (i := 171) rfl rfl⟩
theorem pf_3_13 : pf_P (6, 34, 8, 11) := ⟨_, _, _, rfl, by decide, pm_in (j := 2) (i := 119) rfl rfl⟩
theorem pf_3_14 : pf_P (6, 53, 8, 0) := ⟨_, _, _, rfl, by decide, pm_in (j := 2) (i := 83) rfl rfl⟩
theorem pf_3_15 : pf_P (6, 56, 6, 4) := ⟨_, _, _, rfl, by decide, pm_in (j := 1) (i := 134) rfl rfl⟩
theorem pf_3_ok : ∀ f ∈ pf_3, pf_P f := List.forall_mem_cons.mpr ⟨pf_3_0, List.forall_mem_cons.mpr ⟨pf_3_1, List.forall_mem_cons.mpr ⟨pf_3_2, List.forall_mem_cons.mpr ⟨pf_3_3, List.forall_mem_cons.mpr ⟨pf_3_4, List.forall_mem_cons.mpr ⟨pf_3_5, List.forall_mem_cons.mpr ⟨pf_3_6, List.forall_mem_cons.mpr ⟨pf_3_7, List.forall_mem_cons.mpr ⟨pf_3_8, List.forall_mem_cons.mpr ⟨pf_3_9, List.forall_mem_cons.mpr ⟨pf_3_10, List.forall_mem_cons.mpr ⟨pf_3_11, List.forall_mem_cons.mpr ⟨pf_3_12, List.forall_mem_cons.mpr ⟨pf_3_13, List.forall_mem_cons.mpr ⟨pf_3_14, List.forall_mem_cons.mpr ⟨pf_3_15, fun _ h => absurd h List.not_mem_nil⟩⟩⟩⟩⟩⟩⟩⟩⟩⟩⟩⟩⟩⟩⟩⟩
def pf_4 : List (Nat × Nat × Nat × Nat) := [(6, 59, 8, 1), (6, 62, 6, 5), (6, 63, 8, 5), (6, 82, 5, 6), (6, 85, 6, 6), (6, 88, 6, 7), (6, 91, 6, 8), (6, 94, 6, 9), (6, 107, 6, 10), (6, 124, 5, 3), (6, 127, 5, 2), (6, 130, 5, 5), (6, 133, 5, 4), (7, 9, 7, 2), (7, 15, 7, 3), (7, 20, 7, 5)]
theorem pf_4_0 : pf_P (6, 59, 8, 1) := ⟨_, _, _, rfl, by decide, pm_in (j := 2) (i := 90) rfl rfl⟩
theorem pf_4_1 : pf_P (6, 62, 6, 5) := ⟨_, _, _, rfl, by decide, pm_in (j := 1) (i := 135) rfl rfl⟩
theorem pf_4_2 : pf_P (6, 63, 8, 5) := ⟨_, _, _, rfl, by decide, pm_in (j := 2) (i := 105) rfl rfl⟩
theorem pf_4_3 : pf_P (6, 82, 5, 6) := ⟨_, _, _, rfl, by decide, pm_in (j := 1) (i := 186) rfl rfl⟩
theorem pf_4_4 : pf_P (6, 85, 6, 6) := ⟨_, _, _, rfl, by decide, pm_in (j := 1) (i := 136) rfl rfl⟩
theorem pf_4_5 : pf_P (6, 88, 6, 7) := ⟨_, _, _, rfl, by decide, pm_in (j := 1) (i := 137) rfl rfl⟩
theorem pf_4_6 : pf_P (6, 91, 6, 8) := ⟨_, _, _, rfl, by decide, pm_in (j := 1) (i := 138) rfl rfl⟩
theorem pf_4_7 : pf_P (6, 94, 6, 9) := ⟨_, _, _, rfl, by decide, pm_in (j := 1) (i := 139) rfl rfl⟩
theorem pf_4_8 : pf_P (6, 107, 6, 10) := ⟨_, _, _, rfl, by decide, pm_in (j := 1) (i := 140) rfl rfl⟩
theorem pf_4_9 : pf_P (6, 124, 5, 3) := ⟨_, _, _, rfl, by decide, pm_in (j := 1) (i := 180) rfl rfl⟩
theorem pf_4_10 : pf_P (6, 127, 5, 2) := ⟨_, _, _, rfl, by decide, pm_in (j := 1) (i := 178) rfl rfl⟩
theorem pf_4_11 : pf_P (6, 130, 5, 5) := ⟨_, _, _, rfl, by decide, pm_in (j := 1) (i := 184) rfl rfl⟩
theorem pf_4_12 : pf_P (6, 133, 5, 4) := ⟨_, _, _, rfl, by decide, pm_in (j := 1) (i := 182) rfl rfl⟩
theorem pf_4_13 : pf_P (7, 9, 7, 2) := ⟨_, _, _, rfl, by decide, pm_in (j := 2) (i := 45) rfl rfl⟩
theorem pf_4_14 : pf_P (7, 15, 7, 3) := ⟨_, _, _, rfl, by decide, pm_in (j := 2) (i := 46) rfl rfl⟩
theorem pf_4_15 : pf_P (7, 20, 7, 5) := ⟨_, _, _, rfl, by decide, pm_in (j := 2) (i := 48) rfl rfl⟩
theorem pf_4_ok : ∀ f ∈ pf_4, pf_P f := List.forall_mem_cons.mpr ⟨pf_4_0, List.forall_mem_cons.mpr ⟨pf_4_1, List.forall_mem_cons.mpr ⟨pf_4_2, List.forall_mem_cons.mpr ⟨pf_4_3, List.forall_mem_cons.mpr ⟨pf_4_4, List.forall_mem_cons.mpr ⟨pf_4_5, List.forall_mem_cons.mpr ⟨pf_4_6, List.forall_mem_cons.mpr ⟨pf_4_7, List.forall_mem_cons.mpr ⟨pf_4_8, List.forall_mem_cons.mpr ⟨pf_4_9, List.forall_mem_cons.mpr ⟨pf_4_10, List.forall_mem_cons.mpr ⟨pf_4_11, List.forall_mem_cons.mpr ⟨pf_4_12, List.forall_mem_cons.mpr ⟨pf_4_13, List.forall_mem_cons.mpr ⟨pf_4_14, List.forall_mem_cons.mpr ⟨pf_4_15, fun _ h => absurd h List.not_mem_nil⟩⟩⟩⟩⟩⟩⟩⟩⟩⟩⟩⟩⟩⟩⟩⟩
def pf_5 : List (Nat × Nat × Nat × Nat) := [(7, 23, 7, 6), (7, 26, 7, 7), (7, 30, 7, 8), (7, 33, 7, 1), (7, 36, 7, 4), (8, 9, 8, 5), (8, 15, 8, 6), (8, 18, 8, 7), (8, 21, 8, 8), (8, 24, 8, 9), (8, 27, 8, 10), (8, 32, 8, 11), (8, 35, 8, 12), (8, 39, 8, 13), (8, 42, 8, 14), (8, 47, 8, 15)]
theorem pf_5_0 : pf_P (7, 23, 7, 6) := ⟨_, _, _, rfl, by decide, pm_in (j := 2) (i := 49) rfl rfl⟩
theorem pf_5_1 : pf_P (7, 26, 7, 7) := ⟨_, _, _, rfl, by decide, pm_in (j := 2) (i := 50) rfl rfl⟩
theorem pf_5_2 : pf_P (7, 30, 7, 8) := ⟨_, _, _, rfl, by decide, pm_in (j := 2) (i := 51) rfl rfl⟩
theorem pf_5_3 : pf_P (7, 33, 7, 1) := ⟨_, _, _, rfl, by decide, pm_in (j := 2) (i := 44) rfl rfl⟩
theorem pf_5_4 : pf_P (7, 36, 7, 4) := ⟨_, _, _, rfl, by decide, pm_in (j := 2) (i := 47) rfl rfl⟩
theorem pf_5_5 : pf_P (8, 9, 8, 5) := ⟨_, _, _, rfl, by decide, pm_in (j := 2) (i := 104) rfl rfl⟩
theorem pf_5_6 : pf_P (8, 15, 8, 6) := ⟨_, _, _, rfl, by decide, pm_in (j := 2) (i := 108) rfl rfl⟩
theorem pf_5_7 : pf_P (8, 18, 8, 7) := ⟨_, _, _, rfl, by decide, pm_in (j := 2) (i := 111) rfl rfl⟩
theorem pf_5_8 : pf_P (8, 21, 8, 8) := ⟨_, _, _, rfl, by decide, pm_in (j := 2) (i := 113) rfl rfl⟩
theorem pf_5_9 : pf_P (8, 24, 8, 9) := ⟨_, _, _, rfl, by decide, pm_in (j := 2) (i := 115) rfl rfl⟩
theorem pf_5_10 : pf_P (8, 27, 8, 10) := ⟨_, _, _, rfl, by decide, pm_in (j := 2) (i := 117) rfl rfl⟩
theorem pf_5_11 : pf_P (8, 32, 8, 11) := ⟨_, _, _, rfl, by decide, pm_in (j := 2) (i := 118) rfl rfl⟩
theorem pf_5_12 : pf_P (8, 35, 8, 12) := ⟨_, _, _, rfl, by decide, pm_in (j := 2) (i := 122) rfl rfl⟩
theorem pf_5_13 : pf_P (8, 39, 8, 13) := ⟨_, _, _, rfl, by decide, pm_in (j := 2) (i := 124) rfl rfl⟩
theorem pf_5_14 : pf_P (8, 42, 8, 14) := ⟨_, _, _, rfl, by decide, pm_in (j := 2) (i := 126) rfl rfl⟩
theorem pf_5_15 : pf_P (8, 47, 8, 15) := ⟨_, _, _, rfl, by decide, pm_in (j := 2) (i := 129) rfl rfl⟩
theorem pf_5_ok : ∀ f ∈ pf_5, pf_P f := List.forall_mem_cons.mpr ⟨pf_5_0, List.forall_mem_cons.mpr ⟨pf_5_1, List.forall_mem_cons.mpr ⟨pf_5_2, List.forall_mem_cons.mpr ⟨pf_5_3, List.forall_mem_cons.mpr ⟨pf_5_4, List.forall_mem_cons.mpr ⟨pf_5_5, List.forall_mem_cons.mpr ⟨pf_5_6, List.forall_mem_cons.mpr ⟨pf_5_7, List.forall_mem_cons.mpr ⟨pf_5_8, List.forall_mem_cons.mpr ⟨pf_5_9, List.forall_mem_cons.mpr ⟨pf_5_10, List.forall_mem_cons.mpr ⟨pf_5_11, List.forall_mem_cons.mpr ⟨pf_5_12, List.forall_mem_cons.mpr ⟨pf_5_13, List.forall_mem_cons.mpr ⟨pf_5_14, List.forall_mem_cons.mpr ⟨pf_5_15, fun _ h => absurd h List.not_mem_nil⟩⟩⟩⟩⟩⟩⟩⟩⟩⟩⟩⟩⟩⟩⟩⟩
def pf_6 : List (Nat × Nat × Nat × Nat) := [(8, 50, 8, 16), (8, 53, 8, 0), (8, 57, 8, 1), (8, 60, 8, 2), (8, 63, 8, 3), (8, 66, 8, 4), (9, 11, 9, 2), (9, 15, 9, 3), (9, 19, 9, 4), (9, 22, 9, 5), (9, 25, 9, 6), (9, 28, 9, 7), (9, 32, 9, 8), (9, 42, 9, 9), (9, 45, 9, 10), (9, 48, 9, 11)]
theorem pf_6_0 : pf_P (8, 50, 8, 16) := ⟨_, _, _, rfl, by decide, pm_in (j := 2) (i := 132) rfl rfl⟩
theorem pf_6_1 : pf_P (8, 53, 8, 0) := ⟨_, _, _, rfl, by decide, pm_in (j := 2) (i := 81) rfl rfl⟩
theorem pf_6_2 : pf_P (8, 57, 8, 1) := ⟨_, _, _, rfl, by decide, pm_in (j := 2) (i := 88) rfl rfl⟩
theorem pf_6_3 : pf_P (8, 60, 8, 2) := ⟨_, _, _, rfl, by decide, pm_in (j := 2) (i := 94) rfl rfl⟩
theorem pf_6_4 : pf_P (8, 63, 8, 3) := ⟨_, _, _, rfl, by decide, pm_in (j := 2) (i := 97) rfl rfl⟩
theorem pf_6_5 : pf_P (8, 66, 8, 4) := ⟨_, _, _, rfl, by decide, pm_in (j := 2) (i := 100) rfl rfl⟩
theorem pf_6_6 : pf_P (9, 11, 9, 2) := ⟨_, _, _, rfl, by decide, pm_in (j := 1) (i := 75) rfl rfl⟩
theorem pf_6_7 : pf_P (9, 15, 9, 3) := ⟨_, _, _, rfl, by decide, pm_in (j := 1) (i := 76) rfl rfl⟩
theorem pf_6_8 : pf_P (9, 19, 9, 4) := ⟨_, _, _, rfl, by decide, pm_in (j := 1) (i := 77) rfl rfl⟩
theorem pf_6_9 : pf_P (9, 22, 9, 5) := ⟨_, _, _, rfl, by decide, pm_in (j := 1) (i := 78) rfl rfl⟩
theorem pf_6_10 : pf_P (9, 25, 9, 6) := ⟨_, _, _, rfl, by decide, pm_in (j := 1) (i := 79) rfl rfl⟩
theorem pf_6_11 : pf_P (9, 28, 9, 7) := ⟨_, _, _, rfl, by decide, pm_in (j := 1) (i := 80) rfl rfl⟩
theorem pf_6_12 : pf_P (9, 32, 9, 8) := ⟨_, _, _, rfl, by decide, pm_in (j := 1) (i := 81) rfl rfl⟩
theorem pf_6_13 : pf_P (9, 42, 9, 9) := ⟨_, _, _, rfl, by decide, pm_in (j := 1) (i := 82) rfl rfl⟩
theorem pf_6_14 : pf_P (9, 45, 9, 10) := ⟨_, _, _, rfl, by decide, pm_in (j := 1) (i := 83) rfl rfl⟩
theorem pf_6_15 : pf_P (9, 48, 9, 11) := ⟨_, _, _, rfl, by decide, pm_in (j := 1) (i := 84) rfl rfl⟩
theorem pf_6_ok : ∀ f ∈ pf_6, pf_P f := List.forall_mem_cons.mpr ⟨pf_6_0, List.forall_mem_cons.mpr ⟨pf_6_1, List.forall_mem_cons.mpr ⟨pf_6_2, List.forall_mem_cons.mpr ⟨pf_6_3, List.forall_mem_cons.mpr ⟨pf_6_4, List.forall_mem_cons.mpr ⟨pf_6_5, List.forall_mem_cons.mpr ⟨pf_6_6, List.forall_mem_cons.mpr ⟨pf_6_7, List.forall_mem_cons.mpr ⟨pf_6_8, List.forall_mem_cons.mpr ⟨pf_6_9, List.forall_mem_cons.mpr ⟨pf_6_10, List.forall_mem_cons.mpr ⟨pf_6_11, List.forall_mem_cons.mpr ⟨pf_6_12, List.forall_mem_cons.mpr ⟨pf_6_13, List.forall_mem_cons.mpr ⟨pf_6_14, List.forall_mem_cons.mpr ⟨pf_6_15, fun _ h => absurd h List.not_mem_nil⟩⟩⟩⟩⟩⟩⟩⟩⟩⟩⟩⟩⟩⟩⟩⟩
def pf_7 : List (Nat × Nat × Nat × Nat) := [(9, 51, 9, 12), (9, 54, 8, 1), (9, 59, 8, 9), (9, 66, 8, 5), (9, 69, 8, 6), (9, 82, 9, 13), (9, 86, 9, 0), (9, 89, 9, 1), (9, 122, 8, 0), (10, 9, 10, 0), (10, 16, 10, 1), (10, 23, 10, 2), (10, 30, 10, 3), (10, 37, 10, 4), (10, 44, 10, 5), (10, 51, 10, 6)]
theorem pf_7_0 : pf_P (9, 51, 9, 12) := ⟨_, _, _, rfl, by decide, pm_in (j := 1) (i := 85) rfl rfl⟩
theorem pf_7_1 : pf_P (9, 54, 8, 1) := ⟨_, _, _, rfl, by decide, pm_in (j := 2) (i := 91) rfl rfl⟩
theorem pf_7_2 : pf_P (9, 59, 8, 9) := ⟨_, _, _, rfl, by decide, pm_in (j := 2) (i := 116) rfl rfl⟩
theorem pf_7_3 : pf_P (9, 66, 8, 5) := ⟨_, _, _, rfl, by decide, pm_in (j := 2) (i := 107) rfl rfl⟩
theorem pf_7_4 : pf_P (9, 69, 8, 6) := ⟨_, _, _, rfl, by decide, pm_in (j := 2) (i := 110) rfl rfl⟩
theorem pf_7_5 : pf_P (9, 82, 9, 13) := ⟨_, _, _, rfl, by decide, pm_in (j := 1) (i := 86) rfl rfl⟩
theorem pf_7_6 : pf_P (9, 86, 9, 0) := ⟨_, _, _, rfl, by decide, pm_in (j := 1) (i := 71) rfl rfl⟩
theorem pf_7_7 : pf_P (9, 89, 9, 1) := ⟨_, _, _, rfl, by decide, pm_in (j := 1) (i := 73) rfl rfl⟩
theorem pf_7_8 : pf_P (9, 122, 8, 0) := ⟨_, _, _, rfl, by decide, pm_in (j := 2) (i := 87) rfl rfl⟩
theorem pf_7_9 : pf_P (10, 9, 10, 0) := ⟨_, _, _, rfl, by decide, pm_in (j := 2) (i := 171) rfl rfl⟩
theorem pf_7_10 : pf_P (10, 16, 10, 1) := ⟨_, _, _, rfl, by decide, pm_in (j := 2) (i := 172) rfl rfl⟩
theorem pf_7_11 : pf_P (10, 23, 10, 2) := ⟨_, _, _, rfl, by decide, pm_in (j := 2) (i := 173) rfl rfl⟩
theorem pf_7_12 : pf_P (10, 30, 10, 3) := ⟨_, _, _, rfl, by decide, pm_in (j := 2) (i := 174) rfl rfl⟩
theorem pf_7_13 : pf_P (10, 37, 10, 4) := ⟨_, _, _, rfl, by decide, pm_in (j := 2) (i := 175) rfl rfl⟩
theorem pf_7_14 : pf_P (10, 44, 10, 5) := ⟨_, _, _, rfl, by decide, pm_in (j := 2) (i := 176) rfl rfl⟩
theorem pf_7_15 : pf_P (10, 51, 10, 6) := ⟨_, _, _, rfl, by decide, pm_in (j := 2) (i := 177) rfl rfl⟩
theorem pf_7_ok : ∀ f ∈ pf_7, pf_P f := List.forall_mem_cons.mpr ⟨pf_7_0, List.forall_mem_cons.mpr ⟨pf_7_1, List.forall_mem_cons.mpr ⟨pf_7_2, List.forall_mem_cons.mpr ⟨pf_7_3, List.forall_mem_cons.mpr ⟨pf_7_4, List.forall_mem_cons.mpr ⟨pf_7_5, List.forall_mem_cons.mpr ⟨pf_7_6, List.forall_mem_cons.mpr ⟨pf_7_7, List.forall_mem_cons.mpr ⟨pf_7_8, List.forall_mem_cons.mpr ⟨pf_7_9, List.forall_mem_cons.mpr ⟨pf_7_10, List.forall_mem_cons.mpr ⟨pf_7_11, List.forall_mem_cons.mpr ⟨pf_7_12, List.forall_mem_cons.mpr ⟨pf_7_13, List.forall_mem_cons.mpr ⟨pf_7_14, List.forall_mem_cons.mpr ⟨pf_7_15, fun _ h => absurd h List.not_mem_nil⟩⟩⟩⟩⟩⟩⟩⟩⟩⟩⟩⟩⟩⟩⟩⟩
def pf_8 : List (Nat × Nat × Nat × Nat) := [(10, 58, 10, 7), (10, 64, 10, 8), (10, 67, 10, 9), (10, 71, 10, 10), (10, 74, 10, 11), (10, 78, 10, 12), (10, 84, 10, 13), (10, 88, 10, 14), (10, 91, 10, 17), (10, 95, 10, 15), (10, 106, 4, 0), (10, 109, 10, 16), (10, 110, 4, 1), (10, 122, 10, 18), (10, 126, 8, 3), (10, 129, 8, 0)]
theorem pf_8_0 : pf_P (10, 58, 10, 7) := ⟨_, _, _, rfl, by decide, pm_in (j := 2) (i := 178) rfl rfl⟩
theorem pf_8_1 : pf_P (10, 64, 10, 8) := ⟨_, _, _, rfl, by decide, pm_in (j := 2) (i := 179) rfl rfl⟩
theorem pf_8_2 : pf_P (10, 67, 10, 9) := ⟨_, _, _, rfl, by decide, pm_in (j := 2) (i := 180) rfl rfl⟩
theorem pf_8_3 : pf_P (10, 71, 10, 10) := ⟨_, _, _, rfl, by decide, pm_in (j := 2) (i := 181) rfl rfl⟩
theorem pf_8_4 : pf_P (10, 74, 10, 11) := ⟨_, _, _, rfl, by decide, pm_in (j := 2) (i := 182) rfl rfl⟩
theorem pf_8_5 : pf_P (10, 78, 10, 12) := ⟨_, _, _, rfl, by decide, pm_in (j := 2) (i := 183) rfl rfl⟩
theorem pf_8_6 : pf_P (10, 84, 10, 13) := ⟨_, _, _, rfl, by decide, pm_in (j := 2) (i := 184) rfl rfl⟩
theorem pf_8_7 : pf_P (10, 88, 10, 14) := ⟨_, _, _, rfl, by decide, pm_in (j := 2) (i := 185) rfl rfl⟩
theorem pf_8_8 : pf_P (10, 91, 10, 17) := ⟨_, _, _, rfl, by decide, pm_in (j := 2) (i := 188) rfl rfl⟩
theorem pf_8_9 : pf_P (10, 95, 10, 15) := ⟨_, _, _, rfl, by decide, pm_in (j := 2) (i := 186) rfl rfl⟩
theorem pf_8_10 : pf_P (10, 106, 4, 0) := ⟨_, _, _, rfl, by decide, pm_in (j := 1) (i := 29) rfl rfl⟩
theorem pf_8_11 : pf_P (10, 109, 10, 16) := ⟨_, _, _, rfl, by decide, pm_in (j := 2) (i := 187) rfl rfl⟩
theorem pf_8_12 : pf_P (10, 110, 4, 1) := ⟨_, _, _, rfl, by decide, pm_in (j := 1) (i := 31) rfl rfl⟩
theorem pf_8_13 : pf_P (10, 122, 10, 18) := ⟨_, _, _, rfl, by decide, pm_in (j := 2) (i := 189) rfl rfl⟩
theorem pf_8_14 : pf_P (10, 126, 8, 3) := ⟨_, _, _, rfl, by decide, pm_in (j := 2) (i := 98) rfl rfl⟩
theorem pf_8_15 : pf_P (10, 129, 8, 0) := ⟨_, _, _, rfl, by decide, pm_in (j := 2) (i := 86) rfl rfl⟩
theorem pf_8_ok : ∀ f ∈ pf_8, pf_P f := List.forall_mem_cons.mpr ⟨pf_8_0, List.forall_mem_cons.mpr ⟨pf_8_1, List.forall_mem_cons.mpr ⟨pf_8_2, List.forall_mem_cons.mpr ⟨pf_8_3, List.forall_mem_cons.mpr ⟨pf_8_4, List.forall_mem_cons.mpr ⟨pf_8_5, List.forall_mem_cons.mpr ⟨pf_8_6, List.forall_mem_cons.mpr ⟨pf_8_7, List.forall_mem_cons.mpr ⟨pf_8_8, List.forall_mem_cons.mpr ⟨pf_8_9, List.forall_mem_cons.mpr ⟨pf_8_10, List.forall_mem_cons.mpr ⟨pf_8_11, List.forall_mem_cons.mpr ⟨pf_8_12, List.forall_mem_cons.mpr ⟨pf_8_13, List.forall_mem_cons.mpr ⟨pf_8_14, List.forall_mem_cons.mpr ⟨pf_8_15, fun _ h => absurd h List.not_mem_nil⟩⟩⟩⟩⟩⟩⟩⟩⟩⟩⟩⟩⟩⟩⟩⟩
def pf_9 : List (Nat × Nat × Nat × Nat) := [(10, 132, 8, 7), (10, 153, 9, 0), (10, 156, 9, 1), (10, 171, 5, 0), (10, 176, 5, 1), (10, 196, 8, 11), (10, 235, 8, 1), (10, 249, 1, 0), (10, 292, 2, 0), (10, 297, 8, 2), (10, 300, 8, 4), (10, 303, 0, 0), (10, 306, 0, 1), (10, 315, 7, 0), (11, 7, 11, 0), (11, 13, 11, 3)]
theorem pf_9_0 : pf_P (10, 132, 8, 7) := ⟨_, _, _, rfl, by decide, pm_in (j := 2) (i := 112) rfl rfl⟩
theorem pf_9_1 : pf_P (10, 153, 9, 0) := ⟨_, _, _, rfl, by decide, pm_in (j := 1) (i := 72) rfl rfl⟩
theorem pf_9_2 : pf_P (10, 156, 9, 1) := ⟨_, _, _, rfl, by decide, pm_in (j := 1) (i := 74) rfl rfl⟩
theorem pf_9_3 : pf_P (10, 171, 5, 0) := ⟨_, _, _, rfl, by decide, pm_in (j := 1) (i := 173) rfl rfl⟩
theorem pf_9_4 : pf_P (10, 176, 5, 1) := ⟨_, _, _, rfl, by decide, pm_in (j := 1) (i := 176) rfl rfl⟩
theorem pf_9_5 : pf_P (10, 196, 8, 11) := ⟨_, _, _, rfl, by decide, pm_in (j := 2) (i := 121) rfl rfl⟩
theorem pf_9_6 : pf_P (10, 235, 8, 1) := ⟨_, _, _, rfl, by decide, pm_in (j := 2) (i := 93) rfl rfl⟩
theorem pf_9_7 : pf_P (10, 249, 1, 0) := ⟨_, _, _, rfl, by decide, pm_in (j := 1) (i := 220) rfl rfl⟩
theorem pf_9_8 : pf_P (10, 292, 2, 0) := ⟨_, _, _, rfl, by decide, pm_in (j := 1) (i := 237) rfl rfl⟩
theorem pf_9_9 : pf_P (10, 297, 8, 2) := ⟨_, _, _, rfl, by decide, pm_in (j := 2) (i := 95) rfl rfl⟩
theorem pf_9_10 : pf_P (10, 300, 8, 4) := ⟨_, _, _, rfl, by decide, pm_in (j := 2) (i := 103) rfl rfl⟩
theorem pf_9_11 : pf_P (10, 303, 0, 0) := ⟨_, _, _, rfl, by decide, pm_in (j := 2) (i := 22) rfl rfl⟩
theorem pf_9_12 : pf_P (10, 306, 0, 1) := ⟨_, _, _, rfl, by decide, pm_in (j := 2) (i := 24) rfl rfl⟩
theorem pf_9_13 : pf_P (10, 315, 7, 0) := ⟨_, _, _, rfl, by decide, pm_in (j := 2) (i := 43) rfl rfl⟩
theorem pf_9_14 : pf_P (11, 7, 11, 0) := ⟨_, _, _, rfl, by decide, pm_in (j := 5) (i := 105) rfl rfl⟩
theorem pf_9_15 : pf_P (11, 13, 11, 3) := ⟨_, _, _, rfl, by decide, pm_in (j := 5) (i := 108) rfl rfl⟩
theorem pf_9_ok : ∀ f ∈ pf_9, pf_P f := List.forall_mem_cons.mpr ⟨pf_9_0, List.forall_mem_cons.mpr ⟨pf_9_1, List.forall_mem_cons.mpr ⟨pf_9_2, List.forall_mem_cons.mpr ⟨pf_9_3, List.forall_mem_cons.mpr ⟨pf_9_4, List.forall_mem_cons.mpr ⟨pf_9_5, List.forall_mem_cons.mpr ⟨pf_9_6, List.forall_mem_cons.mpr ⟨pf_9_7, List.forall_mem_cons.mpr ⟨pf_9_8, List.forall_mem_cons.mpr ⟨pf_9_9, List.forall_mem_cons.mpr ⟨pf_9_10, List.forall_mem_cons.mpr ⟨pf_9_11, List.forall_mem_cons.mpr ⟨pf_9_12, List.forall_mem_cons.mpr ⟨pf_9_13, List.forall_mem_cons.mpr ⟨pf_9_14, List.forall_mem_cons.mpr ⟨pf_9_15, fun _ h => absurd h List.not_mem_nil⟩⟩⟩⟩⟩⟩⟩⟩⟩⟩⟩⟩⟩⟩⟩⟩
def pf_10 : List (Nat × Nat × Nat × Nat) := [(11, 17, 11, 10), (11, 21, 11, 11), (11, 24, 11, 12), (11, 27, 11, 13), (11, 30, 11, 14), (11, 33, 11, 15), (11, 36, 11, 16), (11, 39, 11, 17), (11, 42, 11, 18), (11, 45, 11, 19), (11, 48, 11, 20), (11, 51, 11, 21), (11, 54, 11, 22), (11, 57, 11, 29), (11, 60, 11, 30), (11, 63, 11, 31)]
theorem pf_10_0 : pf_P (11, 17, 11, 10) := ⟨_, _, _, rfl, by decide, pm_in (j := 5) (i := 115) rfl rfl⟩
theorem pf_10_1 : pf_P (11, 21, 11, 11) := ⟨_, _, _, rfl, by decide, pm_in (j := 5) (i := 116) rfl rfl⟩
theorem pf_10_2 : pf_P (11, 24, 11, 12) := ⟨_, _, _, rfl, by decide, pm_in (j := 5) (i := 117) rfl rfl⟩
theorem pf_10_3 : pf_P (11, 27, 11, 13) := ⟨_, _, _, rfl, by decide, pm_in (j := 5) (i := 118) rfl rfl⟩
theorem pf_10_4 : pf_P (11, 30, 11, 14) := ⟨_, _, _, rfl, by decide, pm_in (j := 5) (i := 119) rfl rfl⟩
theorem pf_10_5 : pf_P (11, 33, 11, 15) := ⟨_, _, _, rfl, by decide, pm_in (j := 5) (i := 120) rfl rfl⟩
theorem pf_10_6 : pf_P (11, 36, 11, 16) := ⟨_, _, _, rfl, by decide, pm_in (j := 5) (i := 121) rfl rfl⟩
theorem pf_10_7 : pf_P (11, 39, 11, 17) := ⟨_, _, _, rfl, by decide, pm_in (j := 5) (i := 122) rfl rfl⟩
theorem pf_10_8 : pf_P (11, 42, 11, 18) := ⟨_, _, _, rfl, by decide, pm_in (j := 5) (i := 123) rfl rfl⟩
theorem pf_10_9 : pf_P (11, 45, 11, 19) := ⟨_, _, _, rfl, by decide, pm_in (j := 5) (i := 124) rfl rfl⟩
theorem pf_10_10 : pf_P (11, 48, 11, 20) := ⟨_, _, _, rfl, by decide, pm_in (j := 5) (i := 125) rfl rfl⟩
theorem pf_10_11 : pf_P (11, 51, 11, 21) := ⟨_, _, _, rfl, by decide, pm_in (j := 5) (i := 126) rfl rfl⟩
theorem pf_10_12 : pf_P (11, 54, 11, 22) := ⟨_, _, _, rfl, by decide, pm_in (j := 5) (i := 127) rfl rfl⟩
theorem pf_10_13 : pf_P (11, 57, 11, 29) := ⟨_, _, _, rfl, by decide, pm_in (j := 5) (i := 134) rfl rfl⟩
theorem pf_10_14 : pf_P (11, 60, 11, 30) := ⟨_, _, _, rfl, by decide, pm_in (j := 5) (i := 135) rfl rfl⟩
theorem pf_10_15 : pf_P (11, 63, 11, 31) := ⟨_, _, _, rfl, by decide, pm_in (j := 5) (i := 136) rfl rfl⟩
theorem pf_10_ok : ∀ f ∈ pf_10, pf_P f := List.forall_mem_cons.mpr ⟨pf_10_0, List.forall_mem_cons.mpr ⟨pf_10_1, List.forall_mem_cons.mpr ⟨pf_10_2, List.forall_mem_cons.mpr ⟨pf_10_3, List.forall_mem_cons.mpr ⟨pf_10_4, List.forall_mem_cons.mpr ⟨pf_10_5, List.forall_mem_cons.mpr ⟨pf_10_6, List.forall_mem_cons.mpr ⟨pf_10_7, List.forall_mem_cons.mpr ⟨pf_10_8, List.forall_mem_cons.mpr ⟨pf_10_9, List.forall_mem_cons.mpr ⟨pf_10_10, List.forall_mem_cons.mpr ⟨pf_10_11, List.forall_mem_cons.mpr ⟨pf_10_12, List.forall_mem_cons.mpr ⟨pf_10_13, List.forall_mem_cons.mpr ⟨pf_10_14, List.forall_mem_cons.mpr ⟨pf_10_15, fun _ h => absurd h List.not_mem_nil⟩⟩⟩⟩⟩⟩⟩⟩⟩⟩⟩⟩⟩⟩⟩⟩
def pf_11 : List (Nat × Nat × Nat × Nat) := [(11, 66, 11, 33), (11, 69, 11, 34), (11, 72, 11, 35), (11, 76, 11, 41), (11, 80, 11, 43), (11, 83, 11, 44), (11, 86, 11, 45), (11, 89, 11, 46), (11, 92, 11, 47), (11, 95, 11, 48), (11, 98, 11, 49), (11, 101, 11, 50), (11, 104, 11, 51), (11, 107, 11, 52), (11, 110, 11, 55), (11, 113, 11, 56)]
theorem pf_11_0 : pf_P (11, 66, 11, 33) := ⟨_, _, _, rfl, by decide, pm_in (j := 5) (i := 138) rfl rfl⟩
theorem pf_11_1 : pf_P (11, 69, 11, 34) := ⟨_, _, _, rfl, by decide, pm_in (j := 5) (i := 139) rfl rfl⟩
theorem pf_11_2 : pf_P (11, 72, 11, 35) := ⟨_, _, _, rfl, by decide, pm_in (j := 5) (i := 140) rfl rfl⟩
theorem pf_11_3 : pf_P (11, 76, 11, 41) := ⟨_, _, _, rfl, by decide, pm_in (j := 5) (i := 146) rfl rfl⟩
theorem pf_11_4 : pf_P (11, 80, 11, 43) := ⟨_, _, _, rfl, by decide, pm_in (j := 5) (i := 148) rfl rfl⟩
theorem pf_11_5 : pf_P (11, 83, 11, 44) := ⟨_, _, _, rfl, by decide, pm_in (j := 5) (i := 149) rfl rfl⟩
theorem pf_11_6 : pf_P (11, 86, 11, 45) := ⟨_, _, _, rfl, by decide, pm_in (j := 5) (i := 150) rfl rfl⟩
theorem pf_11_7 : pf_P (11, 89, 11, 46) := ⟨_, _, _, rfl, by decide, pm_in (j := 5) (i := 151) rfl rfl⟩
theorem pf_11_8 : pf_P (11, 92, 11, 47) := ⟨_, _, _, rfl, by decide, pm_in (j := 5) (i := 152) rfl rfl⟩
theorem pf_11_9 : pf_P (11, 95, 11, 48) := ⟨_, _, _, rfl, by decide, pm_in (j := 5) (i := 153) rfl rfl⟩
theorem pf_11_10 : pf_P (11, 98, 11, 49) := ⟨_, _, _, rfl, by decide, pm_in (j := 5) (i := 154) rfl rfl⟩
theorem pf_11_11 : pf_P (11, 101, 11, 50) := ⟨_, _, _, rfl, by decide, pm_in (j := 5) (i := 155) rfl rfl⟩
theorem pf_11_12 : pf_P (11, 104, 11, 51) := ⟨_, _, _, rfl, by decide, pm_in (j := 5) (i := 156) rfl rfl⟩
theorem pf_11_13 : pf_P (11, 107, 11, 52) := ⟨_, _, _, rfl, by decide, pm_in (j := 5) (i := 157) rfl rfl⟩
theorem pf_11_14 : pf_P (11, 110, 11, 55) := ⟨_, _, _, rfl, by decide, pm_in (j := 5) (i := 160) rfl rfl⟩
theorem pf_11_15 : pf_P (11, 113, 11, 56) := ⟨_, _, _, rfl, by decide, pm_in (j := 5) (i := 161) rfl rfl⟩
theorem pf_11_ok : ∀ f ∈ pf_11, pf_P f := List.forall_mem_cons.mpr ⟨pf_11_0, List.forall_mem_cons.mpr ⟨pf_11_1, List.forall_mem_cons.mpr ⟨pf_11_2, List.forall_mem_cons.mpr ⟨pf_11_3, List.forall_mem_cons.mpr ⟨pf_11_4, List.forall_mem_cons.mpr ⟨pf_11_5, List.forall_mem_cons.mpr ⟨pf_11_6, List.forall_mem_cons.mpr ⟨pf_11_7, List.forall_mem_cons.mpr ⟨pf_11_8, List.forall_mem_cons.mpr ⟨pf_11_9, List.forall_mem_cons.mpr ⟨pf_11_10, List.forall_mem_cons.mpr ⟨pf_11_11, List.forall_mem_cons.mpr ⟨pf_11_12, List.forall_mem_cons.mpr ⟨pf_11_13, List.forall_mem_cons.mpr ⟨pf_11_14, List.forall_mem_cons.mpr ⟨pf_11_15, fun _ h => absurd h List.not_mem_nil⟩⟩⟩⟩⟩⟩⟩⟩⟩⟩⟩⟩⟩⟩⟩⟩
def pf_12 : List (Nat × Nat × Nat × Nat) := [(11, 116, 11, 57), (11, 119, 11, 60), (11, 122, 11, 61), (11, 125, 11, 62), (11, 128, 11, 63), (11, 131, 11, 64), (11, 134, 11, 65), (11, 137, 11, 66), (11, 140, 11, 67), (11, 143, 11, 68), (11, 146, 11, 69), (11, 149, 11, 71), (11, 152, 11, 72), (11, 155, 11, 75), (11, 158, 11, 78), (11, 161, 11, 79)]
theorem pf_12_0 : pf_P (11, 116, 11, 57) := ⟨_, _, _, rfl, by decide, pm_in (j := 5) (i := 162) rfl rfl⟩
theorem pf_12_1 : pf_P (11, 119, 11, 60) := ⟨_, _, _, rfl, by decide, pm_in (j := 5) (i := 165) rfl rfl⟩
theorem pf_12_2 : pf_P (11, 122, 11, 61) := ⟨_, _, _, rfl, by decide, pm_in (j := 5) (i := 166) rfl rfl⟩
theorem pf_12_3 : pf_P (11, 125, 11, 62) := ⟨_, _, _, rfl, by decide, pm_in (j := 5) (i := 167) rfl rfl⟩
theorem pf_12_4 : pf_P (11, 128, 11, 63) := ⟨_, _, _, rfl, by decide, pm_in (j := 5) (i := 168) rfl rfl⟩
theorem pf_12_5 : pf_P (11, 131, 11, 64) := ⟨_, _, _, rfl, by decide, pm_in (j := 5) (i := 169) rfl rfl⟩
theorem pf_12_6 : pf_P (11, 134, 11, 65) := ⟨_, _, _, rfl, by decide, pm_in (j := 5) (i := 170) rfl rfl⟩
theorem pf_12_7 : pf_P (11, 137, 11, 66) := ⟨_, _, _, rfl, by decide, pm_in (j := 5) (i := 171) rfl rfl⟩
theorem pf_12_8 : pf_P (11, 140, 11, 67) := ⟨_, _, _, rfl, by decide, pm_in (j := 5) (i := 172) rfl rfl⟩
theorem pf_12_9 : pf_P (11, 143, 11, 68) := ⟨_, _, _, rfl, by decide, pm_in (j := 5) (i := 173) rfl rfl⟩
theorem pf_12_10 : pf_P (11, 146, 11, 69) := ⟨_, _, _, rfl, by decide, pm_in (j := 5) (i := 174) rfl rfl⟩
theorem pf_12_11 : pf_P (11, 149, 11, 71) := ⟨_, _, _, rfl, by decide, pm_in (j := 5) (i := 176) rfl rfl⟩
theorem pf_12_12 : pf_P (11, 152, 11, 72) := ⟨_, _, _, rfl, by decide, pm_in (j := 5) (i := 177) rfl rfl⟩
theorem pf_12_13 : pf_P (11, 155, 11, 75) := ⟨_, _, _, rfl, by decide, pm_in (j := 5) (i := 180) rfl rfl⟩
theorem pf_12_14 : pf_P (11, 158, 11, 78) := ⟨_, _, _, rfl, by decide, pm_in (j := 5) (i := 183) rfl rfl⟩
theorem pf_12_15 : pf_P (11, 161, 11, 79) := ⟨_, _, _, rfl, by decide, pm_in (j := 5) (i := 184) rfl rfl⟩
theorem pf_12_ok : ∀ f ∈ pf_12, pf_P f := List.forall_mem_cons.mpr ⟨pf_12_0, List.forall_mem_cons.mpr ⟨pf_12_1, List.forall_mem_cons.mpr ⟨pf_12_2, List.forall_mem_cons.mpr ⟨pf_12_3, List.forall_mem_cons.mpr ⟨pf_12_4, List.forall_mem_cons.mpr ⟨pf_12_5, List.forall_mem_cons.mpr ⟨pf_12_6, List.forall_mem_cons.mpr ⟨pf_12_7, List.forall_mem_cons.mpr ⟨pf_12_8, List.forall_mem_cons.mpr ⟨pf_12_9, List.forall_mem_cons.mpr ⟨pf_12_10, List.forall_mem_cons.mpr ⟨pf_12_11, List.forall_mem_cons.mpr ⟨pf_12_12, List.forall_mem_cons.mpr ⟨pf_12_13, List.forall_mem_cons.mpr ⟨pf_12_14, List.forall_mem_cons.mpr ⟨pf_12_15, fun _ h => absurd h List.not_mem_nil⟩⟩⟩⟩⟩⟩⟩⟩⟩⟩⟩⟩⟩⟩⟩⟩
def pf_13 : List (Nat × Nat × Nat × Nat) := [(11, 164, 11, 80), (11, 170, 11, 1), (11, 177, 11, 4), (11, 180, 11, 5), (11, 187, 11, 7), (11, 190, 11, 9), (11, 194, 11, 8), (11, 197, 11, 6), (11, 207, 11, 2), (11, 234, 11, 23), (11, 237, 11, 26), (11, 252, 11, 24), (11, 269, 11, 25), (11, 293, 11, 27), (11, 296, 11, 28), (11, 305, 11, 73)]
theorem pf_13_0 : pf_P (11, 164, 11, 80) := ⟨_, _, _, rfl, by decide, pm_in (j := 5) (i := 185) rfl rfl⟩
theorem pf_13_1 : pf_P (11, 170, 11, 1) := ⟨_, _, _, rfl, by decide, pm_in (j := 5) (i := 106) rfl rfl⟩
theorem pf_13_2 : pf_P (11, 177, 11, 4) := ⟨_, _, _, rfl, by decide, pm_in (j := 5) (i := 109) rfl rfl⟩
theorem pf_13_3 : pf_P (11, 180, 11, 5) := ⟨_, _, _, rfl, by decide, pm_in (j := 5) (i := 110) rfl rfl⟩
theorem pf_13_4 : pf_P (11, 187, 11, 7) := ⟨_, _, _, rfl, by decide, pm_in (j := 5) (i := 112) rfl rfl⟩
theorem pf_13_5 : pf_P (11, 190, 11, 9) := ⟨_, _, _, rfl, by decide, pm_in (j := 5) (i := 114) rfl rfl⟩
theorem pf_13_6 : pf_P (11, 194, 11, 8) := ⟨_, _, _, rfl, by decide, pm_in (j := 5) (i := 113) rfl rfl⟩
theorem pf_13_7 : pf_P (11, 197, 11, 6) := ⟨_, _, _, rfl, by decide, pm_in (j := 5) (i := 111) rfl rfl⟩
theorem pf_13_8 : pf_P (11, 207, 11, 2) := ⟨_, _, _, rfl, by decide, pm_in (j := 5) (i := 107) rfl rfl⟩
theorem pf_13_9 : pf_P (11, 234, 11, 23) := ⟨_, _, _, rfl, by decide, pm_in (j := 5) (i := 128) rfl rfl⟩
theorem pf_13_10 : pf_P (11, 237, 11, 26) := ⟨_, _, _, rfl, by decide, pm_in (j := 5) (i := 131) rfl rfl⟩
theorem pf_13_11 : pf_P (11, 252, 11, 24) := ⟨_, _, _, rfl, by decide, pm_in (j := 5) (i := 129) rfl rfl⟩
theorem pf_13_12 : pf_P (11, 269, 11, 25) := ⟨_, _, _, rfl, by decide, pm_in (j := 5) (i := 130) rfl rfl⟩
theorem pf_13_13 : pf_P (11, 293, 11, 27) := ⟨_, _, _, rfl, by decide, pm_in (j := 5) (i := 132) rfl rfl⟩
theorem pf_13_14 : pf_P (11, 296, 11, 28) := ⟨_, _, _, rfl, by decide, pm_in (j := 5) (i := 133) rfl rfl⟩
theorem pf_13_15 : pf_P (11, 305, 11, 73) := ⟨_, _, _, rfl, by decide, pm_in (j := 5) (i := 178) rfl rfl⟩
theorem pf_13_ok : ∀ f ∈ pf_13, pf_P f := List.forall_mem_cons.mpr ⟨pf_13_0, List.forall_mem_cons.mpr ⟨pf_13_1, List.forall_mem_cons.mpr ⟨pf_13_2, List.forall_mem_cons.mpr ⟨pf_13_3, List.forall_mem_cons.mpr ⟨pf_13_4, List.forall_mem_cons.mpr ⟨pf_13_5, List.forall_mem_cons.mpr ⟨pf_13_6, List.forall_mem_cons.mpr ⟨pf_13_7, List.forall_mem_cons.mpr ⟨pf_13_8, List.forall_mem_cons.mpr ⟨pf_13_9, List.forall_mem_cons.mpr ⟨pf_13_10, List.forall_mem_cons.mpr ⟨pf_13_11, List.forall_mem_cons.mpr ⟨pf_13_12, List.forall_mem_cons.mpr ⟨pf_13_13, List.forall_mem_cons.mpr ⟨pf_13_14, List.forall_mem_cons.mpr ⟨pf_13_15, fun _ h => absurd h List.not_mem_nil⟩⟩⟩⟩⟩⟩⟩⟩⟩⟩⟩⟩⟩⟩⟩⟩
def pf_14 : List (Nat × Nat × Nat × Nat) := [(11, 308, 11, 74), (11, 311, 11, 70), (11, 318, 11, 32), (11, 327, 11, 38), (11, 333, 11, 39), (11, 336, 11, 40), (11, 342, 11, 36), (11, 345, 11, 37), (11, 380, 11, 42), (11, 386, 11, 53), (11, 389, 11, 54), (11, 413, 11, 59), (11, 422, 11, 58), (11, 528, 11, 76), (11, 534, 11, 77)]
theorem pf_14_0 : pf_P (11, 308, 11, 74) := ⟨_, _, _, rfl, by decide, pm_in (j := 5) (i := 179) rfl rfl⟩
theorem pf_14_1 : pf_P (11, 311, 11, 70) := ⟨_, _, _, rfl, by decide, pm_in (j := 5) (i := 175) rfl rfl⟩
theorem pf_14_2 : pf_P (11, 318, 11, 32) := ⟨_, _, _, rfl, by decide, pm_in (j := 5) (i := 137) rfl rfl⟩
theorem pf_14_3 : pf_P (11, 327, 11, 38) := ⟨_, _, _, rfl, by decide, pm_in (j := 5) (i := 143) rfl rfl⟩
theorem pf_14_4 : pf_P (11, 333, 11, 39) := ⟨_, _, _, rfl, by decide, pm_in (j := 5) (i := 144) rfl rfl⟩
theorem pf_14_5 : pf_P (11, 336, 11, 40) := ⟨_, _, _, rfl, by decide, pm_in (j := 5) (i := 145) rfl rfl⟩
theorem pf_14_6 : pf_P (11, 342, 11, 36) := ⟨_, _, _, rfl, by decide, pm_in (j := 5) (i := 141) rfl rfl⟩
theorem pf_14_7 : pf_P (11, 345, 11, 37) := ⟨_, _, _, rfl, by decide, pm_in (j := 5) (i := 142) rfl rfl⟩
theorem pf_14_8 : pf_P (11, 380, 11, 42) := ⟨_, _, _, rfl, by decide, pm_in (j := 5) (i := 147) rfl rfl⟩
theorem pf_14_9 : pf_P (11, 386, 11, 53) := ⟨_, _, _, rfl, by decide, pm_in (j := 5) (i := 158) rfl rfl⟩
theorem pf_14_10 : pf_P (11, 389, 11, 54) := ⟨_, _, _, rfl, by decide, pm_in (j := 5) (i := 159) rfl rfl⟩
theorem pf_14_11 : pf_P (11, 413, 11, 59) := ⟨_, _, _, rfl, by decide, pm_in (j := 5) (i := 164) rfl rfl⟩
theorem pf_14_12 : pf_P (11, 422, 11, 58) := ⟨_, _, _, rfl, by decide, pm_in (j := 5) (i := 163) rfl rfl⟩
theorem pf_14_13 : pf_P (11, 528, 11, 76) := ⟨_, _, _, rfl, by decide, pm_in (j := 5) (i := 181) rfl rfl⟩
theorem pf_14_14 : pf_P (11, 534, 11, 77) := ⟨_, _, _, rfl, by decide, pm_in (j := 5) (i := 182) rfl rfl⟩
theorem pf_14_ok : ∀ f ∈ pf_14, pf_P f := List.forall_mem_cons.mpr ⟨pf_14_0, List.forall_mem_cons.mpr ⟨pf_14_1, List.forall_mem_cons.mpr ⟨pf_14_2, List.forall_mem_cons.mpr ⟨pf_14_3, List.forall_mem_cons.mpr ⟨pf_14_4, List.forall_mem_cons.mpr ⟨pf_14_5, List.forall_mem_cons.mpr ⟨pf_14_6, List.forall_mem_cons.mpr ⟨pf_14_7, List.forall_mem_cons.mpr ⟨pf_14_8, List.forall_mem_cons.mpr ⟨pf_14_9, List.forall_mem_cons.mpr ⟨pf_14_10, List.forall_mem_cons.mpr ⟨pf_14_11, List.forall_mem_cons.mpr ⟨pf_14_12, List.forall_mem_cons.mpr ⟨pf_14_13, List.forall_mem_cons.mpr ⟨pf_14_14, fun _ h => absurd h List.not_mem_nil⟩⟩⟩⟩⟩⟩⟩⟩⟩⟩⟩⟩⟩⟩⟩
def pf_t : List (List (Nat × Nat × Nat × Nat)) := [pf_0, pf_1, pf_2, pf_3, pf_4, pf_5, pf_6, pf_7, pf_8, pf_9, pf_10, pf_11, pf_12, pf_13, pf_14]
theorem pf_tok : ∀ r ∈ pf_t, ∀ f ∈ r, pf_P f := List.forall_mem_cons.mpr ⟨pf_0_ok, List.forall_mem_cons.mpr ⟨pf_1_ok, List.forall_mem_cons.mpr ⟨pf_2_ok, List.forall_mem_cons.mpr ⟨pf_3_ok, List.forall_mem_cons.mpr ⟨pf_4_ok, List.forall_mem_cons.mpr ⟨pf_5_ok, List.forall_mem_cons.mpr ⟨pf_6_ok, List.forall_mem_cons.mpr ⟨pf_7_ok, List.forall_mem_cons.mpr ⟨pf_8_ok, List.forall_mem_cons.mpr ⟨pf_9_ok, List.forall_mem_cons.mpr ⟨pf_10_ok, List.forall_mem_cons.mpr ⟨pf_11_ok, List.forall_mem_cons.mpr ⟨pf_12_ok, List.forall_mem_cons.mpr ⟨pf_13_ok, List.forall_mem_cons.mpr ⟨pf_14_ok, fun _ h => absurd h List.not_mem_nil⟩⟩⟩⟩⟩⟩⟩⟩⟩⟩⟩⟩⟩⟩⟩
def qp_0 : List (Nat × Nat × Nat × Int × Bool) := [(0, 0, 3, 3, true), (0, 0, 1, 0, false), (0, 0, 0, 0, false), (0, 0, 2, 0, false), (1, 1, 0, 3, true), (1, 1, 1, 3, false), (1, 1, 2, 0, false), (2, 2, 0, 3, true), (2, 2, 1, 3, true), (2, 2, 2, 3, true), (2, 2, 3, 0, false), (2, 2, 4, 0, false), (3, 3, 0, 3, true), (3, 3, 1, 3, true), (3, 3, 2, 3, false), (4, 4, 2, 3, false)]
theorem qp_0_0 : qp_P (0, 0, 3, 3, true) := ⟨_, _, _, tyX0 3, rfl, tyX0_ok 3 (by decide), rfl, fun _ => ⟨rfl, rfl⟩⟩
theorem qp_0_1 : qp_P (0, 0, 1, 0, false) := ⟨_, _, _, tyX0 1, rfl, tyX0_ok 1 (by decide), rfl, fun h => absurd h (by decide)⟩
theorem qp_0_2 : qp_P (0, 0, 0, 0, false) := ⟨_, _, _, tyX0 0, rfl, tyX0_ok 0 (by decide), rfl, fun h => absurd h (by decide)⟩
theorem qp_0_3 : qp_P (0, 0, 2, 0, false) := ⟨_, _, _, tyX0 2, rfl, tyX0_ok 2 (by decide), rfl, fun h => absurd h (by decide)⟩
theorem qp_0_4 : qp_P (1, 1, 0, 3, true) := ⟨_, _, _, tyX1 0, rfl, tyX1_ok 0 (by decide), rfl, fun _ => ⟨rfl, rfl⟩⟩
theorem qp_0_5 : qp_P (1, 1, 1, 3, false) := ⟨_, _, _, tyX1 1, rfl, tyX1_ok 1 (by decide), rfl, fun h => absurd h (by decide)⟩
theorem qp_0_6 : qp_P (1, 1, 2, 0, false) := ⟨_, _, _, tyX1 2, rfl, tyX1_ok 2 (by decide), rfl, fun h => absurd h (by decide)⟩
theorem qp_0_7 : qp_P (2, 2, 0, 3, true) := ⟨_, _, _, tyX2 0, rfl, tyX2_ok 0 (by decide), rfl, fun _ => ⟨rfl, rfl⟩⟩
theorem qp_0_8 : qp_P (2, 2, 1, 3, true) := ⟨_, _, _, tyX2 1, rfl, tyX2_ok 1 (by decide), rfl, fun _ => ⟨rfl, rfl⟩⟩
theorem qp_0_9 : qp_P (2, 2, 2, 3, true) := ⟨_, _, _, tyX2 2, rfl, tyX2_ok 2 (by decide), rfl, fun _ => ⟨rfl, rfl⟩⟩
theorem qp_0_10 : qp_P (2, 2, 3, 0, false) := ⟨_, _, _, tyX2 3, rfl, tyX2_ok 3 (by decide), rfl, fun h => absurd h (by decide)⟩
theorem qp_0_11 : qp_P (2, 2, 4, 0, false) := ⟨_, _, _, tyX2 4, rfl, tyX2_ok 4 (by decide), rfl, fun h => absurd h (by decide)⟩
theorem qp_0_12 : qp_P (3, 3, 0, 3, true) := ⟨_, _, _, tyX3 0, rfl, tyX3_ok 0 (by decide), rfl, fun _ => ⟨rfl, rfl⟩⟩
theorem qp_0_13 : qp_P (3, 3, 1, 3, true) := ⟨_, _, _, tyX3 1, rfl, tyX3_ok 1 (by decide), rfl, fun _ => ⟨rfl, rfl⟩⟩
theorem qp_0_14 : qp_P (3, 3, 2, 3, false) := ⟨_, _, _, tyX3 2, rfl, tyX3_ok 2 (by decide), rfl, fun h => absurd h (by decide)⟩
theorem qp_0_15 : qp_P (4, 4, 2, 3, false) := ⟨_, _, _, tyX4 2, rfl, tyX4_ok 2 (by decide), rfl, fun h => absurd h (by decide)⟩
theorem qp_0_ok : ∀ f ∈ qp_0, qp_P f := List.forall_mem_cons.mpr ⟨qp_0_0, List.forall_mem_cons.mpr ⟨qp_0_1, List.forall_mem_cons.mpr ⟨qp_0_2, List.forall_mem_cons.mpr ⟨qp_0_3, List.forall_mem_cons.mpr ⟨qp_0_4, List.forall_mem_cons.mpr ⟨qp_0_5, List.forall_mem_cons.mpr ⟨qp_0_6, List.forall_mem_cons.mpr ⟨qp_0_7, List.forall_mem_cons.mpr ⟨qp_0_8, List.forall_mem_cons.mpr ⟨qp_0_9, List.forall_mem_cons.mpr ⟨qp_0_10, List.forall_mem_cons.mpr ⟨qp_0_11, List.forall_mem_cons.mpr ⟨qp_0_12, List.forall_mem_cons.mpr ⟨qp_0_13, List.forall_mem_cons.mpr ⟨qp_0_14, List.forall_mem_cons.mpr ⟨qp_0_15, fun _ h => absurd h List.not_mem_nil⟩⟩⟩⟩⟩⟩⟩⟩⟩⟩⟩⟩⟩⟩⟩⟩
def qp_1 : List (Nat × Nat × Nat × Int × Bool) := [(4, 4, 3, 0, false), (4, 4, 4, 3, false), (4, 4, 0, 0, false), (4, 4, 1, 0, false), (4, 4, 5, 2, false), (4, 4, 6, 0, false), (4, 8, 0, 0, false), (4, 8, 3, 0, false), (4, 8, 4, 0, false), (4, 4, 8, 0, false), (4, 4, 7, 0, false), (4, 4, 10, 1, false), (4, 4, 9, 0, false), (5, 5, 6, 3, true), (6, 6, 0, 3, true), (6, 6, 1, 3, true)]
theorem qp_1_0 : qp_P (4, 4, 3, 0, false) := ⟨_, _, _, tyX4 3, rfl, tyX4_ok 3 (by decide), rfl, fun h => absurd h (by decide)⟩
theorem qp_1_1 : qp_P (4, 4, 4, 3, false) := ⟨_, _, _, tyX4 4, rfl, tyX4_ok 4 (by decide), rfl, fun h => absurd h (by decide)⟩
theorem qp_1_2 : qp_P (4, 4, 0, 0, false) := ⟨_, _, _, tyX4 0, rfl, tyX4_ok 0 (by decide), rfl, fun h => absurd h (by decide)⟩
theorem qp_1_3 : qp_P (4, 4, 1, 0, false) := ⟨_, _, _, tyX4 1, rfl, tyX4_ok 1 (by decide), rfl, fun h => absurd h (by decide)⟩
theorem qp_1_4 : qp_P (4, 4, 5, 2, false) := ⟨_, _, _, tyX4 5, rfl, tyX4_ok 5 (by decide), rfl, fun h => absurd h (by decide)⟩
theorem qp_1_5 : qp_P (4, 4, 6, 0, false) := ⟨_, _, _, tyX4 6, rfl, tyX4_ok 6 (by decide), rfl, fun h => absurd h (by decide)⟩
theorem qp_1_6 : qp_P (4, 8, 0, 0, false) := ⟨_, _, _, tyX8 0, rfl, tyX8_ok 0 (by decide), rfl, fun h => absurd h (by decide)⟩
theorem qp_1_7 : qp_P (4, 8, 3, 0, false) := ⟨_, _, _, tyX8 3, rfl, tyX8_ok 3 (by decide), rfl, fun h => absurd h (by decide)⟩
theorem qp_1_8 : qp_P (4, 8, 4, 0, false) := ⟨_, _, _, tyX8 4, rfl, tyX8_ok 4 (by decide), rfl, fun h => absurd h (by decide)⟩
theorem qp_1_9 : qp_P (4, 4, 8, 0, false) := ⟨_, _, _, tyX4 8, rfl, tyX4_ok 8 (by decide), rfl, fun h => absurd h (by decide)⟩
theorem qp_1_10 : qp_P (4, 4, 7, 0, false) := ⟨_, _, _, tyX4 7, rfl, tyX4_ok 7 (by decide), rfl, fun h => absurd h (by decide)⟩
theorem qp_1_11 : qp_P (4, 4, 10, 1, false) := ⟨_, _, _, tyX4 10, rfl, tyX4_ok 10 (by decide), rfl, fun h => absurd h (by decide)⟩
theorem qp_1_12 : qp_P (4, 4, 9, 0, false) := ⟨_, _, _, tyX4 9, rfl, tyX4_ok 9 (by decide), rfl, fun h => absurd h (by decide)⟩
theorem qp_1_13 : qp_P (5, 5, 6, 3, true) := ⟨_, _, _, tyX5 6, rfl, tyX5_ok 6 (by decide), rfl, fun _ => ⟨rfl, rfl⟩⟩
theorem qp_1_14 : qp_P (6, 6, 0, 3, true) := ⟨_, _, _, tyX6 0, rfl, tyX6_ok 0 (by decide), rfl, fun _ => ⟨rfl, rfl⟩⟩
theorem qp_1_15 : qp_P (6, 6, 1, 3, true) := ⟨_, _, _, tyX6 1, rfl, tyX6_ok 1 (by decide), rfl, fun _ => ⟨rfl, rfl⟩⟩
theorem qp_1_ok : ∀ f ∈ qp_1, qp_P f := List.forall_mem_cons.mpr ⟨qp_1_0, List.forall_mem_cons.mpr ⟨qp_1_1, List.forall_mem_cons.mpr ⟨qp_1_2, List.forall_mem_cons.mpr ⟨qp_1_3, List.forall_mem_cons.mpr ⟨qp_1_4, List.forall_mem_cons.mpr ⟨qp_1_5, List.forall_mem_cons.mpr ⟨qp_1_6, List.forall_mem_cons.mpr ⟨qp_1_7, List.forall_mem_cons.mpr ⟨qp_1_8, List.forall_mem_cons.mpr ⟨qp_1_9, List.forall_mem_cons.mpr ⟨qp_1_10, List.forall_mem_cons.mpr ⟨qp_1_11, List.forall_mem_cons.mpr ⟨qp_1_12, List.forall_mem_cons.mpr ⟨qp_1_13, List.forall_mem_cons.mpr ⟨qp_1_14, List.forall_mem_cons.mpr ⟨qp_1_15, fun _ h => absurd h List.not_mem_nil⟩⟩⟩⟩⟩⟩⟩⟩⟩⟩⟩⟩⟩⟩⟩⟩
def qp_2 : List (Nat × Nat × Nat × Int × Bool) := [(6, 6, 2, 3, true), (6, 6, 3, 3, true), (6, 5, 1, 0, false), (6, 5, 0, 0, false), (6, 6, 4, 0, false), (6, 6, 5, 0, false), (6, 6, 6, 0, false), (6, 6, 7, 0, false), (6, 6, 8, 0, false), (6, 6, 9, 0, false), (6, 6, 10, 1, false), (6, 5, 3, 0, false), (6, 5, 2, 0, false), (6, 5, 5, 0, false), (6, 5, 4, 0, false), (7, 7, 2, 0, false)]
theorem qp_2_0 : qp_P (6, 6, 2, 3, true) := ⟨_, _, _, tyX6 2, rfl, tyX6_ok 2 (by decide), rfl, fun _ => ⟨rfl, rfl⟩⟩
theorem qp_2_1 : qp_P (6, 6, 3, 3, true) := ⟨_, _, _, tyX6 3, rfl, tyX6_ok 3 (by decide), rfl, fun _ => ⟨rfl, rfl⟩⟩
theorem qp_2_2 : qp_P (6, 5, 1, 0, false) := ⟨_, _, _, tyX5 1, rfl, tyX5_ok 1 (by decide), rfl, fun h => absurd h (by decide)⟩
theorem qp_2_3 : qp_P (6, 5, 0, 0, false) := ⟨_, _, _, tyX5 0, rfl, tyX5_ok 0 (by decide), rfl, fun h => absurd h (by decide)⟩
theorem qp_2_4 : qp_P (6, 6, 4, 0, false) := ⟨_, _, _, tyX6 4, rfl, tyX6_ok 4 (by decide), rfl, fun h => absurd h (by decide)⟩
theorem qp_2_5 : qp_P (6, 6, 5, 0, false) := ⟨_, _, _, tyX6 5, rfl, tyX6_ok 5 (by decide), rfl, fun h => absurd h (by decide)⟩
theorem qp_2_6 : qp_P (6, 6, 6, 0, false) := ⟨_, _, _, tyX6 6, rfl, tyX6_ok 6 (by decide), rfl, fun h => absurd h (by decide)⟩
theorem qp_2_7 : qp_P (6, 6, 7, 0, false) := ⟨_, _, _, tyX6 7, rfl, tyX6_ok 7 (by decide), rfl, fun h => absurd h (by decide)⟩
theorem qp_2_8 : qp_P (6, 6, 8, 0, false) := ⟨_, _, _, tyX6 8, rfl, tyX6_ok 8 (by decide), rfl, fun h => absurd h (by decide)⟩
theorem qp_2_9 : qp_P (6, 6, 9, 0, false) := ⟨_, _, _, tyX6 9, rfl, tyX6_ok 9 (by decide), rfl, fun h => absurd h (by decide)⟩
theorem qp_2_10 : qp_P (6, 6, 10, 1, false) := ⟨_, _, _, tyX6 10, rfl, tyX6_ok 10 (by decide), rfl, fun h => absurd h (by decide)⟩
theorem qp_2_11 : qp_P (6, 5, 3, 0, false) := ⟨_, _, _, tyX5 3, rfl, tyX5_ok 3 (by decide), rfl, fun h => absurd h (by decide)⟩
theorem qp_2_12 : qp_P (6, 5, 2, 0, false) := ⟨_, _, _, tyX5 2, rfl, tyX5_ok 2 (by decide), rfl, fun h => absurd h (by decide)⟩
theorem qp_2_13 : qp_P (6, 5, 5, 0, false) := ⟨_, _, _, tyX5 5, rfl, tyX5_ok 5 (by decide), rfl, fun h => absurd h (by decide)⟩
theorem qp_2_14 : qp_P (6, 5, 4, 0, false) := ⟨_, _, _, tyX5 4, rfl, tyX5_ok 4 (by decide), rfl, fun h => absurd h (by decide)⟩
theorem qp_2_15 : qp_P (7, 7, 2, 0, false) := ⟨_, _, _, tyX7 2, rfl, tyX7_ok 2 (by decide), rfl, fun h => absurd h (by decide)⟩
theorem qp_2_ok : ∀ f ∈ qp_2, qp_P f := List.forall_mem_cons.mpr ⟨qp_2_0, List.forall_mem_cons.mpr ⟨qp_2_1, List.forall_mem_cons.mpr ⟨qp_2_2, List.forall_mem_cons.mpr ⟨qp_2_3, List.forall_mem_cons.mpr ⟨qp_2_4, List.forall_mem_cons.mpr ⟨qp_2_5, List.forall_mem_cons.mpr ⟨qp_2_6, List.forall_mem_cons.mpr ⟨qp_2_7, List.forall_mem_cons.mpr ⟨qp_2_8, List.forall_mem_cons.mpr ⟨qp_2_9, List.forall_mem_cons.mpr ⟨qp_2_10, List.forall_mem_cons.mpr ⟨qp_2_11, List.forall_mem_cons.mpr ⟨qp_2_12, List.forall_mem_cons.mpr ⟨qp_2_13, List.forall_mem_cons.mpr ⟨qp_2_14, List.forall_mem_cons.mpr ⟨qp_2_15, fun _ h => absurd h List.not_mem_nil⟩⟩⟩⟩⟩⟩⟩⟩⟩⟩⟩⟩⟩⟩⟩⟩
def qp_3 : List (Nat × Nat × Nat × Int × Bool) := [(7, 7, 3, 0, false), (7, 7, 5, 3, true), (7, 7, 6, 3, true), (7, 7, 7, 3, true), (7, 7, 8, 3, true), (7, 7, 1, 0, false), (7, 7, 4, 2, false), (8, 8, 5, 3, true), (8, 8, 6, 3, true), (8, 8, 7, 3, true), (8, 8, 8, 3, true), (8, 8, 9, 3, true), (8, 8, 10, 3, true), (8, 8, 11, 3, true), (8, 8, 12, 3, true), (8, 8, 13, 3, true)]
theorem qp_3_0 : qp_P (7, 7, 3, 0, false) := ⟨_, _, _, tyX7 3, rfl, tyX7_ok 3 (by decide), rfl, fun h => absurd h (by decide)⟩
theorem qp_3_1 : qp_P (7, 7, 5, 3, true) := ⟨_, _, _, tyX7 5, rfl, tyX7_ok 5 (by decide), rfl, fun _ => ⟨rfl, rfl⟩⟩
theorem qp_3_2 : qp_P (7, 7, 6, 3, true) := ⟨_, _, _, tyX7 6, rfl, tyX7_ok 6 (by decide), rfl, fun _ => ⟨rfl, rfl⟩⟩
theorem qp_3_3 : qp_P (7, 7, 7, 3, true) := ⟨_, _, _, tyX7 7, rfl, tyX7_ok 7 (by decide), rfl, fun _ => ⟨rfl, rfl⟩⟩
theorem qp_3_4 : qp_P (7, 7, 8, 3, true) := ⟨_, _, _, tyX7 8, rfl, tyX7_ok 8 (by decide), rfl, fun _ => ⟨rfl, rfl⟩⟩
theorem qp_3_5 : qp_P (7, 7, 1, 0, false) := ⟨_, _, _, tyX7 1, rfl, tyX7_ok 1 (by decide), rfl, fun h => absurd h (by decide)⟩
theorem qp_3_6 : qp_P (7, 7, 4, 2, false) := ⟨_, _, _, tyX7 4, rfl, tyX7_ok 4 (by decide), rfl, fun h => absurd h (by decide)⟩
theorem qp_3_7 : qp_P (8, 8, 5, 3, true) := ⟨_, _, _, tyX8 5, rfl, tyX8_ok 5 (by decide), rfl, fun _ => ⟨rfl, rfl⟩⟩
theorem qp_3_8 : qp_P (8, 8, 6, 3, true) := ⟨_, _, _, tyX8 6, rfl, tyX8_ok 6 (by decide), rfl, fun _ => ⟨rfl, rfl⟩⟩
theorem qp_3_9 : qp_P (8, 8, 7, 3, true) := ⟨_, _, _, tyX8 7, rfl, tyX8_ok 7 (by decide), rfl, fun _ => ⟨rfl, rfl⟩⟩
theorem qp_3_10 : qp_P (8, 8, 8, 3, true) := ⟨_, _, _, tyX8 8, rfl, tyX8_ok 8 (by decide), rfl, fun _ => ⟨rfl, rfl⟩⟩
theorem qp_3_11 : qp_P (8, 8, 9, 3, true) := ⟨_, _, _, tyX8 9, rfl, tyX8_ok 9 (by decide), rfl, fun _ => ⟨rfl, rfl⟩⟩
theorem qp_3_12 : qp_P (8, 8, 10, 3, true) := ⟨_, _, _, tyX8 10, rfl, tyX8_ok 10 (by decide), rfl, fun _ => ⟨rfl, rfl⟩⟩
theorem qp_3_13 : qp_P (8, 8, 11, 3, true) := ⟨_, _, _, tyX8 11, rfl, tyX8_ok 11 (by decide), rfl, fun _ => ⟨rfl, rfl⟩⟩
theorem qp_3_14 : qp_P (8, 8, 12, 3, true) := ⟨_, _, _, tyX8 12, rfl, tyX8_ok 12 (by decide), rfl, fun _ => ⟨rfl, rfl⟩⟩
theorem qp_3_15 : qp_P (8, 8, 13, 3, true) := ⟨_, _, _, tyX8 13, rfl, tyX8_ok 13 (by decide), rfl, fun _ => ⟨rfl, rfl⟩⟩
theorem qp_3_ok : ∀ f ∈ qp_3, qp_P f := List.forall_mem_cons.mpr ⟨qp_3_0, List.forall_mem_cons.mpr ⟨qp_3_1, List.forall_mem_cons.mpr ⟨qp_3_2, List.forall_mem_cons.mpr ⟨qp_3_3, List.forall_mem_cons.mpr ⟨qp_3_4, List.forall_mem_cons.mpr ⟨qp_3_5, List.forall_mem_cons.mpr ⟨qp_3_6, List.forall_mem_cons.mpr ⟨qp_3_7, List.forall_mem_cons.mpr ⟨qp_3_8, List.forall_mem_cons.mpr ⟨qp_3_9, List.forall_mem_cons.mpr ⟨qp_3_10, List.forall_mem_cons.mpr ⟨qp_3_11, List.forall_mem_cons.mpr ⟨qp_3_12, List.forall_mem_cons.mpr ⟨qp_3_13, List.forall_mem_cons.mpr ⟨qp_3_14, List.forall_mem_cons.mpr ⟨qp_3_15, fun _ h => absurd h List.not_mem_nil⟩⟩⟩⟩⟩⟩⟩⟩⟩⟩⟩⟩⟩⟩⟩⟩
def qp_4 : List (Nat × Nat × Nat × Int × Bool) := [(8, 8, 14, 3, true), (8, 8, 15, 3, true), (8, 8, 16, 3, true), (8, 8, 0, 0, false), (8, 8, 1, 0, false), (8, 8, 2, 0, false), (8, 8, 3, 0, false), (8, 8, 4, 0, false), (9, 9, 2, 3, true), (9, 9, 3, 3, true), (9, 9, 4, 3, true), (9, 9, 5, 3, true), (9, 9, 6, 3, true), (9, 9, 7, 3, false), (9, 9, 8, 0, false), (9, 9, 9, 0, false)]
theorem qp_4_0 : qp_P (8, 8, 14, 3, true) := ⟨_, _, _, tyX8 14, rfl, tyX8_ok 14 (by decide), rfl, fun _ => ⟨rfl, rfl⟩⟩
theorem qp_4_1 : qp_P (8, 8, 15, 3, true) := ⟨_, _, _, tyX8 15, rfl, tyX8_ok 15 (by decide), rfl, fun _ => ⟨rfl, rfl⟩⟩
theorem qp_4_2 : qp_P (8, 8, 16, 3, true) := ⟨_, _, _, tyX8 16, rfl, tyX8_ok 16 (by decide), rfl, fun _ => ⟨rfl, rfl⟩⟩
theorem qp_4_3 : qp_P (8, 8, 0, 0, false) := ⟨_, _, _, tyX8 0, rfl, tyX8_ok 0 (by decide), rfl, fun h => absurd h (by decide)⟩
theorem qp_4_4 : qp_P (8, 8, 1, 0, false) := ⟨_, _, _, tyX8 1, rfl, tyX8_ok 1 (by decide), rfl, fun h => absurd h (by decide)⟩
theorem qp_4_5 : qp_P (8, 8, 2, 0, false) := ⟨_, _, _, tyX8 2, rfl, tyX8_ok 2 (by decide), rfl, fun h => absurd h (by decide)⟩
theorem qp_4_6 : qp_P (8, 8, 3, 0, false) := ⟨_, _, _, tyX8 3, rfl, tyX8_ok 3 (by decide), rfl, fun h => absurd h (by decide)⟩
theorem qp_4_7 : qp_P (8, 8, 4, 0, false) := ⟨_, _, _, tyX8 4, rfl, tyX8_ok 4 (by decide), rfl, fun h => absurd h (by decide)⟩
theorem qp_4_8 : qp_P (9, 9, 2, 3, true) := ⟨_, _, _, tyX9 2, rfl, tyX9_ok 2 (by decide), rfl, fun _ => ⟨rfl, rfl⟩⟩
theorem qp_4_9 : qp_P (9, 9, 3, 3, true) := ⟨_, _, _, tyX9 3, rfl, tyX9_ok 3 (by decide), rfl, fun _ => ⟨rfl, rfl⟩⟩
theorem qp_4_10 : qp_P (9, 9, 4, 3, true) := ⟨_, _, _, tyX9 4, rfl, tyX9_ok 4 (by decide), rfl, fun _ => ⟨rfl, rfl⟩⟩
theorem qp_4_11 : qp_P (9, 9, 5, 3, true) := ⟨_, _, _, tyX9 5, rfl, tyX9_ok 5 (by decide), rfl, fun _ => ⟨rfl, rfl⟩⟩
theorem qp_4_12 : qp_P (9, 9, 6, 3, true) := ⟨_, _, _, tyX9 6, rfl, tyX9_ok 6 (by decide), rfl, fun _ => ⟨rfl, rfl⟩⟩
theorem qp_4_13 : qp_P (9, 9, 7, 3, false) := ⟨_, _, _, tyX9 7, rfl, tyX9_ok 7 (by decide), rfl, fun h => absurd h (by decide)⟩
theorem qp_4_14 : qp_P (9, 9, 8, 0, false) := ⟨_, _, _, tyX9 8, rfl, tyX9_ok 8 (by decide), rfl, fun h => absurd h (by decide)⟩
theorem qp_4_15 : qp_P (9, 9, 9, 0, false) := ⟨_, _, _, tyX9 9, rfl, tyX9_ok 9 (by decide), rfl, fun h => absurd h (by decide)⟩
theorem qp_4_ok : ∀ f ∈ qp_4, qp_P f := List.forall_mem_cons.mpr ⟨qp_4_0, List.forall_mem_cons.mpr ⟨qp_4_1, List.forall_mem_cons.mpr ⟨qp_4_2, List.forall_mem_cons.mpr ⟨qp_4_3, List.forall_mem_cons.mpr ⟨qp_4_4, List.forall_mem_cons.mpr ⟨qp_4_5, List.forall_mem_cons.mpr ⟨qp_4_6, List.forall_mem_cons.mpr ⟨qp_4_7, List.forall_mem_cons.mpr ⟨qp_4_8, List.forall_mem_cons.mpr ⟨qp_4_9, List.forall_mem_cons.mpr ⟨qp_4_10, List.forall_mem_cons.mpr ⟨qp_4_11, List.forall_mem_cons.mpr ⟨qp_4_12, List.forall_mem_cons.mpr ⟨qp_4_13, List.forall_mem_cons.mpr ⟨qp_4_14, List.forall_mem_cons.mpr ⟨qp_4_15, fun _ h => absurd h List.not_mem_nil⟩⟩⟩⟩⟩⟩⟩⟩⟩⟩⟩⟩⟩⟩⟩⟩
def qp_5 : List (Nat × Nat × Nat × Int × Bool) := [(9, 9, 10, 0, false), (9, 9, 11, 0, false), (9, 9, 12, 0, false), (9, 9, 13, 2, false), (9, 9, 0, 0, false), (9, 9, 1, 0, false), (10, 10, 0, 3, true), (10, 10, 1, 3, true), (10, 10, 2, 3, true), (10, 10, 3, 3, true), (10, 10, 4, 3, true), (10, 10, 5, 3, true), (10, 10, 6, 3, true), (10, 10, 7, 3, true), (10, 10, 8, 3, true), (10, 10, 9, 3, true)]
theorem qp_5_0 : qp_P (9, 9, 10, 0, false) := ⟨_, _, _, tyX9 10, rfl, tyX9_ok 10 (by decide), rfl, fun h => absurd h (by decide)⟩
theorem qp_5_1 : qp_P (9, 9, 11, 0, false) := ⟨_, _, _, tyX9 11, rfl, tyX9_ok 11 (by decide), rfl, fun h => absurd h (by decide)⟩
theorem qp_5_2 : qp_P (9, 9, 12, 0, false) := ⟨_, _, _, tyX9 12, rfl, tyX9_ok 12 (by decide), rfl, fun h => absurd h (by decide)⟩
theorem qp_5_3 : qp_P (9, 9, 13, 2, false) := ⟨_, _, _, tyX9 13, rfl, tyX9_ok 13 (by decide), rfl, fun h => absurd h (by decide)⟩
theorem qp_5_4 : qp_P (9, 9, 0, 0, false) := ⟨_, _, _, tyX9 0, rfl, tyX9_ok 0 (by decide), rfl, fun h => absurd h (by decide)⟩
theorem qp_5_5 : qp_P (9, 9, 1, 0, false) := ⟨_, _, _, tyX9 1, rfl, tyX9_ok 1 (by decide), rfl, fun h => absurd h (by decide)⟩
theorem qp_5_6 : qp_P (10, 10, 0, 3, true) := ⟨_, _, _, tyX10 0, rfl, tyX10_ok 0 (by decide), rfl, fun _ => ⟨rfl, rfl⟩⟩
theorem qp_5_7 : qp_P (10, 10, 1, 3, true) := ⟨_, _, _, tyX10 1, rfl, tyX10_ok 1 (by decide), rfl, fun _ => ⟨rfl, rfl⟩⟩
theorem qp_5_8 : qp_P (10, 10, 2, 3, true) := ⟨_, _, _, tyX10 2, rfl, tyX10_ok 2 (by decide), rfl, fun _ => ⟨rfl, rfl⟩⟩
theorem qp_5_9 : qp_P (10, 10, 3, 3, true) := ⟨_, _, _, tyX10 3, rfl, tyX10_ok 3 (by decide), rfl, fun _ => ⟨rfl, rfl⟩⟩
theorem qp_5_10 : qp_P (10, 10, 4, 3, true) := ⟨_, _, _, tyX10 4, rfl, tyX10_ok 4 (by decide), rfl, fun _ => ⟨rfl, rfl⟩⟩
theorem qp_5_11 : qp_P (10, 10, 5, 3, true) := ⟨_, _, _, tyX10 5, rfl, tyX10_ok 5 (by decide), rfl, fun _ => ⟨rfl, rfl⟩⟩
theorem qp_5_12 : qp_P (10, 10, 6, 3, true) := ⟨_, _, _, tyX10 6, rfl, tyX10_ok 6 (by decide), rfl, fun _ => ⟨rfl, rfl⟩⟩
theorem qp_5_13 : qp_P (10, 10, 7, 3, true) := ⟨_, _, _, tyX10 7, rfl, tyX10_ok 7 (by decide), rfl, fun _ => ⟨rfl, rfl⟩⟩
theorem qp_5_14 : qp_P (10, 10, 8, 3, true) := ⟨_, _, _, tyX10 8, rfl, tyX10_ok 8 (by decide), rfl, fun _ => ⟨rfl, rfl⟩⟩
theorem qp_5_15 : qp_P (10, 10, 9, 3, true) := ⟨_, _, _, tyX10 9, rfl, tyX10_ok 9 (by decide), rfl, fun _ => ⟨rfl, rfl⟩⟩
theorem qp_5_ok : ∀ f ∈ qp_5, qp_P f := List.forall_mem_cons.mpr ⟨qp_5_0, List.forall_mem_cons.mpr ⟨qp_5_1, List.forall_mem_cons.mpr ⟨qp_5_2, List.forall_mem_cons.mpr ⟨qp_5_3, List.forall_mem_cons.mpr ⟨qp_5_4, List.forall_mem_cons.mpr ⟨qp_5_5, List.forall_mem_cons.mpr ⟨qp_5_6, List.forall_mem_cons.mpr ⟨qp_5_7, List.forall_mem_cons.mpr ⟨qp_5_8, List.forall_mem_cons.mpr ⟨qp_5_9, List.forall_mem_cons.mpr ⟨qp_5_10, List.forall_mem_cons.mpr ⟨qp_5_11, List.forall_mem_cons.mpr ⟨qp_5_12, List.forall_mem_cons.mpr ⟨qp_5_13, List.forall_mem_cons.mpr ⟨qp_5_14, List.forall_mem_cons.mpr ⟨qp_5_15, fun _ h => absurd h List.not_mem_nil⟩⟩⟩⟩⟩⟩⟩⟩⟩⟩⟩⟩⟩⟩⟩⟩
def qp_6 : List (Nat × Nat × Nat × Int × Bool) := [(10, 10, 10, 3, true), (10, 10, 11, 3, true), (10, 10, 12, 3, true), (10, 10, 13, 3, false), (10, 10, 14, 3, false), (10, 10, 17, 0, false), (10, 10, 15, 0, false), (10, 10, 16, 0, false), (10, 10, 18, 2, false), (10, 7, 0, 2, false), (11, 11, 0, 3, true), (11, 11, 3, 0, false), (11, 11, 10, 3, true), (11, 11, 11, 3, true), (11, 11, 12, 3, true), (11, 11, 13, 3, true)]
theorem qp_6_0 : qp_P (10, 10, 10, 3, true) := ⟨_, _, _, tyX10 10, rfl, tyX10_ok 10 (by decide), rfl, fun _ => ⟨rfl, rfl⟩⟩
theorem qp_6_1 : qp_P (10, 10, 11, 3, true) := ⟨_, _, _, tyX10 11, rfl, tyX10_ok 11 (by decide), rfl, fun _ => ⟨rfl, rfl⟩⟩
theorem qp_6_2 : qp_P (10, 10, 12, 3, true) := ⟨_, _, _, tyX10 12, rfl, tyX10_ok 12 (by decide), rfl, fun _ => ⟨rfl, rfl⟩⟩
theorem qp_6_3 : qp_P (10, 10, 13, 3, false) := ⟨_, _, _, tyX10 13, rfl, tyX10_ok 13 (by decide), rfl, fun h => absurd h (by decide)⟩
theorem qp_6_4 : qp_P (10, 10, 14, 3, false) := ⟨_, _, _, tyX10 14, rfl, tyX10_ok 14 (by decide), rfl, fun h => absurd h (by decide)⟩
theorem qp_6_5 : qp_P (10, 10, 17, 0, false) := ⟨_, _, _, tyX10 17, rfl, tyX10_ok 17 (by decide), rfl, fun h => absurd h (by decide)⟩
theorem qp_6_6 : qp_P (10, 10, 15, 0, false) := ⟨_, _, _, tyX10 15, rfl, tyX10_ok 15 (by decide), rfl, fun h => absurd h (by decide)⟩
theorem qp_6_7 : qp_P (10, 10, 16, 0, false) := ⟨_, _, _, tyX10 16, rfl, tyX10_ok 16 (by decide), rfl, fun h => absurd h (by decide)⟩
theorem qp_6_8 : qp_P (10, 10, 18, 2, false) := ⟨_, _, _, tyX10 18, rfl, tyX10_ok 18 (by decide), rfl, fun h => absurd h (by decide)⟩
theorem qp_6_9 : qp_P (10, 7, 0, 2, false) := ⟨_, _, _, tyX7 0, rfl, tyX7_ok 0 (by decide), rfl, fun h => absurd h (by decide)⟩
theorem qp_6_10 : qp_P (11, 11, 0, 3, true) := ⟨_, _, _, tyX11 0, rfl, tyX11_ok 0 (by decide), rfl, fun _ => ⟨rfl, rfl⟩⟩
theorem qp_6_11 : qp_P (11, 11, 3, 0, false) := ⟨_, _, _, tyX11 3, rfl, tyX11_ok 3 (by decide), rfl, fun h => absurd h (by decide)⟩
theorem qp_6_12 : qp_P (11, 11, 10, 3, true) := ⟨_, _, _, tyX11 10, rfl, tyX11_ok 10 (by decide), rfl, fun _ => ⟨rfl, rfl⟩⟩
theorem qp_6_13 : qp_P (11, 11, 11, 3, true) := ⟨_, _, _, tyX11 11, rfl, tyX11_ok 11 (by decide), rfl, fun _ => ⟨rfl, rfl⟩⟩
theorem qp_6_14 : qp_P (11, 11, 12, 3, true) := ⟨_, _, _, tyX11 12, rfl, tyX11_ok 12 (by decide), rfl, fun _ => ⟨rfl, rfl⟩⟩
theorem qp_6_15 : qp_P (11, 11, 13, 3, true) := ⟨_, _, _, tyX11 13, rfl, tyX11_ok 13 (by decide), rfl, fun _ => ⟨rfl, rfl⟩⟩
theorem qp_6_ok : ∀ f ∈ qp_6, qp_P f := List.forall_mem_cons.mpr ⟨qp_6_0, List.forall_mem_cons.mpr ⟨qp_6_1, List.forall_mem_cons.mpr ⟨qp_6_2, List.forall_mem_cons.mpr ⟨qp_6_3, List.forall_mem_cons.mpr ⟨qp_6_4, List.forall_mem_cons.mpr ⟨qp_6_5, List.forall_mem_cons.mpr ⟨qp_6_6, List.forall_mem_cons.mpr ⟨qp_6_7, List.forall_mem_cons.mpr ⟨qp_6_8, List.forall_mem_cons.mpr ⟨qp_6_9, List.forall_mem_cons.mpr ⟨qp_6_10, List.forall_mem_cons.mpr ⟨qp_6_11, List.forall_mem_cons.mpr ⟨qp_6_12, List.forall_mem_cons.mpr ⟨qp_6_13, List.forall_mem_cons.mpr ⟨qp_6_14, List.forall_mem_cons.mpr ⟨qp_6_15, fun _ h => absurd h List.not_mem_nil⟩⟩⟩⟩⟩⟩⟩⟩⟩⟩⟩⟩⟩⟩⟩⟩
def qp_7 : List (Nat × Nat × Nat × Int × Bool) := [(11, 11, 14, 3, true), (11, 11, 15, 3, true), (11, 11, 16, 3, true), (11, 11, 17, 3, true), (11, 11, 18, 3, true), (11, 11, 19, 3, true), (11, 11, 20, 3, true), (11, 11, 21, 3, true), (11, 11, 22, 3, true), (11, 11, 29, 3, true), (11, 11, 30, 3, true), (11, 11, 31, 3, true), (11, 11, 33, 3, true), (11, 11, 34, 3, true), (11, 11, 35, 3, true), (11, 11, 41, 3, true)]
theorem qp_7_0 : qp_P (11, 11, 14, 3, true) := ⟨_, _, _, tyX11 14, rfl, tyX11_ok 14 (by decide), rfl, fun _ => ⟨rfl, rfl⟩⟩
theorem qp_7_1 : qp_P (11, 11, 15, 3, true) := ⟨_, _, _, tyX11 15, rfl, tyX11_ok 15 (by decide), rfl, fun _ => ⟨rfl, rfl⟩⟩
theorem qp_7_2 : qp_P (11, 11, 16, 3, true) := ⟨_, _, _, tyX11 16, rfl, tyX11_ok 16 (by decide), rfl, fun _ => ⟨rfl, rfl⟩⟩
theorem qp_7_3 : qp_P (11, 11, 17, 3, true) := ⟨_, _, _, tyX11 17, rfl, tyX11_ok 17 (by decide), rfl, fun _ => ⟨rfl, rfl⟩⟩
theorem qp_7_4 : qp_P (11, 11, 18, 3, true) := ⟨_, _, _, tyX11 18, rfl, tyX11_ok 18 (by decide), rfl, fun _ => ⟨rfl, rfl⟩⟩
theorem qp_7_5 : qp_P (11, 11, 19, 3, true) := ⟨_, _, _, tyX11 19, rfl, tyX11_ok 19 (by decide), rfl, fun _ => ⟨rfl, rfl⟩⟩
theorem qp_7_6 : qp_P (11, 11, 20, 3, true) := ⟨_, _, _, tyX11 20, rfl, tyX11_ok 20 (by decide), rfl, fun _ => ⟨rfl, rfl⟩⟩
theorem qp_7_7 : qp_P (11, 11, 21, 3, true) := ⟨_, _, _, tyX11 21, rfl, tyX11_ok 21 (by decide), rfl, fun _ => ⟨rfl, rfl⟩⟩
theorem qp_7_8 : qp_P (11, 11, 22, 3, true) := ⟨_, _, _, tyX11 22, rfl, tyX11_ok 22 (by decide), rfl, fun _ => ⟨rfl, rfl⟩⟩
theorem qp_7_9 : qp_P (11, 11, 29, 3, true) := ⟨_, _, _, tyX11 29, rfl, tyX11_ok 29 (by decide), rfl, fun _ => ⟨rfl, rfl⟩⟩
theorem qp_7_10 : qp_P (11, 11, 30, 3, true) := ⟨_, _, _, tyX11 30, rfl, tyX11_ok 30 (by decide), rfl, fun _ => ⟨rfl, rfl⟩⟩
theorem qp_7_11 : qp_P (11, 11, 31, 3, true) := ⟨_, _, _, tyX11 31, rfl, tyX11_ok 31 (by decide), rfl, fun _ => ⟨rfl, rfl⟩⟩
theorem qp_7_12 : qp_P (11, 11, 33, 3, true) := ⟨_, _, _, tyX11 33, rfl, tyX11_ok 33 (by decide), rfl, fun _ => ⟨rfl, rfl⟩⟩
theorem qp_7_13 : qp_P (11, 11, 34, 3, true) := ⟨_, _, _, tyX11 34, rfl, tyX11_ok 34 (by decide), rfl, fun _ => ⟨rfl, rfl⟩⟩
theorem qp_7_14 : qp_P (11, 11, 35, 3, true) := ⟨_, _, _, tyX11 35, rfl, tyX11_ok 35 (by decide), rfl, fun _ => ⟨rfl, rfl⟩⟩
theorem qp_7_15 : qp_P (11, 11, 41, 3, true) := ⟨_, _, _, tyX11 41, rfl, tyX11_ok 41 (by decide), rfl, fun _ => ⟨rfl, rfl⟩⟩
theorem qp_7_ok : ∀ f ∈ qp_7, qp_P f := List.forall_mem_cons.mpr ⟨qp_7_0, List.forall_mem_cons.mpr ⟨qp_7_1, List.forall_mem_cons.mpr ⟨qp_7_2, List.forall_mem_cons.mpr ⟨qp_7_3, List.forall_mem_cons.mpr ⟨qp_7_4, List.forall_mem_cons.mpr ⟨qp_7_5, List.forall_mem_cons.mpr ⟨qp_7_6, List.forall_mem_cons.mpr ⟨qp_7_7, List.forall_mem_cons.mpr ⟨qp_7_8, List.forall_mem_cons.mpr ⟨qp_7_9, List.forall_mem_cons.mpr ⟨qp_7_10, List.forall_mem_cons.mpr ⟨qp_7_11, List.forall_mem_cons.mpr ⟨qp_7_12, List.forall_mem_cons.mpr ⟨qp_7_13, List.forall_mem_cons.mpr ⟨qp_7_14, List.forall_mem_cons.mpr ⟨qp_7_15, fun _ h => absurd h List.not_mem_nil⟩⟩⟩⟩⟩⟩⟩⟩⟩⟩⟩⟩⟩⟩⟩⟩
def qp_8 : List (Nat × Nat × Nat × Int × Bool) := [(11, 11, 43, 3, true), (11, 11, 44, 3, true), (11, 11, 45, 3, true), (11, 11, 46, 3, true), (11, 11, 47, 3, true), (11, 11, 48, 3, true), (11, 11, 49, 3, true), (11, 11, 50, 3, true), (11, 11, 51, 3, true), (11, 11, 52, 3, true), (11, 11, 55, 3, true), (11, 11, 56, 3, true), (11, 11, 57, 3, true), (11, 11, 60, 3, true), (11, 11, 61, 3, true), (11, 11, 62, 3, true)]
theorem qp_8_0 : qp_P (11, 11, 43, 3, true) := ⟨_, _, _, tyX11 43, rfl, tyX11_ok 43 (by decide), rfl, fun _ => ⟨rfl, rfl⟩⟩
theorem qp_8_1 : qp_P (11, 11, 44, 3, true) := ⟨_, _, _, tyX11 44, rfl, tyX11_ok 44 (by decide), rfl, fun _ => ⟨rfl, rfl⟩⟩
theorem qp_8_2 : qp_P (11, 11, 45, 3, true) := ⟨_, _, _, tyX11 45, rfl, tyX11_ok 45 (by decide), rfl, fun _ => ⟨rfl, rfl⟩⟩
theorem qp_8_3 : qp_P (11, 11, 46, 3, true) := ⟨_, _, _, tyX11 46, rfl, tyX11_ok 46 (by decide), rfl, fun _ => ⟨rfl, rfl⟩⟩
theorem qp_8_4 : qp_P (11, 11, 47, 3, true) := ⟨_, _, _, tyX11 47, rfl, tyX11_ok 47 (by decide), rfl, fun _ => ⟨rfl, rfl⟩⟩
theorem qp_8_5 : qp_P (11, 11, 48, 3, true) := ⟨_, _, _, tyX11 48, rfl, tyX11_ok 48 (by decide), rfl, fun _ => ⟨rfl, rfl⟩⟩
theorem qp_8_6 : qp_P (11, 11, 49, 3, true) := ⟨_, _, _, tyX11 49, rfl, tyX11_ok 49 (by decide), rfl, fun _ => ⟨rfl, rfl⟩⟩
theorem qp_8_7 : qp_P (11, 11, 50, 3, true) := ⟨_, _, _, tyX11 50, rfl, tyX11_ok 50 (by decide), rfl, fun _ => ⟨rfl, rfl⟩⟩
theorem qp_8_8 : qp_P (11, 11, 51, 3, true) := ⟨_, _, _, tyX11 51, rfl, tyX11_ok 51 (by decide), rfl, fun _ => ⟨rfl, rfl⟩⟩
theorem qp_8_9 : qp_P (11, 11, 52, 3, true) := ⟨_, _, _, tyX11 52, rfl, tyX11_ok 52 (by decide), rfl, fun _ => ⟨rfl, rfl⟩⟩
theorem qp_8_10 : qp_P (11, 11, 55, 3, true) := ⟨_, _, _, tyX11 55, rfl, tyX11_ok 55 (by decide), rfl, fun _ => ⟨rfl, rfl⟩⟩
theorem qp_8_11 : qp_P (11, 11, 56, 3, true) := ⟨_, _, _, tyX11 56, rfl, tyX11_ok 56 (by decide), rfl, fun _ => ⟨rfl, rfl⟩⟩
theorem qp_8_12 : qp_P (11, 11, 57, 3, true) := ⟨_, _, _, tyX11 57, rfl, tyX11_ok 57 (by decide), rfl, fun _ => ⟨rfl, rfl⟩⟩
theorem qp_8_13 : qp_P (11, 11, 60, 3, true) := ⟨_, _, _, tyX11 60, rfl, tyX11_ok 60 (by decide), rfl, fun _ => ⟨rfl, rfl⟩⟩
theorem qp_8_14 : qp_P (11, 11, 61, 3, true) := ⟨_, _, _, tyX11 61, rfl, tyX11_ok 61 (by decide), rfl, fun _ => ⟨rfl, rfl⟩⟩
theorem qp_8_15 : qp_P (11, 11, 62, 3, true) := ⟨_, _, _, tyX11 62, rfl, tyX11_ok 62 (by decide), rfl, fun _ => ⟨rfl, rfl⟩⟩
theorem qp_8_ok : ∀ f ∈ qp_8, qp_P f := List.forall_mem_cons.mpr ⟨qp_8_0, List.forall_mem_cons.mpr ⟨qp_8_1, List.forall_mem_cons.mpr ⟨qp_8_2, List.forall_mem_cons.mpr ⟨qp_8_3, List.forall_mem_cons.mpr ⟨qp_8_4, List.forall_mem_cons.mpr ⟨qp_8_5, List.forall_mem_cons.mpr ⟨qp_8_6, List.forall_mem_cons.mpr ⟨qp_8_7, List.forall_mem_cons.mpr ⟨qp_8_8, List.forall_mem_cons.mpr ⟨qp_8_9, List.forall_mem_cons.mpr ⟨qp_8_10, List.forall_mem_cons.mpr ⟨qp_8_11, List.forall_mem_cons.mpr ⟨qp_8_12, List.forall_mem_cons.mpr ⟨qp_8_13, List.forall_mem_cons.mpr ⟨qp_8_14, List.forall_mem_cons.mpr ⟨qp_8_15, fun _ h => absurd h List.not_mem_nil⟩⟩⟩⟩⟩⟩⟩⟩⟩⟩⟩⟩⟩⟩⟩⟩
def qp_9 : List (Nat × Nat × Nat × Int × Bool) := [(11, 11, 63, 3, true), (11, 11, 64, 3, true), (11, 11, 65, 3, true), (11, 11, 66, 3, true), (11, 11, 67, 3, true), (11, 11, 68, 3, true), (11, 11, 69, 3, true), (11, 11, 71, 3, true), (11, 11, 72, 3, true), (11, 11, 75, 3, true), (11, 11, 78, 3, true), (11, 11, 79, 3, true), (11, 11, 80, 3, true), (11, 11, 1, 0, false), (11, 11, 4, 0, false), (11, 11, 7, 0, false)]
theorem qp_9_0 : qp_P (11, 11, 63, 3, true) := ⟨_, _, _, tyX11 63, rfl, tyX11_ok 63 (by decide), rfl, fun _ => ⟨rfl, rfl⟩⟩
theorem qp_9_1 : qp_P (11, 11, 64, 3, true) := ⟨_, _, _, tyX11 64, rfl, tyX11_ok 64 (by decide), rfl, fun _ => ⟨rfl, rfl⟩⟩
theorem qp_9_2 : qp_P (11, 11, 65, 3, true) := ⟨_, _, _, tyX11 65, rfl, tyX11_ok 65 (by decide), rfl, fun _ => ⟨rfl, rfl⟩⟩
theorem qp_9_3 : qp_P (11, 11, 66, 3, true) := ⟨_, _, _, tyX11 66, rfl, tyX11_ok 66 (by decide), rfl, fun _ => ⟨rfl, rfl⟩⟩
theorem qp_9_4 : qp_P (11, 11, 67, 3, true) := ⟨_, _, _, tyX11 67, rfl, tyX11_ok 67 (by decide), rfl, fun _ => ⟨rfl, rfl⟩⟩
theorem qp_9_5 : qp_P (11, 11, 68, 3, true) := ⟨_, _, _, tyX11 68, rfl, tyX11_ok 68 (by decide), rfl, fun _ => ⟨rfl, rfl⟩⟩
theorem qp_9_6 : qp_P (11, 11, 69, 3, true) := ⟨_, _, _, tyX11 69, rfl, tyX11_ok 69 (by decide), rfl, fun _ => ⟨rfl, rfl⟩⟩
theorem qp_9_7 : qp_P (11, 11, 71, 3, true) := ⟨_, _, _, tyX11 71, rfl, tyX11_ok 71 (by decide), rfl, fun _ => ⟨rfl, rfl⟩⟩
theorem qp_9_8 : qp_P (11, 11, 72, 3, true) := ⟨_, _, _, tyX11 72, rfl, tyX11_ok 72 (by decide), rfl, fun _ => ⟨rfl, rfl⟩⟩
theorem qp_9_9 : qp_P (11, 11, 75, 3, true) := ⟨_, _, _, tyX11 75, rfl, tyX11_ok 75 (by decide), rfl, fun _ => ⟨rfl, rfl⟩⟩
theorem qp_9_10 : qp_P (11, 11, 78, 3, true) := ⟨_, _, _, tyX11 78, rfl, tyX11_ok 78 (by decide), rfl, fun _ => ⟨rfl, rfl⟩⟩
theorem qp_9_11 : qp_P (11, 11, 79, 3, true) := ⟨_, _, _, tyX11 79, rfl, tyX11_ok 79 (by decide), rfl, fun _ => ⟨rfl, rfl⟩⟩
theorem qp_9_12 : qp_P (11, 11, 80, 3, true) := ⟨_, _, _, tyX11 80, rfl, tyX11_ok 80 (by decide), rfl, fun _ => ⟨rfl, rfl⟩⟩
theorem qp_9_13 : qp_P (11, 11, 1, 0, false) := ⟨_, _, _, tyX11 1, rfl, tyX11_ok 1 (by decide), rfl, fun h => absurd h (by decide)⟩
theorem qp_9_14 : qp_P (11, 11, 4, 0, false) := ⟨_, _, _, tyX11 4, rfl, tyX11_ok 4 (by decide), rfl, fun h => absurd h (by decide)⟩
theorem qp_9_15 : qp_P (11, 11, 7, 0, false) := ⟨_, _, _, tyX11 7, rfl, tyX11_ok 7 (by decide), rfl, fun h => absurd h (by decide)⟩
theorem qp_9_ok : ∀ f ∈ qp_9, qp_P f := List.forall_mem_cons.mpr ⟨qp_9_0, List.forall_mem_cons.mpr ⟨qp_9_1, List.forall_mem_cons.mpr ⟨qp_9_2, List.forall_mem_cons.mpr ⟨qp_9_3, List.forall_mem_cons.mpr ⟨qp_9_4, List.forall_mem_cons.mpr ⟨qp_9_5, List.forall_mem_cons.mpr ⟨qp_9_6, List.forall_mem_cons.mpr ⟨qp_9_7, List.forall_mem_cons.mpr ⟨qp_9_8, List.forall_mem_cons.mpr ⟨qp_9_9, List.forall_mem_cons.mpr ⟨qp_9_10, List.forall_mem_cons.mpr ⟨qp_9_11, List.forall_mem_cons.mpr ⟨qp_9_12, List.forall_mem_cons.mpr ⟨qp_9_13, List.forall_mem_cons.mpr ⟨qp_9_14, List.forall_mem_cons.mpr ⟨qp_9_15, fun _ h => absurd h List.not_mem_nil⟩⟩⟩⟩⟩⟩⟩⟩⟩⟩⟩⟩⟩⟩⟩⟩
def qp_10 : List (Nat × Nat × Nat × Int × Bool) := [(11, 11, 9, 1, false), (11, 11, 8, 0, false), (11, 11, 6, 0, false), (11, 11, 2, 0, false), (11, 11, 23, 0, false), (11, 11, 24, 0, false), (11, 11, 25, 0, false), (11, 11, 5, 0, false), (11, 11, 26, 0, false), (11, 11, 27, 0, false), (11, 11, 28, 0, false), (11, 11, 73, 0, false), (11, 11, 74, 0, false), (11, 11, 70, 2, false), (11, 11, 32, 0, false), (11, 11, 39, 0, false)]
theorem qp_10_0 : qp_P (11, 11, 9, 1, false) := ⟨_, _, _, tyX11 9, rfl, tyX11_ok 9 (by decide), rfl, fun h => absurd h (by decide)⟩
theorem qp_10_1 : qp_P (11, 11, 8, 0, false) := ⟨_, _, _, tyX11 8, rfl, tyX11_ok 8 (by decide), rfl, fun h => absurd h (by decide)⟩
theorem qp_10_2 : qp_P (11, 11, 6, 0, false) := ⟨_, _, _, tyX11 6, rfl, tyX11_ok 6 (by decide), rfl, fun h => absurd h (by decide)⟩
theorem qp_10_3 : qp_P (11, 11, 2, 0, false) := ⟨_, _, _, tyX11 2, rfl, tyX11_ok 2 (by decide), rfl, fun h => absurd h (by decide)⟩
theorem qp_10_4 : qp_P (11, 11, 23, 0, false) := ⟨_, _, _, tyX11 23, rfl, tyX11_ok 23 (by decide), rfl, fun h => absurd h (by decide)⟩
theorem qp_10_5 : qp_P (11, 11, 24, 0, false) := ⟨_, _, _, tyX11 24, rfl, tyX11_ok 24 (by decide), rfl, fun h => absurd h (by decide)⟩
theorem qp_10_6 : qp_P (11, 11, 25, 0, false) := ⟨_, _, _, tyX11 25, rfl, tyX11_ok 25 (by decide), rfl, fun h => absurd h (by decide)⟩
theorem qp_10_7 : qp_P (11, 11, 5, 0, false) := ⟨_, _, _, tyX11 5, rfl, tyX11_ok 5 (by decide), rfl, fun h => absurd h (by decide)⟩
theorem qp_10_8 : qp_P (11, 11, 26, 0, false) := ⟨_, _, _, tyX11 26, rfl, tyX11_ok 26 (by decide), rfl, fun h => absurd h (by decide)⟩
theorem qp_10_9 : qp_P (11, 11, 27, 0, false) := ⟨_, _, _, tyX11 27, rfl, tyX11_ok 27 (by decide), rfl, fun h => absurd h (by decide)⟩
theorem qp_10_10 : qp_P (11, 11, 28, 0, false) := ⟨_, _, _, tyX11 28, rfl, tyX11_ok 28 (by decide), rfl, fun h => absurd h (by decide)⟩
theorem qp_10_11 : qp_P (11, 11, 73, 0, false) := ⟨_, _, _, tyX11 73, rfl, tyX11_ok 73 (by decide), rfl, fun h => absurd h (by decide)⟩
theorem qp_10_12 : qp_P (11, 11, 74, 0, false) := ⟨_, _, _, tyX11 74, rfl, tyX11_ok 74 (by decide), rfl, fun h => absurd h (by decide)⟩
theorem qp_10_13 : qp_P (11, 11, 70, 2, false) := ⟨_, _, _, tyX11 70, rfl, tyX11_ok 70 (by decide), rfl, fun h => absurd h (by decide)⟩
theorem qp_10_14 : qp_P (11, 11, 32, 0, false) := ⟨_, _, _, tyX11 32, rfl, tyX11_ok 32 (by decide), rfl, fun h => absurd h (by decide)⟩
theorem qp_10_15 : qp_P (11, 11, 39, 0, false) := ⟨_, _, _, tyX11 39, rfl, tyX11_ok 39 (by decide), rfl, fun h => absurd h (by decide)⟩
theorem qp_10_ok : ∀ f ∈ qp_10, qp_P f := List.forall_mem_cons.mpr ⟨qp_10_0, List.forall_mem_cons.mpr ⟨qp_10_1, List.forall_mem_cons.mpr ⟨qp_10_2, List.forall_mem_cons.mpr ⟨qp_10_3, List.forall_mem_cons.mpr ⟨qp_10_4, List.forall_mem_cons.mpr ⟨qp_10_5, List.forall_mem_cons.mpr ⟨qp_10_6, List.forall_mem_cons.mpr ⟨qp_10_7, List.forall_mem_cons.mpr ⟨qp_10_8, List.forall_mem_cons.mpr ⟨qp_10_9, List.forall_mem_cons.mpr ⟨qp_10_10, List.forall_mem_cons.mpr ⟨qp_10_11, List.forall_mem_cons.mpr ⟨qp_10_12, List.forall_mem_cons.mpr ⟨qp_10_13, List.forall_mem_cons.mpr ⟨qp_10_14, List.forall_mem_cons.mpr ⟨qp_10_15, fun _ h => absurd h List.not_mem_nil⟩⟩⟩⟩⟩⟩⟩⟩⟩⟩⟩⟩⟩⟩⟩⟩
def qp_11 : List (Nat × Nat × Nat × Int × Bool) := [(11, 11, 38, 0, false), (11, 11, 40, 0, false), (11, 11, 36, 0, false), (11, 11, 37, 0, false), (11, 11, 42, 0, false), (11, 11, 53, 0, false), (11, 11, 54, 0, false), (11, 11, 58, 2, false), (11, 11, 59, 2, false), (11, 11, 76, 0, false), (11, 11, 77, 0, false)]
theorem qp_11_0 : qp_P (11, 11, 38, 0, false) := ⟨_, _, _, tyX11 38, rfl, tyX11_ok 38 (by decide), rfl, fun h => absurd h (by decide)⟩
theorem qp_11_1 : qp_P (11, 11, 40, 0, false) := ⟨_, _, _, tyX11 40, rfl, tyX11_ok 40 (by decide), rfl, fun h => absurd h (by decide)⟩
theorem qp_11_2 : qp_P (11, 11, 36, 0, false) := ⟨_, _, _, tyX11 36, rfl, tyX11_ok 36 (by decide), rfl, fun h => absurd h (by decide)⟩
theorem qp_11_3 : qp_P (11, 11, 37, 0, false) := ⟨_, _, _, tyX11 37, rfl, tyX11_ok 37 (by decide), rfl, fun h => absurd h (by decide)⟩
theorem qp_11_4 : qp_P (11, 11, 42, 0, false) := ⟨_, _, _, tyX11 42, rfl, tyX11_ok 42 (by decide), rfl, fun h => absurd h (by decide)⟩
theorem qp_11_5 : qp_P (11, 11, 53, 0, false) := ⟨_, _, _, tyX11 53, rfl, tyX11_ok 53 (by decide), rfl, fun h => absurd h (by decide)⟩
theorem qp_11_6 : qp_P (11, 11, 54, 0, false) := ⟨_, _, _, tyX11 54, rfl, tyX11_ok 54 (by decide), rfl, fun h => absurd h (by decide)⟩
theorem qp_11_7 : qp_P (11, 11, 58, 2, false) := ⟨_, _, _, tyX11 58, rfl, tyX11_ok 58 (by decide), rfl, fun h => absurd h (by decide)⟩
theorem qp_11_8 : qp_P (11, 11, 59, 2, false) := ⟨_, _, _, tyX11 59, rfl, tyX11_ok 59 (by decide), rfl, fun h => absurd h (by decide)⟩
theorem qp_11_9 : qp_P (11, 11, 76, 0, false) := ⟨_, _, _, tyX11 76, rfl, tyX11_ok 76 (by decide), rfl, fun h => absurd h (by decide)⟩
theorem qp_11_10 : qp_P (11, 11, 77, 0, false) := ⟨_, _, _, tyX11 77, rfl, tyX11_ok 77 (by decide), rfl, fun h => absurd h (by decide)⟩
theorem qp_11_ok : ∀ f ∈ qp_11, qp_P f := List.forall_mem_cons.mpr ⟨qp_11_0, List.forall_mem_cons.mpr ⟨qp_11_1, List.forall_mem_cons.mpr ⟨qp_11_2, List.forall_mem_cons.mpr ⟨qp_11_3, List.forall_mem_cons.mpr ⟨qp_11_4, List.forall_mem_cons.mpr ⟨qp_11_5, List.forall_mem_cons.mpr ⟨qp_11_6, List.forall_mem_cons.mpr ⟨qp_11_7, List.forall_mem_cons.mpr ⟨qp_11_8, List.forall_mem_cons.mpr ⟨qp_11_9, List.forall_mem_cons.mpr ⟨qp_11_10, fun _ h => absurd h List.not_mem_nil⟩⟩⟩⟩⟩⟩⟩⟩⟩⟩⟩
def qp_t : List (List (Nat × Nat × Nat × Int × Bool)) := [qp_0, qp_1, qp_2, qp_3, qp_4, qp_5, qp_6, qp_7, qp_8, qp_9, qp_10, qp_11]
theorem qp_tok : ∀ r ∈ qp_t, ∀ f ∈ r, qp_P f := List.forall_mem_cons.mpr ⟨qp_0_ok, List.forall_mem_cons.mpr ⟨qp_1_ok, List.forall_mem_cons.mpr ⟨qp_2_ok, List.forall_mem_cons.mpr ⟨qp_3_ok, List.forall_mem_cons.mpr ⟨qp_4_ok, List.forall_mem_cons.mpr ⟨qp_5_ok, List.forall_mem_cons.mpr ⟨qp_6_ok, List.forall_mem_cons.mpr ⟨qp_7_ok, List.forall_mem_cons.mpr ⟨qp_8_ok, List.forall_mem_cons.mpr ⟨qp_9_ok, List.forall_mem_cons.mpr ⟨qp_10_ok, List.forall_mem_cons.mpr ⟨qp_11_ok, fun _ h => absurd h List.not_mem_nil⟩⟩⟩⟩⟩⟩⟩⟩⟩⟩⟩⟩

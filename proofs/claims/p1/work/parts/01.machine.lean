/-! A SMALL MACHINE: the bytecode's instructions over a list of cells of our own, a pure function; its soundness over the kit's rows stands in the parts behind. -/
/-- a cell: an array (its kind, its length, its contents) or an object (its class' number, its fields) -/
abbrev pm_E : Type := (Nat × vp_A) ⊕ (Nat × List Value)
abbrev pm_H : Type := List pm_E
abbrev pm_L : Type := List (Nat × Value)
/-- an instruction, its length, two resolved numbers, a constant, places of words in the tables -/
abbrev pm_I : Type := Instr × Nat × Nat × Nat × Int × List (Nat × Nat)
/-- a frame: where, variables, stack, cells -/
abbrev pm_F : Type := Nat × pm_L × List Value × pm_H
/-- an end: the answer, the cells -/
abbrev pm_R : Type := Option Value × pm_H
/-- a method: name, bytes, variables, type of its answer, how many arguments, its class' number -/
abbrev pm_M : Type := MethodName × ByteArray × Nat × Option FieldType × Nat × Nat
theorem pm_test : True := trivial

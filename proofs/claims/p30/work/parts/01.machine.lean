/-! A SMALL MACHINE: the bytecode's instructions over a list of cells of our own, a pure function; its soundness over the kit's rows stands in the parts behind. -/
/-- a cell: an array (its kind, its length, its contents) or an object (its class' number, its fields) -/
abbrev pm_E : Type := (Nat × vp_A) ⊕ (Nat × List Value)
abbrev pm_H : Type := List pm_E
abbrev pm_L : Type := List (Nat × Value)
/-- an instruction, its length, two resolved numbers, a constant, places of words in the tables -/
abbrev pm_I : Type := Instr × Nat × Nat × Nat × Int × List (Nat × Nat)
/-- a frame: where, variables, stack, cells -/
abbrev pm_F : Type := Nat × pm_L × List Value × pm_H
/-- an end: the answer, the cells -/
abbrev pm_R : Type := Option Value × pm_H
/-- a method: name, bytes, variables, type of its answer, how many arguments, its class' number -/
abbrev pm_M : Type := MethodName × ByteArray × Nat × Option FieldType × Nat × Nat
/-- the script, where it may be read -/
abbrev pm_S : Type := Option (Nat × (Nat → Int32))
noncomputable def pm_nth {α : Type} (l : List α) : Nat → Option α := List.rec (fun _ => none) (fun x _ ih i => Nat.rec (some x) (fun j _ => ih j) i) l
noncomputable def pm_put {α : Type} (l : List α) (y : α) : Nat → List α := List.rec (fun _ => []) (fun x r ih i => Nat.rec (y :: r) (fun j _ => x :: ih j) i) l
theorem pm_nth_eq {α : Type} (l : List α) : ∀ i, pm_nth l i = l[i]? := by
  induction l with
  | nil => intro i; rfl
  | cons x r ih =>
    intro i
    cases i with
    | zero => rfl
    | succ j => exact ih j
theorem pm_put_eq {α : Type} (l : List α) (y : α) : ∀ i, pm_put l y i = l.set i y := by
  induction l with
  | nil => intro i; rfl
  | cons x r ih =>
    intro i
    cases i with
    | zero => rfl
    | succ j => exact congrArg (List.cons x) (ih j)
/-- a variable's value -/
def pm_get : pm_L → Nat → Option Value
  | [], _ => none
  | q :: r, i => match Nat.beq q.1 i with
    | true => some q.2
    | false => pm_get r i
theorem pm_get_mem {l : pm_L} {i : Nat} {v : Value} (h : pm_get l i = some v) : (i, v) ∈ l := by
  induction l with
  | nil => cases h
  | cons q r ih =>
    unfold pm_get at h
    split at h
    · rename_i e
      have e2 := Nat.eq_of_beq_eq_true e
      cases h
      subst e2
      exact List.mem_cons_self
    · exact List.mem_cons_of_mem _ (ih h)
def pm_c2 : Value → Bool
  | .long _ => true
  | .double _ => true
  | _ => false
/-- behind a store of one word, of two -/
def pm_st1 (i : Nat) : pm_L → pm_L
  | [] => []
  | q :: r => match Nat.beq q.1 i, (Nat.beq (q.1 + 1) i && pm_c2 q.2) with
    | false, false => q :: pm_st1 i r
    | _, _ => pm_st1 i r
def pm_st2 (i : Nat) : pm_L → pm_L
  | [] => []
  | q :: r => match (Nat.beq q.1 i || Nat.beq q.1 (i + 1)), (Nat.beq (q.1 + 1) i && pm_c2 q.2) with
    | false, false => q :: pm_st2 i r
    | _, _ => pm_st2 i r
/-- a cell by its address: 0 is the script's -/
noncomputable def pm_cell (h : pm_H) (a : Nat) : Option pm_E := Nat.rec none (fun j _ => pm_nth h j) a
noncomputable def pm_wr (h : pm_H) (a : Nat) (e : pm_E) : pm_H := Nat.rec h (fun j _ => pm_put h e j) a
def pm_ii (st : List Value) (f : Int32 → Int32 → Value) : Option (List Value) := match st with
  | .int y :: .int x :: r => some (f x y :: r)
  | _ => none
def pm_iz (st : List Value) (f : Int32 → Int32 → Value) : Option (List Value) := match st with
  | .int y :: .int x :: r => if y = 0 then none else some (f x y :: r)
  | _ => none
def pm_ll (st : List Value) (f : Int64 → Int64 → Value) : Option (List Value) := match st with
  | .long y :: .long x :: r => some (f x y :: r)
  | _ => none
def pm_lz (st : List Value) (f : Int64 → Int64 → Value) : Option (List Value) := match st with
  | .long y :: .long x :: r => if y = 0 then none else some (f x y :: r)
  | _ => none
def pm_li (st : List Value) (f : Int64 → Int32 → Value) : Option (List Value) := match st with
  | .int y :: .long x :: r => some (f x y :: r)
  | _ => none
def pm_i1 (st : List Value) (f : Int32 → Value) : Option (List Value) := match st with
  | .int x :: r => some (f x :: r)
  | _ => none
def pm_l1 (st : List Value) (f : Int64 → Value) : Option (List Value) := match st with
  | .long x :: r => some (f x :: r)
  | _ => none
def pm_dup (st : List Value) : Option (List Value) := match st with
  | v :: r => match pm_c2 v with
    | true => none
    | false => some (v :: v :: r)
  | _ => none
def pm_pop (st : List Value) : Option (List Value) := match st with
  | v :: r => match pm_c2 v with
    | true => none
    | false => some r
  | _ => none
def pm_dup2 (st : List Value) : Option (List Value) := match st with
  | v :: w :: r => match pm_c2 v, pm_c2 w with
    | false, false => some (v :: w :: v :: w :: r)
    | _, _ => none
  | _ => none
/-- what works on the stack alone -/
def pm_alu (q : Instr) (cst : Int) (st : List Value) : Option (List Value) := match q with
  | .iconst n => some (.int (Int32.ofInt n) :: st)
  | .bipush n => some (.int (Int8.ofInt n).toInt32 :: st)
  | .sipush n => some (.int (Int16.ofInt n).toInt32 :: st)
  | .lconst n => some (.long (Int64.ofNat (n : Nat)) :: st)
  | .ldc _ => some (.int (Int32.ofInt cst) :: st)
  | .ldc_w _ => some (.int (Int32.ofInt cst) :: st)
  | .ldc2_w _ => some (.long (Int64.ofInt cst) :: st)
  | .aconst_null => some (.null :: st)
  | .iadd => pm_ii st (fun x y => .int (x + y))
  | .isub => pm_ii st (fun x y => .int (x - y))
  | .imul => pm_ii st (fun x y => .int (x * y))
  | .iand => pm_ii st (fun x y => .int (x &&& y))
  | .ior => pm_ii st (fun x y => .int (x ||| y))
  | .ishl => pm_ii st (fun x y => .int (x <<< (y &&& 31)))
  | .ishr => pm_ii st (fun x y => .int (x >>> (y &&& 31)))
  | .idiv => pm_iz st (fun x y => .int (x / y))
  | .irem => pm_iz st (fun x y => .int (x - x / y * y))
  | .ineg => pm_i1 st (fun x => .int (-x))
  | .ladd => pm_ll st (fun x y => .long (x + y))
  | .lsub => pm_ll st (fun x y => .long (x - y))
  | .lmul => pm_ll st (fun x y => .long (x * y))
  | .land => pm_ll st (fun x y => .long (x &&& y))
  | .lor => pm_ll st (fun x y => .long (x ||| y))
  | .lxor => pm_ll st (fun x y => .long (x ^^^ y))
  | .ldiv => pm_lz st (fun x y => .long (x / y))
  | .lrem => pm_lz st (fun x y => .long (x - x / y * y))
  | .lcmp => pm_ll st (fun x y => .int (lg_cmp x y))
  | .lneg => pm_l1 st (fun x => .long (-x))
  | .lshl => pm_li st (fun x y => .long (x <<< (y.toInt64 &&& 63)))
  | .lshr => pm_li st (fun x y => .long (x >>> (y.toInt64 &&& 63)))
  | .i2l => pm_i1 st (fun x => .long x.toInt64)
  | .l2i => pm_l1 st (fun x => .int x.toInt32)
  | .i2b => pm_i1 st (fun x => .int x.toInt8.toInt32)
  | .dup => pm_dup st
  | .pop => pm_pop st
  | .dup2 => pm_dup2 st
  | _ => none
/-- the next place behind what works on the stack alone -/
def pm_aln (q : Instr) : Nat := match q with
  | .bipush _ => 2
  | .sipush _ => 3
  | .ldc _ => 2
  | .ldc_w _ => 3
  | .ldc2_w _ => 3
  | _ => 1
def pm_ldi (lv : pm_L) (i : Nat) : Option Value := match pm_get lv i with
  | some (.int x) => some (.int x)
  | _ => none
def pm_ldl (lv : pm_L) (i : Nat) : Option Value := match pm_get lv i with
  | some (.long x) => some (.long x)
  | _ => none
def pm_lda (lv : pm_L) (i : Nat) : Option Value := match pm_get lv i with
  | some (.ref x) => some (.ref x)
  | some .null => some .null
  | _ => none
/-- a load: the value, the next place -/
def pm_ld (q : Instr) (lv : pm_L) : Option Value := match q with
  | .iload_n n => pm_ldi lv (n : Nat)
  | .iload n => pm_ldi lv n
  | .lload_n n => pm_ldl lv (n : Nat)
  | .lload n => pm_ldl lv n
  | .aload_n n => pm_lda lv (n : Nat)
  | .aload n => pm_lda lv n
  | _ => none
def pm_ldn (q : Instr) : Nat := match q with
  | .iload _ => 2
  | .lload _ => 2
  | .aload _ => 2
  | _ => 1
def pm_sti (nL i : Nat) (lv : pm_L) (st : List Value) : Option (pm_L × List Value) := match st with
  | .int x :: r => match Nat.ble (i + 1) nL with
    | true => some ((i, .int x) :: pm_st1 i lv, r)
    | false => none
  | _ => none
def pm_stl (nL i : Nat) (lv : pm_L) (st : List Value) : Option (pm_L × List Value) := match st with
  | .long x :: r => match Nat.ble (i + 2) nL with
    | true => some ((i, .long x) :: pm_st2 i lv, r)
    | false => none
  | _ => none
def pm_sta (nL i : Nat) (lv : pm_L) (st : List Value) : Option (pm_L × List Value) := match st with
  | .ref x :: r => match Nat.ble (i + 1) nL with
    | true => some ((i, .ref x) :: pm_st1 i lv, r)
    | false => none
  | .null :: r => match Nat.ble (i + 1) nL with
    | true => some ((i, .null) :: pm_st1 i lv, r)
    | false => none
  | _ => none
def pm_inc (nL i : Nat) (n : Int) (lv : pm_L) (st : List Value) : Option (pm_L × List Value) := match pm_get lv i with
  | some (.int x) => match Nat.ble (i + 1) nL with
    | true => some ((i, .int (x + Int32.ofInt n)) :: pm_st1 i lv, st)
    | false => none
  | _ => none
def pm_sto (nL : Nat) (q : Instr) (lv : pm_L) (st : List Value) : Option (pm_L × List Value) := match q with
  | .istore_n n => pm_sti nL (n : Nat) lv st
  | .istore n => pm_sti nL n lv st
  | .lstore_n n => pm_stl nL (n : Nat) lv st
  | .lstore n => pm_stl nL n lv st
  | .astore_n n => pm_sta nL (n : Nat) lv st
  | .astore n => pm_sta nL n lv st
  | .iinc i n => pm_inc nL i n lv st
  | _ => none
def pm_ston (q : Instr) : Nat := match q with
  | .istore _ => 2
  | .lstore _ => 2
  | .astore _ => 2
  | .iinc _ _ => 3
  | _ => 1
def pm_if (b : Bool) (t pc : Nat) (r : List Value) : Option (Nat × List Value) := match b with
  | true => some (t, r)
  | false => some (pc + 3, r)
def pm_sw (pc : Nat) (off : Int) (r : List Value) : Option (Nat × List Value) := match (pc : Int) + off with
  | .ofNat t => some (t, r)
  | _ => none
/-- a jump: t is the target -/
def pm_jmp (q : Instr) (pc t : Nat) (st : List Value) : Option (Nat × List Value) := match q with
  | .goto _ => some (t, st)
  | .ifCond cd _ => match st with
    | .int x :: r => match cd with
      | .eq => pm_if (decide (x = 0)) t pc r
      | .ne => pm_if (decide (¬ x = 0)) t pc r
      | .lt => pm_if (decide (x < 0)) t pc r
      | .ge => pm_if (decide (0 ≤ x)) t pc r
      | .gt => pm_if (decide (0 < x)) t pc r
      | .le => pm_if (decide (x ≤ 0)) t pc r
    | _ => none
  | .if_icmp cd _ => match st with
    | .int y :: .int x :: r => match cd with
      | .eq => pm_if (decide (x = y)) t pc r
      | .ne => pm_if (decide (¬ x = y)) t pc r
      | .lt => pm_if (decide (x < y)) t pc r
      | .ge => pm_if (decide (y ≤ x)) t pc r
      | .gt => pm_if (decide (y < x)) t pc r
      | .le => pm_if (decide (x ≤ y)) t pc r
    | _ => none
  | .ifnull _ => match st with
    | .null :: r => some (t, r)
    | .ref _ :: r => some (pc + 3, r)
    | _ => none
  | .ifnonnull _ => match st with
    | .null :: r => some (pc + 3, r)
    | .ref _ :: r => some (t, r)
    | _ => none
  | .tableswitch dflt lo hi offs => match st with
    | .int x :: r => if x.toInt < lo ∨ hi < x.toInt then pm_sw pc dflt r else match offs[(x.toInt - lo).toNat]? with
      | some off => pm_sw pc off r
      | none => none
    | _ => none
  | _ => none
/-- whether a value may stand in a field: 0 int, 1 long, 2 boolean, 3 a reference -/
def pm_fit (k : Int) (v : Value) : Bool := match k, v with
  | .ofNat 0, .int _ => true
  | .ofNat 1, .long _ => true
  | .ofNat 2, .int x => decide (x = 0) || decide (x = 1)
  | .ofNat 3, .ref _ => true
  | .ofNat 3, .null => true
  | _, _ => false

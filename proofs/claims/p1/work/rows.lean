section
/-! A SMALL MACHINE: the bytecode's instructions over a list of cells of our own, a pure function; its soundness over the kit's rows stands in the parts behind. -/
/-- a cell: an array (its kind, its length, its contents) or an object (its class' number, its fields) -/
abbrev pm_E : Type := (Nat × vp_A) ⊕ (Nat × List Value)
abbrev pm_H : Type := List pm_E
abbrev pm_L : Type := List (Nat × Value)
/-- an instruction, its length, two resolved numbers, a constant, places of words in the tables -/
abbrev pm_I : Type := Instr × Nat × Nat × Nat × Int × List (Nat × Nat)
/-- a frame: where, variables, stack, cells -/
abbrev pm_F : Type := Nat × pm_L × List Value × pm_H
/-- an end: the answer, the cells -/
abbrev pm_R : Type := Option Value × pm_H
/-- a method: name, bytes, variables, type of its answer, how many arguments, its class' number -/
abbrev pm_M : Type := MethodName × ByteArray × Nat × Option FieldType × Nat × Nat
/-- the script, where it may be read -/
abbrev pm_S : Type := Option (Nat × (Nat → Int32))
noncomputable def pm_nth {α : Type} (l : List α) : Nat → Option α := List.rec (fun _ => none) (fun x _ ih i => Nat.rec (some x) (fun j _ => ih j) i) l
noncomputable def pm_put {α : Type} (l : List α) (y : α) : Nat → List α := List.rec (fun _ => []) (fun x r ih i => Nat.rec (y :: r) (fun j _ => x :: ih j) i) l
theorem pm_nth_eq {α : Type} (l : List α) : ∀ i, pm_nth l i = l[i]? := by
  induction l with
  | nil => intro i; rfl
  | cons x r ih =>
    intro i
    cases i with
    | zero => rfl
    | succ j => exact ih j
theorem pm_put_eq {α : Type} (l : List α) (y : α) : ∀ i, pm_put l y i = l.set i y := by
  induction l with
  | nil => intro i; rfl
  | cons x r ih =>
    intro i
    cases i with
    | zero => rfl
    | succ j => exact congrArg (List.cons x) (ih j)
/-- a variable's value -/
def pm_get : pm_L → Nat → Option Value
  | [], _ => none
  | q :: r, i => match Nat.beq q.1 i with
    | true => some q.2
    | false => pm_get r i
theorem pm_get_mem {l : pm_L} {i : Nat} {v : Value} (h : pm_get l i = some v) : (i, v) ∈ l := by
  induction l with
  | nil => cases h
  | cons q r ih =>
    unfold pm_get at h
    split at h
    · rename_i e
      have e2 := Nat.eq_of_beq_eq_true e
      cases h
      subst e2
      exact List.mem_cons_self
    · exact List.mem_cons_of_mem _ (ih h)
def pm_c2 : Value → Bool
  | .long _ => true
  | .double _ => true
  | _ => false
/-- behind a store of one word, of two -/
def pm_st1 (i : Nat) : pm_L → pm_L
  | [] => []
  | q :: r => match Nat.beq q.1 i, (Nat.beq (q.1 + 1) i && pm_c2 q.2) with
    | false, false => q :: pm_st1 i r
    | _, _ => pm_st1 i r
def pm_st2 (i : Nat) : pm_L → pm_L
  | [] => []
  | q :: r => match (Nat.beq q.1 i || Nat.beq q.1 (i + 1)), (Nat.beq (q.1 + 1) i && pm_c2 q.2) with
    | false, false => q :: pm_st2 i r
    | _, _ => pm_st2 i r
/-- a cell by its address: 0 is the script's -/
noncomputable def pm_cell (h : pm_H) (a : Nat) : Option pm_E := Nat.rec none (fun j _ => pm_nth h j) a
noncomputable def pm_wr (h : pm_H) (a : Nat) (e : pm_E) : pm_H := Nat.rec h (fun j _ => pm_put h e j) a
def pm_ii (st : List Value) (f : Int32 → Int32 → Value) : Option (List Value) := match st with
  | .int y :: .int x :: r => some (f x y :: r)
  | _ => none
def pm_iz (st : List Value) (f : Int32 → Int32 → Value) : Option (List Value) := match st with
  | .int y :: .int x :: r => if y = 0 then none else some (f x y :: r)
  | _ => none
def pm_ll (st : List Value) (f : Int64 → Int64 → Value) : Option (List Value) := match st with
  | .long y :: .long x :: r => some (f x y :: r)
  | _ => none
def pm_lz (st : List Value) (f : Int64 → Int64 → Value) : Option (List Value) := match st with
  | .long y :: .long x :: r => if y = 0 then none else some (f x y :: r)
  | _ => none
def pm_li (st : List Value) (f : Int64 → Int32 → Value) : Option (List Value) := match st with
  | .int y :: .long x :: r => some (f x y :: r)
  | _ => none
def pm_i1 (st : List Value) (f : Int32 → Value) : Option (List Value) := match st with
  | .int x :: r => some (f x :: r)
  | _ => none
def pm_l1 (st : List Value) (f : Int64 → Value) : Option (List Value) := match st with
  | .long x :: r => some (f x :: r)
  | _ => none
def pm_dup (st : List Value) : Option (List Value) := match st with
  | v :: r => match pm_c2 v with
    | true => none
    | false => some (v :: v :: r)
  | _ => none
def pm_pop (st : List Value) : Option (List Value) := match st with
  | v :: r => match pm_c2 v with
    | true => none
    | false => some r
  | _ => none
def pm_dup2 (st : List Value) : Option (List Value) := match st with
  | v :: w :: r => match pm_c2 v, pm_c2 w with
    | false, false => some (v :: w :: v :: w :: r)
    | _, _ => none
  | _ => none
/-- what works on the stack alone -/
def pm_alu (q : Instr) (cst : Int) (st : List Value) : Option (List Value) := match q with
  | .iconst n => some (.int (Int32.ofInt n) :: st)
  | .bipush n => some (.int (Int8.ofInt n).toInt32 :: st)
  | .sipush n => some (.int (Int16.ofInt n).toInt32 :: st)
  | .lconst n => some (.long (Int64.ofNat (n : Nat)) :: st)
  | .ldc _ => some (.int (Int32.ofInt cst) :: st)
  | .ldc_w _ => some (.int (Int32.ofInt cst) :: st)
  | .ldc2_w _ => some (.long (Int64.ofInt cst) :: st)
  | .aconst_null => some (.null :: st)
  | .iadd => pm_ii st (fun x y => .int (x + y))
  | .isub => pm_ii st (fun x y => .int (x - y))
  | .imul => pm_ii st (fun x y => .int (x * y))
  | .iand => pm_ii st (fun x y => .int (x &&& y))
  | .ior => pm_ii st (fun x y => .int (x ||| y))
  | .ishl => pm_ii st (fun x y => .int (x <<< (y &&& 31)))
  | .ishr => pm_ii st (fun x y => .int (x >>> (y &&& 31)))
  | .idiv => pm_iz st (fun x y => .int (x / y))
  | .irem => pm_iz st (fun x y => .int (x - x / y * y))
  | .ineg => pm_i1 st (fun x => .int (-x))
  | .ladd => pm_ll st (fun x y => .long (x + y))
  | .lsub => pm_ll st (fun x y => .long (x - y))
  | .lmul => pm_ll st (fun x y => .long (x * y))
  | .land => pm_ll st (fun x y => .long (x &&& y))
  | .lor => pm_ll st (fun x y => .long (x ||| y))
  | .lxor => pm_ll st (fun x y => .long (x ^^^ y))
  | .ldiv => pm_lz st (fun x y => .long (x / y))
  | .lrem => pm_lz st (fun x y => .long (x - x / y * y))
  | .lcmp => pm_ll st (fun x y => .int (lg_cmp x y))
  | .lneg => pm_l1 st (fun x => .long (-x))
  | .lshl => pm_li st (fun x y => .long (x <<< (y.toInt64 &&& 63)))
  | .lshr => pm_li st (fun x y => .long (x >>> (y.toInt64 &&& 63)))
  | .i2l => pm_i1 st (fun x => .long x.toInt64)
  | .l2i => pm_l1 st (fun x => .int x.toInt32)
  | .i2b => pm_i1 st (fun x => .int x.toInt8.toInt32)
  | .dup => pm_dup st
  | .pop => pm_pop st
  | .dup2 => pm_dup2 st
  | _ => none
/-- the next place behind what works on the stack alone -/
def pm_aln (q : Instr) : Nat := match q with
  | .bipush _ => 2
  | .sipush _ => 3
  | .ldc _ => 2
  | .ldc_w _ => 3
  | .ldc2_w _ => 3
  | _ => 1
def pm_ldi (lv : pm_L) (i : Nat) : Option Value := match pm_get lv i with
  | some (.int x) => some (.int x)
  | _ => none
def pm_ldl (lv : pm_L) (i : Nat) : Option Value := match pm_get lv i with
  | some (.long x) => some (.long x)
  | _ => none
def pm_lda (lv : pm_L) (i : Nat) : Option Value := match pm_get lv i with
  | some (.ref x) => some (.ref x)
  | some .null => some .null
  | _ => none
/-- a load: the value, the next place -/
def pm_ld (q : Instr) (lv : pm_L) : Option Value := match q with
  | .iload_n n => pm_ldi lv (n : Nat)
  | .iload n => pm_ldi lv n
  | .lload_n n => pm_ldl lv (n : Nat)
  | .lload n => pm_ldl lv n
  | .aload_n n => pm_lda lv (n : Nat)
  | .aload n => pm_lda lv n
  | _ => none
def pm_ldn (q : Instr) : Nat := match q with
  | .iload _ => 2
  | .lload _ => 2
  | .aload _ => 2
  | _ => 1
def pm_sti (nL i : Nat) (lv : pm_L) (st : List Value) : Option (pm_L × List Value) := match st with
  | .int x :: r => match Nat.ble (i + 1) nL with
    | true => some ((i, .int x) :: pm_st1 i lv, r)
    | false => none
  | _ => none
def pm_stl (nL i : Nat) (lv : pm_L) (st : List Value) : Option (pm_L × List Value) := match st with
  | .long x :: r => match Nat.ble (i + 2) nL with
    | true => some ((i, .long x) :: pm_st2 i lv, r)
    | false => none
  | _ => none
def pm_sta (nL i : Nat) (lv : pm_L) (st : List Value) : Option (pm_L × List Value) := match st with
  | .ref x :: r => match Nat.ble (i + 1) nL with
    | true => some ((i, .ref x) :: pm_st1 i lv, r)
    | false => none
  | .null :: r => match Nat.ble (i + 1) nL with
    | true => some ((i, .null) :: pm_st1 i lv, r)
    | false => none
  | _ => none
def pm_inc (nL i : Nat) (n : Int) (lv : pm_L) (st : List Value) : Option (pm_L × List Value) := match pm_get lv i with
  | some (.int x) => match Nat.ble (i + 1) nL with
    | true => some ((i, .int (x + Int32.ofInt n)) :: pm_st1 i lv, st)
    | false => none
  | _ => none
def pm_sto (nL : Nat) (q : Instr) (lv : pm_L) (st : List Value) : Option (pm_L × List Value) := match q with
  | .istore_n n => pm_sti nL (n : Nat) lv st
  | .istore n => pm_sti nL n lv st
  | .lstore_n n => pm_stl nL (n : Nat) lv st
  | .lstore n => pm_stl nL n lv st
  | .astore_n n => pm_sta nL (n : Nat) lv st
  | .astore n => pm_sta nL n lv st
  | .iinc i n => pm_inc nL i n lv st
  | _ => none
def pm_ston (q : Instr) : Nat := match q with
  | .istore _ => 2
  | .lstore _ => 2
  | .astore _ => 2
  | .iinc _ _ => 3
  | _ => 1
def pm_if (b : Bool) (t pc : Nat) (r : List Value) : Option (Nat × List Value) := match b with
  | true => some (t, r)
  | false => some (pc + 3, r)
def pm_sw (pc : Nat) (off : Int) (r : List Value) : Option (Nat × List Value) := match (pc : Int) + off with
  | .ofNat t => some (t, r)
  | _ => none
/-- a jump: t is the target -/
def pm_jmp (q : Instr) (pc t : Nat) (st : List Value) : Option (Nat × List Value) := match q with
  | .goto _ => some (t, st)
  | .ifCond cd _ => match st with
    | .int x :: r => match cd with
      | .eq => pm_if (decide (x = 0)) t pc r
      | .ne => pm_if (decide (¬ x = 0)) t pc r
      | .lt => pm_if (decide (x < 0)) t pc r
      | .ge => pm_if (decide (0 ≤ x)) t pc r
      | .gt => pm_if (decide (0 < x)) t pc r
      | .le => pm_if (decide (x ≤ 0)) t pc r
    | _ => none
  | .if_icmp cd _ => match st with
    | .int y :: .int x :: r => match cd with
      | .eq => pm_if (decide (x = y)) t pc r
      | .ne => pm_if (decide (¬ x = y)) t pc r
      | .lt => pm_if (decide (x < y)) t pc r
      | .ge => pm_if (decide (y ≤ x)) t pc r
      | .gt => pm_if (decide (y < x)) t pc r
      | .le => pm_if (decide (x ≤ y)) t pc r
    | _ => none
  | .ifnull _ => match st with
    | .null :: r => some (t, r)
    | .ref _ :: r => some (pc + 3, r)
    | _ => none
  | .ifnonnull _ => match st with
    | .null :: r => some (pc + 3, r)
    | .ref _ :: r => some (t, r)
    | _ => none
  | .tableswitch dflt lo hi offs => match st with
    | .int x :: r => if x.toInt < lo ∨ hi < x.toInt then pm_sw pc dflt r else match offs[(x.toInt - lo).toNat]? with
      | some off => pm_sw pc off r
      | none => none
    | _ => none
  | _ => none
/-- whether a value may stand in a field: 0 int, 1 long, 2 boolean, 3 a reference -/
def pm_fit (k : Int) (v : Value) : Bool := match k, v with
  | .ofNat 0, .int _ => true
  | .ofNat 1, .long _ => true
  | .ofNat 2, .int x => decide (x = 0) || decide (x = 1)
  | .ofNat 3, .ref _ => true
  | .ofNat 3, .null => true
  | _, _ => false
end
section
/-- an index in range, as a place -/
def pm_ix (i : Int32) (n : Nat) : Option Nat := if i < 0 then none else match Nat.ble n i.toNatClampNeg with
  | true => none
  | false => some i.toNatClampNeg
/-- array loads: kinds 0 int, 1 long, 2 byte, 3 boolean, 4 long[], 5 int[], 6 a class' objects -/
def pm_rdi (i : Int32) (e : Option pm_E) : Option Value := match e with
  | some (.inl (k, n, .inl f)) => match Nat.beq k 0 with
    | true => match pm_ix i n with
      | some j => some (.int (f j))
      | none => none
    | false => none
  | _ => none
def pm_rdb (i : Int32) (e : Option pm_E) : Option Value := match e with
  | some (.inl (k, n, .inl f)) => match Nat.beq k 2, Nat.beq k 3 with
    | false, false => none
    | _, _ => match pm_ix i n with
      | some j => some (.int (f j))
      | none => none
  | _ => none
def pm_rdl (i : Int32) (e : Option pm_E) : Option Value := match e with
  | some (.inl (k, n, .inr (.inl f))) => match Nat.beq k 1 with
    | true => match pm_ix i n with
      | some j => some (.long (f j))
      | none => none
    | false => none
  | _ => none
def pm_rda (i : Int32) (e : Option pm_E) : Option Value := match e with
  | some (.inl (k, n, .inr (.inr (.inr (.inr f))))) => match Nat.beq k 4, Nat.beq k 5, Nat.beq k 6 with
    | false, false, false => none
    | _, _, _ => match pm_ix i n with
      | some j => some (va_rf (f j))
      | none => none
  | _ => none
def pm_scr (i : Int32) (s : pm_S) : Option Value := match s with
  | some (n, xs) => match pm_ix i n with
    | some j => some (.int (xs j))
    | none => none
  | none => none
/-- array stores -/
def pm_wri (i x : Int32) (e : Option pm_E) : Option pm_E := match e with
  | some (.inl (k, n, .inl f)) => match Nat.beq k 0 with
    | true => match pm_ix i n with
      | some j => some (.inl (k, n, .inl (upd f j x)))
      | none => none
    | false => none
  | _ => none
def pm_wrb (i x : Int32) (e : Option pm_E) : Option pm_E := match e with
  | some (.inl (k, n, .inl f)) => match Nat.beq k 2, Nat.beq k 3 with
    | true, _ => match pm_ix i n with
      | some j => some (.inl (k, n, .inl (upd f j (vp_nar .byte x))))
      | none => none
    | _, true => match pm_ix i n with
      | some j => some (.inl (k, n, .inl (upd f j (vp_nar .boolean x))))
      | none => none
    | _, _ => none
  | _ => none
def pm_wrl (i : Int32) (x : Int64) (e : Option pm_E) : Option pm_E := match e with
  | some (.inl (k, n, .inr (.inl f))) => match Nat.beq k 1 with
    | true => match pm_ix i n with
      | some j => some (.inl (k, n, .inr (.inl (vp_updL f j x))))
      | none => none
    | false => none
  | _ => none
/-- a reference to an object of the class ci into an array of kind 6 -/
def pm_wra (ci : Nat) (i : Int32) (x : Nat) (o e : Option pm_E) : Option pm_E := match e, o with
  | some (.inl (k, n, .inr (.inr (.inr (.inr f))))), some (.inr (c, _)) => match Nat.beq k 6, Nat.beq c ci with
    | true, true => match pm_ix i n with
      | some j => some (.inl (k, n, .inr (.inr (.inr (.inr (va_up f j (some x)))))))
      | none => none
    | _, _ => none
  | _, _ => none
noncomputable def pm_gf (r1 r2 : Nat) (e : Option pm_E) : Option Value := match e with
  | some (.inr (c, fs)) => match Nat.beq c r1 with
    | true => pm_nth fs r2
    | false => none
  | _ => none
noncomputable def pm_pf (r1 r2 : Nat) (ty : Int) (v : Value) (e : Option pm_E) : Option pm_E := match e with
  | some (.inr (c, fs)) => match Nat.beq c r1, pm_fit ty v, Nat.ble (r2 + 1) fs.length with
    | true, true, true => some (.inr (c, pm_put fs v r2))
    | _, _, _ => none
  | _ => none
def pm_len (e : Option pm_E) : Option Value := match e with
  | some (.inl (k, n, _)) => match Nat.ble k 6 with
    | true => some (.int (Int32.ofNat n))
    | false => none
  | _ => none
noncomputable def pm_wrs (h : pm_H) (a : Nat) (r : List Value) (e : Option pm_E) : Option (List Value × pm_H) := match e with
  | some e => some (r, pm_wr h a e)
  | none => none
def pm_psh (h : pm_H) (r : List Value) (v : Option Value) : Option (List Value × pm_H) := match v with
  | some v => some (v :: r, h)
  | none => none
/-- a length that may be -/
def pm_sz (n : Int32) : Option Nat := if n < 0 then none else match Nat.ble n.toNatClampNeg 67108864 with
  | true => some n.toNatClampNeg
  | false => none
def pm_new (h : pm_H) (r : List Value) (e : pm_E) : Option (List Value × pm_H) := some (.ref (h.length + 1) :: r, h ++ [e])
def pm_nwa (h : pm_H) (r : List Value) (n : Int32) (f : Nat → pm_E) : Option (List Value × pm_H) := match pm_sz n with
  | some N => pm_new h r (f N)
  | none => none
/-- an empty array of a kind -/
def pm_zero (k N : Nat) : pm_E := match k with
  | 1 => .inl (1, N, .inr (.inl (fun _ => 0)))
  | 0 => .inl (0, N, .inl (fun _ => 0))
  | k => .inl (k, N, .inl (fun _ => 0))
def pm_nwm (h : pm_H) (r : List Value) (r1 r2 : Nat) (n k : Int32) : Option (List Value × pm_H) := match pm_sz n, pm_sz k with
  | some N, some K => some (.ref (h.length + 1) :: r, h ++ (.inl (r1, N, .inr (.inr (.inr (.inr (fun i => if i < N then some (h.length + 2 + i) else none))))) :: List.replicate N (pm_zero r2 K)))
  | _, _ => none
/-- what works on the cells: cs are the classes' fields as they are born -/
noncomputable def pm_mem (cs : Nat → List Value) (scr : pm_S) (q : Instr) (r1 r2 : Nat) (cst : Int) (st : List Value) (h : pm_H) : Option (List Value × pm_H) := match q with
  | .getfield _ => match st with
    | .ref a :: r => pm_psh h r (pm_gf r1 r2 (pm_cell h a))
    | _ => none
  | .putfield _ => match st with
    | v :: .ref a :: r => pm_wrs h a r (pm_pf r1 r2 cst v (pm_cell h a))
    | _ => none
  | .iaload => match st with
    | .int i :: .ref a :: r => match a with
      | 0 => pm_psh h r (pm_scr i scr)
      | a + 1 => pm_psh h r (pm_rdi i (pm_cell h (a + 1)))
    | _ => none
  | .baload => match st with
    | .int i :: .ref a :: r => pm_psh h r (pm_rdb i (pm_cell h a))
    | _ => none
  | .laload => match st with
    | .int i :: .ref a :: r => pm_psh h r (pm_rdl i (pm_cell h a))
    | _ => none
  | .aaload => match st with
    | .int i :: .ref a :: r => pm_psh h r (pm_rda i (pm_cell h a))
    | _ => none
  | .iastore => match st with
    | .int x :: .int i :: .ref a :: r => pm_wrs h a r (pm_wri i x (pm_cell h a))
    | _ => none
  | .bastore => match st with
    | .int x :: .int i :: .ref a :: r => pm_wrs h a r (pm_wrb i x (pm_cell h a))
    | _ => none
  | .lastore => match st with
    | .long x :: .int i :: .ref a :: r => pm_wrs h a r (pm_wrl i x (pm_cell h a))
    | _ => none
  | .aastore => match st with
    | .ref x :: .int i :: .ref a :: r => pm_wrs h a r (pm_wra r1 i x (pm_cell h x) (pm_cell h a))
    | _ => none
  | .arraylength => match st with
    | .ref a :: r => match a with
      | 0 => match scr with
        | some (n, _) => some (.int (Int32.ofNat n) :: r, h)
        | none => none
      | a + 1 => pm_psh h r (pm_len (pm_cell h (a + 1)))
    | _ => none
  | .newarray ty => match st with
    | .int n :: r => match ty with
      | .int => pm_nwa h r n (pm_zero 0)
      | .long => pm_nwa h r n (pm_zero 1)
      | .byte => pm_nwa h r n (pm_zero 2)
      | .boolean => pm_nwa h r n (pm_zero 3)
      | _ => none
    | _ => none
  | .anewarray _ => match st with
    | .int n :: r => pm_nwa h r n (fun N => .inl (6, N, .inr (.inr (.inr (.inr (fun _ => none))))))
    | _ => none
  | .multianewarray _ _ => match st with
    | .int k :: .int n :: r => pm_nwm h r r1 r2 n k
    | _ => none
  | .new _ => pm_new h st (.inr (r1, cs r1))
  | _ => none
def pm_memn (q : Instr) : Nat := match q with
  | .getfield _ => 3
  | .putfield _ => 3
  | .newarray _ => 2
  | .anewarray _ => 3
  | .multianewarray _ _ => 4
  | .new _ => 3
  | _ => 1
/-- a method's end: its answer is of its type -/
def pm_ret (q : Instr) (rt : Option FieldType) (st : List Value) : Option (Option Value) := match q with
  | .return_ => match rt, st with
    | none, [] => some none
    | _, _ => none
  | .ireturn => match rt, st with
    | some .int, [.int x] => some (some (.int x))
    | some .boolean, [.int x] => if x = 0 ∨ x = 1 then some (some (.int x)) else none
    | _, _ => none
  | .lreturn => match rt, st with
    | some .long, [.long x] => some (some (.long x))
    | _, _ => none
  | .areturn => match rt, st with
    | some (.object _), [.ref a] => some (some (.ref a))
    | some (.object _), [.null] => some (some .null)
    | some (.array _), [.ref a] => some (some (.ref a))
    | some (.array _), [.null] => some (some .null)
    | _, _ => none
  | _ => none
/-- n values off a stack, the last first -/
def pm_pop_n : Nat → List Value → List Value → Option (List Value × List Value)
  | 0, as, st => some (as, st)
  | n + 1, as, v :: st => pm_pop_n n (v :: as) st
  | _ + 1, _, [] => none
def pm_cat (v : Value) : Nat := match v with
  | .long _ => 2
  | .double _ => 2
  | _ => 1
def pm_wt : List Value → Nat
  | [] => 0
  | v :: r => pm_cat v + pm_wt r
def pm_clsOk (ci : Nat) (e : Option pm_E) : Bool := match e with
  | some (.inr (c, _)) => Nat.beq c ci
  | _ => false
abbrev pm_C : Type := Nat → List Value → pm_H → Option pm_R
/-- a call: r1 is the callee (0: Object's constructor), na how many arguments it has, ci its class -/
noncomputable def pm_inv (call : pm_C) (q : Instr) (k na ci : Nat) (st : List Value) (h : pm_H) : Option (List Value × pm_H) := match q with
  | .invokestatic _ => match pm_pop_n na [] st with
    | some (as, r) => match Nat.ble (pm_wt r) 8, call k as h with
      | true, some (v, h') => some (v.toList ++ r, h')
      | _, _ => none
    | none => none
  | .invokevirtual _ => match pm_pop_n na [] st with
    | some (as, .ref a :: r) => match Nat.ble (pm_wt r) 8, pm_clsOk ci (pm_cell h a), call k (.ref a :: as) h with
      | true, true, some (v, h') => some (v.toList ++ r, h')
      | _, _, _ => none
    | _ => none
  | .invokespecial _ => match k with
    | 0 => match st with
      | .ref _ :: r => match Nat.ble (pm_wt r) 8 with
        | true => some (r, h)
        | false => none
      | _ => none
    | k + 1 => match pm_pop_n na [] st with
      | some (as, .ref a :: r) => match Nat.ble (pm_wt r) 8, call (k + 1) (.ref a :: as) h with
        | true, some (v, h') => some (v.toList ++ r, h')
        | _, _ => none
      | _ => none
  | _ => none
/-- which of the groups an instruction is in: 0 stack, 1 load, 2 store, 3 jump, 4 cells, 5 call, 6 end -/
def pm_grp (q : Instr) : Nat := match q with
  | .iload_n _ => 1 | .iload _ => 1 | .lload_n _ => 1 | .lload _ => 1 | .aload_n _ => 1 | .aload _ => 1
  | .istore_n _ => 2 | .istore _ => 2 | .lstore_n _ => 2 | .lstore _ => 2 | .astore_n _ => 2 | .astore _ => 2 | .iinc _ _ => 2
  | .goto _ => 3 | .ifCond _ _ => 3 | .if_icmp _ _ => 3 | .ifnull _ => 3 | .ifnonnull _ => 3 | .tableswitch _ _ _ _ => 3
  | .getfield _ => 4 | .putfield _ => 4 | .iaload => 4 | .baload => 4 | .laload => 4 | .aaload => 4 | .iastore => 4 | .bastore => 4 | .lastore => 4 | .aastore => 4 | .arraylength => 4 | .newarray _ => 4 | .anewarray _ => 4 | .multianewarray _ _ => 4 | .new _ => 4
  | .invokestatic _ => 5 | .invokevirtual _ => 5 | .invokespecial _ => 5
  | .return_ => 6 | .ireturn => 6 | .lreturn => 6 | .areturn => 6
  | _ => 0
abbrev pm_O : Type := Option (pm_F ⊕ pm_R)
def pm_o0 (pc : Nat) (lv : pm_L) (h : pm_H) (o : Option (List Value)) : pm_O := match o with
  | some st => some (.inl (pc, lv, st, h))
  | none => none
def pm_o1 (pc : Nat) (lv : pm_L) (st : List Value) (h : pm_H) (o : Option Value) : pm_O := match o with
  | some v => some (.inl (pc, lv, v :: st, h))
  | none => none
def pm_o2 (pc : Nat) (h : pm_H) (o : Option (pm_L × List Value)) : pm_O := match o with
  | some (lv, st) => some (.inl (pc, lv, st, h))
  | none => none
def pm_o3 (lv : pm_L) (h : pm_H) (o : Option (Nat × List Value)) : pm_O := match o with
  | some (pc, st) => some (.inl (pc, lv, st, h))
  | none => none
def pm_o4 (pc : Nat) (lv : pm_L) (o : Option (List Value × pm_H)) : pm_O := match o with
  | some (st, h) => some (.inl (pc, lv, st, h))
  | none => none
def pm_o6 (h : pm_H) (o : Option (Option Value)) : pm_O := match o with
  | some v => some (.inr (v, h))
  | none => none
/-- how many arguments a callee has, its class -/
def pm_na (ms : Nat → Option pm_M) (k : Nat) : Nat × Nat := match ms k with
  | some (_, _, _, _, n, ci) => (n, ci)
  | none => (0, 0)
/-- one instruction -/
noncomputable def pm_step (cs : Nat → List Value) (ms : Nat → Option pm_M) (call : pm_C) (scr : pm_S) (nL : Nat) (rt : Option FieldType) (q : pm_I) (F : pm_F) : pm_O := match q, F with
  | (i, _, r1, r2, cst, _), (pc, lv, st, h) => match pm_grp i with
    | 0 => pm_o0 (pc + pm_aln i) lv h (pm_alu i cst st)
    | 1 => pm_o1 (pc + pm_ldn i) lv st h (pm_ld i lv)
    | 2 => pm_o2 (pc + pm_ston i) h (pm_sto nL i lv st)
    | 3 => pm_o3 lv h (pm_jmp i pc r1 st)
    | 4 => pm_o4 (pc + pm_memn i) lv (pm_mem cs scr i r1 r2 cst st h)
    | 5 => pm_o4 (pc + 3) lv (pm_inv call i r1 (pm_na ms r1).1 (pm_na ms r1).2 st h)
    | _ => pm_o6 h (pm_ret i rt st)
/-- a method's run: by the fuel -/
noncomputable def pm_run (step : pm_I → pm_F → pm_O) (ins : Nat → Option pm_I) : Nat → pm_F → Option pm_R := fun n => Nat.rec (fun _ => none) (fun _ ih F => match ins F.1 with
  | none => none
  | some q => match step q F with
    | none => none
    | some (.inl F') => ih F'
    | some (.inr r) => some r) n
/-- a call, by its depth; the tables: classes, methods, instructions -/
noncomputable def pm_call (cs : Nat → List Value) (ms : Nat → Option pm_M) (ins : Nat → Nat → Option pm_I) (fuel : Nat) : Nat → pm_C := fun d => Nat.rec (fun _ _ _ => none) (fun _ ih k as h => match ms k with
  | some (_, _, nL, rt, _, _) => match Nat.ble (pm_wt as) nL with
    | true => pm_run (pm_step cs ms ih none nL rt) (ins k) fuel (0, lv_args 0 as, [], h)
    | false => none
  | none => none) d
theorem pm_run_succ (step : pm_I → pm_F → pm_O) (ins : Nat → Option pm_I) (n : Nat) (F : pm_F) : pm_run step ins (n + 1) F = match ins F.1 with
  | none => none
  | some q => match step q F with
    | none => none
    | some (.inl F') => pm_run step ins n F'
    | some (.inr r) => some r := rfl
theorem pm_call_succ (cs : Nat → List Value) (ms : Nat → Option pm_M) (ins : Nat → Nat → Option pm_I) (fuel d k : Nat) (as : List Value) (h : pm_H) : pm_call cs ms ins fuel (d + 1) k as h = match ms k with
  | some (_, _, nL, rt, _, _) => match Nat.ble (pm_wt as) nL with
    | true => pm_run (pm_step cs ms (pm_call cs ms ins fuel d) none nL rt) (ins k) fuel (0, lv_args 0 as, [], h)
    | false => none
  | none => none := rfl
end
section
/-! how the small machine's values and cells lie in the machine's heap -/
def pm_ad (b base : Nat) (a : Nat) : Nat := match a with
  | 0 => b
  | a + 1 => base + a
def pm_sh (b base : Nat) (v : Value) : Value := match v with
  | .ref a => .ref (pm_ad b base a)
  | v => v
def pm_tr (cA : Nat → ClassId) (b base : Nat) (e : pm_E) : va_E := match e with
  | .inl (k, n, .inl f) => .inl (cA k, n, .inl f)
  | .inl (k, n, .inr (.inl f)) => .inl (cA k, n, .inr (.inl f))
  | .inl (k, n, .inr (.inr (.inl f))) => .inl (cA k, n, .inr (.inr (.inl f)))
  | .inl (k, n, .inr (.inr (.inr (.inl f)))) => .inl (cA k, n, .inr (.inr (.inr (.inl f))))
  | .inl (k, n, .inr (.inr (.inr (.inr f)))) => .inl (cA k, n, .inr (.inr (.inr (.inr (fun j => (f j).map (pm_ad b base))))))
  | .inr (c, fs) => .inr (c, fs.map (pm_sh b base))
/-- the cells as the kit's list: from the address i on -/
def pm_ws (g : pm_E → va_E) : Nat → pm_H → va_W
  | _, [] => []
  | i, e :: r => (i, g e) :: pm_ws g (i + 1) r
theorem pm_ws_get (g : pm_E → va_E) (h : pm_H) : ∀ i k, (pm_ws g i h)[k]? = (h[k]?).map (fun e => (i + k, g e)) := by
  induction h with
  | nil => intro i k; rfl
  | cons e r ih =>
    intro i k
    cases k with
    | zero => rfl
    | succ k =>
      show (pm_ws g (i + 1) r)[k]? = (r[k]?).map _
      rw [ih, show i + 1 + k = i + (k + 1) by omega]
theorem pm_ws_set (g : pm_E → va_E) (h : pm_H) (x : pm_E) : ∀ i k, (pm_ws g i h).set k (i + k, g x) = pm_ws g i (h.set k x) := by
  induction h with
  | nil => intro i k; rfl
  | cons e r ih =>
    intro i k
    cases k with
    | zero => rfl
    | succ k =>
      show (i, g e) :: (pm_ws g (i + 1) r).set k (i + (k + 1), g x) = (i, g e) :: pm_ws g (i + 1) (r.set k x)
      rw [← ih, show i + 1 + k = i + (k + 1) by omega]
theorem pm_ws_app (g : pm_E → va_E) (h t : pm_H) : ∀ i, pm_ws g i (h ++ t) = pm_ws g i h ++ pm_ws g (i + h.length) t := by
  induction h with
  | nil => intro i; rfl
  | cons e r ih =>
    intro i
    show (i, g e) :: pm_ws g (i + 1) (r ++ t) = (i, g e) :: (pm_ws g (i + 1) r ++ pm_ws g (i + (r.length + 1)) t)
    rw [ih, show i + 1 + r.length = i + (r.length + 1) by omega]
theorem pm_ws_D (g : pm_E → va_E) (base : Nat) (h : pm_H) : va_D (fun q => base ≤ q) (pm_ws g base h) := by
  refine ⟨fun i j p q hi hj hpq => ?_, fun k q hk => ?_⟩
  · rw [pm_ws_get] at hi hj
    cases e1 : h[i]? with
    | none => rw [e1] at hi; cases hi
    | some x =>
      cases e2 : h[j]? with
      | none => rw [e2] at hj; cases hj
      | some y =>
        rw [e1] at hi; rw [e2] at hj
        cases hi; cases hj
        have : base + i = base + j := hpq
        omega
  · rw [pm_ws_get] at hk
    cases e1 : h[k]? with
    | none => rw [e1] at hk; cases hk
    | some x =>
      rw [e1] at hk
      cases hk
      show base ≤ base + k
      omega
/-- slots in all -/
def pm_sl (e : pm_E) : Nat := match e with
  | .inl (_, n, _) => n
  | .inr (_, fs) => fs.length
def pm_sls : pm_H → Nat
  | [] => 0
  | e :: r => pm_sl e + pm_sls r
theorem pm_sls_app (h t : pm_H) : pm_sls (h ++ t) = pm_sls h + pm_sls t := by
  induction h with
  | nil => simp [pm_sls]
  | cons e r ih =>
    show pm_sl e + pm_sls (r ++ t) = pm_sl e + pm_sls r + pm_sls t
    rw [ih]; omega
theorem pm_sls_set (h : pm_H) : ∀ (k : Nat) (x y : pm_E), h[k]? = some x → pm_sl y = pm_sl x → pm_sls (h.set k y) = pm_sls h := by
  induction h with
  | nil => intro k x y hk; cases hk
  | cons e r ih =>
    intro k x y hk hy
    cases k with
    | zero =>
      cases hk
      show pm_sl y + pm_sls r = pm_sl e + pm_sls r
      rw [hy]
    | succ k =>
      show pm_sl e + pm_sls (r.set k y) = pm_sl e + pm_sls r
      rw [ih k x y hk hy]
/-- the heap H holds the cells h -/
def pm_P (D : va_G) (cl : List vw_C) (cA : Nat → ClassId) (b base : Nat) (h : pm_H) (H : Heap) : Prop := H.size = base + h.length ∧ va_P D cl (pm_ws (pm_tr cA b base) base h) H
theorem pm_sh_c (b base : Nat) (v : Value) : (pm_sh b base v).category = v.category := by cases v <;> rfl
theorem pm_cell_s {h : pm_H} {a : Nat} {e : pm_E} (q : pm_cell h a = some e) : ∃ k, a = k + 1 ∧ h[k]? = some e := by
  cases a with
  | zero => cases q
  | succ k => exact ⟨k, rfl, by rw [← pm_nth_eq]; exact q⟩
theorem pm_at {D : va_G} {cl : List vw_C} {cA : Nat → ClassId} {b base : Nat} {h : pm_H} {H : Heap} {k : Nat} {e : pm_E} (q : h[k]? = some e) : (pm_ws (pm_tr cA b base) base h)[k]? = some (base + k, pm_tr cA b base e) := by
  rw [pm_ws_get, q]; rfl
/-- variables -/
def pm_lv (b base : Nat) (l : pm_L) : pm_L := l.map (fun q => (q.1, pm_sh b base q.2))
theorem pm_lv_in {b base : Nat} {l : pm_L} {i : Nat} {v : Value} (h : (i, v) ∈ l) : (i, pm_sh b base v) ∈ pm_lv b base l := List.mem_map.mpr ⟨(i, v), h, rfl⟩
theorem pm_lv_get {b base : Nat} {l : pm_L} {i : Nat} {v : Value} {ls : Array Slot} {nL : Nat} (hl : lv_has ls nL (pm_lv b base l)) (h : pm_get l i = some v) : ls[i]? = some (.val (pm_sh b base v)) := hl.2.2 _ (pm_lv_in (pm_get_mem h))
theorem pm_lv_k {b base : Nat} {l : pm_L} {i : Nat} {v : Value} (h : pm_get l i = some v) : ∃ k : Nat, (pm_lv b base l)[k]? = some (i, pm_sh b base v) := List.getElem?_of_mem (pm_lv_in (pm_get_mem h))
theorem pm_c2_cat (v : Value) : (v.category == 2) = pm_c2 v := by cases v <;> rfl
theorem pm_st1_sub {b base i : Nat} {l : pm_L} {q : Nat × Value} (h : q ∈ pm_lv b base (pm_st1 i l)) : q ∈ (pm_lv b base l).filter (fun q => !(q.1 == i) && !(q.1 + 1 == i && q.2.category == 2)) := by
  obtain ⟨x, hx, rfl⟩ := List.mem_map.mp h
  rw [List.mem_filter]
  induction l with
  | nil => cases hx
  | cons y r ih =>
    unfold pm_st1 at hx
    split at hx
    · rename_i e1 e2
      rcases List.mem_cons.mp hx with rfl | hx
      · refine ⟨List.mem_map.mpr ⟨x, List.mem_cons_self, rfl⟩, ?_⟩
        have e3 : (x.1 == i) = false := by
          cases e4 : (x.1 == i) with
          | false => rfl
          | true => rw [beq_iff_eq] at e4; rw [e4] at e1; simp at e1
        have e5 : (x.1 + 1 == i && (pm_sh b base x.2).category == 2) = false := by
          rw [pm_sh_c, pm_c2_cat]
          cases e4 : (x.1 + 1 == i) with
          | false => rfl
          | true =>
            rw [beq_iff_eq] at e4
            rw [e4] at e2
            simpa using e2
        show (!(x.1 == i) && !(x.1 + 1 == i && (pm_sh b base x.2).category == 2)) = true
        rw [e3, e5]; rfl
      · obtain ⟨h1, h2⟩ := ih hx (List.mem_map.mpr ⟨x, hx, rfl⟩)
        exact ⟨by obtain ⟨z, hz, e⟩ := List.mem_map.mp h1; exact List.mem_map.mpr ⟨z, List.mem_cons_of_mem _ hz, e⟩, h2⟩
    · obtain ⟨h1, h2⟩ := ih hx (List.mem_map.mpr ⟨x, hx, rfl⟩)
      exact ⟨by obtain ⟨z, hz, e⟩ := List.mem_map.mp h1; exact List.mem_map.mpr ⟨z, List.mem_cons_of_mem _ hz, e⟩, h2⟩
theorem pm_st2_sub {b base i : Nat} {l : pm_L} {q : Nat × Value} (h : q ∈ pm_lv b base (pm_st2 i l)) : q ∈ (pm_lv b base l).filter (fun q => !(q.1 == i) && (!(q.1 == i + 1) && !(q.1 + 1 == i && q.2.category == 2))) := by
  obtain ⟨x, hx, rfl⟩ := List.mem_map.mp h
  rw [List.mem_filter]
  induction l with
  | nil => cases hx
  | cons y r ih =>
    unfold pm_st2 at hx
    split at hx
    · rename_i e1 e2
      rcases List.mem_cons.mp hx with rfl | hx
      · refine ⟨List.mem_map.mpr ⟨x, List.mem_cons_self, rfl⟩, ?_⟩
        rw [Bool.or_eq_false_iff] at e1
        have e3 : (x.1 == i) = false := by
          cases e4 : (x.1 == i) with
          | false => rfl
          | true => rw [beq_iff_eq] at e4; have := e1.1; rw [e4] at this; simp at this
        have e6 : (x.1 == i + 1) = false := by
          cases e4 : (x.1 == i + 1) with
          | false => rfl
          | true => rw [beq_iff_eq] at e4; have := e1.2; rw [e4] at this; simp at this
        have e5 : (x.1 + 1 == i && (pm_sh b base x.2).category == 2) = false := by
          rw [pm_sh_c, pm_c2_cat]
          cases e4 : (x.1 + 1 == i) with
          | false => rfl
          | true =>
            rw [beq_iff_eq] at e4
            rw [e4] at e2
            simpa using e2
        show (!(x.1 == i) && (!(x.1 == i + 1) && !(x.1 + 1 == i && (pm_sh b base x.2).category == 2))) = true
        rw [e3, e5, e6]; rfl
      · obtain ⟨h1, h2⟩ := ih hx (List.mem_map.mpr ⟨x, hx, rfl⟩)
        exact ⟨by obtain ⟨z, hz, e⟩ := List.mem_map.mp h1; exact List.mem_map.mpr ⟨z, List.mem_cons_of_mem _ hz, e⟩, h2⟩
    · obtain ⟨h1, h2⟩ := ih hx (List.mem_map.mpr ⟨x, hx, rfl⟩)
      exact ⟨by obtain ⟨z, hz, e⟩ := List.mem_map.mp h1; exact List.mem_map.mpr ⟨z, List.mem_cons_of_mem _ hz, e⟩, h2⟩
/-- of a list of variables, a smaller one -/
theorem pm_has_sub {ls : Array Slot} {nL : Nat} {l l' : pm_L} (h : lv_has ls nL l) (hs : ∀ q ∈ l', q ∈ l) : lv_has ls nL l' := ⟨h.1, h.2.1, fun q hq => h.2.2 q (hs q hq)⟩
theorem pm_has1 {ls : Array Slot} {nL b base i : Nat} {v : Value} {l : pm_L} (h : lv_has ls nL ((i, pm_sh b base v) :: (pm_lv b base l).filter (fun q => !(q.1 == i) && !(q.1 + 1 == i && q.2.category == 2)))) : lv_has ls nL (pm_lv b base ((i, v) :: pm_st1 i l)) := by
  refine pm_has_sub h fun q hq => ?_
  rcases List.mem_cons.mp (show q ∈ (i, pm_sh b base v) :: pm_lv b base (pm_st1 i l) from hq) with rfl | hq
  · exact List.mem_cons_self
  · exact List.mem_cons_of_mem _ (pm_st1_sub hq)
theorem pm_has2 {ls : Array Slot} {nL b base i : Nat} {v : Value} {l : pm_L} (h : lv_has ls nL ((i, pm_sh b base v) :: (pm_lv b base l).filter (fun q => !(q.1 == i) && (!(q.1 == i + 1) && !(q.1 + 1 == i && q.2.category == 2))))) : lv_has ls nL (pm_lv b base ((i, v) :: pm_st2 i l)) := by
  refine pm_has_sub h fun q hq => ?_
  rcases List.mem_cons.mp (show q ∈ (i, pm_sh b base v) :: pm_lv b base (pm_st2 i l) from hq) with rfl | hq
  · exact List.mem_cons_self
  · exact List.mem_cons_of_mem _ (pm_st2_sub hq)
theorem pm_args (b base : Nat) (vs : List Value) : ∀ i, lv_args i (vs.map (pm_sh b base)) = pm_lv b base (lv_args i vs) := by
  induction vs with
  | nil => intro i; rfl
  | cons v r ih =>
    intro i
    show (i, pm_sh b base v) :: lv_args (if (pm_sh b base v).category = 2 then i + 2 else i + 1) (r.map (pm_sh b base)) = (i, pm_sh b base v) :: pm_lv b base (lv_args (if v.category = 2 then i + 2 else i + 1) r)
    rw [pm_sh_c, ih]
end
section
/-! the groups of instructions over the kit's rows: the stack, variables, jumps -/
theorem pm_no {α : Type} {P : Prop} {x : α} (h : (none : Option α) = some x) : P := by cases h
theorem pm_ii_s {st st' : List Value} {f : Int32 → Int32 → Value} (h : pm_ii st f = some st') : ∃ x y r, st = .int y :: .int x :: r ∧ st' = f x y :: r := by
  unfold pm_ii at h; split at h
  · cases h; exact ⟨_, _, _, rfl, rfl⟩
  · cases h
theorem pm_iz_s {st st' : List Value} {f : Int32 → Int32 → Value} (h : pm_iz st f = some st') : ∃ x y r, st = .int y :: .int x :: r ∧ ¬ y = 0 ∧ st' = f x y :: r := by
  unfold pm_iz at h; split at h
  · split at h
    · cases h
    · rename_i h0; cases h; exact ⟨_, _, _, rfl, h0, rfl⟩
  · cases h
theorem pm_ll_s {st st' : List Value} {f : Int64 → Int64 → Value} (h : pm_ll st f = some st') : ∃ x y r, st = .long y :: .long x :: r ∧ st' = f x y :: r := by
  unfold pm_ll at h; split at h
  · cases h; exact ⟨_, _, _, rfl, rfl⟩
  · cases h
theorem pm_lz_s {st st' : List Value} {f : Int64 → Int64 → Value} (h : pm_lz st f = some st') : ∃ x y r, st = .long y :: .long x :: r ∧ ¬ y = 0 ∧ st' = f x y :: r := by
  unfold pm_lz at h; split at h
  · split at h
    · cases h
    · rename_i h0; cases h; exact ⟨_, _, _, rfl, h0, rfl⟩
  · cases h
theorem pm_li_s {st st' : List Value} {f : Int64 → Int32 → Value} (h : pm_li st f = some st') : ∃ x y r, st = .int y :: .long x :: r ∧ st' = f x y :: r := by
  unfold pm_li at h; split at h
  · cases h; exact ⟨_, _, _, rfl, rfl⟩
  · cases h
theorem pm_i1_s {st st' : List Value} {f : Int32 → Value} (h : pm_i1 st f = some st') : ∃ x r, st = .int x :: r ∧ st' = f x :: r := by
  unfold pm_i1 at h; split at h
  · cases h; exact ⟨_, _, rfl, rfl⟩
  · cases h
theorem pm_l1_s {st st' : List Value} {f : Int64 → Value} (h : pm_l1 st f = some st') : ∃ x r, st = .long x :: r ∧ st' = f x :: r := by
  unfold pm_l1 at h; split at h
  · cases h; exact ⟨_, _, rfl, rfl⟩
  · cases h
theorem pm_c1 {v : Value} (h : pm_c2 v = false) : v.category = 1 := by cases v <;> first | rfl | cases h
theorem pm_dup_s {st st' : List Value} (h : pm_dup st = some st') : ∃ v r, st = v :: r ∧ v.category = 1 ∧ st' = v :: v :: r := by
  unfold pm_dup at h; split at h
  · split at h
    · cases h
    · rename_i h0; cases h; exact ⟨_, _, rfl, pm_c1 h0, rfl⟩
  · cases h
theorem pm_pop_s {st st' : List Value} (h : pm_pop st = some st') : ∃ v, st = v :: st' ∧ v.category = 1 := by
  unfold pm_pop at h; split at h
  · split at h
    · cases h
    · rename_i h0; cases h; exact ⟨_, rfl, pm_c1 h0⟩
  · cases h
theorem pm_dup2_s {st st' : List Value} (h : pm_dup2 st = some st') : ∃ v w r, st = v :: w :: r ∧ v.category = 1 ∧ w.category = 1 ∧ st' = v :: w :: v :: w :: r := by
  unfold pm_dup2 at h; split at h
  · split at h
    · rename_i h0 h1; cases h; exact ⟨_, _, _, rfl, pm_c1 h0, pm_c1 h1, rfl⟩
    · cases h
  · cases h
section PM1
variable {p : Program} {l : Launch} {e : Env} {R : Room} {s : State} {m : MethodId} {args : Array Value} {below : List Frame} {meth : Method} {c : Code} {H : Heap} {locs : List Loc} {cells slots : Nat} {Q : State → Prop}
variable {cc : ByteArray} {pc : Nat} {ls : Array Slot} {b base : Nat}
theorem pm_g0 {i : Instr} {cst : Int} {st st' : List Value} {own : String} (hx : p.tables.exec = Jvm.exec) (hb : c.code = cc) (hdg : decode cc pc = .ok (i, pm_aln i)) (hown : s.vm.findClass own = some m.cls)
    (hcI : ∀ x, i = .ldc x ∨ i = .ldc_w x → (Jvm.Cond.constant own x (Int32.ofInt cst)).before args s = true) (hcL : ∀ x, i = .ldc2_w x → (Jvm.Cond.constantLong own x (Int64.ofInt cst)).before args s = true)
    (h : pm_alu i cst st = some st') (kk : W p l e R s m args below meth c H locs cells slots Q (F0 m (pc + pm_aln i) ls (st'.map (pm_sh b base)))) : W p l e R s m args below meth c H locs cells slots Q (F0 m pc ls (st.map (pm_sh b base))) := by
  cases i
  case iconst n => cases h; exact lv_iconst hx hb hdg rfl kk
  case bipush n => cases h; exact lv_bipush hx hb hdg rfl kk
  case sipush n => cases h; exact lv_sipush hx hb hdg rfl kk
  case lconst n => cases h; exact lv_lconst hx hb hdg rfl kk
  case ldc n => cases h; exact lv_ldc hx hb hown (hcI n (Or.inl rfl)) hdg kk
  case ldc_w n => cases h; exact lv_ldcw hx hb hown (hcI n (Or.inr rfl)) hdg kk
  case ldc2_w n => cases h; exact lv_ldc2 hx hb hown (hcL n rfl) hdg kk
  case aconst_null => cases h; exact lv_null hx hb hdg kk
  case iadd => obtain ⟨x, y, r, rfl, rfl⟩ := pm_ii_s h; exact lv_iadd hx hb hdg kk
  case isub => obtain ⟨x, y, r, rfl, rfl⟩ := pm_ii_s h; exact lv_isub hx hb hdg kk
  case imul => obtain ⟨x, y, r, rfl, rfl⟩ := pm_ii_s h; exact lv_imul hx hb hdg kk
  case iand => obtain ⟨x, y, r, rfl, rfl⟩ := pm_ii_s h; exact lv_iand hx hb hdg kk
  case ior => obtain ⟨x, y, r, rfl, rfl⟩ := pm_ii_s h; exact lv_ior hx hb hdg kk
  case ishl => obtain ⟨x, y, r, rfl, rfl⟩ := pm_ii_s h; exact lv_ishl hx hb hdg kk
  case ishr => obtain ⟨x, y, r, rfl, rfl⟩ := pm_ii_s h; exact lv_ishr hx hb hdg kk
  case idiv => obtain ⟨x, y, r, rfl, h0, rfl⟩ := pm_iz_s h; exact lv_idiv hx hb hdg h0 kk
  case irem => obtain ⟨x, y, r, rfl, h0, rfl⟩ := pm_iz_s h; exact lv_irem hx hb hdg h0 kk
  case ineg => obtain ⟨x, r, rfl, rfl⟩ := pm_i1_s h; exact lv_ineg hx hb hdg kk
  case ladd => obtain ⟨x, y, r, rfl, rfl⟩ := pm_ll_s h; exact lv_ladd hx hb hdg kk
  case lsub => obtain ⟨x, y, r, rfl, rfl⟩ := pm_ll_s h; exact lv_lsub hx hb hdg kk
  case lmul => obtain ⟨x, y, r, rfl, rfl⟩ := pm_ll_s h; exact lv_lmul hx hb hdg kk
  case land => obtain ⟨x, y, r, rfl, rfl⟩ := pm_ll_s h; exact lv_land hx hb hdg kk
  case lor => obtain ⟨x, y, r, rfl, rfl⟩ := pm_ll_s h; exact lv_lor hx hb hdg kk
  case lxor => obtain ⟨x, y, r, rfl, rfl⟩ := pm_ll_s h; exact lv_lxor hx hb hdg kk
  case ldiv => obtain ⟨x, y, r, rfl, h0, rfl⟩ := pm_lz_s h; exact lv_ldiv hx hb hdg h0 kk
  case lrem => obtain ⟨x, y, r, rfl, h0, rfl⟩ := pm_lz_s h; exact lv_lrem hx hb hdg h0 kk
  case lcmp => obtain ⟨x, y, r, rfl, rfl⟩ := pm_ll_s h; exact W.lcmp hx hb hdg kk
  case lneg => obtain ⟨x, r, rfl, rfl⟩ := pm_l1_s h; exact lv_lneg hx hb hdg kk
  case lshl => obtain ⟨x, y, r, rfl, rfl⟩ := pm_li_s h; exact lv_lshl hx hb hdg rfl kk
  case lshr => obtain ⟨x, y, r, rfl, rfl⟩ := pm_li_s h; exact lv_lshr hx hb hdg rfl kk
  case i2l => obtain ⟨x, r, rfl, rfl⟩ := pm_i1_s h; exact lv_i2l hx hb hdg rfl kk
  case l2i => obtain ⟨x, r, rfl, rfl⟩ := pm_l1_s h; exact lv_l2i hx hb hdg rfl kk
  case i2b => obtain ⟨x, r, rfl, rfl⟩ := pm_i1_s h; exact lv_i2b hx hb hdg rfl kk
  case dup => obtain ⟨v, r, rfl, hc, rfl⟩ := pm_dup_s h; exact lv_dup hx hb hdg (by rw [pm_sh_c]; exact hc) kk
  case pop => obtain ⟨v, rfl, hc⟩ := pm_pop_s h; exact lv_pop hx hb hdg (by rw [pm_sh_c]; exact hc) kk
  case dup2 => obtain ⟨v, w, r, rfl, h1, h2, rfl⟩ := pm_dup2_s h; exact lv_dup2_11 hx hb hdg (by rw [pm_sh_c]; exact h1) (by rw [pm_sh_c]; exact h2) kk
  all_goals exact pm_no h
theorem pm_ldi_s {lv : pm_L} {i : Nat} {v : Value} (h : pm_ldi lv i = some v) : ∃ x, v = .int x ∧ pm_get lv i = some (.int x) := by
  unfold pm_ldi at h; split at h
  · rename_i e; cases h; exact ⟨_, rfl, e⟩
  · cases h
theorem pm_ldl_s {lv : pm_L} {i : Nat} {v : Value} (h : pm_ldl lv i = some v) : ∃ x, v = .long x ∧ pm_get lv i = some (.long x) := by
  unfold pm_ldl at h; split at h
  · rename_i e; cases h; exact ⟨_, rfl, e⟩
  · cases h
theorem pm_lda_s {lv : pm_L} {i : Nat} {v : Value} (h : pm_lda lv i = some v) : (∃ x, v = .ref x ∧ pm_get lv i = some (.ref x)) ∨ (v = .null ∧ pm_get lv i = some .null) := by
  unfold pm_lda at h; split at h
  · rename_i e; cases h; exact Or.inl ⟨_, rfl, e⟩
  · rename_i e; cases h; exact Or.inr ⟨rfl, e⟩
  · cases h
theorem pm_g1 {i : Instr} {st : List Value} {v : Value} {lv : pm_L} {nL : Nat} (hx : p.tables.exec = Jvm.exec) (hb : c.code = cc) (hdg : decode cc pc = .ok (i, pm_ldn i)) (hl : lv_has ls nL (pm_lv b base lv))
    (h : pm_ld i lv = some v) (kk : W p l e R s m args below meth c H locs cells slots Q (F0 m (pc + pm_ldn i) ls ((v :: st).map (pm_sh b base)))) : W p l e R s m args below meth c H locs cells slots Q (F0 m pc ls (st.map (pm_sh b base))) := by
  cases i
  case iload_n n => obtain ⟨x, rfl, hg⟩ := pm_ldi_s h; exact lv_iload_n hx hb hdg rfl (pm_lv_get hl hg) kk
  case iload n => obtain ⟨x, rfl, hg⟩ := pm_ldi_s h; exact lv_iload hx hb hdg (pm_lv_get hl hg) kk
  case lload_n n => obtain ⟨x, rfl, hg⟩ := pm_ldl_s h; exact lv_lload_n hx hb hdg rfl (pm_lv_get hl hg) kk
  case lload n => obtain ⟨x, rfl, hg⟩ := pm_ldl_s h; exact lv_lload hx hb hdg (pm_lv_get hl hg) kk
  case aload_n n =>
    rcases pm_lda_s h with ⟨x, rfl, hg⟩ | ⟨rfl, hg⟩
    · exact lv_aload_n hx hb hdg rfl (pm_lv_get hl hg) kk
    · exact lv_aload_nN hx hb hdg rfl (pm_lv_get hl hg) kk
  case aload n =>
    rcases pm_lda_s h with ⟨x, rfl, hg⟩ | ⟨rfl, hg⟩
    · exact lv_aload hx hb hdg (pm_lv_get hl hg) kk
    · exact lv_aloadN hx hb hdg (pm_lv_get hl hg) kk
  all_goals exact pm_no h
theorem pm_sti_s {nL i : Nat} {lv lv' : pm_L} {st st' : List Value} (h : pm_sti nL i lv st = some (lv', st')) : ∃ x, st = .int x :: st' ∧ i < nL ∧ lv' = (i, .int x) :: pm_st1 i lv := by
  unfold pm_sti at h; split at h
  · split at h
    · rename_i h0; cases h; exact ⟨_, rfl, Nat.le_of_ble_eq_true h0, rfl⟩
    · cases h
  · cases h
theorem pm_stl_s {nL i : Nat} {lv lv' : pm_L} {st st' : List Value} (h : pm_stl nL i lv st = some (lv', st')) : ∃ x, st = .long x :: st' ∧ i + 1 < nL ∧ lv' = (i, .long x) :: pm_st2 i lv := by
  unfold pm_stl at h; split at h
  · split at h
    · rename_i h0; cases h; exact ⟨_, rfl, Nat.le_of_ble_eq_true h0, rfl⟩
    · cases h
  · cases h
theorem pm_sta_s {nL i : Nat} {lv lv' : pm_L} {st st' : List Value} (h : pm_sta nL i lv st = some (lv', st')) : i < nL ∧ ((∃ x, st = .ref x :: st' ∧ lv' = (i, .ref x) :: pm_st1 i lv) ∨ (st = .null :: st' ∧ lv' = (i, .null) :: pm_st1 i lv)) := by
  unfold pm_sta at h; split at h
  · split at h
    · rename_i h0; cases h; exact ⟨Nat.le_of_ble_eq_true h0, Or.inl ⟨_, rfl, rfl⟩⟩
    · cases h
  · split at h
    · rename_i h0; cases h; exact ⟨Nat.le_of_ble_eq_true h0, Or.inr ⟨rfl, rfl⟩⟩
    · cases h
  · cases h
theorem pm_inc_s {nL i : Nat} {n : Int} {lv lv' : pm_L} {st st' : List Value} (h : pm_inc nL i n lv st = some (lv', st')) : ∃ x, pm_get lv i = some (.int x) ∧ st' = st ∧ i < nL ∧ lv' = (i, .int (x + Int32.ofInt n)) :: pm_st1 i lv := by
  unfold pm_inc at h; split at h
  · rename_i e
    split at h
    · rename_i h0; cases h; exact ⟨_, e, rfl, Nat.le_of_ble_eq_true h0, rfl⟩
    · cases h
  · cases h
theorem pm_g2 {i : Instr} {st st' : List Value} {lv lv' : pm_L} {nL : Nat} (hx : p.tables.exec = Jvm.exec) (hb : c.code = cc) (hdg : decode cc pc = .ok (i, pm_ston i)) (hl : lv_has ls nL (pm_lv b base lv))
    (h : pm_sto nL i lv st = some (lv', st')) (kk : ∀ ls' : Array Slot, lv_has ls' nL (pm_lv b base lv') → W p l e R s m args below meth c H locs cells slots Q (F0 m (pc + pm_ston i) ls' (st'.map (pm_sh b base)))) : W p l e R s m args below meth c H locs cells slots Q (F0 m pc ls (st.map (pm_sh b base))) := by
  cases i
  case istore_n n => obtain ⟨x, rfl, hn, rfl⟩ := pm_sti_s h; exact lv_istore_n hx hb hdg rfl hl hn rfl (fun ls' hl' => kk ls' (pm_has1 (v := .int x) hl'))
  case istore n => obtain ⟨x, rfl, hn, rfl⟩ := pm_sti_s h; exact lv_istore hx hb hdg hl hn rfl (fun ls' hl' => kk ls' (pm_has1 (v := .int x) hl'))
  case lstore_n n => obtain ⟨x, rfl, hn, rfl⟩ := pm_stl_s h; exact lv_lstore_n hx hb hdg rfl hl hn rfl (fun ls' hl' => kk ls' (pm_has2 (v := .long x) hl'))
  case lstore n => obtain ⟨x, rfl, hn, rfl⟩ := pm_stl_s h; exact lv_lstore hx hb hdg hl hn rfl (fun ls' hl' => kk ls' (pm_has2 (v := .long x) hl'))
  case astore_n n =>
    obtain ⟨hn, ⟨x, rfl, rfl⟩ | ⟨rfl, rfl⟩⟩ := pm_sta_s h
    · exact lv_astore_n hx hb hdg rfl hl hn rfl (fun ls' hl' => kk ls' (pm_has1 (v := .ref x) hl'))
    · exact lv_astore_nN hx hb hdg rfl hl hn rfl (fun ls' hl' => kk ls' (pm_has1 (v := .null) hl'))
  case astore n =>
    obtain ⟨hn, ⟨x, rfl, rfl⟩ | ⟨rfl, rfl⟩⟩ := pm_sta_s h
    · exact lv_astore hx hb hdg hl hn rfl (fun ls' hl' => kk ls' (pm_has1 (v := .ref x) hl'))
    · exact lv_astoreN hx hb hdg hl hn rfl (fun ls' hl' => kk ls' (pm_has1 (v := .null) hl'))
  case iinc n d =>
    obtain ⟨x, hg, rfl, hn, rfl⟩ := pm_inc_s h
    obtain ⟨k, hk⟩ := pm_lv_k (b := b) (base := base) hg
    exact lv_iinc hx hb hdg hl hk rfl hn rfl (fun ls' hl' => kk ls' (pm_has1 (v := .int (x + Int32.ofInt d)) hl'))
  all_goals exact pm_no h
theorem pm_if_s {P : Prop} {inst : Decidable P} {t pc0 pc' : Nat} {r st' : List Value} (h : pm_if (decide P) t pc0 r = some (pc', st')) : st' = r ∧ (P → pc' = t) ∧ (¬ P → pc' = pc0 + 3) := by
  unfold pm_if at h
  by_cases hP : P
  · rw [decide_eq_true hP] at h; cases h; exact ⟨rfl, fun _ => rfl, fun q => absurd hP q⟩
  · rw [decide_eq_false hP] at h; cases h; exact ⟨rfl, fun q => absurd q hP, fun _ => rfl⟩
theorem pm_sw_s {pc0 pc' : Nat} {off : Int} {r st' : List Value} (h : pm_sw pc0 off r = some (pc', st')) : st' = r ∧ (pc0 : Int) + off = (pc' : Int) := by
  unfold pm_sw at h; split at h
  · rename_i e; cases h; exact ⟨rfl, e⟩
  · cases h
def pm_tgt (i : Instr) (pc t : Nat) : Bool := match i with
  | .goto off => decide ((pc : Int) + off = (t : Int))
  | .ifCond _ off => decide ((pc : Int) + off = (t : Int))
  | .if_icmp _ off => decide ((pc : Int) + off = (t : Int))
  | .ifnull off => decide ((pc : Int) + off = (t : Int))
  | .ifnonnull off => decide ((pc : Int) + off = (t : Int))
  | _ => true
theorem pm_g3 {i : Instr} {n t pc' : Nat} {st st' : List Value} (hx : p.tables.exec = Jvm.exec) (hb : c.code = cc) (hdg : decode cc pc = .ok (i, n)) (hn : n = 3 ∨ ∃ a b c d, i = .tableswitch a b c d) (ht : pm_tgt i pc t = true)
    (h : pm_jmp i pc t st = some (pc', st')) (kk : W p l e R s m args below meth c H locs cells slots Q (F0 m pc' ls (st'.map (pm_sh b base)))) : W p l e R s m args below meth c H locs cells slots Q (F0 m pc ls (st.map (pm_sh b base))) := by
  cases i
  case goto off =>
    obtain rfl : n = 3 := by rcases hn with h | ⟨a, b, c, d, h⟩; exact h; cases h
    cases h; exact lv_goto hx hb hdg (of_decide_eq_true ht) kk
  case ifCond cd off =>
    obtain rfl : n = 3 := by rcases hn with h | ⟨a, b, c, d, h⟩; exact h; cases h
    have htt := of_decide_eq_true ht
    simp only [pm_jmp] at h
    split at h
    · cases cd
      · obtain ⟨rfl, h1, h2⟩ := pm_if_s h
        exact lv_if_eq hx hb hdg htt (fun q => by rw [← h1 q]; exact kk) (fun q => by rw [← h2 q]; exact kk)
      · obtain ⟨rfl, h1, h2⟩ := pm_if_s h
        exact lv_if_ne hx hb hdg htt (fun q => by rw [← h1 q]; exact kk) (fun q => by rw [← h2 (fun z => z q)]; exact kk)
      · obtain ⟨rfl, h1, h2⟩ := pm_if_s h
        exact lv_if_lt hx hb hdg htt (fun q => by rw [← h1 q]; exact kk) (fun q => by rw [← h2 q]; exact kk)
      · obtain ⟨rfl, h1, h2⟩ := pm_if_s h
        exact lv_if_ge hx hb hdg htt (fun q => by rw [← h1 q]; exact kk) (fun q => by rw [← h2 q]; exact kk)
      · obtain ⟨rfl, h1, h2⟩ := pm_if_s h
        exact lv_if_gt hx hb hdg htt (fun q => by rw [← h1 q]; exact kk) (fun q => by rw [← h2 q]; exact kk)
      · obtain ⟨rfl, h1, h2⟩ := pm_if_s h
        exact lv_if_le hx hb hdg htt (fun q => by rw [← h1 q]; exact kk) (fun q => by rw [← h2 q]; exact kk)
    · cases h
  case if_icmp cd off =>
    obtain rfl : n = 3 := by rcases hn with h | ⟨a, b, c, d, h⟩; exact h; cases h
    have htt := of_decide_eq_true ht
    simp only [pm_jmp] at h
    split at h
    · cases cd
      · obtain ⟨rfl, h1, h2⟩ := pm_if_s h
        exact lv_icmp_eq hx hb hdg htt (fun q => by rw [← h1 q]; exact kk) (fun q => by rw [← h2 q]; exact kk)
      · obtain ⟨rfl, h1, h2⟩ := pm_if_s h
        exact lv_icmp_ne hx hb hdg htt (fun q => by rw [← h1 q]; exact kk) (fun q => by rw [← h2 (fun z => z q)]; exact kk)
      · obtain ⟨rfl, h1, h2⟩ := pm_if_s h
        exact lv_icmp_lt hx hb hdg htt (fun q => by rw [← h1 q]; exact kk) (fun q => by rw [← h2 q]; exact kk)
      · obtain ⟨rfl, h1, h2⟩ := pm_if_s h
        exact lv_icmp_ge hx hb hdg htt (fun q => by rw [← h1 q]; exact kk) (fun q => by rw [← h2 q]; exact kk)
      · obtain ⟨rfl, h1, h2⟩ := pm_if_s h
        exact lv_icmp_gt hx hb hdg htt (fun q => by rw [← h1 q]; exact kk) (fun q => by rw [← h2 q]; exact kk)
      · obtain ⟨rfl, h1, h2⟩ := pm_if_s h
        exact lv_icmp_le hx hb hdg htt (fun q => by rw [← h1 q]; exact kk) (fun q => by rw [← h2 q]; exact kk)
    · cases h
  case ifnull off =>
    obtain rfl : n = 3 := by rcases hn with h | ⟨a, b, c, d, h⟩; exact h; cases h
    have htt := of_decide_eq_true ht
    simp only [pm_jmp] at h
    split at h
    · cases h; exact lv_ifnullN hx hb hdg htt kk
    · cases h; exact lv_ifnull hx hb hdg kk
    · cases h
  case ifnonnull off =>
    obtain rfl : n = 3 := by rcases hn with h | ⟨a, b, c, d, h⟩; exact h; cases h
    have htt := of_decide_eq_true ht
    simp only [pm_jmp] at h
    split at h
    · cases h; exact lv_ifnonnullN hx hb hdg kk
    · cases h; exact lv_ifnonnull hx hb hdg htt kk
    · cases h
  case tableswitch dflt lo hi offs =>
    simp only [pm_jmp] at h
    split at h
    · split at h
      · rename_i h0
        obtain ⟨rfl, h1⟩ := pm_sw_s h
        exact lv_tableOut hx hb hdg h0 h1 kk
      · rename_i h0
        rw [not_or] at h0
        split at h
        · rename_i h2
          obtain ⟨rfl, h1⟩ := pm_sw_s h
          exact lv_tableIn hx hb hdg h0.1 h0.2 h2 h1 kk
        · cases h
    · cases h
  all_goals exact pm_no h
end PM1
end
section
/-! the instructions that read and write cells, over the kit's rows -/
def pm_tyc (ty : FieldType) : Int := match ty with
  | .int => 0
  | .long => 1
  | .boolean => 2
  | .object _ => 3
  | .array _ => 3
  | _ => 9
theorem pm_fit_ok {ty : FieldType} {v : Value} {b base : Nat} (h : pm_fit (pm_tyc ty) v = true) : narrow ty (pm_sh b base v) = pm_sh b base v ∧ fits ty (pm_sh b base v) = true := by
  cases ty <;> cases v <;> first
    | exact ⟨rfl, rfl⟩
    | cases h
    | (rename_i x
       have h2 : (decide (x = 0) || decide (x = 1)) = true := h
       rw [Bool.or_eq_true, decide_eq_true_eq, decide_eq_true_eq] at h2
       rcases h2 with rfl | rfl <;> exact ⟨rfl, rfl⟩)
def pm_tys (RD : String) (cA : Nat → ClassId) : List (ClassId × FieldType) := [(cA 0, .int), (cA 1, .long), (cA 2, .byte), (cA 3, .boolean), (cA 4, .array .long), (cA 5, .array .int), (cA 6, .object RD)]
/-- what the tables say of the classes -/
def pm_clOk (cl : List vw_C) (TB : List Cond) (cs : Nat → List Value) : Prop := ∀ (ci : Nat) (C : String) (T : u_T) (N : Nat), cl[ci]? = some (C, T, N) →
  (∀ w ∈ u_ws C T N, w ∈ TB) ∧ (∀ a, a < N → ∀ b, b < N → a ≠ b → (T a).2.1 ≠ (T b).2.1) ∧ (∃ ty0 : Nat → FieldType, (∀ k, k < N → parseFieldDescriptor (T k).2.2.1 = some (ty0 k)) ∧ ∀ j, j < N → defaultValue (ty0 j) = vp_V (cs ci) j) ∧ (cs ci).length = N ∧ ∀ v ∈ cs ci, ∀ b base, pm_sh b base v = v
/-- what the tables say of an instruction that works on cells -/
def pm_okm (cl : List vw_C) (TB : List Cond) (RD own mname : String) (i : Instr) (r1 r2 : Nat) (cst : Int) : Prop := match i with
  | .getfield x => ∃ (C : String) (T : u_T) (N : Nat), cl[r1]? = some (C, T, N) ∧ r2 < N ∧ Jvm.Cond.fieldLink own x (T r2).1 (T r2).2.1 (T r2).2.2.1 ∈ TB
  | .putfield x => ∃ (C : String) (T : u_T) (N : Nat) (ty : FieldType), cl[r1]? = some (C, T, N) ∧ r2 < N ∧ Jvm.Cond.fieldLink own x (T r2).1 (T r2).2.1 (T r2).2.2.1 ∈ TB ∧ parseFieldDescriptor (T r2).2.2.1 = some ty ∧ pm_tyc ty = cst ∧ ((T r2).2.2.2 = true → mname = "<init>" ∧ (T r2).1 = own)
  | .newarray ty => Jvm.Cond.arrayClass (newarray.typeOf ty) ∈ TB
  | .anewarray x => Jvm.Cond.classLink own x RD ∈ TB ∧ Jvm.Cond.arrayOver (.object RD) ∈ TB
  | .multianewarray x d => d = 2 ∧ ((r1 = 4 ∧ r2 = 1 ∧ Jvm.Cond.classLink own x ("[" ++ (FieldType.array .long).toString) ∈ TB ∧ Jvm.Cond.arrayOver (.array .long) ∈ TB ∧ Jvm.Cond.arrayClass .long ∈ TB) ∨ (r1 = 5 ∧ r2 = 0 ∧ Jvm.Cond.classLink own x ("[" ++ (FieldType.array .int).toString) ∈ TB ∧ Jvm.Cond.arrayOver (.array .int) ∈ TB ∧ Jvm.Cond.arrayClass .int ∈ TB))
  | .new x => ∃ (C : String) (T : u_T) (N : Nat), cl[r1]? = some (C, T, N) ∧ Jvm.Cond.classLink own x C ∈ TB ∧ Jvm.Cond.instantiable C N ∈ TB ∧ Jvm.Cond.initialized C ∈ TB
  | .aastore => ∃ (T : u_T) (N : Nat), cl[r1]? = some (RD, T, N)
  | _ => True
theorem pm_ix_s {i : Int32} {n j : Nat} (h : pm_ix i n = some j) : vp_in i n ∧ j = i.toNatClampNeg := by
  unfold pm_ix at h; split at h
  · cases h
  · rename_i h0
    split at h
    · cases h
    · rename_i h1
      cases h
      refine ⟨fun q => ?_, rfl⟩
      rcases q with q | q
      · exact h0 q
      · rw [Nat.ble_eq_true_of_le q] at h1; cases h1
theorem pm_psh_s {h h' : pm_H} {r st' : List Value} {v : Option Value} (q : pm_psh h r v = some (st', h')) : ∃ x, v = some x ∧ st' = x :: r ∧ h' = h := by
  unfold pm_psh at q; split at q
  · cases q; exact ⟨_, rfl, rfl, rfl⟩
  · cases q
theorem pm_wrs_s {h h' : pm_H} {a : Nat} {r st' : List Value} {e : Option pm_E} (q : pm_wrs h a r e = some (st', h')) : ∃ x, e = some x ∧ st' = r ∧ h' = pm_wr h a x := by
  unfold pm_wrs at q; split at q
  · cases q; exact ⟨_, rfl, rfl, rfl⟩
  · cases q
theorem pm_wr_s (h : pm_H) (k : Nat) (x : pm_E) : pm_wr h (k + 1) x = h.set k x := pm_put_eq h x k
theorem pm_beq {a b : Nat} (h : Nat.beq a b = true) : a = b := Nat.eq_of_beq_eq_true h
/-- the heap is as long as our cells say -/
theorem pm_size {D : va_G} {cl : List vw_C} {g : pm_E → va_E} {base n0 cells : Nat} {h : pm_H} {H H0 : Heap} {A : Nat → Prop} {locs : List Loc} (hP : va_P D cl (pm_ws g base h) H) (hS : va_S A H0 H locs) (h0 : H0.size = base + n0) (hc : cells + n0 = h.length) (hX : H.size ≤ H0.size + cells) : H.size = base + h.length := by
  have h1 := hS.1
  by_cases e : h.length = 0
  · omega
  · have hlt : h.length - 1 < h.length := by omega
    have hk : (pm_ws g base h)[h.length - 1]? = some (base + (h.length - 1), g h[h.length - 1]) := by rw [pm_ws_get, List.getElem?_eq_getElem hlt]; rfl
    have := (hP _ _ hk).lt
    have h2 : base + (h.length - 1) < H.size := this
    omega
section PM2
variable {p : Program} {l : Launch} {e : Env} {R : Room} {s : State} {m : MethodId} {args : Array Value} {below : List Frame} {meth : Method} {c : Code} {H : Heap} {locs : List Loc} {cells slots : Nat} {Q : State → Prop}
theorem pm_bound {g : JFrame} (k : H.size ≤ s.heap.size + cells → W p l e R s m args below meth c H locs cells slots Q g) : W p l e R s m args below meth c H locs cells slots Q g := fun T hT X => k (by rw [← hT]; exact X.heapSize) T hT X
variable {cc : ByteArray} {pc : Nat} {ls : Array Slot} {b base : Nat} {D : va_G} {cl : List vw_C} {cA : Nat → ClassId} {RD own : String} {TB : List Cond} {cs : Nat → List Value} {h : pm_H} {r : List Value}
theorem pm_gf_s {r1 r2 : Nat} {o : Option pm_E} {v : Value} (q : pm_gf r1 r2 o = some v) : ∃ fs, o = some (.inr (r1, fs)) ∧ fs[r2]? = some v := by
  unfold pm_gf at q; split at q
  · split at q
    · rename_i e1; cases pm_beq e1; rw [pm_nth_eq] at q; exact ⟨_, rfl, q⟩
    · cases q
  · cases q
/-- getfield -/
theorem pm_getfield {r1 r2 x a : Nat} {v : Value} (hx : p.tables.exec = Jvm.exec) (hb : c.code = cc) (hts : ∀ w ∈ TB, w.before args s = true) (hcl : pm_clOk cl TB cs) (hown : s.vm.findClass own = some m.cls) (hK : va_K D cl (pm_tys RD cA) s) (hP : va_P D cl (pm_ws (pm_tr cA b base) base h) H)
    (hok : pm_okm cl TB RD own meth.name (.getfield x) r1 r2 0) (hdg : decode cc pc = .ok (.getfield x, 3)) (q : pm_gf r1 r2 (pm_cell h a) = some v)
    (kk : W p l e R s m args below meth c H locs cells slots Q (F0 m (pc + 3) ls (pm_sh b base v :: r))) : W p l e R s m args below meth c H locs cells slots Q (F0 m pc ls (.ref (pm_ad b base a) :: r)) := by
  obtain ⟨fs, q1, q2⟩ := pm_gf_s q
  obtain ⟨k, rfl, q3⟩ := pm_cell_s q1
  obtain ⟨C, T, N, o1, o2, o3⟩ := hok
  exact va_get hx hb hts (hcl _ _ _ _ o1).1 hown hK hP k (pm_at (D := D) (cl := cl) (H := H) q3) o1 r2 o2 (hts _ o3) (fun _ z => z) (by rw [List.getElem?_map, q2]; rfl) hdg kk
theorem pm_pf_s {r1 r2 : Nat} {ty : Int} {v : Value} {o : Option pm_E} {y : pm_E} (q : pm_pf r1 r2 ty v o = some y) : ∃ fs, o = some (.inr (r1, fs)) ∧ pm_fit ty v = true ∧ r2 < fs.length ∧ y = .inr (r1, fs.set r2 v) := by
  unfold pm_pf at q; split at q
  · split at q
    · rename_i e1 e2 e3; cases pm_beq e1; cases q; exact ⟨_, rfl, e2, Nat.le_of_ble_eq_true e3, by rw [pm_put_eq]⟩
    · cases q
  · cases q
/-- putfield -/
theorem pm_putfield {r1 r2 x a : Nat} {cst : Int} {v : Value} {y : pm_E} (hx : p.tables.exec = Jvm.exec) (hb : c.code = cc) (hts : ∀ w ∈ TB, w.before args s = true) (hcl : pm_clOk cl TB cs) (hown : s.vm.findClass own = some m.cls) (hK : va_K D cl (pm_tys RD cA) s) (hP : va_P D cl (pm_ws (pm_tr cA b base) base h) H) (hS : va_S (fun q => base ≤ q) s.heap H locs)
    (hok : pm_okm cl TB RD own meth.name (.putfield x) r1 r2 cst) (hdg : decode cc pc = .ok (.putfield x, 3)) (q : pm_pf r1 r2 cst v (pm_cell h a) = some y)
    (kk : ∀ (H1 : Heap) (locs1 : List Loc), va_P D cl (pm_ws (pm_tr cA b base) base (pm_wr h a y)) H1 → va_S (fun q => base ≤ q) s.heap H1 locs1 → W p l e R s m args below meth c H1 locs1 cells slots Q (F0 m (pc + 3) ls r)) : W p l e R s m args below meth c H locs cells slots Q (F0 m pc ls (pm_sh b base v :: .ref (pm_ad b base a) :: r)) := by
  obtain ⟨fs, q1, q2, q4, rfl⟩ := pm_pf_s q
  obtain ⟨k, rfl, q3⟩ := pm_cell_s q1
  obtain ⟨C, T, N, ty, o1, o2, o3, o4, rfl, o6⟩ := hok
  obtain ⟨c1, c2, ⟨ty0, c3, -⟩, -⟩ := hcl _ _ _ _ o1
  obtain ⟨f1, f2⟩ := pm_fit_ok (b := b) (base := base) q2
  have hD := pm_ws_D (pm_tr cA b base) base h
  have hk : ∀ (H1 : Heap) (locs1 : List Loc), va_P D cl ((pm_ws (pm_tr cA b base) base h).set k (base + k, .inr (r1, (fs.map (pm_sh b base)).set r2 (pm_sh b base v)))) H1 → va_D (fun q => base ≤ q) ((pm_ws (pm_tr cA b base) base h).set k (base + k, .inr (r1, (fs.map (pm_sh b base)).set r2 (pm_sh b base v)))) → va_S (fun q => base ≤ q) s.heap H1 locs1 → W p l e R s m args below meth c H1 locs1 cells slots Q (F0 m (pc + 3) ls r) := by
    intro H1 locs1 hP1 _ hS1
    refine kk H1 locs1 ?_ hS1
    rw [pm_wr_s, ← pm_ws_set]
    have e9 : pm_tr cA b base (.inr (r1, fs.set r2 v)) = .inr (r1, (fs.map (pm_sh b base)).set r2 (pm_sh b base v)) := by
      show Sum.inr (r1, (fs.set r2 v).map (pm_sh b base)) = _
      rw [List.map_set]
    rw [e9]
    exact hP1
  cases hfin : (T r2).2.2.2 with
  | false => exact va_put hx hb hts c1 ty0 c3 c2 hown hK hP hD hS k (pm_at (D := D) (cl := cl) (H := H) q3) o1 r2 o2 (hts _ o3) (fun _ z => z) hfin o4 f1 f2 (by rw [List.length_map]; exact q4) hdg hk
  | true => exact va_putF hx hb hts c1 ty0 c3 c2 hown hK hP hD hS k (pm_at (D := D) (cl := cl) (H := H) q3) o1 r2 o2 (hts _ o3) (fun _ z => z) hfin (o6 hfin).1 (o6 hfin).2 o4 f1 f2 (by rw [List.length_map]; exact q4) hdg hk
/-- array loads -/
theorem pm_iaload {a : Nat} {i : Int32} {v : Value} (hx : p.tables.exec = Jvm.exec) (hb : c.code = cc) (hK : va_K D cl (pm_tys RD cA) s) (hP : va_P D cl (pm_ws (pm_tr cA b base) base h) H) (hdg : decode cc pc = .ok (.iaload, 1)) (q : pm_rdi i (pm_cell h a) = some v)
    (kk : W p l e R s m args below meth c H locs cells slots Q (F0 m (pc + 1) ls (pm_sh b base v :: r))) : W p l e R s m args below meth c H locs cells slots Q (F0 m pc ls (.int i :: .ref (pm_ad b base a) :: r)) := by
  unfold pm_rdi at q
  split at q
  · rename_i e1
    split at q
    · rename_i e2
      split at q
      · rename_i e3
        cases q
        cases pm_beq e2
        obtain ⟨hin, rfl⟩ := pm_ix_s e3
        obtain ⟨k, rfl, q3⟩ := pm_cell_s e1
        exact va_iald hx hb hK hP k 0 (pm_at (D := D) (cl := cl) (H := H) q3) rfl hin hdg kk
      · cases q
    · cases q
  · cases q
theorem pm_laload {a : Nat} {i : Int32} {v : Value} (hx : p.tables.exec = Jvm.exec) (hb : c.code = cc) (hK : va_K D cl (pm_tys RD cA) s) (hP : va_P D cl (pm_ws (pm_tr cA b base) base h) H) (hdg : decode cc pc = .ok (.laload, 1)) (q : pm_rdl i (pm_cell h a) = some v)
    (kk : W p l e R s m args below meth c H locs cells slots Q (F0 m (pc + 1) ls (pm_sh b base v :: r))) : W p l e R s m args below meth c H locs cells slots Q (F0 m pc ls (.int i :: .ref (pm_ad b base a) :: r)) := by
  unfold pm_rdl at q
  split at q
  · rename_i e1
    split at q
    · rename_i e2
      split at q
      · rename_i e3
        cases q
        cases pm_beq e2
        obtain ⟨hin, rfl⟩ := pm_ix_s e3
        obtain ⟨k, rfl, q3⟩ := pm_cell_s e1
        exact va_lald hx hb hK hP k 1 (pm_at (D := D) (cl := cl) (H := H) q3) rfl hin hdg kk
      · cases q
    · cases q
  · cases q
theorem pm_baload {a : Nat} {i : Int32} {v : Value} (hx : p.tables.exec = Jvm.exec) (hb : c.code = cc) (hK : va_K D cl (pm_tys RD cA) s) (hP : va_P D cl (pm_ws (pm_tr cA b base) base h) H) (hdg : decode cc pc = .ok (.baload, 1)) (q : pm_rdb i (pm_cell h a) = some v)
    (kk : W p l e R s m args below meth c H locs cells slots Q (F0 m (pc + 1) ls (pm_sh b base v :: r))) : W p l e R s m args below meth c H locs cells slots Q (F0 m pc ls (.int i :: .ref (pm_ad b base a) :: r)) := by
  unfold pm_rdb at q
  split at q
  · rename_i kd n f e1
    split at q
    · cases q
    · rename_i e2
      split at q
      · rename_i e3
        cases q
        obtain ⟨hin, rfl⟩ := pm_ix_s e3
        obtain ⟨k, rfl, q3⟩ := pm_cell_s e1
        cases e4 : Nat.beq kd 2 with
        | true =>
          cases pm_beq e4
          exact va_bald hx hb hK hP k 2 (pm_at (D := D) (cl := cl) (H := H) q3) rfl hin hdg kk
        | false =>
          cases e5 : Nat.beq kd 3 with
          | true =>
            cases pm_beq e5
            exact va_zald hx hb hK hP k 3 (pm_at (D := D) (cl := cl) (H := H) q3) rfl hin hdg kk
          | false => exact (e2 e4 e5).elim
      · cases q
  · cases q
theorem pm_rf (o : Option Nat) : pm_sh b base (va_rf o) = va_rf (o.map (pm_ad b base)) := by cases o <;> rfl
theorem pm_aaload {a : Nat} {i : Int32} {v : Value} (hx : p.tables.exec = Jvm.exec) (hb : c.code = cc) (hK : va_K D cl (pm_tys RD cA) s) (hP : va_P D cl (pm_ws (pm_tr cA b base) base h) H) (hdg : decode cc pc = .ok (.aaload, 1)) (q : pm_rda i (pm_cell h a) = some v)
    (kk : W p l e R s m args below meth c H locs cells slots Q (F0 m (pc + 1) ls (pm_sh b base v :: r))) : W p l e R s m args below meth c H locs cells slots Q (F0 m pc ls (.int i :: .ref (pm_ad b base a) :: r)) := by
  unfold pm_rda at q
  split at q
  · rename_i kd n f e1
    split at q
    · cases q
    · rename_i e2
      split at q
      · rename_i e3
        cases q
        obtain ⟨hin, rfl⟩ := pm_ix_s e3
        obtain ⟨k, rfl, q3⟩ := pm_cell_s e1
        rw [pm_rf] at kk
        have hlt : i.toNatClampNeg < n := Nat.not_le.mp fun z => hin (Or.inr z)
        have key : ∀ (t0 : Nat) (ty : FieldType), (pm_tys RD cA)[t0]? = some (cA kd, ty) → ty.isReference = true → W p l e R s m args below meth c H locs cells slots Q (F0 m pc ls (.int i :: .ref (base + k) :: r)) := fun t0 ty ht hr =>
          W.aald (v := va_rf ((f i.toNatClampNeg).map (pm_ad b base))) (ty := ty) hx hb (hP k _ (pm_at (D := D) (cl := cl) (H := H) q3)) ((hK.2 t0 _ ht).1 n (fun j => va_rf ((f j).map (pm_ad b base)))) hr (fun z => by cases z) (by show ¬ (i < 0 ∨ (arrV _ _ _).slots.size ≤ _); rw [arrV_size]; exact hin) (by show (arrV _ _ _).slots[_]? = _; rw [arrV_read _ _ hlt]) rfl rfl hdg kk
        cases e4 : Nat.beq kd 4 with
        | true => cases pm_beq e4; exact key 4 _ rfl rfl
        | false =>
          cases e5 : Nat.beq kd 5 with
          | true => cases pm_beq e5; exact key 5 _ rfl rfl
          | false =>
            cases e6 : Nat.beq kd 6 with
            | true => cases pm_beq e6; exact key 6 _ rfl rfl
            | false => exact (e2 e4 e5 e6).elim
      · cases q
  · cases q
end PM2
end
section
/-! array stores, lengths, the script, new cells -/
section PM3
variable {p : Program} {l : Launch} {e : Env} {R : Room} {s : State} {m : MethodId} {args : Array Value} {below : List Frame} {meth : Method} {c : Code} {H : Heap} {locs : List Loc} {cells slots : Nat} {Q : State → Prop}
variable {cc : ByteArray} {pc : Nat} {ls : Array Slot} {b base : Nat} {D : va_G} {cl : List vw_C} {cA : Nat → ClassId} {RD own : String} {TB : List Cond} {cs : Nat → List Value} {h : pm_H} {r : List Value}
theorem pm_iastore {a : Nat} {i x : Int32} {y : pm_E} (hx : p.tables.exec = Jvm.exec) (hb : c.code = cc) (hK : va_K D cl (pm_tys RD cA) s) (hP : va_P D cl (pm_ws (pm_tr cA b base) base h) H) (hS : va_S (fun q => base ≤ q) s.heap H locs) (hdg : decode cc pc = .ok (.iastore, 1)) (q : pm_wri i x (pm_cell h a) = some y)
    (kk : ∀ (H1 : Heap) (locs1 : List Loc), va_P D cl (pm_ws (pm_tr cA b base) base (pm_wr h a y)) H1 → va_S (fun q => base ≤ q) s.heap H1 locs1 → W p l e R s m args below meth c H1 locs1 cells slots Q (F0 m (pc + 1) ls r)) : W p l e R s m args below meth c H locs cells slots Q (F0 m pc ls (.int x :: .int i :: .ref (pm_ad b base a) :: r)) := by
  unfold pm_wri at q
  split at q
  · rename_i e1
    split at q
    · rename_i e2
      split at q
      · rename_i e3
        cases q
        cases pm_beq e2
        obtain ⟨hin, rfl⟩ := pm_ix_s e3
        obtain ⟨k, rfl, q3⟩ := pm_cell_s e1
        refine va_iast hx hb hK hP (pm_ws_D _ base h) hS k 0 (pm_at (D := D) (cl := cl) (H := H) q3) rfl hin hdg (fun H1 locs1 hP1 _ hS1 => kk H1 locs1 ?_ hS1)
        rw [pm_wr_s, ← pm_ws_set]
        exact hP1
      · cases q
    · cases q
  · cases q
theorem pm_lastore {a : Nat} {i : Int32} {x : Int64} {y : pm_E} (hx : p.tables.exec = Jvm.exec) (hb : c.code = cc) (hK : va_K D cl (pm_tys RD cA) s) (hP : va_P D cl (pm_ws (pm_tr cA b base) base h) H) (hS : va_S (fun q => base ≤ q) s.heap H locs) (hdg : decode cc pc = .ok (.lastore, 1)) (q : pm_wrl i x (pm_cell h a) = some y)
    (kk : ∀ (H1 : Heap) (locs1 : List Loc), va_P D cl (pm_ws (pm_tr cA b base) base (pm_wr h a y)) H1 → va_S (fun q => base ≤ q) s.heap H1 locs1 → W p l e R s m args below meth c H1 locs1 cells slots Q (F0 m (pc + 1) ls r)) : W p l e R s m args below meth c H locs cells slots Q (F0 m pc ls (.long x :: .int i :: .ref (pm_ad b base a) :: r)) := by
  unfold pm_wrl at q
  split at q
  · rename_i e1
    split at q
    · rename_i e2
      split at q
      · rename_i e3
        cases q
        cases pm_beq e2
        obtain ⟨hin, rfl⟩ := pm_ix_s e3
        obtain ⟨k, rfl, q3⟩ := pm_cell_s e1
        refine va_last hx hb hK hP (pm_ws_D _ base h) hS k 1 (pm_at (D := D) (cl := cl) (H := H) q3) rfl hin hdg (fun H1 locs1 hP1 _ hS1 => kk H1 locs1 ?_ hS1)
        rw [pm_wr_s, ← pm_ws_set]
        exact hP1
      · cases q
    · cases q
  · cases q
theorem pm_bastore {a : Nat} {i x : Int32} {y : pm_E} (hx : p.tables.exec = Jvm.exec) (hb : c.code = cc) (hK : va_K D cl (pm_tys RD cA) s) (hP : va_P D cl (pm_ws (pm_tr cA b base) base h) H) (hS : va_S (fun q => base ≤ q) s.heap H locs) (hdg : decode cc pc = .ok (.bastore, 1)) (q : pm_wrb i x (pm_cell h a) = some y)
    (kk : ∀ (H1 : Heap) (locs1 : List Loc), va_P D cl (pm_ws (pm_tr cA b base) base (pm_wr h a y)) H1 → va_S (fun q => base ≤ q) s.heap H1 locs1 → W p l e R s m args below meth c H1 locs1 cells slots Q (F0 m (pc + 1) ls r)) : W p l e R s m args below meth c H locs cells slots Q (F0 m pc ls (.int x :: .int i :: .ref (pm_ad b base a) :: r)) := by
  unfold pm_wrb at q
  split at q
  · rename_i e1
    split at q
    · rename_i e2
      split at q
      · rename_i e3
        cases q
        cases pm_beq e2
        obtain ⟨hin, rfl⟩ := pm_ix_s e3
        obtain ⟨k, rfl, q3⟩ := pm_cell_s e1
        refine va_bast hx hb hK hP (pm_ws_D _ base h) hS k 2 (pm_at (D := D) (cl := cl) (H := H) q3) rfl hin hdg (fun H1 locs1 hP1 _ hS1 => kk H1 locs1 ?_ hS1)
        rw [pm_wr_s, ← pm_ws_set]
        exact hP1
      · cases q
    · rename_i e2 _
      split at q
      · rename_i e3
        cases q
        cases pm_beq e2
        obtain ⟨hin, rfl⟩ := pm_ix_s e3
        obtain ⟨k, rfl, q3⟩ := pm_cell_s e1
        refine va_zast hx hb hK hP (pm_ws_D _ base h) hS k 3 (pm_at (D := D) (cl := cl) (H := H) q3) rfl hin hdg (fun H1 locs1 hP1 _ hS1 => kk H1 locs1 ?_ hS1)
        rw [pm_wr_s, ← pm_ws_set]
        exact hP1
      · cases q
    · cases q
  · cases q
theorem pm_aastore {a x ci : Nat} {i : Int32} {y : pm_E} {T : u_T} {N : Nat} (hx : p.tables.exec = Jvm.exec) (hb : c.code = cc) (hK : va_K D cl (pm_tys RD cA) s) (hP : va_P D cl (pm_ws (pm_tr cA b base) base h) H) (hS : va_S (fun q => base ≤ q) s.heap H locs) (hci : cl[ci]? = some (RD, T, N)) (hdg : decode cc pc = .ok (.aastore, 1)) (q : pm_wra ci i x (pm_cell h x) (pm_cell h a) = some y)
    (kk : ∀ (H1 : Heap) (locs1 : List Loc), va_P D cl (pm_ws (pm_tr cA b base) base (pm_wr h a y)) H1 → va_S (fun q => base ≤ q) s.heap H1 locs1 → W p l e R s m args below meth c H1 locs1 cells slots Q (F0 m (pc + 1) ls r)) : W p l e R s m args below meth c H locs cells slots Q (F0 m pc ls (.ref (pm_ad b base x) :: .int i :: .ref (pm_ad b base a) :: r)) := by
  unfold pm_wra at q
  split at q
  · rename_i k9 n f c9 fs e1 e0
    split at q
    · rename_i e2 e4
      split at q
      · rename_i e3
        cases q
        cases pm_beq e2
        cases pm_beq e4
        obtain ⟨hin, rfl⟩ := pm_ix_s e3
        obtain ⟨k, rfl, q3⟩ := pm_cell_s e1
        obtain ⟨kx, rfl, q4⟩ := pm_cell_s e0
        refine va_astq (r := (RD, T, N)) hx hb hK hP (pm_ws_D _ base h) hS k 6 kx ci (pm_at (D := D) (cl := cl) (H := H) q3) rfl (pm_at (D := D) (cl := cl) (H := H) q4) hci hin hdg (fun H1 locs1 hP1 _ hS1 => kk H1 locs1 ?_ hS1)
        rw [pm_wr_s, ← pm_ws_set]
        have e9 : pm_tr cA b base (.inl (6, n, .inr (.inr (.inr (.inr (va_up f i.toNatClampNeg (some (kx + 1)))))))) = .inl (cA 6, n, .inr (.inr (.inr (.inr (va_up (fun j => (f j).map (pm_ad b base)) i.toNatClampNeg (some (base + kx))))))) := by
          show Sum.inl (cA 6, n, Sum.inr (Sum.inr (Sum.inr (Sum.inr (fun j => (va_up f i.toNatClampNeg (some (kx + 1)) j).map (pm_ad b base)))))) = _
          congr 7
          funext j
          unfold va_up
          split <;> rfl
        rw [e9]
        exact hP1
      · cases q
    · cases q
  · cases q
theorem pm_arraylength {a : Nat} {v : Value} (hx : p.tables.exec = Jvm.exec) (hb : c.code = cc) (hK : va_K D cl (pm_tys RD cA) s) (hP : va_P D cl (pm_ws (pm_tr cA b base) base h) H) (hdg : decode cc pc = .ok (.arraylength, 1)) (q : pm_len (pm_cell h a) = some v)
    (kk : W p l e R s m args below meth c H locs cells slots Q (F0 m (pc + 1) ls (pm_sh b base v :: r))) : W p l e R s m args below meth c H locs cells slots Q (F0 m pc ls (.ref (pm_ad b base a) :: r)) := by
  unfold pm_len at q
  split at q
  · rename_i kd n f e1
    split at q
    · rename_i e2
      cases q
      obtain ⟨k, rfl, q3⟩ := pm_cell_s e1
      have hle := Nat.le_of_ble_eq_true e2
      have key : ∀ ty : FieldType, (pm_tys RD cA)[kd]? = some (cA kd, ty) → W p l e R s m args below meth c H locs cells slots Q (F0 m pc ls (.ref (base + k) :: r)) := by
        intro ty ht
        obtain f | f | f | f | f := f
        · exact va_alen (x := (n, .inl f)) hx hb hK hP k kd (pm_at (D := D) (cl := cl) (H := H) q3) ht rfl hdg kk
        · exact va_alen (x := (n, .inr (.inl f))) hx hb hK hP k kd (pm_at (D := D) (cl := cl) (H := H) q3) ht rfl hdg kk
        · exact va_alen (x := (n, .inr (.inr (.inl f)))) hx hb hK hP k kd (pm_at (D := D) (cl := cl) (H := H) q3) ht rfl hdg kk
        · exact va_alen (x := (n, .inr (.inr (.inr (.inl f))))) hx hb hK hP k kd (pm_at (D := D) (cl := cl) (H := H) q3) ht rfl hdg kk
        · exact va_alen (x := (n, .inr (.inr (.inr (.inr (fun j => (f j).map (pm_ad b base))))))) hx hb hK hP k kd (pm_at (D := D) (cl := cl) (H := H) q3) ht rfl hdg kk
      rcases (show kd = 0 ∨ kd = 1 ∨ kd = 2 ∨ kd = 3 ∨ kd = 4 ∨ kd = 5 ∨ kd = 6 by omega) with rfl | rfl | rfl | rfl | rfl | rfl | rfl <;> exact key _ rfl
    · cases q
  · cases q
/-- a new cell at the end of the heap -/
theorem pm_grow {H1 : Heap} {x : pm_E} (hP : va_P D cl (pm_ws (pm_tr cA b base) base h) H) (hS : va_S (fun q => base ≤ q) s.heap H locs) (hz : H.size = base + h.length) (z1 : H1.size = H.size + 1) (o1 : ∀ q : Nat, q < H.size → H1[q]? = H[q]?) (hat : va_at D cl (base + h.length, pm_tr cA b base x) H1) :
    va_P D cl (pm_ws (pm_tr cA b base) base (h ++ [x])) H1 ∧ va_S (fun q => base ≤ q) s.heap H1 locs := by
  refine ⟨?_, Nat.le_trans hS.1 (by omega), fun q h1 h2 => (o1 q (Nat.lt_of_lt_of_le h1 hS.1)).trans (hS.2.1 q h1 h2), hS.2.2⟩
  rw [pm_ws_app]
  refine (hP.kept (fun k q hk => o1 q.1 ((hP k q hk).lt))).app (fun k q hk => ?_)
  have hk0 : k < 1 := (List.getElem?_eq_some_iff.mp hk).1
  rw [show k = 0 by omega] at hk
  cases hk
  exact hat
theorem pm_sz_s {n : Int32} {N : Nat} (q : pm_sz n = some N) : ¬ n < 0 ∧ n.toNatClampNeg = N ∧ N ≤ 67108864 := by
  unfold pm_sz at q; split at q
  · cases q
  · rename_i h0
    split at q
    · rename_i h1; cases q; exact ⟨h0, rfl, Nat.le_of_ble_eq_true h1⟩
    · cases q
theorem pm_nwa_s {h h' : pm_H} {r st' : List Value} {n : Int32} {f : Nat → pm_E} (q : pm_nwa h r n f = some (st', h')) : ∃ N, ¬ n < 0 ∧ n.toNatClampNeg = N ∧ N ≤ 67108864 ∧ st' = .ref (h.length + 1) :: r ∧ h' = h ++ [f N] := by
  unfold pm_nwa at q; split at q
  · rename_i e1
    obtain ⟨a1, a2, a3⟩ := pm_sz_s e1
    cases q
    exact ⟨_, a1, a2, a3, rfl, rfl⟩
  · cases q
theorem pm_newarray {aty : ArrayType} {ty : FieldType} {kd n0 : Nat} {n : Int32} {N : Nat} {x : pm_E} (hx : p.tables.exec = Jvm.exec) (hb : c.code = cc) (harr : (Jvm.Cond.arrayClass (newarray.typeOf aty)).before args s = true) (hty : newarray.typeOf aty = ty) (hprim : ∀ C, ty ≠ .object C) (hK : va_K D cl (pm_tys RD cA) s) (hP : va_P D cl (pm_ws (pm_tr cA b base) base h) H) (hS : va_S (fun q => base ≤ q) s.heap H locs) (h0 : s.heap.size = base + n0) (hc : cells + n0 = h.length)
    (hkd : (pm_tys RD cA)[kd]? = some (cA kd, ty)) (hcell : ∃ a0, pm_tr cA b base x = .inl (cA kd, a0) ∧ vp_cell (cA kd) a0 = arrV (cA kd) N (fun _ => defaultValue ty)) (hcb : componentBytes ty ≤ 8) (hn : ¬ n < 0) (hN : n.toNatClampNeg = N) (hN2 : N ≤ 67108864) (hcells : cells + 1 ≤ R.cells) (hslots : slots + N ≤ R.slots) (hdg : decode cc pc = .ok (.newarray aty, 2))
    (kk : ∀ H1 : Heap, va_P D cl (pm_ws (pm_tr cA b base) base (h ++ [x])) H1 → va_S (fun q => base ≤ q) s.heap H1 locs → W p l e R s m args below meth c H1 locs (cells + 1) (slots + N) Q (F0 m (pc + 2) ls (.ref (base + h.length) :: r))) : W p l e R s m args below meth c H locs cells slots Q (F0 m pc ls (.int n :: r)) := by
  refine pm_bound fun hbd => ?_
  have hz := pm_size hP hS h0 hc hbd
  subst hty
  refine va_newaK hx hb harr rfl hdg rfl hn hN (Nat.le_trans (Nat.mul_le_mul hN2 hcb) (Nat.le_refl _)) hcells hslots hz fun H1 cA1 e1 z1 o1 hAr hNm => ?_
  have hra := (hK.2 kd _ hkd).2
  have ec : cA1 = cA kd := by
    have h9 : s.vm.findClass ("[" ++ (newarray.typeOf aty).toString) = some (cA kd) := by
      cases aty <;> exact hra
    exact Option.some.inj (hNm.symm.trans h9)
  subst ec
  obtain ⟨a0, t1, t2⟩ := hcell
  obtain ⟨g1, g2⟩ := pm_grow (x := x) hP hS hz (by rw [z1, hz]) (fun q hq => o1 q (by rw [← hz]; exact hq)) (by
    rw [t1]
    show H1[base + h.length]? = some (vp_cell _ _)
    rw [t2]; exact e1)
  exact kk H1 g1 g2
theorem pm_anewarray {n0 x : Nat} {n : Int32} {N : Nat} (hx : p.tables.exec = Jvm.exec) (hb : c.code = cc) (hown : s.vm.findClass own = some m.cls) (hlink : (Jvm.Cond.classLink own x RD).before args s = true) (hover : (Jvm.Cond.arrayOver (.object RD)).before args s = true) (hK : va_K D cl (pm_tys RD cA) s) (hP : va_P D cl (pm_ws (pm_tr cA b base) base h) H) (hS : va_S (fun q => base ≤ q) s.heap H locs) (h0 : s.heap.size = base + n0) (hc : cells + n0 = h.length)
    (hn : ¬ n < 0) (hN : n.toNatClampNeg = N) (hN2 : N ≤ 67108864) (hcells : cells + 1 ≤ R.cells) (hslots : slots + N ≤ R.slots) (hdg : decode cc pc = .ok (.anewarray x, 3))
    (kk : ∀ H1 : Heap, va_P D cl (pm_ws (pm_tr cA b base) base (h ++ [.inl (6, N, .inr (.inr (.inr (.inr (fun _ => none)))))])) H1 → va_S (fun q => base ≤ q) s.heap H1 locs → W p l e R s m args below meth c H1 locs (cells + 1) (slots + N) Q (F0 m (pc + 3) ls (.ref (base + h.length) :: r))) : W p l e R s m args below meth c H locs cells slots Q (F0 m pc ls (.int n :: r)) := by
  refine pm_bound fun hbd => ?_
  have hz := pm_size hP hS h0 hc hbd
  subst hN
  refine W.anew hx hb hown hlink hover rfl hdg rfl hn (by omega) hcells hslots fun cA1 kA comp f1 f2 f3 f4 => ?_
  generalize hH1 : H.push ({ cls := cA1, slots := Array.replicate n.toNatClampNeg .null, vm := .none } : Cell) = H1
  have z1 : H1.size = H.size + 1 := by rw [← hH1, Array.size_push]
  have e1 : H1[H.size]? = some (arrV cA1 n.toNatClampNeg (fun _ => .null)) := by rw [← hH1, Array.getElem?_push_size, ← arrV_new]
  have o1 : ∀ q : Nat, q < H.size → H1[q]? = H[q]? := fun q hq => by rw [← hH1, Array.getElem?_push, if_neg (Nat.ne_of_lt hq)]
  obtain ⟨kA', comp', g1, g2, g3, g4⟩ := (hK.2 6 _ rfl).2
  have ec : cA1 = cA 6 := Option.some.inj (f1.symm.trans g4)
  subst ec
  obtain ⟨u1, u2⟩ := pm_grow (x := .inl (6, n.toNatClampNeg, .inr (.inr (.inr (.inr (fun _ => none)))))) hP hS hz z1 o1 (by
    show H1[base + h.length]? = some (vp_cell _ _)
    rw [← hz, e1]
    rfl)
  rw [hz]
  exact kk H1 u1 u2
theorem pm_newobj {n0 x ci : Nat} {C : String} {T : u_T} {N : Nat} (hx : p.tables.exec = Jvm.exec) (hb : c.code = cc) (hts : ∀ w ∈ TB, w.before args s = true) (hcl : pm_clOk cl TB cs) (hown : s.vm.findClass own = some m.cls) (hci : cl[ci]? = some (C, T, N)) (hlink : (Jvm.Cond.classLink own x C).before args s = true) (hinst : (Jvm.Cond.instantiable C N).before args s = true) (hini : (Jvm.Cond.initialized C).before args s = true)
    (hK : va_K D cl (pm_tys RD cA) s) (hP : va_P D cl (pm_ws (pm_tr cA b base) base h) H) (hS : va_S (fun q => base ≤ q) s.heap H locs) (h0 : s.heap.size = base + n0) (hc : cells + n0 = h.length) (hcells : cells + 1 ≤ R.cells) (hslots : slots + N ≤ R.slots) (hdg : decode cc pc = .ok (.new x, 3))
    (kk : ∀ H1 : Heap, va_P D cl (pm_ws (pm_tr cA b base) base (h ++ [.inr (ci, cs ci)])) H1 → va_S (fun q => base ≤ q) s.heap H1 locs → W p l e R s m args below meth c H1 locs (cells + 1) (slots + N) Q (F0 m (pc + 3) ls (.ref (base + h.length) :: r))) : W p l e R s m args below meth c H locs cells slots Q (F0 m pc ls r) := by
  refine pm_bound fun hbd => ?_
  have hz := pm_size hP hS h0 hc hbd
  obtain ⟨c1, c2, ⟨ty0, c3, c4⟩, c5, c6⟩ := hcl _ _ _ _ hci
  have hKn := hK.1 ci _ hci
  refine W.newcK hx hb hown hlink hinst hini rfl hdg hcells hslots hKn.2.1 hz fun H1 kC hkC e1 z1 o1 => ?_
  have es : (cs ci).map (pm_sh b base) = cs ci := by
    conv => rhs; rw [← List.map_id (cs ci)]
    exact List.map_congr_left (fun v hv => c6 v hv b base)
  obtain ⟨u1, u2⟩ := pm_grow (x := .inr (ci, cs ci)) hP hS hz (by rw [z1, hz]) (fun q hq => o1 q (by rw [← hz]; exact hq)) (by
    show va_at D cl (base + h.length, .inr (ci, (cs ci).map (pm_sh b base))) H1
    rw [es]
    exact ⟨_, hci, (u_born ty0 hts c1 hKn hkC e1 c3).to c4⟩)
  exact kk H1 u1 u2
end PM3
end
section
/-! new T[n][k]: the outer array, then its rows, one behind another -/
def pg_out (cA : ClassId) (N h0 i : Nat) : Cell := arrV cA N (fun j => if j < i then .ref (h0 + 1 + j) else .null)
def pg_row (cI : ClassId) (K : Nat) (dv : Value) : Cell := { cls := cI, slots := Array.replicate K dv, vm := .none }
/-- with i rows laid -/
def pg_st (T : State) (cA cI : ClassId) (N K : Nat) (dv : Value) : Nat → State
  | 0 => T.pushCell (pg_out cA N T.heap.size 0)
  | i + 1 => ((pg_st T cA cI N K dv i).pushCell (pg_row cI K dv)).setCell T.heap.size (pg_out cA N T.heap.size (i + 1))
theorem pg_out_new (cA : ClassId) (N h0 : Nat) : ({ cls := cA, slots := Array.replicate N .null, vm := .none } : Cell) = pg_out cA N h0 0 := by
  rw [arrV_new]
  unfold pg_out
  congr 1
theorem pg_out_set (cA : ClassId) (N h0 i : Nat) : (pg_out cA N h0 i).setSlot i (.ref (h0 + 1 + i)) = pg_out cA N h0 (i + 1) := by
  unfold pg_out
  rw [arrV_store]
  congr 1
  funext j
  unfold updV
  by_cases e : j = i
  · subst e
    rw [if_pos rfl, if_pos (Nat.lt_succ_self j)]
  · rw [if_neg e]
    dsimp only
    by_cases h : j < i
    · rw [if_pos h, if_pos (by omega)]
    · rw [if_neg h, if_neg (by omega)]
theorem pg_row_size (cI : ClassId) (K : Nat) (dv : Value) : (pg_row cI K dv).slots.size = K := by simp [pg_row]
theorem pg_facts (T : State) (cA cI : ClassId) (N K : Nat) (dv : Value) : ∀ i, (pg_st T cA cI N K dv i).heap.size = T.heap.size + 1 + i ∧ (pg_st T cA cI N K dv i).heap[T.heap.size]? = some (pg_out cA N T.heap.size i) ∧ (pg_st T cA cI N K dv i).vm = T.vm ∧ (pg_st T cA cI N K dv i).slotsUsed = T.slotsUsed + N + i * K := by
  intro i
  induction i with
  | zero =>
    refine ⟨by simp [pg_st], by simp [pg_st], rfl, ?_⟩
    show T.slotsUsed + (pg_out cA N T.heap.size 0).slots.size = _
    rw [show (pg_out cA N T.heap.size 0).slots.size = N from arrV_size _ _ _]
    omega
  | succ i ih =>
    obtain ⟨a1, a2, a3, a4⟩ := ih
    have hlt : T.heap.size < (pg_st T cA cI N K dv i).heap.size := by omega
    have hc : ((pg_st T cA cI N K dv i).pushCell (pg_row cI K dv)).heap[T.heap.size]? = some (pg_out cA N T.heap.size i) := (State.heap_pushCell_of_lt _ _ hlt).trans a2
    refine ⟨?_, State.heap_setCell_self hc, a3, ?_⟩
    · show (((pg_st T cA cI N K dv i).heap.push _).setIfInBounds _ _).size = _
      rw [Array.size_setIfInBounds, Array.size_push, a1]
      omega
    · show (pg_st T cA cI N K dv i).slotsUsed + (pg_row cI K dv).slots.size = _
      rw [pg_row_size, a4, Nat.succ_mul]
      omega
theorem pg_old (T : State) (cA cI : ClassId) (N K : Nat) (dv : Value) {a : Nat} (ha : a < T.heap.size) : ∀ i, (pg_st T cA cI N K dv i).heap[a]? = T.heap[a]? := by
  intro i
  induction i with
  | zero => exact State.heap_pushCell_of_lt _ _ ha
  | succ i ih =>
    have h1 := (pg_facts T cA cI N K dv i).1
    refine (State.heap_setCell_other (s := (pg_st T cA cI N K dv i).pushCell (pg_row cI K dv)) (Nat.ne_of_gt ha)).trans ?_
    exact (State.heap_pushCell_of_lt (pg_st T cA cI N K dv i) _ (show a < (pg_st T cA cI N K dv i).heap.size by omega)).trans ih
theorem pg_rows (T : State) (cA cI : ClassId) (N K : Nat) (dv : Value) : ∀ i j, j < i → (pg_st T cA cI N K dv i).heap[T.heap.size + 1 + j]? = some (pg_row cI K dv) := by
  intro i
  induction i with
  | zero => intro j h; omega
  | succ i ih =>
    intro j h
    have h1 := (pg_facts T cA cI N K dv i).1
    refine (State.heap_setCell_other (s := (pg_st T cA cI N K dv i).pushCell (pg_row cI K dv)) (show T.heap.size ≠ T.heap.size + 1 + j by omega)).trans ?_
    by_cases e : j = i
    · subst e
      show ((pg_st T cA cI N K dv j).heap.push _)[_]? = _
      rw [← h1, Array.getElem?_push_size]
    · exact (State.heap_pushCell_of_lt (pg_st T cA cI N K dv i) _ (show T.heap.size + 1 + j < (pg_st T cA cI N K dv i).heap.size by omega)).trans (ih j (by omega))
theorem pg_top (T : State) (f : JFrame) (cA cI : ClassId) (N K : Nat) (dv : Value) : ∀ i, pg_st (T.setTop f) cA cI N K dv i = (pg_st T cA cI N K dv i).setTop f := by
  intro i
  induction i with
  | zero => rfl
  | succ i ih =>
    show ((pg_st (T.setTop f) cA cI N K dv i).pushCell _).setCell _ _ = _
    rw [ih]
    rfl
section PMG
variable {p : Program} {l : Launch} {e : Env} {R : Room} {s : State} {m : MethodId} {args : Array Value} {below : List Frame} {meth : Method} {c : Code} {T : State} {locs : List Loc} {cells slots : Nat}
theorem pg_stand (X : Stand p l e R s m args below meth c T locs cells slots) (cA cI : ClassId) (N K : Nat) (dv : Value) : ∀ i, ∃ L, (∀ q ∈ L, q.base = T.heap.size) ∧ Stand p l e R s m args below meth c (pg_st T cA cI N K dv i) (locs ++ L) (cells + 1 + i) (slots + N + i * K) := by
  intro i
  induction i with
  | zero =>
    have h := X.pushed (pg_out cA N T.heap.size 0)
    rw [show (pg_out cA N T.heap.size 0).slots.size = N from arrV_size _ _ _] at h
    exact ⟨[], fun q h => absurd h List.not_mem_nil, by simpa [pg_st] using h⟩
  | succ i ih =>
    obtain ⟨L, hL, Xi⟩ := ih
    obtain ⟨a1, a2, a3, a4⟩ := pg_facts T cA cI N K dv i
    have hlt : T.heap.size < (pg_st T cA cI N K dv i).heap.size := by omega
    have hc : ((pg_st T cA cI N K dv i).pushCell (pg_row cI K dv)).heap[T.heap.size]? = some (pg_out cA N T.heap.size i) := (State.heap_pushCell_of_lt _ _ hlt).trans a2
    have h := (Xi.pushed (pg_row cI K dv)).stored hc i (.ref (T.heap.size + 1 + i))
    rw [pg_row_size, pg_out_set, List.append_assoc] at h
    refine ⟨L ++ [⟨T.heap.size, i⟩], fun q hq => ?_, ?_⟩
    · rcases List.mem_append.mp hq with h1 | h1
      · exact hL q h1
      · rw [List.mem_singleton.mp h1]
    · rw [show slots + N + (i + 1) * K = slots + N + i * K + K by rw [Nat.succ_mul]; omega]
      exact h
/-- the rows' own making -/
theorem pg_make {E : CtlPost} {d : Bool} {acts : List Action} {S : State} {cA cI cc : ClassId} {kA kI : Class} {t0 ty : FieldType} {n k : Int32} (hkA : S.vm.classes[cA]? = some kA) (hA : kA.kind = .array cI t0) (hr : t0.isReference = true) (hkI : S.vm.classes[cI]? = some kI) (hI : kI.kind = .array cc ty) (hn : ¬ n < 0) (hk : ¬ k < 0)
    (l1 : ¬ n.toNatClampNeg > e.platform.arrayLengthLimit) (b1 : ¬ n.toNatClampNeg * componentBytes t0 > e.platform.maxHeapBytes) (l2 : ¬ k.toNatClampNeg > e.platform.arrayLengthLimit) (b2 : ¬ k.toNatClampNeg * componentBytes ty > e.platform.maxHeapBytes) (hdf : fits ty (defaultValue ty) = true)
    (hc : S.heap.size + 1 + n.toNatClampNeg ≤ e.platform.maxCells) (hs : S.slotsUsed + n.toNatClampNeg + n.toNatClampNeg * k.toNatClampNeg ≤ e.platform.maxSlots)
    {Q : Addr → Pre} (hq : ∀ d' acts', Q S.heap.size d' acts' (pg_st S cA cI n.toNatClampNeg k.toNatClampNeg (defaultValue ty) n.toNatClampNeg)) : wp (multianewarray.make cA [n, k]) Q E e d acts S := by
  have fr : ∀ v : Value, (v = .null ∨ ∃ a, v = .ref a) → fits t0 v = true := by
    intro v hv
    rcases hv with rfl | ⟨a, rfl⟩ <;> cases t0 <;> first | rfl | cases hr
  have hno : ([k].find? (· < 0)) = none := by simp [hk]
  rw [multianewarray.make]
  simp only [wp_bind', W.ite, hn, if_false, wp_pure', W.theClass, hkA, hA, Option.some.injEq, exists_eq_left']
  refine W.newArray_of hkA hA l1 b1 (by omega) (by have := Nat.zero_le (n.toNatClampNeg * k.toNatClampNeg); omega) (fr _ (Or.inl rfl)) fun acts1 => ?_
  simp only [hno]
  rw [ite_self, wp_bind', Std.Legacy.Range.forIn_eq_forIn_range']
  have hsz : ([:n.toNatClampNeg] : Std.Legacy.Range).size = n.toNatClampNeg := by simp [Std.Legacy.Range.size]
  rw [hsz]
  show wp (forIn (List.range' 0 n.toNatClampNeg 1) PUnit.unit _) _ E e d acts1 _
  refine wp_forIn_inv (fun rest s' => ∃ i, i ≤ n.toNatClampNeg ∧ rest = List.range' i (n.toNatClampNeg - i) ∧ s' = pg_st S cA cI n.toNatClampNeg k.toNatClampNeg (defaultValue ty) i) _ _ ⟨0, Nat.zero_le _, rfl, ?_⟩ ?_ ?_
  · show S.pushCell _ = S.pushCell _
    rw [← pg_out_new]
  · rintro x rest s' d' acts' Q' ⟨i, hi, hl, rfl⟩ hnext
    have hlt : i < n.toNatClampNeg := by
      by_cases h9 : i < n.toNatClampNeg
      · exact h9
      · rw [show n.toNatClampNeg - i = 0 by omega] at hl; cases hl
    rw [show n.toNatClampNeg - i = (n.toNatClampNeg - (i + 1)) + 1 by omega, List.range'_succ] at hl
    obtain ⟨rfl, hrest⟩ := List.cons.inj hl
    obtain ⟨a1, a2, a3, a4⟩ := pg_facts S cA cI n.toNatClampNeg k.toNatClampNeg (defaultValue ty) x
    have hm : x * k.toNatClampNeg + k.toNatClampNeg ≤ n.toNatClampNeg * k.toNatClampNeg := by
      have := Nat.mul_le_mul_right k.toNatClampNeg (show x + 1 ≤ n.toNatClampNeg from hlt)
      rw [Nat.succ_mul] at this
      exact this
    simp only [wp_bind']
    rw [multianewarray.make]
    simp only [wp_bind', W.ite, hk, if_false, wp_pure', W.theClass, a3, hkI, hI, Option.some.injEq, exists_eq_left']
    refine W.newArray_of (by rw [a3]; exact hkI) hI l2 b2 (by rw [a1]; omega) (by rw [a4]; omega) hdf fun acts2 => ?_
    have hl0 : S.heap.size < (pg_st S cA cI n.toNatClampNeg k.toNatClampNeg (defaultValue ty) x).heap.size := by rw [a1]; omega
    simp only [wp_bind', W.writeLoc, wp_pure']
    refine ⟨pg_out cA n.toNatClampNeg S.heap.size x, (State.heap_pushCell_of_lt _ _ hl0).trans a2, (fun z => by cases z), by rw [show (pg_out cA n.toNatClampNeg S.heap.size x).slots.size = n.toNatClampNeg from arrV_size _ _ _]; exact hlt, ?_, hnext _ _ _ ⟨x + 1, hlt, hrest, ?_⟩⟩
    · show State.fitsSlot _ cA .none x _ = true
      simp [State.fitsSlot, State.slotType?, a3, hkA, hA, fr _ (Or.inr ⟨_, rfl⟩)]
    · rw [a1, pg_out_set]
      rfl
  · rintro s' d' acts' ⟨i, hi, hl, rfl⟩
    have hiN : i = n.toNatClampNeg := by
      by_cases h9 : i < n.toNatClampNeg
      · rw [show n.toNatClampNeg - i = (n.toNatClampNeg - (i + 1)) + 1 by omega, List.range'_succ] at hl; cases hl
      · omega
    subst hiN
    simp only [wp_pure']
    exact hq _ _
variable {H : Heap} {Q : State → Prop} {cc : ByteArray} {pc : Nat} {ls : Array Slot} {rest : List Value}
/-- the instruction -/
theorem pg_mna {own : String} {index : Nat} {ty : FieldType} (hexec : p.tables.exec = Jvm.exec) (hb : c.code = cc) (hown : s.vm.findClass own = some m.cls) (hclink : (Jvm.Cond.classLink own index ("[" ++ (FieldType.array ty).toString)).before args s = true) (hover : (Jvm.Cond.arrayOver (.array ty)).before args s = true) (harr : (Jvm.Cond.arrayClass ty).before args s = true)
    (hdg : decode cc pc = .ok (.multianewarray index 2, 4)) {n k : Int32} (hn : ¬ n < 0) (hk : ¬ k < 0) (hb1 : n.toNatClampNeg * 4 ≤ 536870912) (hb2 : k.toNatClampNeg * componentBytes ty ≤ 536870912) (hb3 : k.toNatClampNeg ≤ 536870912) (hdf : fits ty (defaultValue ty) = true)
    (hcells : cells + (1 + n.toNatClampNeg) ≤ R.cells) (hslots : slots + (n.toNatClampNeg + n.toNatClampNeg * k.toNatClampNeg) ≤ R.slots)
    (kk : ∀ (H1 : Heap) (cA cI : ClassId), s.vm.findClass ("[" ++ (FieldType.array ty).toString) = some cA → s.vm.findClass (FieldType.array ty).toString = some cI → H1.size = H.size + 1 + n.toNatClampNeg → (∀ q : Nat, q < H.size → H1[q]? = H[q]?) → H1[H.size]? = some (pg_out cA n.toNatClampNeg H.size n.toNatClampNeg) → (∀ j, j < n.toNatClampNeg → H1[H.size + 1 + j]? = some (pg_row cI k.toNatClampNeg (defaultValue ty))) →
      W p l e R s m args below meth c H1 locs (cells + 1 + n.toNatClampNeg) (slots + n.toNatClampNeg + n.toNatClampNeg * k.toNatClampNeg) Q (F0 m (pc + 4) ls (.ref H.size :: rest))) : W p l e R s m args below meth c H locs cells slots Q (F0 m pc ls (.int k :: .int n :: rest)) := by
  intro T hT X
  subst hb
  have hpl : e.platform.magicAccessors = ({} : Platform).magicAccessors := by rw [X.admits.platform]
  obtain ⟨cI, cA, kA, hcI, -, hkA, hA, hnA⟩ := arrayOverA_spec hover
  obtain ⟨cI', kI, cc, hcI', hkI, hI⟩ := Cond.arrayClass_spec harr
  have ei : cI' = cI := Option.some.inj (hcI'.symm.trans hcI)
  subst ei
  obtain ⟨c0, hc0, hcl⟩ := Cond.classLink_spec hown hclink e.platform hpl
  cases hnA.symm.trans hc0
  obtain ⟨hg1, hw1, hr1⟩ := State.classEntry (e := e) X.warmed hcl
  generalize T.vm.noted m.cls index (.cls cA) = vm1 at hg1 hw1 hr1
  have hal : s.vm.Alike vm1 := hw1.alike
  obtain ⟨kA1, hkA1, eA⟩ := hal.2.2 _ _ hkA
  obtain ⟨kI1, hkI1, eI⟩ := hal.2.2 _ _ hkI
  have hA1 : kA1.kind = .array cI' (.array ty) := by rw [eA]; exact hA
  have hI1 : kI1.kind = .array cc ty := by rw [eI]; exact hI
  have X1 := X.noted hw1
  obtain ⟨hr2, hr3⟩ := X.roomAbove hcells hslots
  obtain ⟨L, hL, XF⟩ := pg_stand X1 cA cI' n.toNatClampNeg k.toNatClampNeg (defaultValue ty) n.toNatClampNeg
  obtain ⟨a1, a2, a3, a4⟩ := pg_facts (T.setVm vm1) cA cI' n.toNatClampNeg k.toNatClampNeg (defaultValue ty) n.toNatClampNeg
  have eh : (T.setVm vm1).heap = H := hT
  have hgr : s.heap.size ≤ T.heap.size := X.heapGrown
  have XG := Stand.forget (locs := locs) (extra := L) XF (fun q hq => by rw [hL q hq]; exact hgr)
  generalize hF : pg_st (T.setVm vm1) cA cI' n.toNatClampNeg k.toNatClampNeg (defaultValue ty) n.toNatClampNeg = F at XG a1 a2 a3 a4
  rw [eh] at a1 a2
  obtain ⟨t, k1, k2⟩ := kk F.heap cA cI' hnA hcI a1 (fun q hq => by
      have := pg_old (T.setVm vm1) cA cI' n.toNatClampNeg k.toNatClampNeg (defaultValue ty) (a := q) (by rw [eh]; exact hq) n.toNatClampNeg
      rw [hF, eh] at this
      exact this) a2 (fun j hj => by
      have := pg_rows (T.setVm vm1) cA cI' n.toNatClampNeg k.toNatClampNeg (defaultValue ty) n.toNatClampNeg j hj
      rw [hF, eh] at this
      exact this) F rfl XG
  refine ⟨t, ?_, k2⟩
  have l1 : ¬ n.toNatClampNeg > e.platform.arrayLengthLimit := by rw [Launch.admits_arrayLengthLimit X.admits]; omega
  have b1 : ¬ n.toNatClampNeg * componentBytes (.array ty) > e.platform.maxHeapBytes := by
    rw [Launch.admits_maxHeapBytes X.admits]; show ¬ n.toNatClampNeg * 4 > 536870912; omega
  have l2 : ¬ k.toNatClampNeg > e.platform.arrayLengthLimit := by rw [Launch.admits_arrayLengthLimit X.admits]; omega
  have b2 : ¬ k.toNatClampNeg * componentBytes ty > e.platform.maxHeapBytes := by rw [Launch.admits_maxHeapBytes X.admits]; omega
  jvm_step X.here [hexec, hdg]
  simp only [multianewarray.sem, wp_bind', W.resolveClassAt_links (State.method?_setTop (F0 m pc ls (.int k :: .int n :: rest)) X.here.top) hg1]
  rw [W.popN, if_neg (by decide)]
  refine ⟨F0 m pc ls (.int k :: .int n :: rest), State.topJava?_setTop' (s := T.setVm vm1) (F0 m pc ls (.int k :: .int n :: rest)) X.here.top, [.int n, .int k], rest, rfl, rfl, ?_⟩
  simp only [List.mapM_cons, List.mapM_nil, wp_bind', wp_pure']
  refine pg_make (kA := kA1) (kI := kI1) (cI := cI') (cc := cc) (t0 := .array ty) (ty := ty) hkA1 hA1 rfl hkI1 hI1 hn hk l1 b1 l2 b2 hdf (by show T.heap.size + 1 + _ ≤ _; omega) (by show T.slotsUsed + _ + _ ≤ _; omega) (fun d' acts' => ?_)
  have eS : ((T.setTop (F0 m pc ls (.int k :: .int n :: rest))).setVm vm1).setTop (F0 m pc ls rest) = (T.setVm vm1).setTop (F0 m pc ls rest) := by
    show ((T.setVm vm1).setTop _).setTop _ = _
    rw [State.setTop_setTop]
  rw [eS, pg_top, hF]
  simp only [wp_bind', W.mark, W.pushRef, State.topJava?_setTop' _ XG.here.top, Option.some.injEq, exists_eq_left', State.setTop_setTop, State.heap_setTop]
  intro acts
  simp [jvm, XG.here.top]
  rw [hT]
  exact k1
end PMG
end
section
/-! the group of instructions that work on cells -/
section PM4
variable {p : Program} {l : Launch} {e : Env} {R : Room} {s : State} {m : MethodId} {args : Array Value} {below : List Frame} {meth : Method} {c : Code} {H : Heap} {locs : List Loc} {cells slots : Nat} {Q : State → Prop}
variable {cc : ByteArray} {pc : Nat} {ls : Array Slot} {b base : Nat} {D : va_G} {cl : List vw_C} {cA : Nat → ClassId} {RD own : String} {TB : List Cond} {cs : Nat → List Value} {h : pm_H} {r : List Value}
theorem pm_growL {H1 : Heap} {t : pm_H} (hP : va_P D cl (pm_ws (pm_tr cA b base) base h) H) (hS : va_S (fun q => base ≤ q) s.heap H locs) (hz : H.size = base + h.length) (z1 : H.size ≤ H1.size) (o1 : ∀ q : Nat, q < H.size → H1[q]? = H[q]?) (hat : ∀ (k : Nat) (x : pm_E), t[k]? = some x → va_at D cl (base + h.length + k, pm_tr cA b base x) H1) :
    va_P D cl (pm_ws (pm_tr cA b base) base (h ++ t)) H1 ∧ va_S (fun q => base ≤ q) s.heap H1 locs := by
  refine ⟨?_, Nat.le_trans hS.1 z1, fun q h1 h2 => (o1 q (Nat.lt_of_lt_of_le h1 hS.1)).trans (hS.2.1 q h1 h2), hS.2.2⟩
  rw [pm_ws_app]
  refine (hP.kept (fun k q hk => o1 q.1 ((hP k q hk).lt))).app (fun k q hk => ?_)
  rw [pm_ws_get] at hk
  cases e1 : t[k]? with
  | none => rw [e1] at hk; cases hk
  | some x =>
    rw [e1] at hk
    cases hk
    exact hat k x e1
theorem pm_nwm_s {h h' : pm_H} {r st' : List Value} {r1 r2 : Nat} {n k : Int32} (q : pm_nwm h r r1 r2 n k = some (st', h')) : ∃ N K, (¬ n < 0 ∧ n.toNatClampNeg = N ∧ N ≤ 67108864) ∧ (¬ k < 0 ∧ k.toNatClampNeg = K ∧ K ≤ 67108864) ∧ st' = .ref (h.length + 1) :: r ∧ h' = h ++ (.inl (r1, N, .inr (.inr (.inr (.inr (fun i => if i < N then some (h.length + 2 + i) else none))))) :: List.replicate N (pm_zero r2 K)) := by
  unfold pm_nwm at q; split at q
  · rename_i e1 e2
    cases q
    exact ⟨_, _, pm_sz_s e1, pm_sz_s e2, rfl, rfl⟩
  · cases q
theorem pm_multi {r1 r2 n0 x N K : Nat} {n k : Int32} {ty : FieldType} (hx : p.tables.exec = Jvm.exec) (hb : c.code = cc) (hown : s.vm.findClass own = some m.cls) (hlink : (Jvm.Cond.classLink own x ("[" ++ (FieldType.array ty).toString)).before args s = true) (hover : (Jvm.Cond.arrayOver (.array ty)).before args s = true) (harr : (Jvm.Cond.arrayClass ty).before args s = true)
    (hK : va_K D cl (pm_tys RD cA) s) (hP : va_P D cl (pm_ws (pm_tr cA b base) base h) H) (hS : va_S (fun q => base ≤ q) s.heap H locs) (h0 : s.heap.size = base + n0) (hc : cells + n0 = h.length)
    (hk1 : s.vm.findClass ("[" ++ (FieldType.array ty).toString) = some (cA r1)) (hk2 : s.vm.findClass (FieldType.array ty).toString = some (cA r2)) (hrow : ∃ a0, pm_tr cA b base (pm_zero r2 K) = .inl (cA r2, a0) ∧ vp_cell (cA r2) a0 = arrV (cA r2) K (fun _ => defaultValue ty)) (hcb : componentBytes ty ≤ 8) (hdf : fits ty (defaultValue ty) = true)
    (hn : ¬ n < 0 ∧ n.toNatClampNeg = N ∧ N ≤ 67108864) (hk : ¬ k < 0 ∧ k.toNatClampNeg = K ∧ K ≤ 67108864) (hcells : cells + (1 + N) ≤ R.cells) (hslots : slots + (N + N * K) ≤ R.slots) (hdg : decode cc pc = .ok (.multianewarray x 2, 4))
    (kk : ∀ H1 : Heap, va_P D cl (pm_ws (pm_tr cA b base) base (h ++ (.inl (r1, N, .inr (.inr (.inr (.inr (fun i => if i < N then some (h.length + 2 + i) else none))))) :: List.replicate N (pm_zero r2 K)))) H1 → va_S (fun q => base ≤ q) s.heap H1 locs → W p l e R s m args below meth c H1 locs (cells + 1 + N) (slots + N + N * K) Q (F0 m (pc + 4) ls (.ref (base + h.length) :: r))) : W p l e R s m args below meth c H locs cells slots Q (F0 m pc ls (.int k :: .int n :: r)) := by
  refine pm_bound fun hbd => ?_
  have hz := pm_size hP hS h0 hc hbd
  obtain ⟨n1, rfl, n2⟩ := hn
  obtain ⟨k1, rfl, k2⟩ := hk
  refine pg_mna hx hb hown hlink hover harr hdg n1 k1 (by omega) (Nat.le_trans (Nat.mul_le_mul k2 hcb) (Nat.le_refl _)) (by omega) hdf hcells hslots fun H1 c1 c2 f1 f2 z1 o1 e1 e2 => ?_
  have ec1 : c1 = cA r1 := Option.some.inj (f1.symm.trans hk1)
  have ec2 : c2 = cA r2 := Option.some.inj (f2.symm.trans hk2)
  subst ec1
  subst ec2
  obtain ⟨u1, u2⟩ := pm_growL (t := .inl (r1, n.toNatClampNeg, .inr (.inr (.inr (.inr (fun i => if i < n.toNatClampNeg then some (h.length + 2 + i) else none))))) :: List.replicate n.toNatClampNeg (pm_zero r2 k.toNatClampNeg)) hP hS hz (by omega) o1 (by
    intro j y hj
    cases j with
    | zero =>
      cases hj
      show H1[base + h.length + 0]? = some (vp_cell (cA r1) (n.toNatClampNeg, .inr (.inr (.inr (.inr (fun j => (if j < n.toNatClampNeg then some (h.length + 2 + j) else none).map (pm_ad b base)))))))
      rw [Nat.add_zero, ← hz, e1, vp_cell_q]
      unfold pg_out
      congr 2
      funext j
      by_cases hj : j < n.toNatClampNeg
      · rw [if_pos hj, if_pos hj]
        show Value.ref (H.size + 1 + j) = .ref (pm_ad b base (h.length + 2 + j))
        rw [show h.length + 2 + j = (h.length + 1 + j) + 1 by omega]
        show Value.ref (H.size + 1 + j) = .ref (base + (h.length + 1 + j))
        exact congrArg Value.ref (show H.size + 1 + j = base + (h.length + 1 + j) by omega)
      · rw [if_neg hj, if_neg hj]
        rfl
    | succ j =>
      have hj2 : (List.replicate n.toNatClampNeg (pm_zero r2 k.toNatClampNeg))[j]? = some y := hj
      rw [List.getElem?_replicate] at hj2
      split at hj2
      · rename_i hlt
        cases hj2
        obtain ⟨a0, t1, t2⟩ := hrow
        rw [t1]
        show H1[base + h.length + (j + 1)]? = some (vp_cell (cA r2) a0)
        rw [t2, show base + h.length + (j + 1) = H.size + 1 + j by omega, e2 j hlt]
        unfold pg_row
        rw [arrV_new]
      · cases hj2)
  rw [hz]
  exact kk H1 u1 u2
theorem pm_sls_rep (N K : Nat) (x : pm_E) (hx : pm_sl x = K) : pm_sls (List.replicate N x) = N * K := by
  induction N with
  | zero => simp [pm_sls]
  | succ N ih =>
    rw [List.replicate_succ]
    show pm_sl x + pm_sls (List.replicate N x) = _
    rw [ih, hx, Nat.succ_mul]
    omega
theorem pm_zero_sl (k N : Nat) : pm_sl (pm_zero k N) = N := by
  unfold pm_zero
  split <;> rfl
theorem pm_wr_sls {h : pm_H} {k : Nat} {x y : pm_E} (hk : h[k]? = some x) (hy : pm_sl y = pm_sl x) : (pm_wr h (k + 1) y).length = h.length ∧ pm_sls (pm_wr h (k + 1) y) = pm_sls h := by
  rw [pm_wr_s]
  exact ⟨List.length_set, pm_sls_set h k x y hk hy⟩
/-- a store changes neither how many cells there are nor their slots -/
theorem pm_wrs_n {h : pm_H} {a : Nat} {x : pm_E} (f : Option pm_E → Option pm_E) (hf : ∀ o y, f o = some y → ∃ z, o = some z ∧ pm_sl y = pm_sl z) (q : f (pm_cell h a) = some x) : (pm_wr h a x).length = h.length ∧ pm_sls (pm_wr h a x) = pm_sls h := by
  obtain ⟨z, q1, q2⟩ := hf _ _ q
  obtain ⟨k, rfl, q3⟩ := pm_cell_s q1
  exact pm_wr_sls q3 q2
theorem pm_n_pf {r1 r2 : Nat} {cst : Int} {v : Value} : ∀ o y, pm_pf r1 r2 cst v o = some y → ∃ z, o = some z ∧ pm_sl y = pm_sl z := by
  intro o y q
  obtain ⟨fs, rfl, -, -, rfl⟩ := pm_pf_s q
  exact ⟨_, rfl, List.length_set⟩
theorem pm_n_wri {i x : Int32} : ∀ o y, pm_wri i x o = some y → ∃ z, o = some z ∧ pm_sl y = pm_sl z := by
  intro o y q
  unfold pm_wri at q
  split at q
  · split at q
    · split at q
      · cases q; exact ⟨_, rfl, rfl⟩
      · cases q
    · cases q
  · cases q
theorem pm_n_wrl {i : Int32} {x : Int64} : ∀ o y, pm_wrl i x o = some y → ∃ z, o = some z ∧ pm_sl y = pm_sl z := by
  intro o y q
  unfold pm_wrl at q
  split at q
  · split at q
    · split at q
      · cases q; exact ⟨_, rfl, rfl⟩
      · cases q
    · cases q
  · cases q
theorem pm_n_wrb {i x : Int32} : ∀ o y, pm_wrb i x o = some y → ∃ z, o = some z ∧ pm_sl y = pm_sl z := by
  intro o y q
  unfold pm_wrb at q
  split at q
  · split at q
    · split at q
      · cases q; exact ⟨_, rfl, rfl⟩
      · cases q
    · split at q
      · cases q; exact ⟨_, rfl, rfl⟩
      · cases q
    · cases q
  · cases q
theorem pm_n_wra {ci x : Nat} {i : Int32} {w : Option pm_E} : ∀ o y, pm_wra ci i x w o = some y → ∃ z, o = some z ∧ pm_sl y = pm_sl z := by
  intro o y q
  unfold pm_wra at q
  split at q
  · split at q
    · split at q
      · cases q; exact ⟨_, rfl, rfl⟩
      · cases q
    · cases q
  · cases q
/-- cells only grow -/
def pm_le (h h' : pm_H) : Prop := h.length ≤ h'.length ∧ pm_sls h ≤ pm_sls h'
theorem pm_le_app (h t : pm_H) : pm_le h (h ++ t) := ⟨by rw [List.length_append]; omega, by rw [pm_sls_app]; omega⟩
theorem pm_le_rf (h : pm_H) : pm_le h h := ⟨Nat.le_refl _, Nat.le_refl _⟩
theorem pm_le_tr {a b c : pm_H} (h1 : pm_le a b) (h2 : pm_le b c) : pm_le a c := ⟨Nat.le_trans h1.1 h2.1, Nat.le_trans h1.2 h2.2⟩
theorem pm_le_eq {h h' : pm_H} (q : h'.length = h.length ∧ pm_sls h' = pm_sls h) : pm_le h h' := ⟨by rw [q.1]; exact Nat.le_refl _, by rw [q.2]; exact Nat.le_refl _⟩
set_option maxHeartbeats 1000000 in
theorem pm_mem_le {cs : Nat → List Value} {scr : pm_S} {i : Instr} {r1 r2 : Nat} {cst : Int} {st st' : List Value} {h h' : pm_H} (q : pm_mem cs scr i r1 r2 cst st h = some (st', h')) : pm_le h h' := by
  cases i <;> simp only [pm_mem] at q <;> try exact pm_no q
  case getfield =>
    split at q
    · obtain ⟨x, -, -, rfl⟩ := pm_psh_s q; exact pm_le_rf _
    · cases q
  case putfield =>
    split at q
    · obtain ⟨x, q1, -, rfl⟩ := pm_wrs_s q; exact pm_le_eq (pm_wrs_n _ pm_n_pf q1)
    · cases q
  case iaload =>
    split at q
    · split at q
      · obtain ⟨x, -, -, rfl⟩ := pm_psh_s q; exact pm_le_rf _
      · obtain ⟨x, -, -, rfl⟩ := pm_psh_s q; exact pm_le_rf _
    · cases q
  case baload =>
    split at q
    · obtain ⟨x, -, -, rfl⟩ := pm_psh_s q; exact pm_le_rf _
    · cases q
  case laload =>
    split at q
    · obtain ⟨x, -, -, rfl⟩ := pm_psh_s q; exact pm_le_rf _
    · cases q
  case aaload =>
    split at q
    · obtain ⟨x, -, -, rfl⟩ := pm_psh_s q; exact pm_le_rf _
    · cases q
  case iastore =>
    split at q
    · obtain ⟨x, q1, -, rfl⟩ := pm_wrs_s q; exact pm_le_eq (pm_wrs_n _ pm_n_wri q1)
    · cases q
  case bastore =>
    split at q
    · obtain ⟨x, q1, -, rfl⟩ := pm_wrs_s q; exact pm_le_eq (pm_wrs_n _ pm_n_wrb q1)
    · cases q
  case lastore =>
    split at q
    · obtain ⟨x, q1, -, rfl⟩ := pm_wrs_s q; exact pm_le_eq (pm_wrs_n _ pm_n_wrl q1)
    · cases q
  case aastore =>
    split at q
    · obtain ⟨x, q1, -, rfl⟩ := pm_wrs_s q; exact pm_le_eq (pm_wrs_n _ pm_n_wra q1)
    · cases q
  case arraylength =>
    split at q
    · split at q
      · split at q
        · cases q; exact pm_le_rf _
        · cases q
      · obtain ⟨x, -, -, rfl⟩ := pm_psh_s q; exact pm_le_rf _
    · cases q
  case newarray ty =>
    split at q
    · cases ty <;> first | (obtain ⟨N, -, -, -, -, rfl⟩ := pm_nwa_s q; exact pm_le_app _ _) | exact pm_no q
    · cases q
  case anewarray =>
    split at q
    · obtain ⟨N, -, -, -, -, rfl⟩ := pm_nwa_s q; exact pm_le_app _ _
    · cases q
  case multianewarray =>
    split at q
    · obtain ⟨N, K, -, -, -, rfl⟩ := pm_nwm_s q; exact pm_le_app _ _
    · cases q
  case new => cases q; exact pm_le_app _ _
theorem pm_zero_tr (kd N : Nat) (ty : FieldType) (hd : (kd = 0 ∧ ty = .int) ∨ (kd = 1 ∧ ty = .long) ∨ (kd = 2 ∧ ty = .byte) ∨ (kd = 3 ∧ ty = .boolean)) : ∃ a0, pm_tr cA b base (pm_zero kd N) = .inl (cA kd, a0) ∧ vp_cell (cA kd) a0 = arrV (cA kd) N (fun _ => defaultValue ty) := by
  rcases hd with ⟨rfl, rfl⟩ | ⟨rfl, rfl⟩ | ⟨rfl, rfl⟩ | ⟨rfl, rfl⟩
  · exact ⟨_, rfl, rfl⟩
  · exact ⟨_, rfl, rfl⟩
  · exact ⟨_, rfl, rfl⟩
  · exact ⟨_, rfl, rfl⟩
theorem pm_scr_s {i : Int32} {scr : pm_S} {v : Value} (q : pm_scr i scr = some v) : ∃ n xs, scr = some (n, xs) ∧ vp_in i n ∧ v = .int (xs i.toNatClampNeg) := by
  unfold pm_scr at q
  split at q
  · split at q
    · rename_i e1
      obtain ⟨h1, rfl⟩ := pm_ix_s e1
      cases q
      exact ⟨_, _, rfl, h1, rfl⟩
    · cases q
  · cases q
/-- where the script may be read, it lies at b -/
def pm_Sc (scr : pm_S) (b base : Nat) (s : State) : Prop := ∀ n xs, scr = some (n, xs) → va_X b n xs s s.heap ∧ b < s.heap.size ∧ b < base
set_option maxHeartbeats 4000000 in
theorem pm_g4 {i : Instr} {r1 r2 n0 z0 : Nat} {cst : Int} {st st' : List Value} {h' : pm_H} {scr : pm_S} (hx : p.tables.exec = Jvm.exec) (hb : c.code = cc) (hts : ∀ w ∈ TB, w.before args s = true) (hcl : pm_clOk cl TB cs) (hown : s.vm.findClass own = some m.cls) (hK : va_K D cl (pm_tys RD cA) s) (hSc : pm_Sc scr b base s)
    (hP : va_P D cl (pm_ws (pm_tr cA b base) base h) H) (hS : va_S (fun q => base ≤ q) s.heap H locs) (h0 : s.heap.size = base + n0) (hc : cells + n0 = h.length) (hs : slots + z0 = pm_sls h) (hr1 : h'.length ≤ n0 + R.cells) (hr2 : pm_sls h' ≤ z0 + R.slots)
    (hok : pm_okm cl TB RD own meth.name i r1 r2 cst) (hdg : decode cc pc = .ok (i, pm_memn i)) (q : pm_mem cs scr i r1 r2 cst st h = some (st', h'))
    (kk : ∀ (H1 : Heap) (locs1 : List Loc) (cells1 slots1 : Nat), va_P D cl (pm_ws (pm_tr cA b base) base h') H1 → va_S (fun q => base ≤ q) s.heap H1 locs1 → cells1 + n0 = h'.length → slots1 + z0 = pm_sls h' → W p l e R s m args below meth c H1 locs1 cells1 slots1 Q (F0 m (pc + pm_memn i) ls (st'.map (pm_sh b base)))) : W p l e R s m args below meth c H locs cells slots Q (F0 m pc ls (st.map (pm_sh b base))) := by
  cases i <;> simp only [pm_mem] at q <;> try exact pm_no q
  case getfield x =>
    split at q
    · obtain ⟨y, q1, rfl, rfl⟩ := pm_psh_s q
      exact pm_getfield hx hb hts hcl hown hK hP hok hdg q1 (kk H locs cells slots hP hS hc hs)
    · cases q
  case putfield x =>
    split at q
    · obtain ⟨y, q1, rfl, rfl⟩ := pm_wrs_s q
      obtain ⟨g1, g2⟩ := pm_wrs_n _ pm_n_pf q1
      exact pm_putfield hx hb hts hcl hown hK hP hS hok hdg q1 (fun H1 locs1 hP1 hS1 => kk H1 locs1 cells slots hP1 hS1 (by rw [g1]; exact hc) (by rw [g2]; exact hs))
    · cases q
  case iaload =>
    split at q
    · split at q
      · obtain ⟨y, q1, rfl, rfl⟩ := pm_psh_s q
        obtain ⟨n, xs, e1, e2, rfl⟩ := pm_scr_s q1
        obtain ⟨s1, s2, s3⟩ := hSc n xs e1
        exact va_sld hx hb s1 s2 (Nat.not_le.mpr s3) hS e2 hdg (kk H locs cells slots hP hS hc hs)
      · obtain ⟨y, q1, rfl, rfl⟩ := pm_psh_s q
        exact pm_iaload hx hb hK hP hdg q1 (kk H locs cells slots hP hS hc hs)
    · cases q
  case baload =>
    split at q
    · obtain ⟨y, q1, rfl, rfl⟩ := pm_psh_s q
      exact pm_baload hx hb hK hP hdg q1 (kk H locs cells slots hP hS hc hs)
    · cases q
  case laload =>
    split at q
    · obtain ⟨y, q1, rfl, rfl⟩ := pm_psh_s q
      exact pm_laload hx hb hK hP hdg q1 (kk H locs cells slots hP hS hc hs)
    · cases q
  case aaload =>
    split at q
    · obtain ⟨y, q1, rfl, rfl⟩ := pm_psh_s q
      exact pm_aaload hx hb hK hP hdg q1 (kk H locs cells slots hP hS hc hs)
    · cases q
  case iastore =>
    split at q
    · obtain ⟨y, q1, rfl, rfl⟩ := pm_wrs_s q
      obtain ⟨g1, g2⟩ := pm_wrs_n _ pm_n_wri q1
      exact pm_iastore hx hb hK hP hS hdg q1 (fun H1 locs1 hP1 hS1 => kk H1 locs1 cells slots hP1 hS1 (by rw [g1]; exact hc) (by rw [g2]; exact hs))
    · cases q
  case bastore =>
    split at q
    · obtain ⟨y, q1, rfl, rfl⟩ := pm_wrs_s q
      obtain ⟨g1, g2⟩ := pm_wrs_n _ pm_n_wrb q1
      exact pm_bastore hx hb hK hP hS hdg q1 (fun H1 locs1 hP1 hS1 => kk H1 locs1 cells slots hP1 hS1 (by rw [g1]; exact hc) (by rw [g2]; exact hs))
    · cases q
  case lastore =>
    split at q
    · obtain ⟨y, q1, rfl, rfl⟩ := pm_wrs_s q
      obtain ⟨g1, g2⟩ := pm_wrs_n _ pm_n_wrl q1
      exact pm_lastore hx hb hK hP hS hdg q1 (fun H1 locs1 hP1 hS1 => kk H1 locs1 cells slots hP1 hS1 (by rw [g1]; exact hc) (by rw [g2]; exact hs))
    · cases q
  case aastore =>
    split at q
    · obtain ⟨y, q1, rfl, rfl⟩ := pm_wrs_s q
      obtain ⟨g1, g2⟩ := pm_wrs_n _ pm_n_wra q1
      obtain ⟨T, N, o1⟩ := hok
      exact pm_aastore hx hb hK hP hS o1 hdg q1 (fun H1 locs1 hP1 hS1 => kk H1 locs1 cells slots hP1 hS1 (by rw [g1]; exact hc) (by rw [g2]; exact hs))
    · cases q
  case arraylength =>
    split at q
    · split at q
      · split at q
        · rename_i n xs
          cases q
          obtain ⟨s1, s2, s3⟩ := hSc n xs rfl
          exact va_slen hx hb s1 s2 (Nat.not_le.mpr s3) hS hdg (kk H locs cells slots hP hS hc hs)
        · cases q
      · obtain ⟨y, q1, rfl, rfl⟩ := pm_psh_s q
        exact pm_arraylength hx hb hK hP hdg q1 (kk H locs cells slots hP hS hc hs)
    · cases q
  case newarray aty =>
    split at q
    · have key : ∀ (kd : Nat) (ty : FieldType) (n : Int32) (r : List Value), newarray.typeOf aty = ty → ((kd = 0 ∧ ty = .int) ∨ (kd = 1 ∧ ty = .long) ∨ (kd = 2 ∧ ty = .byte) ∨ (kd = 3 ∧ ty = .boolean)) → (pm_tys RD cA)[kd]? = some (cA kd, ty) → componentBytes ty ≤ 8 → pm_nwa h r n (pm_zero kd) = some (st', h') → W p l e R s m args below meth c H locs cells slots Q (F0 m pc ls (.int n :: r.map (pm_sh b base))) := by
        intro kd ty n r hty hd hkd hcb q
        obtain ⟨N, n1, n2, n3, rfl, rfl⟩ := pm_nwa_s q
        rw [List.length_append] at hr1
        rw [pm_sls_app] at hr2
        have e1 : pm_sls [pm_zero kd N] = N := by show pm_sl _ + 0 = N; rw [pm_zero_sl]; rfl
        rw [e1] at hr2
        have hr1 : h.length + 1 ≤ n0 + R.cells := hr1
        exact pm_newarray (kd := kd) (x := pm_zero kd N) hx hb (hts _ hok) hty (by rcases hd with ⟨rfl, rfl⟩ | ⟨rfl, rfl⟩ | ⟨rfl, rfl⟩ | ⟨rfl, rfl⟩ <;> (intro C z; cases z)) hK hP hS h0 hc hkd (pm_zero_tr kd N ty hd) hcb n1 n2 n3 (by omega) (by omega) hdg (fun H1 hP1 hS1 => kk H1 locs _ _ hP1 hS1 (by rw [List.length_append]; show cells + 1 + n0 = h.length + 1; omega) (by rw [pm_sls_app, e1]; omega))
      cases aty <;> first | exact pm_no q | skip
      · exact key 3 .boolean _ _ rfl (by simp) rfl (by decide) q
      · exact key 2 .byte _ _ rfl (by simp) rfl (by decide) q
      · exact key 0 .int _ _ rfl (by simp) rfl (by decide) q
      · exact key 1 .long _ _ rfl (by simp) rfl (by decide) q
    · cases q
  case anewarray x =>
    split at q
    · obtain ⟨N, n1, n2, n3, rfl, rfl⟩ := pm_nwa_s q
      obtain ⟨o1, o2⟩ := hok
      rw [List.length_append] at hr1
      rw [pm_sls_app] at hr2
      have hr1 : h.length + 1 ≤ n0 + R.cells := hr1
      have hr2 : pm_sls h + (N + 0) ≤ z0 + R.slots := hr2
      exact pm_anewarray hx hb hown (hts _ o1) (hts _ o2) hK hP hS h0 hc n1 n2 n3 (by omega) (by omega) hdg (fun H1 hP1 hS1 => kk H1 locs _ _ hP1 hS1 (by rw [List.length_append]; show cells + 1 + n0 = h.length + 1; omega) (by rw [pm_sls_app]; show slots + N + z0 = pm_sls h + (N + 0); omega))
    · cases q
  case multianewarray x d =>
    split at q
    · obtain ⟨N, K, n1, k1, rfl, rfl⟩ := pm_nwm_s q
      have e1 : pm_sls ((.inl (r1, N, .inr (.inr (.inr (.inr (fun i => if i < N then some (h.length + 2 + i) else none))))) : pm_E) :: List.replicate N (pm_zero r2 K)) = N + N * K := by
        show N + pm_sls _ = _
        rw [pm_sls_rep N K _ (pm_zero_sl r2 K)]
      have e2 : ((.inl (r1, N, .inr (.inr (.inr (.inr (fun i => if i < N then some (h.length + 2 + i) else none))))) : pm_E) :: List.replicate N (pm_zero r2 K)).length = N + 1 := by
        rw [List.length_cons, List.length_replicate]
      rw [List.length_append, e2] at hr1
      rw [pm_sls_app, e1] at hr2
      obtain ⟨rfl, o⟩ := hok
      rcases o with ⟨rfl, rfl, o1, o2, o3⟩ | ⟨rfl, rfl, o1, o2, o3⟩
      · exact pm_multi (ty := .long) hx hb hown (hts _ o1) (hts _ o2) (hts _ o3) hK hP hS h0 hc (hK.2 4 _ rfl).2 (hK.2 1 _ rfl).2 (pm_zero_tr 1 K .long (by simp)) (by decide) rfl n1 k1 (by omega) (by omega) hdg (fun H1 hP1 hS1 => kk H1 locs _ _ hP1 hS1 (by rw [List.length_append, e2]; omega) (by rw [pm_sls_app, e1]; omega))
      · exact pm_multi (ty := .int) hx hb hown (hts _ o1) (hts _ o2) (hts _ o3) hK hP hS h0 hc (hK.2 5 _ rfl).2 (hK.2 0 _ rfl).2 (pm_zero_tr 0 K .int (by simp)) (by decide) rfl n1 k1 (by omega) (by omega) hdg (fun H1 hP1 hS1 => kk H1 locs _ _ hP1 hS1 (by rw [List.length_append, e2]; omega) (by rw [pm_sls_app, e1]; omega))
    · cases q
  case new x =>
    cases q
    obtain ⟨C, T, N, o1, o2, o3, o4⟩ := hok
    have eN : (cs r1).length = N := (hcl _ _ _ _ o1).2.2.2.1
    rw [List.length_append] at hr1
    rw [pm_sls_app] at hr2
    have hr1 : h.length + 1 ≤ n0 + R.cells := hr1
    have hr2 : pm_sls h + ((cs r1).length + 0) ≤ z0 + R.slots := hr2
    rw [eN] at hr2
    exact pm_newobj hx hb hts hcl hown o1 (hts _ o2) (hts _ o3) (hts _ o4) hK hP hS h0 hc (by omega) (by omega) hdg (fun H1 hP1 hS1 => kk H1 locs _ _ hP1 hS1 (by rw [List.length_append]; show cells + 1 + n0 = h.length + 1; omega) (by rw [pm_sls_app]; show slots + N + z0 = pm_sls h + ((cs r1).length + 0); rw [eN]; omega))
end PM4
end
section
/-! calls and ends -/
/-- words that stay as they are while the machine warms -/
def pm_stb (w : Cond) : Bool := match w with
  | .methodLinkNest _ _ _ _ => true
  | .arrayOver (.object _) => true
  | .arrayOver (.array _) => true
  | w => goodWord w
theorem pm_overA {t : FieldType} {u U : State} (hvm : u.vm.Alike U.vm) {A A' : Array Value} (h : (Jvm.Cond.arrayOver (.array t)).before A u = true) : (Jvm.Cond.arrayOver (.array t)).before A' U = true := by
  obtain ⟨comp, c, k, h1, h2, h3, h4, h5⟩ := arrayOverA_spec h
  obtain ⟨k', hk', he⟩ := hvm.2.2 _ _ h3
  have hi := (hvm.findIdx?_eqK _ (fun _ => rfl)).trans h2
  have hkind : k'.kind = .array comp (.array t) := by rw [he]; exact h4
  have f1 : U.vm.findClass (FieldType.array t).toString = some comp := by rw [hvm.findClass]; exact h1
  have f2 : U.vm.findClass ("[" ++ (FieldType.array t).toString) = some c := by rw [hvm.findClass]; exact h5
  unfold Cond.before Cond.holds
  simp only [Cond.value]
  rw [f1, Option.bind_some]
  refine (congrArg (fun o : Option Nat => (o.bind (fun c => (U.vm.classes[c]?).map fun (k : Class) => match k.kind with | .array _ ty => decide (ty = FieldType.array t) && decide (U.vm.findClass ("[" ++ (FieldType.array t).toString) = some c) | _ => false) == some true)) hi).trans ?_
  simp [hk', hkind, f2]
theorem pm_wd {w : Cond} (hs : pm_stb w = true) {s U : State} (hW : s.WarmedH U.vm) {A A' : Array Value} (h : w.before A s = true) : w.before A' U = true := by
  unfold pm_stb at hs
  split at hs
  · exact va_Nw.use rfl (va_Nw.warmM hW (va_Nw.of rfl h))
  · exact va_AO.use (va_AO.moved hW.alike (va_AO.of h))
  · exact pm_overA hW.alike h
  · exact word_at hW (good_of_word hs) h
def pm_T (TB : List Cond) (U : State) : Prop := ∀ w ∈ TB, w.before #[] U = true
/-- what the tables say of the methods -/
def pm_msOk (ms : Nat → Option pm_M) (TB : List Cond) : Prop := ∀ (k : Nat) (y : MethodName) (bytes : ByteArray) (nL : Nat) (rt : Option FieldType) (na ci : Nat), ms k = some (y, bytes, nL, rt, na, ci) →
  Jvm.Cond.code y bytes nL rt ∈ TB ∧ Jvm.Cond.initialized y.cls ∈ TB ∧ plainName y.cls = true ∧ (y.cls ≠ "java/lang/invoke/MethodHandle" ∧ y.cls ≠ "java/lang/invoke/VarHandle") ∧ (parseMethodDescriptor y.desc).map (fun d => d.parameters.length) = some na ∧ nL ≤ 13
def pm_lnk (TB : List Cond) (own : String) (x : Nat) (y : MethodName) : Prop := Jvm.Cond.methodLink own x y ∈ TB ∨ ∃ host, Jvm.Cond.methodLinkNest own x y host ∈ TB
/-- what the tables say of a call -/
def pm_okc (ms : Nat → Option pm_M) (cl : List vw_C) (TB : List Cond) (own : String) (i : Instr) (r1 : Nat) : Prop := match i with
  | .invokestatic x => ∃ (y : MethodName) (bytes : ByteArray) (nL : Nat) (rt : Option FieldType) (na ci : Nat), ms r1 = some (y, bytes, nL, rt, na, ci) ∧ pm_lnk TB own x y ∧ Jvm.Cond.static y ∈ TB
  | .invokevirtual x => ∃ (y : MethodName) (bytes : ByteArray) (nL : Nat) (rt : Option FieldType) (na ci : Nat), ms r1 = some (y, bytes, nL, rt, na, ci) ∧ pm_lnk TB own x y ∧ Jvm.Cond.instanceMethod y ∈ TB ∧ ∃ (T : u_T) (N : Nat), cl[ci]? = some (y.cls, T, N) ∧ Jvm.Cond.selects y.cls y y ∈ TB
  | .invokespecial x => (r1 = 0 ∧ Jvm.Cond.methodLink own x objectInit ∈ TB ∧ Jvm.Cond.instanceMethod objectInit ∈ TB ∧ Jvm.Cond.code objectInit ⟨#[0xb1]⟩ 1 none ∈ TB) ∨
      (r1 ≠ 0 ∧ ∃ (y : MethodName) (bytes : ByteArray) (nL na ci : Nat), ms r1 = some (y, bytes, nL, none, na, ci) ∧ y.name = "<init>" ∧ pm_lnk TB own x y ∧ Jvm.Cond.instanceMethod y ∈ TB)
  | _ => True
/-- behind a method -/
def pm_Qc (D : va_G) (cl : List vw_C) (cA : Nat → ClassId) (b base : Nat) (v : Option Value) (h' : pm_H) : Array Value → State → Outcome → State → Prop := fun _ st oc t => oc = .returned (v.map (pm_sh b base)) ∧ va_P D cl (pm_ws (pm_tr cA b base) base h') t.heap ∧ va_F (fun q => base ≤ q) st t
/-- ahead of a method -/
def pm_Wo (D : va_G) (cl : List vw_C) (cA : Nat → ClassId) (RD : String) (TB : List Cond) (b base : Nat) (h : pm_H) (U : State) : Prop := U.heap.size = base + h.length ∧ va_P D cl (pm_ws (pm_tr cA b base) base h) U.heap ∧ va_K D cl (pm_tys RD cA) U ∧ pm_T TB U
/-- a callee of depth d keeps what the small machine says of it -/
def pm_CallOk (l : Launch) (cl : List vw_C) (RD : String) (TB : List Cond) (ms : Nat → Option pm_M) (call : pm_C) (d : Nat) : Prop := ∀ (k : Nat) (as : List Value) (h h' : pm_H) (v : Option Value), call k as h = some (v, h') → pm_le h h' ∧
  ∀ (y : MethodName) (bytes : ByteArray) (nL : Nat) (rt : Option FieldType) (na ci : Nat), ms k = some (y, bytes, nL, rt, na, ci) → ∀ (D : va_G) (cA : Nat → ClassId) (b base : Nat),
    Met l y [Jvm.Cond.code y bytes nL rt] ({ frames := d, cells := h'.length - h.length, slots := pm_sls h' - pm_sls h, locals := 32 * d }) (va_Pc (as.map (pm_sh b base)) (pm_Wo D cl cA RD TB b base h)) (pm_Qc D cl cA b base v h') (h'.length - h.length) (pm_sls h' - pm_sls h) (fun q => base ≤ q)
theorem pm_popn : ∀ (n : Nat) (as st as' r : List Value), pm_pop_n n as st = some (as', r) → ∃ t, t.length = n ∧ as' = t ++ as ∧ st = t.reverse ++ r := by
  intro n
  induction n with
  | zero => intro as st as' r q; cases q; exact ⟨[], rfl, rfl, rfl⟩
  | succ n ih =>
    intro as st as' r q
    cases st with
    | nil => cases q
    | cons v st =>
      obtain ⟨t, h1, h2, h3⟩ := ih (v :: as) st as' r q
      refine ⟨t ++ [v], by rw [List.length_append, h1]; rfl, by rw [h2, List.append_assoc]; rfl, ?_⟩
      rw [List.reverse_append, h3]
      rfl
theorem pm_wt_sum (b base : Nat) (r : List Value) : ((r.map (pm_sh b base)).map fun v => v.category).sum = pm_wt r := by
  induction r with
  | nil => rfl
  | cons v r ih =>
    simp only [List.map_cons, List.sum_cons]
    rw [ih, pm_sh_c]
    cases v <;> rfl
theorem pm_wt_sl (vs : List Value) : (lg_sl vs).length = pm_wt vs := by
  induction vs with
  | nil => rfl
  | cons v r ih =>
    have e : lg_sl (v :: r) = (if v.category = 2 then [.val v, .second] else [.val v]) ++ lg_sl r := by simp [lg_sl]
    rw [e, List.length_append, ih]
    cases v <;> rfl
theorem pm_wt_map (b base : Nat) (vs : List Value) : pm_wt (vs.map (pm_sh b base)) = pm_wt vs := by
  induction vs with
  | nil => rfl
  | cons v r ih =>
    show pm_cat (pm_sh b base v) + _ = pm_cat v + _
    rw [ih]
    cases v <;> rfl
section PM5
variable {p : Program} {l : Launch} {e : Env} {R : Room} {s : State} {m : MethodId} {args : Array Value} {below : List Frame} {meth : Method} {c : Code} {H : Heap} {locs : List Loc} {cells slots : Nat} {Q : State → Prop}
variable {cc : ByteArray} {pc : Nat} {ls : Array Slot} {b base : Nat} {D : va_G} {cl : List vw_C} {cA : Nat → ClassId} {RD own : String} {TB : List Cond} {cs : Nat → List Value} {ms : Nat → Option pm_M} {h h' : pm_H} {r : List Value}
theorem pm_back {mc nc : Nat} {st0 rest : List Value} {v : Option Value} {a : Array Value} (hr : va_Run p l e R s m args below meth c H locs cells slots mc nc (F0 m pc ls st0) rest (pm_Qc D cl cA b base v h' a) (fun q => base ≤ q)) (hS : va_S (fun q => base ≤ q) s.heap H locs)
    (kk : ∀ (H1 : Heap) (locs1 : List Loc), va_P D cl (pm_ws (pm_tr cA b base) base h') H1 → va_S (fun q => base ≤ q) s.heap H1 locs1 → W p l e R s m args below meth c H1 locs1 (cells + mc) (slots + nc) Q (F0 m (pc + 3) ls ((v.map (pm_sh b base)).toList ++ rest))) : W p l e R s m args below meth c H locs cells slots Q (F0 m pc ls st0) := by
  intro T hT X
  obtain ⟨v', st0', t, T', L, g0, X', hL, e1, e2, ⟨hv, hp, hz, hk⟩, st⟩ := hr T hT X
  cases hv
  rw [g0] at hz hk
  obtain ⟨t2, a1, b1⟩ := kk T'.heap (locs ++ L) (by rw [e1]; exact hp)
    ⟨Nat.le_trans hS.1 (by rw [e1]; exact hz), fun q h1 h2 => by rw [e1, hk q (Nat.lt_of_lt_of_le h1 hS.1) h2]; exact hS.2.1 q h1 h2, fun q hq => by
      rcases List.mem_append.mp hq with h | h
      · exact hS.2.2 q h
      · exact hL q h⟩ T' rfl X'
  exact ⟨t2, st t2 a1, b1⟩
theorem pm_blind (hst : ∀ w ∈ TB, pm_stb w = true) {as : List Value} : FrameBlind (va_Pc as (pm_Wo D cl cA RD TB b base h)) := by
  intro a U g mk q
  obtain ⟨q0, q1, q2, q3, q4⟩ := q
  exact ⟨q0, q1, q2, va_K.moved (u := U) (U := U.calling g mk a) (Vm.Alike.refl U.vm) q3, fun w hw => pm_wd (s := U) (U := U.calling g mk a) (hst w hw) (State.WarmedH.refl U) (q4 w hw)⟩
theorem pm_pre (hst : ∀ w ∈ TB, pm_stb w = true) (hts : ∀ w ∈ TB, w.before args s = true) (hK : va_K D cl (pm_tys RD cA) s) (hP : va_P D cl (pm_ws (pm_tr cA b base) base h) H) (hz : H.size = base + h.length) {as : List Value} {av : Array Value} (hav : av = (as.map (pm_sh b base)).toArray) : ∀ U : State, U.heap = H → s.WarmedH U.vm → va_Pc (as.map (pm_sh b base)) (pm_Wo D cl cA RD TB b base h) av U := by
  intro U hU hW
  exact ⟨hav, by rw [hU]; exact hz, by rw [hU]; exact hP, va_K.moved hW.alike hK, fun w hw => pm_wd (hst w hw) hW (hts w hw)⟩
set_option maxHeartbeats 2000000 in
theorem pm_g5 {i : Instr} {r1 n0 z0 d : Nat} {st st' : List Value} {call : pm_C} (hx : p.tables.exec = Jvm.exec) (hb : c.code = cc) {nL : Nat} (hml : c.maxLocals = nL) (hst : ∀ w ∈ TB, pm_stb w = true) (hts : ∀ w ∈ TB, w.before args s = true) (hms : pm_msOk ms TB) (hown : s.vm.findClass own = some m.cls) (hK : va_K D cl (pm_tys RD cA) s)
    (hcall : pm_CallOk l cl RD TB ms call d) (hd : d + 1 ≤ R.frames) (hlo : 32 * (d + 1) ≤ R.locals)
    (hP : va_P D cl (pm_ws (pm_tr cA b base) base h) H) (hS : va_S (fun q => base ≤ q) s.heap H locs) (h0 : s.heap.size = base + n0) (hc : cells + n0 = h.length) (hs : slots + z0 = pm_sls h) (hr1 : h'.length ≤ n0 + R.cells) (hr2 : pm_sls h' ≤ z0 + R.slots) (hls : ls.size = nL)
    (hok : pm_okc ms cl TB own i r1) (hdg : decode cc pc = .ok (i, 3)) (q : pm_inv call i r1 (pm_na ms r1).1 (pm_na ms r1).2 st h = some (st', h'))
    (kk : ∀ (H1 : Heap) (locs1 : List Loc) (cells1 slots1 : Nat), va_P D cl (pm_ws (pm_tr cA b base) base h') H1 → va_S (fun q => base ≤ q) s.heap H1 locs1 → cells1 + n0 = h'.length → slots1 + z0 = pm_sls h' → W p l e R s m args below meth c H1 locs1 cells1 slots1 Q (F0 m (pc + 3) ls (st'.map (pm_sh b base)))) : W p l e R s m args below meth c H locs cells slots Q (F0 m pc ls (st.map (pm_sh b base))) := by
  refine pm_bound fun hbd => ?_
  have hz := pm_size hP hS h0 hc hbd
  have hwd : ∀ w ∈ TB, ∀ (a' : Array Value) (U : State), s.WarmedH U.vm → w.before a' U = true := fun w hw a' U hW => pm_wd (hst w hw) hW (hts w hw)
  -- what stands on the stack behind a call
  have hbk : ∀ (v : Option Value) (r : List Value), (v.map (pm_sh b base)).toList ++ r.map (pm_sh b base) = (v.toList ++ r).map (pm_sh b base) := by
    intro v r
    cases v <;> rfl
  cases i <;> simp only [pm_inv] at q <;> try exact pm_no q
  case invokestatic x =>
    obtain ⟨y, bytes, mL, rt, na, ci, o1, o2, o3⟩ := hok
    have e1 : pm_na ms r1 = (na, ci) := by unfold pm_na; rw [o1]
    rw [e1] at q
    split at q
    · rename_i as r ep
      split at q
      · rename_i v h2 ew ec
        cases q
        obtain ⟨m1, m2, m3, m4, m5, m6⟩ := hms _ _ _ _ _ _ _ o1
        obtain ⟨g1, g2⟩ := hcall _ _ _ _ _ ec
        obtain ⟨t, t1, t2, rfl⟩ := pm_popn _ _ _ _ _ ep
        rw [List.append_nil] at t2
        subst t2
        have hM := g2 _ _ _ _ _ _ o1 D cA b base
        have hfit : (∀ w ∈ [Jvm.Cond.code y bytes mL rt], ∀ (a' : Array Value) (U : State), s.WarmedH U.vm → w.before a' U = true) := fun w hw => by
          rw [List.mem_singleton.mp hw]
          exact hwd _ m1
        have hn : ∀ sig, parseMethodDescriptor y.desc = some sig → na = sig.parameters.length := fun sig hsig => by
          rw [hsig] at m5
          exact (Option.some.inj m5).symm
        have hmc : cells + (h'.length - h.length) ≤ R.cells ∧ slots + (pm_sls h' - pm_sls h) ≤ R.slots := ⟨by have := g1.1; omega, by have := g1.2; omega⟩
        have hpre : PreS s H (va_Pc (as.map (pm_sh b base)) (pm_Wo D cl cA RD TB b base h)) (as.map (pm_sh b base)) := ⟨pm_blind hst, pm_pre hst hts hK hP hz rfl⟩
        have hrun : va_Run p l e R s m args below meth c H locs cells slots (h'.length - h.length) (pm_sls h' - pm_sls h) (F0 m pc ls ((as.reverse ++ r).map (pm_sh b base))) (r.map (pm_sh b base)) (pm_Qc D cl cA b base v h' (as.map (pm_sh b base)).toArray) (fun q => base ≤ q) := by
          rcases o2 with o2 | ⟨host, o2⟩
          · exact va_runS ⟨hx, hb, hml, hown, hts⟩ hM ⟨⟨rfl, rfl, hd, (by show 8 + (mL + 11) + 32 * d ≤ R.locals; omega), hfit, List.mem_singleton.mpr rfl, hts _ m1, hts _ m2, m4, hn, hts _ o2⟩, hts _ o3⟩ hpre rfl (by rw [List.length_map]; exact t1) hls (by show (as.reverse ++ r).map _ = _; rw [List.map_append, List.map_reverse]) (lv_room (by rw [pm_wt_sum]; exact Nat.le_of_ble_eq_true ew)) hdg hmc
          · exact va_runSN ⟨hx, hb, hml, hown, hts⟩ hM ⟨⟨⟨rfl, rfl, hd, (by show 8 + (mL + 11) + 32 * d ≤ R.locals; omega), hfit, List.mem_singleton.mpr rfl⟩, hts _ m1, hts _ m2, m4, hn, hts _ o2⟩, hts _ o3, trivial⟩ hpre rfl (by rw [List.length_map]; exact t1) hls (by show (as.reverse ++ r).map _ = _; rw [List.map_append, List.map_reverse]) (lv_room (by rw [pm_wt_sum]; exact Nat.le_of_ble_eq_true ew)) hdg hmc
        refine pm_back hrun hS (fun H1 locs1 hP1 hS1 => ?_)
        rw [hbk]
        exact kk H1 locs1 _ _ hP1 hS1 (by have := g1.1; omega) (by have := g1.2; omega)
      · cases q
    · cases q
  case invokevirtual x =>
    obtain ⟨y, bytes, mL, rt, na, ci, o1, o2, o3, T9, N9, o4, o5⟩ := hok
    have e1 : pm_na ms r1 = (na, ci) := by unfold pm_na; rw [o1]
    rw [e1] at q
    split at q
    · rename_i as a r ep
      split at q
      · rename_i v h2 ew eo ec
        cases q
        obtain ⟨m1, m2, m3, m4, m5, m6⟩ := hms _ _ _ _ _ _ _ o1
        obtain ⟨g1, g2⟩ := hcall _ _ _ _ _ ec
        obtain ⟨t, t1, t2, rfl⟩ := pm_popn _ _ _ _ _ ep
        rw [List.append_nil] at t2
        subst t2
        have hM := g2 _ _ _ _ _ _ o1 D cA b base
        have hfit : (∀ w ∈ [Jvm.Cond.code y bytes mL rt], ∀ (a' : Array Value) (U : State), s.WarmedH U.vm → w.before a' U = true) := fun w hw => by
          rw [List.mem_singleton.mp hw]
          exact hwd _ m1
        have hn : ∀ sig, parseMethodDescriptor y.desc = some sig → na = sig.parameters.length := fun sig hsig => by
          rw [hsig] at m5
          exact (Option.some.inj m5).symm
        have hmc : cells + (h'.length - h.length) ≤ R.cells ∧ slots + (pm_sls h' - pm_sls h) ≤ R.slots := ⟨by have := g1.1; omega, by have := g1.2; omega⟩
        have hrc : ∃ cellB : Cell, H[pm_ad b base a]? = some cellB ∧ cellB.vm.isStatics = false ∧ s.vm.findClass y.cls = some cellB.cls := by
          unfold pm_clsOk at eo
          split at eo
          · rename_i c9 fs9 e9
            cases pm_beq eo
            obtain ⟨k, rfl, q3⟩ := pm_cell_s e9
            exact va_recv hK hP o4 (pm_at (D := D) (cl := cl) (H := H) q3)
          · cases eo
        have hpre : PreV s H y.cls (pm_ad b base a) (va_Pc ((Value.ref a :: as).map (pm_sh b base)) (pm_Wo D cl cA RD TB b base h)) (as.map (pm_sh b base)) := ⟨pm_blind hst, hrc, pm_pre hst hts hK hP hz rfl⟩
        have hrun : va_Run p l e R s m args below meth c H locs cells slots (h'.length - h.length) (pm_sls h' - pm_sls h) (F0 m pc ls ((as.reverse ++ .ref a :: r).map (pm_sh b base))) (r.map (pm_sh b base)) (pm_Qc D cl cA b base v h' (Value.ref (pm_ad b base a) :: as.map (pm_sh b base)).toArray) (fun q => base ≤ q) := by
          rcases o2 with o2 | ⟨host, o2⟩
          · exact va_runV ⟨hx, hb, hml, hown, hts⟩ hM ⟨⟨rfl, rfl, hd, (by show 8 + (mL + 11) + 32 * d ≤ R.locals; omega), hfit, List.mem_singleton.mpr rfl, hts _ m1, hts _ m2, m4, hn, hts _ o2⟩, hts _ o3, hts _ o5⟩ hpre rfl (by rw [List.length_map]; exact t1) hls (by show (as.reverse ++ .ref a :: r).map _ = _; rw [List.map_append, List.map_reverse]; rfl) (lv_room (by rw [pm_wt_sum]; exact Nat.le_of_ble_eq_true ew)) hdg hmc
          · exact va_runVN ⟨hx, hb, hml, hown, hts⟩ hM ⟨⟨⟨rfl, rfl, hd, (by show 8 + (mL + 11) + 32 * d ≤ R.locals; omega), hfit, List.mem_singleton.mpr rfl⟩, hts _ m1, hts _ m2, m4, hn, hts _ o2⟩, hts _ o3, hts _ o5⟩ hpre rfl (by rw [List.length_map]; exact t1) hls (by show (as.reverse ++ .ref a :: r).map _ = _; rw [List.map_append, List.map_reverse]; rfl) (lv_room (by rw [pm_wt_sum]; exact Nat.le_of_ble_eq_true ew)) hdg hmc
        refine pm_back hrun hS (fun H1 locs1 hP1 hS1 => ?_)
        rw [hbk]
        exact kk H1 locs1 _ _ hP1 hS1 (by have := g1.1; omega) (by have := g1.2; omega)
      · cases q
    · cases q
  case invokespecial x =>
    rcases hok with ⟨rfl, o1, o2, o3⟩ | ⟨hne, y, bytes, mL, na, ci, o1, o2, o3, o4⟩
    · simp only at q
      split at q
      · split at q
        · rename_i ew
          cases q
          refine W.objInit hx hb hown (hts _ o1) (hts _ o2) (hts _ o3) rfl (by rw [hml]; exact hls) rfl hdg (by omega) ?_ (kk H locs cells slots hP hS hc hs)
          have hwt := Nat.le_of_ble_eq_true ew
          have hw2 := lv_room (m := m) (pc := pc) (ls := ls) (rest := (Value.ref ‹Addr› :: st').map (pm_sh b base)) (st := st'.map (pm_sh b base)) (by rw [pm_wt_sum]; exact hwt)
          have := hlo
          exact Nat.le_trans (Nat.add_le_add_right hw2 12) (by omega)
        · cases q
      · cases q
    · obtain ⟨k1, rfl⟩ : ∃ k1, r1 = k1 + 1 := ⟨r1 - 1, by omega⟩
      simp only at q
      have e1 : pm_na ms (k1 + 1) = (na, ci) := by unfold pm_na; rw [o1]
      rw [e1] at q
      split at q
      · rename_i as a r ep
        split at q
        · rename_i v h2 ew ec
          cases q
          obtain ⟨m1, m2, m3, m4, m5, m6⟩ := hms _ _ _ _ _ _ _ o1
          obtain ⟨g1, g2⟩ := hcall _ _ _ _ _ ec
          obtain ⟨t, t1, t2, rfl⟩ := pm_popn _ _ _ _ _ ep
          rw [List.append_nil] at t2
          subst t2
          have hM := g2 _ _ _ _ _ _ o1 D cA b base
          have hfit : (∀ w ∈ [Jvm.Cond.code y bytes mL none], ∀ (a' : Array Value) (U : State), s.WarmedH U.vm → w.before a' U = true) := fun w hw => by
            rw [List.mem_singleton.mp hw]
            exact hwd _ m1
          have hn : ∀ sig, parseMethodDescriptor y.desc = some sig → na = sig.parameters.length := fun sig hsig => by
            rw [hsig] at m5
            exact (Option.some.inj m5).symm
          have hmc : cells + (h'.length - h.length) ≤ R.cells ∧ slots + (pm_sls h' - pm_sls h) ≤ R.slots := ⟨by have := g1.1; omega, by have := g1.2; omega⟩
          have hpre : PreS s H (va_Pc ((Value.ref a :: as).map (pm_sh b base)) (pm_Wo D cl cA RD TB b base h)) (.ref (pm_ad b base a) :: as.map (pm_sh b base)) := ⟨pm_blind hst, pm_pre hst hts hK hP hz rfl⟩
          have hrun : va_Run p l e R s m args below meth c H locs cells slots (h'.length - h.length) (pm_sls h' - pm_sls h) (F0 m pc ls ((as.reverse ++ .ref a :: r).map (pm_sh b base))) (r.map (pm_sh b base)) (pm_Qc D cl cA b base v h' (Value.ref (pm_ad b base a) :: as.map (pm_sh b base)).toArray) (fun q => base ≤ q) := by
            rcases o3 with o3 | ⟨host, o3⟩
            · exact va_runI ⟨hx, hb, hml, hown, hts⟩ hM ⟨⟨rfl, rfl, hd, (by show 8 + (mL + 11) + 32 * d ≤ R.locals; omega), hfit, List.mem_singleton.mpr rfl, hts _ m1, hts _ m2, m4, hn, hts _ o3⟩, o2, hts _ o4⟩ hpre rfl (by rw [List.length_map]; exact t1) hls (by show (as.reverse ++ .ref a :: r).map _ = _; rw [List.map_append, List.map_reverse]; rfl) (lv_room (by rw [pm_wt_sum]; exact Nat.le_of_ble_eq_true ew)) hdg hmc
            · exact va_runIN ⟨hx, hb, hml, hown, hts⟩ hM ⟨⟨⟨rfl, rfl, hd, (by show 8 + (mL + 11) + 32 * d ≤ R.locals; omega), hfit, List.mem_singleton.mpr rfl⟩, hts _ m1, hts _ m2, m4, hn, hts _ o3⟩, o2, hts _ o4⟩ hpre rfl (by rw [List.length_map]; exact t1) hls (by show (as.reverse ++ .ref a :: r).map _ = _; rw [List.map_append, List.map_reverse]; rfl) (lv_room (by rw [pm_wt_sum]; exact Nat.le_of_ble_eq_true ew)) hdg hmc
          refine pm_back hrun hS (fun H1 locs1 hP1 hS1 => ?_)
          rw [hbk]
          exact kk H1 locs1 _ _ hP1 hS1 (by have := g1.1; omega) (by have := g1.2; omega)
        · cases q
      · cases q
end PM5
end
section
/-! runs and calls: what the small machine says, the machine does -/
def pm_lenOk (i : Instr) (n : Nat) : Prop := match pm_grp i with
  | 0 => n = pm_aln i
  | 1 => n = pm_ldn i
  | 2 => n = pm_ston i
  | 3 => n = 3 ∨ ∃ a b c d, i = .tableswitch a b c d
  | 4 => n = pm_memn i
  | 5 => n = 3
  | _ => n = 1
/-- what the tables say of an instruction -/
def pm_okI (cl : List vw_C) (TB : List Cond) (RD : String) (ms : Nat → Option pm_M) (cc : ByteArray) (own mname : String) (pc : Nat) (q : pm_I) : Prop :=
  decode cc pc = .ok (q.1, q.2.1) ∧ pm_lenOk q.1 q.2.1 ∧ pm_tgt q.1 pc q.2.2.1 = true ∧ (∀ x, q.1 = .ldc x ∨ q.1 = .ldc_w x → Jvm.Cond.constant own x (Int32.ofInt q.2.2.2.2.1) ∈ TB) ∧ (∀ x, q.1 = .ldc2_w x → Jvm.Cond.constantLong own x (Int64.ofInt q.2.2.2.2.1) ∈ TB) ∧ pm_okm cl TB RD own mname q.1 q.2.2.1 q.2.2.2.1 q.2.2.2.2.1 ∧ pm_okc ms cl TB own q.1 q.2.2.1
theorem pm_o0_s {pc : Nat} {lv : pm_L} {h : pm_H} {o : Option (List Value)} {x : pm_F ⊕ pm_R} (q : pm_o0 pc lv h o = some x) : ∃ st, o = some st ∧ x = .inl (pc, lv, st, h) := by
  unfold pm_o0 at q; split at q
  · cases q; exact ⟨_, rfl, rfl⟩
  · cases q
theorem pm_o1_s {pc : Nat} {lv : pm_L} {st : List Value} {h : pm_H} {o : Option Value} {x : pm_F ⊕ pm_R} (q : pm_o1 pc lv st h o = some x) : ∃ v, o = some v ∧ x = .inl (pc, lv, v :: st, h) := by
  unfold pm_o1 at q; split at q
  · cases q; exact ⟨_, rfl, rfl⟩
  · cases q
theorem pm_o2_s {pc : Nat} {h : pm_H} {o : Option (pm_L × List Value)} {x : pm_F ⊕ pm_R} (q : pm_o2 pc h o = some x) : ∃ lv st, o = some (lv, st) ∧ x = .inl (pc, lv, st, h) := by
  unfold pm_o2 at q; split at q
  · cases q; exact ⟨_, _, rfl, rfl⟩
  · cases q
theorem pm_o3_s {lv : pm_L} {h : pm_H} {o : Option (Nat × List Value)} {x : pm_F ⊕ pm_R} (q : pm_o3 lv h o = some x) : ∃ pc st, o = some (pc, st) ∧ x = .inl (pc, lv, st, h) := by
  unfold pm_o3 at q; split at q
  · cases q; exact ⟨_, _, rfl, rfl⟩
  · cases q
theorem pm_o4_s {pc : Nat} {lv : pm_L} {o : Option (List Value × pm_H)} {x : pm_F ⊕ pm_R} (q : pm_o4 pc lv o = some x) : ∃ st h, o = some (st, h) ∧ x = .inl (pc, lv, st, h) := by
  unfold pm_o4 at q; split at q
  · cases q; exact ⟨_, _, rfl, rfl⟩
  · cases q
theorem pm_o6_s {h : pm_H} {o : Option (Option Value)} {x : pm_F ⊕ pm_R} (q : pm_o6 h o = some x) : ∃ v, o = some v ∧ x = .inr (v, h) := by
  unfold pm_o6 at q; split at q
  · cases q; exact ⟨_, rfl, rfl⟩
  · cases q
def pm_MonoC (call : pm_C) : Prop := ∀ (k : Nat) (as : List Value) (h h' : pm_H) (v : Option Value), call k as h = some (v, h') → pm_le h h'
theorem pm_inv_le {call : pm_C} (hc : pm_MonoC call) {i : Instr} {k na ci : Nat} {st st' : List Value} {h h' : pm_H} (q : pm_inv call i k na ci st h = some (st', h')) : pm_le h h' := by
  cases i <;> simp only [pm_inv] at q <;> try exact pm_no q
  case invokestatic =>
    split at q
    · split at q
      · rename_i ec; cases q; exact hc _ _ _ _ _ ec
      · cases q
    · cases q
  case invokevirtual =>
    split at q
    · split at q
      · rename_i ec; cases q; exact hc _ _ _ _ _ ec
      · cases q
    · cases q
  case invokespecial =>
    split at q
    · split at q
      · split at q
        · cases q; exact pm_le_rf _
        · cases q
      · cases q
    · split at q
      · split at q
        · rename_i ec; cases q; exact hc _ _ _ _ _ ec
        · cases q
      · cases q
theorem pm_step_le {cs : Nat → List Value} {ms : Nat → Option pm_M} {call : pm_C} (hc : pm_MonoC call) {scr : pm_S} {nL : Nat} {rt : Option FieldType} {q : pm_I} {F : pm_F} {x : pm_F ⊕ pm_R} (s : pm_step cs ms call scr nL rt q F = some x) : (∀ F', x = .inl F' → pm_le F.2.2.2 F'.2.2.2) ∧ (∀ v h', x = .inr (v, h') → h' = F.2.2.2) := by
  obtain ⟨i, n, r1, r2, cst, hh⟩ := q
  obtain ⟨pc, lv, st, h⟩ := F
  simp only [pm_step] at s
  split at s
  · obtain ⟨st', -, rfl⟩ := pm_o0_s s; exact ⟨fun F' e => by cases e; exact pm_le_rf _, fun v h' e => by cases e⟩
  · obtain ⟨st', -, rfl⟩ := pm_o1_s s; exact ⟨fun F' e => by cases e; exact pm_le_rf _, fun v h' e => by cases e⟩
  · obtain ⟨lv', st', -, rfl⟩ := pm_o2_s s; exact ⟨fun F' e => by cases e; exact pm_le_rf _, fun v h' e => by cases e⟩
  · obtain ⟨pc', st', -, rfl⟩ := pm_o3_s s; exact ⟨fun F' e => by cases e; exact pm_le_rf _, fun v h' e => by cases e⟩
  · obtain ⟨st', h', q1, rfl⟩ := pm_o4_s s; exact ⟨fun F' e => by cases e; exact pm_mem_le q1, fun v h' e => by cases e⟩
  · obtain ⟨st', h', q1, rfl⟩ := pm_o4_s s; exact ⟨fun F' e => by cases e; exact pm_inv_le hc q1, fun v h' e => by cases e⟩
  · obtain ⟨v', q1, rfl⟩ := pm_o6_s s; exact ⟨(fun F' e => by cases e), (fun v h' e => by cases e; rfl)⟩
theorem pm_run_le {cs : Nat → List Value} {ms : Nat → Option pm_M} {call : pm_C} (hc : pm_MonoC call) {scr : pm_S} {nL : Nat} {rt : Option FieldType} {ins : Nat → Option pm_I} : ∀ (n : Nat) (F : pm_F) (v : Option Value) (hE : pm_H), pm_run (pm_step cs ms call scr nL rt) ins n F = some (v, hE) → pm_le F.2.2.2 hE := by
  intro n
  induction n with
  | zero => intro F v hE q; cases q
  | succ n ih =>
    intro F v hE q
    rw [pm_run_succ] at q
    split at q
    · cases q
    · split at q
      · cases q
      · rename_i F' es
        exact pm_le_tr ((pm_step_le hc es).1 F' rfl) (ih F' v hE q)
      · rename_i r es
        cases q
        rw [(pm_step_le hc es).2 _ _ rfl]
        exact pm_le_rf _
section PM6
variable {p : Program} {l : Launch} {e : Env} {R : Room} {s : State} {m : MethodId} {args : Array Value} {below : List Frame} {meth : Method} {c : Code} {Q : State → Prop}
variable {cc : ByteArray} {b base : Nat} {D : va_G} {cl : List vw_C} {cA : Nat → ClassId} {RD own : String} {TB : List Cond} {cs : Nat → List Value} {ms : Nat → Option pm_M}
set_option maxHeartbeats 2000000 in
/-- a run in a frame -/
theorem pm_runOk {call : pm_C} {scr : pm_S} {nL d n0 z0 : Nat} {rt : Option FieldType} {ins : Nat → Option pm_I} {v : Option Value} {hE : pm_H} (hx : p.tables.exec = Jvm.exec) (hb : c.code = cc) (hml : c.maxLocals = nL) (hst : ∀ w ∈ TB, pm_stb w = true) (hts : ∀ w ∈ TB, w.before args s = true) (hcl : pm_clOk cl TB cs) (hms : pm_msOk ms TB) (hown : s.vm.findClass own = some m.cls) (hK : va_K D cl (pm_tys RD cA) s) (hSc : pm_Sc scr b base s)
    (hcall : pm_CallOk l cl RD TB ms call d) (hd : d + 1 ≤ R.frames) (hlo : 32 * (d + 1) ≤ R.locals) (hI : ∀ pc q, ins pc = some q → pm_okI cl TB RD ms cc own meth.name pc q) (h0 : s.heap.size = base + n0) (hr1 : hE.length ≤ n0 + R.cells) (hr2 : pm_sls hE ≤ z0 + R.slots)
    (hend : ∀ (i : Instr) (pc : Nat) (ls : Array Slot) (st : List Value) (H : Heap) (locs : List Loc) (cells slots : Nat), decode cc pc = .ok (i, 1) → pm_ret i rt st = some v → va_P D cl (pm_ws (pm_tr cA b base) base hE) H → va_S (fun q => base ≤ q) s.heap H locs → cells + n0 = hE.length → slots + z0 = pm_sls hE → W p l e R s m args below meth c H locs cells slots Q (F0 m pc ls (st.map (pm_sh b base)))) :
    ∀ (n : Nat) (F : pm_F), pm_run (pm_step cs ms call scr nL rt) ins n F = some (v, hE) → ∀ (ls : Array Slot) (H : Heap) (locs : List Loc) (cells slots : Nat), lv_has ls nL (pm_lv b base F.2.1) → va_P D cl (pm_ws (pm_tr cA b base) base F.2.2.2) H → va_S (fun q => base ≤ q) s.heap H locs → cells + n0 = F.2.2.2.length → slots + z0 = pm_sls F.2.2.2 →
      W p l e R s m args below meth c H locs cells slots Q (F0 m F.1 ls (F.2.2.1.map (pm_sh b base))) := by
  have hmono : pm_MonoC call := fun k as h h' v q => (hcall k as h h' v q).1
  intro n
  induction n with
  | zero => intro F q; cases q
  | succ n ih =>
    intro F q ls H locs cells slots hl hP hS hc hs
    have hle := pm_run_le hmono _ _ _ _ q
    rw [pm_run_succ] at q
    split at q
    · cases q
    · rename_i qi ei
      obtain ⟨k1, k2, k3, k4, k5, k6, k7⟩ := hI _ _ ei
      obtain ⟨i, len, r1, r2, cst, hh⟩ := qi
      obtain ⟨pc, lv, st, h⟩ := F
      dsimp only at k1 k2 k3 k4 k5 k6 k7 hl hP hc hs hle ei ⊢
      split at q
      · cases q
      · rename_i F' es
        have hleF := pm_run_le hmono _ _ _ _ q
        simp only [pm_step] at es
        unfold pm_lenOk at k2
        split at es
        · rename_i eg
          rw [eg] at k2
          have k2 := k2
          subst k2
          obtain ⟨st', q1, e9⟩ := pm_o0_s es
          cases e9
          exact pm_g0 hx hb k1 hown (fun x hx => hts _ (k4 x hx)) (fun x hx => hts _ (k5 x hx)) q1 (ih _ q ls H locs cells slots hl hP hS hc hs)
        · rename_i eg
          rw [eg] at k2
          have k2 := k2
          subst k2
          obtain ⟨v', q1, e9⟩ := pm_o1_s es
          cases e9
          exact pm_g1 hx hb k1 hl q1 (ih _ q ls H locs cells slots hl hP hS hc hs)
        · rename_i eg
          rw [eg] at k2
          have k2 := k2
          subst k2
          obtain ⟨lv', st', q1, e9⟩ := pm_o2_s es
          cases e9
          exact pm_g2 hx hb k1 hl q1 (fun ls' hl' => ih _ q ls' H locs cells slots hl' hP hS hc hs)
        · rename_i eg
          rw [eg] at k2
          obtain ⟨pc', st', q1, e9⟩ := pm_o3_s es
          cases e9
          exact pm_g3 hx hb k1 k2 k3 q1 (ih _ q ls H locs cells slots hl hP hS hc hs)
        · rename_i eg
          rw [eg] at k2
          have k2 := k2
          subst k2
          obtain ⟨st', h', q1, e9⟩ := pm_o4_s es
          cases e9
          exact pm_g4 hx hb hts hcl hown hK hSc hP hS h0 hc hs (Nat.le_trans hleF.1 hr1) (Nat.le_trans hleF.2 hr2) k6 k1 q1 (fun H1 locs1 cells1 slots1 hP1 hS1 hc1 hs1 => ih _ q ls H1 locs1 cells1 slots1 hl hP1 hS1 hc1 hs1)
        · rename_i eg
          rw [eg] at k2
          have k2 := k2
          subst k2
          obtain ⟨st', h', q1, e9⟩ := pm_o4_s es
          cases e9
          exact pm_g5 hx hb hml hst hts hms hown hK hcall hd hlo hP hS h0 hc hs (Nat.le_trans hleF.1 hr1) (Nat.le_trans hleF.2 hr2) hl.1 k7 k1 q1 (fun H1 locs1 cells1 slots1 hP1 hS1 hc1 hs1 => ih _ q ls H1 locs1 cells1 slots1 hl hP1 hS1 hc1 hs1)
        · obtain ⟨v', q1, e9⟩ := pm_o6_s es
          cases e9
      · rename_i r es
        cases q
        simp only [pm_step] at es
        unfold pm_lenOk at k2
        split at es
        · obtain ⟨st', q1, e9⟩ := pm_o0_s es; cases e9
        · obtain ⟨st', q1, e9⟩ := pm_o1_s es; cases e9
        · obtain ⟨lv', st', q1, e9⟩ := pm_o2_s es; cases e9
        · obtain ⟨pc', st', q1, e9⟩ := pm_o3_s es; cases e9
        · obtain ⟨st', h', q1, e9⟩ := pm_o4_s es; cases e9
        · obtain ⟨st', h', q1, e9⟩ := pm_o4_s es; cases e9
        · obtain ⟨v', q1, e9⟩ := pm_o6_s es
          cases e9
          have k9 : len = 1 := by
            split at k2 <;> first | exact k2 | (rename_i h9; simp_all; done) | contradiction
          subst k9
          exact hend i pc ls st H locs cells slots k1 q1 hP hS hc hs
end PM6
end
section
/-! every call of the small machine is a contract -/
section PM7
variable {p : Program} {l : Launch} {e : Env} {R : Room} {s : State} {m : MethodId} {args : Array Value} {below : List Frame} {meth : Method} {c : Code} {H : Heap} {locs : List Loc} {cells slots : Nat}
variable {cc : ByteArray} {pc : Nat} {ls : Array Slot} {b base : Nat}
theorem pm_end {Qc : Array Value → State → Outcome → State → Prop} {free : Addr → Prop} {i : Instr} {rt : Option FieldType} {st : List Value} {v : Option Value} (hx : p.tables.exec = Jvm.exec) (hb : c.code = cc) (hr : meth.sig.returnType = rt) (hlocks : meth.locks = false) (hdg : decode cc pc = .ok (i, 1)) (q : pm_ret i rt st = some v)
    (hq : ∀ t : State, t.heap = H → s.WarmedH t.vm → Qc args s (.returned (v.map (pm_sh b base))) t) (hf : ∀ q ∈ locs, free q.base) : W p l e R s m args below meth c H locs cells slots (MQ below Qc args s cells slots free) (F0 m pc ls (st.map (pm_sh b base))) := by
  cases i <;> simp only [pm_ret] at q <;> try exact pm_no q
  case return_ =>
    split at q
    · cases q; exact W.vret hx hb hr hq hf hdg
    · cases q
  case ireturn =>
    split at q
    · cases q; exact W.iret hx hb hr hq hf hdg
    · split at q
      · rename_i x h01
        cases q
        exact W.zret hx hb hr (by rcases h01 with rfl | rfl <;> rfl) hq hf hdg
      · cases q
    · cases q
  case lreturn =>
    split at q
    · cases q; exact W.lret hx hb hr hq hf hdg
    · cases q
  case areturn =>
    split at q
    · cases q; exact W.aret hx hb hr (Or.inl ⟨_, rfl⟩) (Or.inr ⟨_, rfl⟩) hq hf hdg
    · cases q; exact W.aret hx hb hr (Or.inl ⟨_, rfl⟩) (Or.inl rfl) hq hf hdg
    · cases q; exact W.aret hx hb hr (Or.inr ⟨_, rfl⟩) (Or.inr ⟨_, rfl⟩) hq hf hdg
    · cases q; exact W.aret hx hb hr (Or.inr ⟨_, rfl⟩) (Or.inl rfl) hq hf hdg
    · cases q
end PM7
/-- what the tables say of all instructions -/
def pm_insOk (cl : List vw_C) (TB : List Cond) (RD : String) (ms : Nat → Option pm_M) (ins : Nat → Nat → Option pm_I) : Prop := ∀ (k : Nat) (y : MethodName) (bytes : ByteArray) (nL : Nat) (rt : Option FieldType) (na ci : Nat), ms k = some (y, bytes, nL, rt, na, ci) → ∀ pc q, ins k pc = some q → pm_okI cl TB RD ms bytes y.cls y.name pc q
set_option maxHeartbeats 2000000 in
theorem pm_callOk {l : Launch} {cl : List vw_C} {RD : String} {TB : List Cond} {cs : Nat → List Value} {ms : Nat → Option pm_M} {ins : Nat → Nat → Option pm_I} {fuel : Nat} (hst : ∀ w ∈ TB, pm_stb w = true) (hcl : pm_clOk cl TB cs) (hms : pm_msOk ms TB) (hI : pm_insOk cl TB RD ms ins) : ∀ d, pm_CallOk l cl RD TB ms (pm_call cs ms ins fuel d) d := by
  intro d
  induction d with
  | zero => intro k as h h' v q; cases q
  | succ d ih =>
    intro k as h h' v q
    rw [pm_call_succ] at q
    split at q
    · rename_i y0 by0 nL0 rt0 na0 ci0 em
      split at q
      · rename_i ew
        have hmono : pm_MonoC (pm_call cs ms ins fuel d) := fun k as h h' v q => (ih k as h h' v q).1
        have hle := pm_run_le hmono _ _ _ _ q
        refine ⟨hle, ?_⟩
        intro y bytes nL rt na ci em2 D cA b base
        rw [em] at em2
        cases em2
        obtain ⟨m1, m2, m3, m4, m5, m6⟩ := hms _ _ _ _ _ _ _ em
        refine Met.ofW (cc := by0) (maxL := nL0) (ret := rt0) m3 rfl ?_
        intro p e s m args below meth c s₁ B hml hv
        obtain ⟨rfl, hsz, hP, hK, hT⟩ := hv
        have hx := B.exec
        have hb := B.bytes
        have hr := B.returns
        have hlocks := B.notSynchronized
        have hown : s.vm.findClass y0.cls = some m.cls := findClass_of_methodNamed B.named
        have hnm : meth.name = y0.name := (name_of_methodNamed B.named B.method).1
        have hts : ∀ w ∈ TB, w.before (as.map (pm_sh b base)).toArray s = true := fun w hw => pm_wd (hst w hw) (State.WarmedH.refl s) (hT w hw)
        have hl := lv_entry (as.map (pm_sh b base)) (n := nL0) (by rw [pm_wt_sl, pm_wt_map]; exact Nat.le_of_ble_eq_true ew)
        rw [lg_entry_eq]
        generalize (lg_sl (as.map (pm_sh b base)) ++ List.replicate (nL0 - (lg_sl (as.map (pm_sh b base))).length) Slot.unset).toArray = ls at hl ⊢
        rw [pm_args] at hl
        have hS : va_S (fun q => base ≤ q) s.heap s.heap [] := va_S.rf
        refine pm_runOk (R := { frames := d + 1, cells := h'.length - h.length, slots := pm_sls h' - pm_sls h, locals := 32 * (d + 1) }) (scr := none) (n0 := h.length) (z0 := pm_sls h) (hE := h') (v := v) (cs := cs) hx hb hml hst hts hcl hms hown hK (fun n xs e9 => by cases e9) ih (Nat.le_refl _) (Nat.le_refl _) (fun pc q e9 => by rw [hnm]; exact hI _ _ _ _ _ _ _ em pc q e9) hsz (by have := hle.1; show h'.length ≤ h.length + (h'.length - h.length); omega) (by have := hle.2; show pm_sls h' ≤ pm_sls h + (pm_sls h' - pm_sls h); omega) ?_ fuel (0, lv_args 0 as, [], h) q ls s.heap [] 0 0 hl hP hS (Nat.zero_add _) (Nat.zero_add _)
        intro i pc ls st H locs cells slots hdg q1 hP1 hS1 hc1 hs1
        have e1 : h'.length - h.length = cells := by omega
        have e2 : pm_sls h' - pm_sls h = slots := by omega
        rw [e1, e2]
        exact pm_end hx hb hr hlocks hdg q1 (fun t ht hW => ⟨rfl, by rw [ht]; exact hP1, hS1.F ht⟩) hS1.2.2
      · cases q
    · cases q
end

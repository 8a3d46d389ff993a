section
/-! A SMALL MACHINE: the bytecode's instructions over a list of cells of our own, a pure function; its soundness over the kit's rows stands in the parts behind. -/
/-- a cell: an array (its kind, its length, its contents) or an object (its class' number, its fields) -/
abbrev pm_E : Type := (Nat × vp_A) ⊕ (Nat × List Value)
abbrev pm_H : Type := List pm_E
abbrev pm_L : Type := List (Nat × Value)
/-- an instruction, its length, two resolved numbers, a constant, places of words in the tables -/
abbrev pm_I : Type := Instr × Nat × Nat × Nat × Int × List (Nat × Nat)
/-- a frame: where, variables, stack, cells -/
abbrev pm_F : Type := Nat × pm_L × List Value × pm_H
/-- an end: the answer, the cells -/
abbrev pm_R : Type := Option Value × pm_H
/-- a method: name, bytes, variables, type of its answer, how many arguments, its class' number -/
abbrev pm_M : Type := MethodName × ByteArray × Nat × Option FieldType × Nat × Nat
/-- the script, where it may be read -/
abbrev pm_S : Type := Option (Nat × (Nat → Int32))
noncomputable def pm_nth {α : Type} (l : List α) : Nat → Option α := List.rec (fun _ => none) (fun x _ ih i => Nat.rec (some x) (fun j _ => ih j) i) l
noncomputable def pm_put {α : Type} (l : List α) (y : α) : Nat → List α := List.rec (fun _ => []) (fun x r ih i => Nat.rec (y :: r) (fun j _ => x :: ih j) i) l
theorem pm_nth_eq {α : Type} (l : List α) : ∀ i, pm_nth l i = l[i]? := by
  induction l with
  | nil => intro i; rfl
  | cons x r ih =>
    intro i
    cases i with
    | zero => rfl
    | succ j => exact ih j
theorem pm_put_eq {α : Type} (l : List α) (y : α) : ∀ i, pm_put l y i = l.set i y := by
  induction l with
  | nil => intro i; rfl
  | cons x r ih =>
    intro i
    cases i with
    | zero => rfl
    | succ j => exact congrArg (List.cons x) (ih j)
/-- a variable's value -/
def pm_get : pm_L → Nat → Option Value
  | [], _ => none
  | q :: r, i => match Nat.beq q.1 i with
    | true => some q.2
    | false => pm_get r i
theorem pm_get_mem {l : pm_L} {i : Nat} {v : Value} (h : pm_get l i = some v) : (i, v) ∈ l := by
  induction l with
  | nil => cases h
  | cons q r ih =>
    unfold pm_get at h
    split at h
    · rename_i e
      have e2 := Nat.eq_of_beq_eq_true e
      cases h
      subst e2
      exact List.mem_cons_self
    · exact List.mem_cons_of_mem _ (ih h)
def pm_c2 : Value → Bool
  | .long _ => true
  | .double _ => true
  | _ => false
/-- behind a store of one word, of two -/
def pm_st1 (i : Nat) : pm_L → pm_L
  | [] => []
  | q :: r => match Nat.beq q.1 i, (Nat.beq (q.1 + 1) i && pm_c2 q.2) with
    | false, false => q :: pm_st1 i r
    | _, _ => pm_st1 i r
def pm_st2 (i : Nat) : pm_L → pm_L
  | [] => []
  | q :: r => match (Nat.beq q.1 i || Nat.beq q.1 (i + 1)), (Nat.beq (q.1 + 1) i && pm_c2 q.2) with
    | false, false => q :: pm_st2 i r
    | _, _ => pm_st2 i r
/-- a cell by its address: 0 is the script's -/
noncomputable def pm_cell (h : pm_H) (a : Nat) : Option pm_E := Nat.rec none (fun j _ => pm_nth h j) a
noncomputable def pm_wr (h : pm_H) (a : Nat) (e : pm_E) : pm_H := Nat.rec h (fun j _ => pm_put h e j) a
def pm_ii (st : List Value) (f : Int32 → Int32 → Value) : Option (List Value) := match st with
  | .int y :: .int x :: r => some (f x y :: r)
  | _ => none
def pm_iz (st : List Value) (f : Int32 → Int32 → Value) : Option (List Value) := match st with
  | .int y :: .int x :: r => if y = 0 then none else some (f x y :: r)
  | _ => none
def pm_ll (st : List Value) (f : Int64 → Int64 → Value) : Option (List Value) := match st with
  | .long y :: .long x :: r => some (f x y :: r)
  | _ => none
def pm_lz (st : List Value) (f : Int64 → Int64 → Value) : Option (List Value) := match st with
  | .long y :: .long x :: r => if y = 0 then none else some (f x y :: r)
  | _ => none
def pm_li (st : List Value) (f : Int64 → Int32 → Value) : Option (List Value) := match st with
  | .int y :: .long x :: r => some (f x y :: r)
  | _ => none
def pm_i1 (st : List Value) (f : Int32 → Value) : Option (List Value) := match st with
  | .int x :: r => some (f x :: r)
  | _ => none
def pm_l1 (st : List Value) (f : Int64 → Value) : Option (List Value) := match st with
  | .long x :: r => some (f x :: r)
  | _ => none
def pm_dup (st : List Value) : Option (List Value) := match st with
  | v :: r => match pm_c2 v with
    | true => none
    | false => some (v :: v :: r)
  | _ => none
def pm_pop (st : List Value) : Option (List Value) := match st with
  | v :: r => match pm_c2 v with
    | true => none
    | false => some r
  | _ => none
def pm_dup2 (st : List Value) : Option (List Value) := match st with
  | v :: w :: r => match pm_c2 v, pm_c2 w with
    | false, false => some (v :: w :: v :: w :: r)
    | _, _ => none
  | _ => none
/-- what works on the stack alone -/
def pm_alu (q : Instr) (cst : Int) (st : List Value) : Option (List Value) := match q with
  | .iconst n => some (.int (Int32.ofInt n) :: st)
  | .bipush n => some (.int (Int8.ofInt n).toInt32 :: st)
  | .sipush n => some (.int (Int16.ofInt n).toInt32 :: st)
  | .lconst n => some (.long (Int64.ofNat (n : Nat)) :: st)
  | .ldc _ => some (.int (Int32.ofInt cst) :: st)
  | .ldc_w _ => some (.int (Int32.ofInt cst) :: st)
  | .ldc2_w _ => some (.long (Int64.ofInt cst) :: st)
  | .aconst_null => some (.null :: st)
  | .iadd => pm_ii st (fun x y => .int (x + y))
  | .isub => pm_ii st (fun x y => .int (x - y))
  | .imul => pm_ii st (fun x y => .int (x * y))
  | .iand => pm_ii st (fun x y => .int (x &&& y))
  | .ior => pm_ii st (fun x y => .int (x ||| y))
  | .ishl => pm_ii st (fun x y => .int (x <<< (y &&& 31)))
  | .ishr => pm_ii st (fun x y => .int (x >>> (y &&& 31)))
  | .idiv => pm_iz st (fun x y => .int (x / y))
  | .irem => pm_iz st (fun x y => .int (x - x / y * y))
  | .ineg => pm_i1 st (fun x => .int (-x))
  | .ladd => pm_ll st (fun x y => .long (x + y))
  | .lsub => pm_ll st (fun x y => .long (x - y))
  | .lmul => pm_ll st (fun x y => .long (x * y))
  | .land => pm_ll st (fun x y => .long (x &&& y))
  | .lor => pm_ll st (fun x y => .long (x ||| y))
  | .lxor => pm_ll st (fun x y => .long (x ^^^ y))
  | .ldiv => pm_lz st (fun x y => .long (x / y))
  | .lrem => pm_lz st (fun x y => .long (x - x / y * y))
  | .lcmp => pm_ll st (fun x y => .int (lg_cmp x y))
  | .lneg => pm_l1 st (fun x => .long (-x))
  | .lshl => pm_li st (fun x y => .long (x <<< (y.toInt64 &&& 63)))
  | .lshr => pm_li st (fun x y => .long (x >>> (y.toInt64 &&& 63)))
  | .i2l => pm_i1 st (fun x => .long x.toInt64)
  | .l2i => pm_l1 st (fun x => .int x.toInt32)
  | .i2b => pm_i1 st (fun x => .int x.toInt8.toInt32)
  | .dup => pm_dup st
  | .pop => pm_pop st
  | .dup2 => pm_dup2 st
  | _ => none
/-- the next place behind what works on the stack alone -/
def pm_aln (q : Instr) : Nat := match q with
  | .bipush _ => 2
  | .sipush _ => 3
  | .ldc _ => 2
  | .ldc_w _ => 3
  | .ldc2_w _ => 3
  | _ => 1
def pm_ldi (lv : pm_L) (i : Nat) : Option Value := match pm_get lv i with
  | some (.int x) => some (.int x)
  | _ => none
def pm_ldl (lv : pm_L) (i : Nat) : Option Value := match pm_get lv i with
  | some (.long x) => some (.long x)
  | _ => none
def pm_lda (lv : pm_L) (i : Nat) : Option Value := match pm_get lv i with
  | some (.ref x) => some (.ref x)
  | some .null => some .null
  | _ => none
/-- a load: the value, the next place -/
def pm_ld (q : Instr) (lv : pm_L) : Option Value := match q with
  | .iload_n n => pm_ldi lv (n : Nat)
  | .iload n => pm_ldi lv n
  | .lload_n n => pm_ldl lv (n : Nat)
  | .lload n => pm_ldl lv n
  | .aload_n n => pm_lda lv (n : Nat)
  | .aload n => pm_lda lv n
  | _ => none
def pm_ldn (q : Instr) : Nat := match q with
  | .iload _ => 2
  | .lload _ => 2
  | .aload _ => 2
  | _ => 1
def pm_sti (nL i : Nat) (lv : pm_L) (st : List Value) : Option (pm_L × List Value) := match st with
  | .int x :: r => match Nat.ble (i + 1) nL with
    | true => some ((i, .int x) :: pm_st1 i lv, r)
    | false => none
  | _ => none
def pm_stl (nL i : Nat) (lv : pm_L) (st : List Value) : Option (pm_L × List Value) := match st with
  | .long x :: r => match Nat.ble (i + 2) nL with
    | true => some ((i, .long x) :: pm_st2 i lv, r)
    | false => none
  | _ => none
def pm_sta (nL i : Nat) (lv : pm_L) (st : List Value) : Option (pm_L × List Value) := match st with
  | .ref x :: r => match Nat.ble (i + 1) nL with
    | true => some ((i, .ref x) :: pm_st1 i lv, r)
    | false => none
  | .null :: r => match Nat.ble (i + 1) nL with
    | true => some ((i, .null) :: pm_st1 i lv, r)
    | false => none
  | _ => none
def pm_inc (nL i : Nat) (n : Int) (lv : pm_L) (st : List Value) : Option (pm_L × List Value) := match pm_get lv i with
  | some (.int x) => match Nat.ble (i + 1) nL with
    | true => some ((i, .int (x + Int32.ofInt n)) :: pm_st1 i lv, st)
    | false => none
  | _ => none
def pm_sto (nL : Nat) (q : Instr) (lv : pm_L) (st : List Value) : Option (pm_L × List Value) := match q with
  | .istore_n n => pm_sti nL (n : Nat) lv st
  | .istore n => pm_sti nL n lv st
  | .lstore_n n => pm_stl nL (n : Nat) lv st
  | .lstore n => pm_stl nL n lv st
  | .astore_n n => pm_sta nL (n : Nat) lv st
  | .astore n => pm_sta nL n lv st
  | .iinc i n => pm_inc nL i n lv st
  | _ => none
def pm_ston (q : Instr) : Nat := match q with
  | .istore _ => 2
  | .lstore _ => 2
  | .astore _ => 2
  | .iinc _ _ => 3
  | _ => 1
def pm_if (b : Bool) (t pc : Nat) (r : List Value) : Option (Nat × List Value) := match b with
  | true => some (t, r)
  | false => some (pc + 3, r)
def pm_sw (pc : Nat) (off : Int) (r : List Value) : Option (Nat × List Value) := match (pc : Int) + off with
  | .ofNat t => some (t, r)
  | _ => none
/-- a jump: t is the target -/
def pm_jmp (q : Instr) (pc t : Nat) (st : List Value) : Option (Nat × List Value) := match q with
  | .goto _ => some (t, st)
  | .ifCond cd _ => match st with
    | .int x :: r => match cd with
      | .eq => pm_if (decide (x = 0)) t pc r
      | .ne => pm_if (decide (¬ x = 0)) t pc r
      | .lt => pm_if (decide (x < 0)) t pc r
      | .ge => pm_if (decide (0 ≤ x)) t pc r
      | .gt => pm_if (decide (0 < x)) t pc r
      | .le => pm_if (decide (x ≤ 0)) t pc r
    | _ => none
  | .if_icmp cd _ => match st with
    | .int y :: .int x :: r => match cd with
      | .eq => pm_if (decide (x = y)) t pc r
      | .ne => pm_if (decide (¬ x = y)) t pc r
      | .lt => pm_if (decide (x < y)) t pc r
      | .ge => pm_if (decide (y ≤ x)) t pc r
      | .gt => pm_if (decide (y < x)) t pc r
      | .le => pm_if (decide (x ≤ y)) t pc r
    | _ => none
  | .ifnull _ => match st with
    | .null :: r => some (t, r)
    | .ref _ :: r => some (pc + 3, r)
    | _ => none
  | .ifnonnull _ => match st with
    | .null :: r => some (pc + 3, r)
    | .ref _ :: r => some (t, r)
    | _ => none
  | .tableswitch dflt lo hi offs => match st with
    | .int x :: r => if x.toInt < lo ∨ hi < x.toInt then pm_sw pc dflt r else match offs[(x.toInt - lo).toNat]? with
      | some off => pm_sw pc off r
      | none => none
    | _ => none
  | _ => none
/-- whether a value may stand in a field: 0 int, 1 long, 2 boolean, 3 a reference -/
def pm_fit (k : Int) (v : Value) : Bool := match k, v with
  | .ofNat 0, .int _ => true
  | .ofNat 1, .long _ => true
  | .ofNat 2, .int x => decide (x = 0) || decide (x = 1)
  | .ofNat 3, .ref _ => true
  | .ofNat 3, .null => true
  | _, _ => false
end
section
/-- an index in range, as a place -/
def pm_ix (i : Int32) (n : Nat) : Option Nat := if i < 0 then none else match Nat.ble n i.toNatClampNeg with
  | true => none
  | false => some i.toNatClampNeg
/-- array loads: kinds 0 int, 1 long, 2 byte, 3 boolean, 4 long[], 5 int[], 6 a class' objects -/
def pm_rdi (i : Int32) (e : Option pm_E) : Option Value := match e with
  | some (.inl (k, n, .inl f)) => match Nat.beq k 0 with
    | true => match pm_ix i n with
      | some j => some (.int (f j))
      | none => none
    | false => none
  | _ => none
def pm_rdb (i : Int32) (e : Option pm_E) : Option Value := match e with
  | some (.inl (k, n, .inl f)) => match Nat.beq k 2, Nat.beq k 3 with
    | false, false => none
    | _, _ => match pm_ix i n with
      | some j => some (.int (f j))
      | none => none
  | _ => none
def pm_rdl (i : Int32) (e : Option pm_E) : Option Value := match e with
  | some (.inl (k, n, .inr (.inl f))) => match Nat.beq k 1 with
    | true => match pm_ix i n with
      | some j => some (.long (f j))
      | none => none
    | false => none
  | _ => none
def pm_rda (i : Int32) (e : Option pm_E) : Option Value := match e with
  | some (.inl (k, n, .inr (.inr (.inr (.inr f))))) => match Nat.beq k 4, Nat.beq k 5, Nat.beq k 6 with
    | false, false, false => none
    | _, _, _ => match pm_ix i n with
      | some j => some (va_rf (f j))
      | none => none
  | _ => none
def pm_scr (i : Int32) (s : pm_S) : Option Value := match s with
  | some (n, xs) => match pm_ix i n with
    | some j => some (.int (xs j))
    | none => none
  | none => none
/-- array stores -/
def pm_wri (i x : Int32) (e : Option pm_E) : Option pm_E := match e with
  | some (.inl (k, n, .inl f)) => match Nat.beq k 0 with
    | true => match pm_ix i n with
      | some j => some (.inl (k, n, .inl (upd f j x)))
      | none => none
    | false => none
  | _ => none
def pm_wrb (i x : Int32) (e : Option pm_E) : Option pm_E := match e with
  | some (.inl (k, n, .inl f)) => match Nat.beq k 2, Nat.beq k 3 with
    | true, _ => match pm_ix i n with
      | some j => some (.inl (k, n, .inl (upd f j (vp_nar .byte x))))
      | none => none
    | _, true => match pm_ix i n with
      | some j => some (.inl (k, n, .inl (upd f j (vp_nar .boolean x))))
      | none => none
    | _, _ => none
  | _ => none
def pm_wrl (i : Int32) (x : Int64) (e : Option pm_E) : Option pm_E := match e with
  | some (.inl (k, n, .inr (.inl f))) => match Nat.beq k 1 with
    | true => match pm_ix i n with
      | some j => some (.inl (k, n, .inr (.inl (vp_updL f j x))))
      | none => none
    | false => none
  | _ => none
/-- a reference to an object of the class ci into an array of kind 6 -/
def pm_wra (ci : Nat) (i : Int32) (x : Nat) (o e : Option pm_E) : Option pm_E := match e, o with
  | some (.inl (k, n, .inr (.inr (.inr (.inr f))))), some (.inr (c, _)) => match Nat.beq k 6, Nat.beq c ci with
    | true, true => match pm_ix i n with
      | some j => some (.inl (k, n, .inr (.inr (.inr (.inr (va_up f j (some x)))))))
      | none => none
    | _, _ => none
  | _, _ => none
noncomputable def pm_gf (r1 r2 : Nat) (e : Option pm_E) : Option Value := match e with
  | some (.inr (c, fs)) => match Nat.beq c r1 with
    | true => pm_nth fs r2
    | false => none
  | _ => none
noncomputable def pm_pf (r1 r2 : Nat) (ty : Int) (v : Value) (e : Option pm_E) : Option pm_E := match e with
  | some (.inr (c, fs)) => match Nat.beq c r1, pm_fit ty v, Nat.ble (r2 + 1) fs.length with
    | true, true, true => some (.inr (c, pm_put fs v r2))
    | _, _, _ => none
  | _ => none
def pm_len (e : Option pm_E) : Option Value := match e with
  | some (.inl (k, n, _)) => match Nat.ble k 6 with
    | true => some (.int (Int32.ofNat n))
    | false => none
  | _ => none
noncomputable def pm_wrs (h : pm_H) (a : Nat) (r : List Value) (e : Option pm_E) : Option (List Value × pm_H) := match e with
  | some e => some (r, pm_wr h a e)
  | none => none
def pm_psh (h : pm_H) (r : List Value) (v : Option Value) : Option (List Value × pm_H) := match v with
  | some v => some (v :: r, h)
  | none => none
/-- a length that may be -/
def pm_sz (n : Int32) : Option Nat := if n < 0 then none else match Nat.ble n.toNatClampNeg 67108864 with
  | true => some n.toNatClampNeg
  | false => none
def pm_new (h : pm_H) (r : List Value) (e : pm_E) : Option (List Value × pm_H) := some (.ref (h.length + 1) :: r, h ++ [e])
def pm_nwa (h : pm_H) (r : List Value) (n : Int32) (f : Nat → pm_E) : Option (List Value × pm_H) := match pm_sz n with
  | some N => pm_new h r (f N)
  | none => none
/-- an empty array of a kind -/
def pm_zero (k N : Nat) : pm_E := match k with
  | 1 => .inl (1, N, .inr (.inl (fun _ => 0)))
  | 0 => .inl (0, N, .inl (fun _ => 0))
  | k => .inl (k, N, .inl (fun _ => 0))
def pm_nwm (h : pm_H) (r : List Value) (r1 r2 : Nat) (n k : Int32) : Option (List Value × pm_H) := match pm_sz n, pm_sz k with
  | some N, some K => some (.ref (h.length + 1) :: r, h ++ (.inl (r1, N, .inr (.inr (.inr (.inr (fun i => if i < N then some (h.length + 2 + i) else none))))) :: List.replicate N (pm_zero r2 K)))
  | _, _ => none
/-- what works on the cells: cs are the classes' fields as they are born -/
noncomputable def pm_mem (cs : Nat → List Value) (scr : pm_S) (q : Instr) (r1 r2 : Nat) (cst : Int) (st : List Value) (h : pm_H) : Option (List Value × pm_H) := match q with
  | .getfield _ => match st with
    | .ref a :: r => pm_psh h r (pm_gf r1 r2 (pm_cell h a))
    | _ => none
  | .putfield _ => match st with
    | v :: .ref a :: r => pm_wrs h a r (pm_pf r1 r2 cst v (pm_cell h a))
    | _ => none
  | .iaload => match st with
    | .int i :: .ref a :: r => match a with
      | 0 => pm_psh h r (pm_scr i scr)
      | a + 1 => pm_psh h r (pm_rdi i (pm_cell h (a + 1)))
    | _ => none
  | .baload => match st with
    | .int i :: .ref a :: r => pm_psh h r (pm_rdb i (pm_cell h a))
    | _ => none
  | .laload => match st with
    | .int i :: .ref a :: r => pm_psh h r (pm_rdl i (pm_cell h a))
    | _ => none
  | .aaload => match st with
    | .int i :: .ref a :: r => pm_psh h r (pm_rda i (pm_cell h a))
    | _ => none
  | .iastore => match st with
    | .int x :: .int i :: .ref a :: r => pm_wrs h a r (pm_wri i x (pm_cell h a))
    | _ => none
  | .bastore => match st with
    | .int x :: .int i :: .ref a :: r => pm_wrs h a r (pm_wrb i x (pm_cell h a))
    | _ => none
  | .lastore => match st with
    | .long x :: .int i :: .ref a :: r => pm_wrs h a r (pm_wrl i x (pm_cell h a))
    | _ => none
  | .aastore => match st with
    | .ref x :: .int i :: .ref a :: r => pm_wrs h a r (pm_wra r1 i x (pm_cell h x) (pm_cell h a))
    | _ => none
  | .arraylength => match st with
    | .ref a :: r => match a with
      | 0 => match scr with
        | some (n, _) => some (.int (Int32.ofNat n) :: r, h)
        | none => none
      | a + 1 => pm_psh h r (pm_len (pm_cell h (a + 1)))
    | _ => none
  | .newarray ty => match st with
    | .int n :: r => match ty with
      | .int => pm_nwa h r n (pm_zero 0)
      | .long => pm_nwa h r n (pm_zero 1)
      | .byte => pm_nwa h r n (pm_zero 2)
      | .boolean => pm_nwa h r n (pm_zero 3)
      | _ => none
    | _ => none
  | .anewarray _ => match st with
    | .int n :: r => pm_nwa h r n (fun N => .inl (6, N, .inr (.inr (.inr (.inr (fun _ => none))))))
    | _ => none
  | .multianewarray _ _ => match st with
    | .int k :: .int n :: r => pm_nwm h r r1 r2 n k
    | _ => none
  | .new _ => pm_new h st (.inr (r1, cs r1))
  | _ => none
def pm_memn (q : Instr) : Nat := match q with
  | .getfield _ => 3
  | .putfield _ => 3
  | .newarray _ => 2
  | .anewarray _ => 3
  | .multianewarray _ _ => 4
  | .new _ => 3
  | _ => 1
/-- a method's end: its answer is of its type -/
def pm_ret (q : Instr) (rt : Option FieldType) (st : List Value) : Option (Option Value) := match q with
  | .return_ => match rt, st with
    | none, [] => some none
    | _, _ => none
  | .ireturn => match rt, st with
    | some .int, [.int x] => some (some (.int x))
    | some .boolean, [.int x] => if x = 0 ∨ x = 1 then some (some (.int x)) else none
    | _, _ => none
  | .lreturn => match rt, st with
    | some .long, [.long x] => some (some (.long x))
    | _, _ => none
  | .areturn => match rt, st with
    | some (.object _), [.ref a] => some (some (.ref a))
    | some (.object _), [.null] => some (some .null)
    | some (.array _), [.ref a] => some (some (.ref a))
    | some (.array _), [.null] => some (some .null)
    | _, _ => none
  | _ => none
/-- n values off a stack, the last first -/
def pm_pop_n : Nat → List Value → List Value → Option (List Value × List Value)
  | 0, as, st => some (as, st)
  | n + 1, as, v :: st => pm_pop_n n (v :: as) st
  | _ + 1, _, [] => none
def pm_cat (v : Value) : Nat := match v with
  | .long _ => 2
  | .double _ => 2
  | _ => 1
def pm_wt : List Value → Nat
  | [] => 0
  | v :: r => pm_cat v + pm_wt r
def pm_clsOk (ci : Nat) (e : Option pm_E) : Bool := match e with
  | some (.inr (c, _)) => Nat.beq c ci
  | _ => false
abbrev pm_C : Type := Nat → List Value → pm_H → Option pm_R
/-- a call: r1 is the callee (0: Object's constructor), na how many arguments it has, ci its class -/
noncomputable def pm_inv (call : pm_C) (q : Instr) (k na ci : Nat) (st : List Value) (h : pm_H) : Option (List Value × pm_H) := match q with
  | .invokestatic _ => match pm_pop_n na [] st with
    | some (as, r) => match Nat.ble (pm_wt r) 8, call k as h with
      | true, some (v, h') => some (v.toList ++ r, h')
      | _, _ => none
    | none => none
  | .invokevirtual _ => match pm_pop_n na [] st with
    | some (as, .ref a :: r) => match Nat.ble (pm_wt r) 8, pm_clsOk ci (pm_cell h a), call k (.ref a :: as) h with
      | true, true, some (v, h') => some (v.toList ++ r, h')
      | _, _, _ => none
    | _ => none
  | .invokespecial _ => match k with
    | 0 => match st with
      | .ref _ :: r => match Nat.ble (pm_wt r) 8 with
        | true => some (r, h)
        | false => none
      | _ => none
    | k + 1 => match pm_pop_n na [] st with
      | some (as, .ref a :: r) => match Nat.ble (pm_wt r) 8, call (k + 1) (.ref a :: as) h with
        | true, some (v, h') => some (v.toList ++ r, h')
        | _, _ => none
      | _ => none
  | _ => none
/-- which of the groups an instruction is in: 0 stack, 1 load, 2 store, 3 jump, 4 cells, 5 call, 6 end -/
def pm_grp (q : Instr) : Nat := match q with
  | .iload_n _ => 1 | .iload _ => 1 | .lload_n _ => 1 | .lload _ => 1 | .aload_n _ => 1 | .aload _ => 1
  | .istore_n _ => 2 | .istore _ => 2 | .lstore_n _ => 2 | .lstore _ => 2 | .astore_n _ => 2 | .astore _ => 2 | .iinc _ _ => 2
  | .goto _ => 3 | .ifCond _ _ => 3 | .if_icmp _ _ => 3 | .ifnull _ => 3 | .ifnonnull _ => 3 | .tableswitch _ _ _ _ => 3
  | .getfield _ => 4 | .putfield _ => 4 | .iaload => 4 | .baload => 4 | .laload => 4 | .aaload => 4 | .iastore => 4 | .bastore => 4 | .lastore => 4 | .aastore => 4 | .arraylength => 4 | .newarray _ => 4 | .anewarray _ => 4 | .multianewarray _ _ => 4 | .new _ => 4
  | .invokestatic _ => 5 | .invokevirtual _ => 5 | .invokespecial _ => 5
  | .return_ => 6 | .ireturn => 6 | .lreturn => 6 | .areturn => 6
  | _ => 0
abbrev pm_O : Type := Option (pm_F ⊕ pm_R)
def pm_o0 (pc : Nat) (lv : pm_L) (h : pm_H) (o : Option (List Value)) : pm_O := match o with
  | some st => some (.inl (pc, lv, st, h))
  | none => none
def pm_o1 (pc : Nat) (lv : pm_L) (st : List Value) (h : pm_H) (o : Option Value) : pm_O := match o with
  | some v => some (.inl (pc, lv, v :: st, h))
  | none => none
def pm_o2 (pc : Nat) (h : pm_H) (o : Option (pm_L × List Value)) : pm_O := match o with
  | some (lv, st) => some (.inl (pc, lv, st, h))
  | none => none
def pm_o3 (lv : pm_L) (h : pm_H) (o : Option (Nat × List Value)) : pm_O := match o with
  | some (pc, st) => some (.inl (pc, lv, st, h))
  | none => none
def pm_o4 (pc : Nat) (lv : pm_L) (o : Option (List Value × pm_H)) : pm_O := match o with
  | some (st, h) => some (.inl (pc, lv, st, h))
  | none => none
def pm_o6 (h : pm_H) (o : Option (Option Value)) : pm_O := match o with
  | some v => some (.inr (v, h))
  | none => none
/-- how many arguments a callee has, its class -/
def pm_na (ms : Nat → Option pm_M) (k : Nat) : Nat × Nat := match ms k with
  | some (_, _, _, _, n, ci) => (n, ci)
  | none => (0, 0)
/-- one instruction -/
noncomputable def pm_step (cs : Nat → List Value) (ms : Nat → Option pm_M) (call : pm_C) (scr : pm_S) (nL : Nat) (rt : Option FieldType) (q : pm_I) (F : pm_F) : pm_O := match q, F with
  | (i, _, r1, r2, cst, _), (pc, lv, st, h) => match pm_grp i with
    | 0 => pm_o0 (pc + pm_aln i) lv h (pm_alu i cst st)
    | 1 => pm_o1 (pc + pm_ldn i) lv st h (pm_ld i lv)
    | 2 => pm_o2 (pc + pm_ston i) h (pm_sto nL i lv st)
    | 3 => pm_o3 lv h (pm_jmp i pc r1 st)
    | 4 => pm_o4 (pc + pm_memn i) lv (pm_mem cs scr i r1 r2 cst st h)
    | 5 => pm_o4 (pc + 3) lv (pm_inv call i r1 (pm_na ms r1).1 (pm_na ms r1).2 st h)
    | _ => pm_o6 h (pm_ret i rt st)
/-- a method's run: by the fuel -/
noncomputable def pm_run (step : pm_I → pm_F → pm_O) (ins : Nat → Option pm_I) : Nat → pm_F → Option pm_R := fun n => Nat.rec (fun _ => none) (fun _ ih F => match ins F.1 with
  | none => none
  | some q => match step q F with
    | none => none
    | some (.inl F') => ih F'
    | some (.inr r) => some r) n
/-- a call, by its depth; the tables: classes, methods, instructions -/
noncomputable def pm_call (cs : Nat → List Value) (ms : Nat → Option pm_M) (ins : Nat → Nat → Option pm_I) (fuel : Nat) : Nat → pm_C := fun d => Nat.rec (fun _ _ _ => none) (fun _ ih k as h => match ms k with
  | some (_, _, nL, rt, _, _) => match Nat.ble (pm_wt as) nL with
    | true => pm_run (pm_step cs ms ih none nL rt) (ins k) fuel (0, lv_args 0 as, [], h)
    | false => none
  | none => none) d
theorem pm_run_succ (step : pm_I → pm_F → pm_O) (ins : Nat → Option pm_I) (n : Nat) (F : pm_F) : pm_run step ins (n + 1) F = match ins F.1 with
  | none => none
  | some q => match step q F with
    | none => none
    | some (.inl F') => pm_run step ins n F'
    | some (.inr r) => some r := rfl
theorem pm_call_succ (cs : Nat → List Value) (ms : Nat → Option pm_M) (ins : Nat → Nat → Option pm_I) (fuel d k : Nat) (as : List Value) (h : pm_H) : pm_call cs ms ins fuel (d + 1) k as h = match ms k with
  | some (_, _, nL, rt, _, _) => match Nat.ble (pm_wt as) nL with
    | true => pm_run (pm_step cs ms (pm_call cs ms ins fuel d) none nL rt) (ins k) fuel (0, lv_args 0 as, [], h)
    | false => none
  | none => none := rfl
end
section
/-! how the small machine's values and cells lie in the machine's heap -/
def pm_ad (b base : Nat) (a : Nat) : Nat := match a with
  | 0 => b
  | a + 1 => base + a
def pm_sh (b base : Nat) (v : Value) : Value := match v with
  | .ref a => .ref (pm_ad b base a)
  | v => v
def pm_tr (cA : Nat → ClassId) (b base : Nat) (e : pm_E) : va_E := match e with
  | .inl (k, n, .inl f) => .inl (cA k, n, .inl f)
  | .inl (k, n, .inr (.inl f)) => .inl (cA k, n, .inr (.inl f))
  | .inl (k, n, .inr (.inr (.inl f))) => .inl (cA k, n, .inr (.inr (.inl f)))
  | .inl (k, n, .inr (.inr (.inr (.inl f)))) => .inl (cA k, n, .inr (.inr (.inr (.inl f))))
  | .inl (k, n, .inr (.inr (.inr (.inr f)))) => .inl (cA k, n, .inr (.inr (.inr (.inr (fun j => (f j).map (pm_ad b base))))))
  | .inr (c, fs) => .inr (c, fs.map (pm_sh b base))
/-- the cells as the kit's list: from the address i on -/
def pm_ws (g : pm_E → va_E) : Nat → pm_H → va_W
  | _, [] => []
  | i, e :: r => (i, g e) :: pm_ws g (i + 1) r
theorem pm_ws_get (g : pm_E → va_E) (h : pm_H) : ∀ i k, (pm_ws g i h)[k]? = (h[k]?).map (fun e => (i + k, g e)) := by
  induction h with
  | nil => intro i k; rfl
  | cons e r ih =>
    intro i k
    cases k with
    | zero => rfl
    | succ k =>
      show (pm_ws g (i + 1) r)[k]? = (r[k]?).map _
      rw [ih, show i + 1 + k = i + (k + 1) by omega]
theorem pm_ws_set (g : pm_E → va_E) (h : pm_H) (x : pm_E) : ∀ i k, (pm_ws g i h).set k (i + k, g x) = pm_ws g i (h.set k x) := by
  induction h with
  | nil => intro i k; rfl
  | cons e r ih =>
    intro i k
    cases k with
    | zero => rfl
    | succ k =>
      show (i, g e) :: (pm_ws g (i + 1) r).set k (i + (k + 1), g x) = (i, g e) :: pm_ws g (i + 1) (r.set k x)
      rw [← ih, show i + 1 + k = i + (k + 1) by omega]
theorem pm_ws_app (g : pm_E → va_E) (h t : pm_H) : ∀ i, pm_ws g i (h ++ t) = pm_ws g i h ++ pm_ws g (i + h.length) t := by
  induction h with
  | nil => intro i; rfl
  | cons e r ih =>
    intro i
    show (i, g e) :: pm_ws g (i + 1) (r ++ t) = (i, g e) :: (pm_ws g (i + 1) r ++ pm_ws g (i + (r.length + 1)) t)
    rw [ih, show i + 1 + r.length = i + (r.length + 1) by omega]
theorem pm_ws_D (g : pm_E → va_E) (base : Nat) (h : pm_H) : va_D (fun q => base ≤ q) (pm_ws g base h) := by
  refine ⟨fun i j p q hi hj hpq => ?_, fun k q hk => ?_⟩
  · rw [pm_ws_get] at hi hj
    cases e1 : h[i]? with
    | none => rw [e1] at hi; cases hi
    | some x =>
      cases e2 : h[j]? with
      | none => rw [e2] at hj; cases hj
      | some y =>
        rw [e1] at hi; rw [e2] at hj
        cases hi; cases hj
        have : base + i = base + j := hpq
        omega
  · rw [pm_ws_get] at hk
    cases e1 : h[k]? with
    | none => rw [e1] at hk; cases hk
    | some x =>
      rw [e1] at hk
      cases hk
      show base ≤ base + k
      omega
/-- slots in all -/
def pm_sl (e : pm_E) : Nat := match e with
  | .inl (_, n, _) => n
  | .inr (_, fs) => fs.length
def pm_sls : pm_H → Nat
  | [] => 0
  | e :: r => pm_sl e + pm_sls r
theorem pm_sls_app (h t : pm_H) : pm_sls (h ++ t) = pm_sls h + pm_sls t := by
  induction h with
  | nil => simp [pm_sls]
  | cons e r ih =>
    show pm_sl e + pm_sls (r ++ t) = pm_sl e + pm_sls r + pm_sls t
    rw [ih]; omega
theorem pm_sls_set (h : pm_H) : ∀ (k : Nat) (x y : pm_E), h[k]? = some x → pm_sl y = pm_sl x → pm_sls (h.set k y) = pm_sls h := by
  induction h with
  | nil => intro k x y hk; cases hk
  | cons e r ih =>
    intro k x y hk hy
    cases k with
    | zero =>
      cases hk
      show pm_sl y + pm_sls r = pm_sl e + pm_sls r
      rw [hy]
    | succ k =>
      show pm_sl e + pm_sls (r.set k y) = pm_sl e + pm_sls r
      rw [ih k x y hk hy]
/-- the heap H holds the cells h -/
def pm_P (D : va_G) (cl : List vw_C) (cA : Nat → ClassId) (b base : Nat) (h : pm_H) (H : Heap) : Prop := H.size = base + h.length ∧ va_P D cl (pm_ws (pm_tr cA b base) base h) H
theorem pm_sh_c (b base : Nat) (v : Value) : (pm_sh b base v).category = v.category := by cases v <;> rfl
theorem pm_cell_s {h : pm_H} {a : Nat} {e : pm_E} (q : pm_cell h a = some e) : ∃ k, a = k + 1 ∧ h[k]? = some e := by
  cases a with
  | zero => cases q
  | succ k => exact ⟨k, rfl, by rw [← pm_nth_eq]; exact q⟩
theorem pm_at {D : va_G} {cl : List vw_C} {cA : Nat → ClassId} {b base : Nat} {h : pm_H} {H : Heap} {k : Nat} {e : pm_E} (q : h[k]? = some e) : (pm_ws (pm_tr cA b base) base h)[k]? = some (base + k, pm_tr cA b base e) := by
  rw [pm_ws_get, q]; rfl
/-- variables -/
def pm_lv (b base : Nat) (l : pm_L) : pm_L := l.map (fun q => (q.1, pm_sh b base q.2))
theorem pm_lv_in {b base : Nat} {l : pm_L} {i : Nat} {v : Value} (h : (i, v) ∈ l) : (i, pm_sh b base v) ∈ pm_lv b base l := List.mem_map.mpr ⟨(i, v), h, rfl⟩
theorem pm_lv_get {b base : Nat} {l : pm_L} {i : Nat} {v : Value} {ls : Array Slot} {nL : Nat} (hl : lv_has ls nL (pm_lv b base l)) (h : pm_get l i = some v) : ls[i]? = some (.val (pm_sh b base v)) := hl.2.2 _ (pm_lv_in (pm_get_mem h))
theorem pm_lv_k {b base : Nat} {l : pm_L} {i : Nat} {v : Value} (h : pm_get l i = some v) : ∃ k : Nat, (pm_lv b base l)[k]? = some (i, pm_sh b base v) := List.getElem?_of_mem (pm_lv_in (pm_get_mem h))
theorem pm_c2_cat (v : Value) : (v.category == 2) = pm_c2 v := by cases v <;> rfl
theorem pm_st1_sub {b base i : Nat} {l : pm_L} {q : Nat × Value} (h : q ∈ pm_lv b base (pm_st1 i l)) : q ∈ (pm_lv b base l).filter (fun q => !(q.1 == i) && !(q.1 + 1 == i && q.2.category == 2)) := by
  obtain ⟨x, hx, rfl⟩ := List.mem_map.mp h
  rw [List.mem_filter]
  induction l with
  | nil => cases hx
  | cons y r ih =>
    unfold pm_st1 at hx
    split at hx
    · rename_i e1 e2
      rcases List.mem_cons.mp hx with rfl | hx
      · refine ⟨List.mem_map.mpr ⟨x, List.mem_cons_self, rfl⟩, ?_⟩
        have e3 : (x.1 == i) = false := by
          cases e4 : (x.1 == i) with
          | false => rfl
          | true => rw [beq_iff_eq] at e4; rw [e4] at e1; simp at e1
        have e5 : (x.1 + 1 == i && (pm_sh b base x.2).category == 2) = false := by
          rw [pm_sh_c, pm_c2_cat]
          cases e4 : (x.1 + 1 == i) with
          | false => rfl
          | true =>
            rw [beq_iff_eq] at e4
            rw [e4] at e2
            simpa using e2
        show (!(x.1 == i) && !(x.1 + 1 == i && (pm_sh b base x.2).category == 2)) = true
        rw [e3, e5]; rfl
      · obtain ⟨h1, h2⟩ := ih hx (List.mem_map.mpr ⟨x, hx, rfl⟩)
        exact ⟨by obtain ⟨z, hz, e⟩ := List.mem_map.mp h1; exact List.mem_map.mpr ⟨z, List.mem_cons_of_mem _ hz, e⟩, h2⟩
    · obtain ⟨h1, h2⟩ := ih hx (List.mem_map.mpr ⟨x, hx, rfl⟩)
      exact ⟨by obtain ⟨z, hz, e⟩ := List.mem_map.mp h1; exact List.mem_map.mpr ⟨z, List.mem_cons_of_mem _ hz, e⟩, h2⟩
theorem pm_st2_sub {b base i : Nat} {l : pm_L} {q : Nat × Value} (h : q ∈ pm_lv b base (pm_st2 i l)) : q ∈ (pm_lv b base l).filter (fun q => !(q.1 == i) && (!(q.1 == i + 1) && !(q.1 + 1 == i && q.2.category == 2))) := by
  obtain ⟨x, hx, rfl⟩ := List.mem_map.mp h
  rw [List.mem_filter]
  induction l with
  | nil => cases hx
  | cons y r ih =>
    unfold pm_st2 at hx
    split at hx
    · rename_i e1 e2
      rcases List.mem_cons.mp hx with rfl | hx
      · refine ⟨List.mem_map.mpr ⟨x, List.mem_cons_self, rfl⟩, ?_⟩
        rw [Bool.or_eq_false_iff] at e1
        have e3 : (x.1 == i) = false := by
          cases e4 : (x.1 == i) with
          | false => rfl
          | true => rw [beq_iff_eq] at e4; have := e1.1; rw [e4] at this; simp at this
        have e6 : (x.1 == i + 1) = false := by
          cases e4 : (x.1 == i + 1) with
          | false => rfl
          | true => rw [beq_iff_eq] at e4; have := e1.2; rw [e4] at this; simp at this
        have e5 : (x.1 + 1 == i && (pm_sh b base x.2).category == 2) = false := by
          rw [pm_sh_c, pm_c2_cat]
          cases e4 : (x.1 + 1 == i) with
          | false => rfl
          | true =>
            rw [beq_iff_eq] at e4
            rw [e4] at e2
            simpa using e2
        show (!(x.1 == i) && (!(x.1 == i + 1) && !(x.1 + 1 == i && (pm_sh b base x.2).category == 2))) = true
        rw [e3, e5, e6]; rfl
      · obtain ⟨h1, h2⟩ := ih hx (List.mem_map.mpr ⟨x, hx, rfl⟩)
        exact ⟨by obtain ⟨z, hz, e⟩ := List.mem_map.mp h1; exact List.mem_map.mpr ⟨z, List.mem_cons_of_mem _ hz, e⟩, h2⟩
    · obtain ⟨h1, h2⟩ := ih hx (List.mem_map.mpr ⟨x, hx, rfl⟩)
      exact ⟨by obtain ⟨z, hz, e⟩ := List.mem_map.mp h1; exact List.mem_map.mpr ⟨z, List.mem_cons_of_mem _ hz, e⟩, h2⟩
/-- of a list of variables, a smaller one -/
theorem pm_has_sub {ls : Array Slot} {nL : Nat} {l l' : pm_L} (h : lv_has ls nL l) (hs : ∀ q ∈ l', q ∈ l) : lv_has ls nL l' := ⟨h.1, h.2.1, fun q hq => h.2.2 q (hs q hq)⟩
theorem pm_has1 {ls : Array Slot} {nL b base i : Nat} {v : Value} {l : pm_L} (h : lv_has ls nL ((i, pm_sh b base v) :: (pm_lv b base l).filter (fun q => !(q.1 == i) && !(q.1 + 1 == i && q.2.category == 2)))) : lv_has ls nL (pm_lv b base ((i, v) :: pm_st1 i l)) := by
  refine pm_has_sub h fun q hq => ?_
  rcases List.mem_cons.mp (show q ∈ (i, pm_sh b base v) :: pm_lv b base (pm_st1 i l) from hq) with rfl | hq
  · exact List.mem_cons_self
  · exact List.mem_cons_of_mem _ (pm_st1_sub hq)
theorem pm_has2 {ls : Array Slot} {nL b base i : Nat} {v : Value} {l : pm_L} (h : lv_has ls nL ((i, pm_sh b base v) :: (pm_lv b base l).filter (fun q => !(q.1 == i) && (!(q.1 == i + 1) && !(q.1 + 1 == i && q.2.category == 2))))) : lv_has ls nL (pm_lv b base ((i, v) :: pm_st2 i l)) := by
  refine pm_has_sub h fun q hq => ?_
  rcases List.mem_cons.mp (show q ∈ (i, pm_sh b base v) :: pm_lv b base (pm_st2 i l) from hq) with rfl | hq
  · exact List.mem_cons_self
  · exact List.mem_cons_of_mem _ (pm_st2_sub hq)
theorem pm_args (b base : Nat) (vs : List Value) : ∀ i, lv_args i (vs.map (pm_sh b base)) = pm_lv b base (lv_args i vs) := by
  induction vs with
  | nil => intro i; rfl
  | cons v r ih =>
    intro i
    show (i, pm_sh b base v) :: lv_args (if (pm_sh b base v).category = 2 then i + 2 else i + 1) (r.map (pm_sh b base)) = (i, pm_sh b base v) :: pm_lv b base (lv_args (if v.category = 2 then i + 2 else i + 1) r)
    rw [pm_sh_c, ih]
end
section
/-! the groups of instructions over the kit's rows: the stack, variables, jumps -/
theorem pm_no {α : Type} {P : Prop} {x : α} (h : (none : Option α) = some x) : P := by cases h
theorem pm_ii_s {st st' : List Value} {f : Int32 → Int32 → Value} (h : pm_ii st f = some st') : ∃ x y r, st = .int y :: .int x :: r ∧ st' = f x y :: r := by
  unfold pm_ii at h; split at h
  · cases h; exact ⟨_, _, _, rfl, rfl⟩
  · cases h
theorem pm_iz_s {st st' : List Value} {f : Int32 → Int32 → Value} (h : pm_iz st f = some st') : ∃ x y r, st = .int y :: .int x :: r ∧ ¬ y = 0 ∧ st' = f x y :: r := by
  unfold pm_iz at h; split at h
  · split at h
    · cases h
    · rename_i h0; cases h; exact ⟨_, _, _, rfl, h0, rfl⟩
  · cases h
theorem pm_ll_s {st st' : List Value} {f : Int64 → Int64 → Value} (h : pm_ll st f = some st') : ∃ x y r, st = .long y :: .long x :: r ∧ st' = f x y :: r := by
  unfold pm_ll at h; split at h
  · cases h; exact ⟨_, _, _, rfl, rfl⟩
  · cases h
theorem pm_lz_s {st st' : List Value} {f : Int64 → Int64 → Value} (h : pm_lz st f = some st') : ∃ x y r, st = .long y :: .long x :: r ∧ ¬ y = 0 ∧ st' = f x y :: r := by
  unfold pm_lz at h; split at h
  · split at h
    · cases h
    · rename_i h0; cases h; exact ⟨_, _, _, rfl, h0, rfl⟩
  · cases h
theorem pm_li_s {st st' : List Value} {f : Int64 → Int32 → Value} (h : pm_li st f = some st') : ∃ x y r, st = .int y :: .long x :: r ∧ st' = f x y :: r := by
  unfold pm_li at h; split at h
  · cases h; exact ⟨_, _, _, rfl, rfl⟩
  · cases h
theorem pm_i1_s {st st' : List Value} {f : Int32 → Value} (h : pm_i1 st f = some st') : ∃ x r, st = .int x :: r ∧ st' = f x :: r := by
  unfold pm_i1 at h; split at h
  · cases h; exact ⟨_, _, rfl, rfl⟩
  · cases h
theorem pm_l1_s {st st' : List Value} {f : Int64 → Value} (h : pm_l1 st f = some st') : ∃ x r, st = .long x :: r ∧ st' = f x :: r := by
  unfold pm_l1 at h; split at h
  · cases h; exact ⟨_, _, rfl, rfl⟩
  · cases h
theorem pm_c1 {v : Value} (h : pm_c2 v = false) : v.category = 1 := by cases v <;> first | rfl | cases h
theorem pm_dup_s {st st' : List Value} (h : pm_dup st = some st') : ∃ v r, st = v :: r ∧ v.category = 1 ∧ st' = v :: v :: r := by
  unfold pm_dup at h; split at h
  · split at h
    · cases h
    · rename_i h0; cases h; exact ⟨_, _, rfl, pm_c1 h0, rfl⟩
  · cases h
theorem pm_pop_s {st st' : List Value} (h : pm_pop st = some st') : ∃ v, st = v :: st' ∧ v.category = 1 := by
  unfold pm_pop at h; split at h
  · split at h
    · cases h
    · rename_i h0; cases h; exact ⟨_, rfl, pm_c1 h0⟩
  · cases h
theorem pm_dup2_s {st st' : List Value} (h : pm_dup2 st = some st') : ∃ v w r, st = v :: w :: r ∧ v.category = 1 ∧ w.category = 1 ∧ st' = v :: w :: v :: w :: r := by
  unfold pm_dup2 at h; split at h
  · split at h
    · rename_i h0 h1; cases h; exact ⟨_, _, _, rfl, pm_c1 h0, pm_c1 h1, rfl⟩
    · cases h
  · cases h
section PM1
variable {p : Program} {l : Launch} {e : Env} {R : Room} {s : State} {m : MethodId} {args : Array Value} {below : List Frame} {meth : Method} {c : Code} {H : Heap} {locs : List Loc} {cells slots : Nat} {Q : State → Prop}
variable {cc : ByteArray} {pc : Nat} {ls : Array Slot} {b base : Nat}
theorem pm_g0 {i : Instr} {cst : Int} {st st' : List Value} {own : String} (hx : p.tables.exec = Jvm.exec) (hb : c.code = cc) (hdg : decode cc pc = .ok (i, pm_aln i)) (hown : s.vm.findClass own = some m.cls)
    (hcI : ∀ x, i = .ldc x ∨ i = .ldc_w x → (Jvm.Cond.constant own x (Int32.ofInt cst)).before args s = true) (hcL : ∀ x, i = .ldc2_w x → (Jvm.Cond.constantLong own x (Int64.ofInt cst)).before args s = true)
    (h : pm_alu i cst st = some st') (kk : W p l e R s m args below meth c H locs cells slots Q (F0 m (pc + pm_aln i) ls (st'.map (pm_sh b base)))) : W p l e R s m args below meth c H locs cells slots Q (F0 m pc ls (st.map (pm_sh b base))) := by
  cases i
  case iconst n => cases h; exact lv_iconst hx hb hdg rfl kk
  case bipush n => cases h; exact lv_bipush hx hb hdg rfl kk
  case sipush n => cases h; exact lv_sipush hx hb hdg rfl kk
  case lconst n => cases h; exact lv_lconst hx hb hdg rfl kk
  case ldc n => cases h; exact lv_ldc hx hb hown (hcI n (Or.inl rfl)) hdg kk
  case ldc_w n => cases h; exact lv_ldcw hx hb hown (hcI n (Or.inr rfl)) hdg kk
  case ldc2_w n => cases h; exact lv_ldc2 hx hb hown (hcL n rfl) hdg kk
  case aconst_null => cases h; exact lv_null hx hb hdg kk
  case iadd => obtain ⟨x, y, r, rfl, rfl⟩ := pm_ii_s h; exact lv_iadd hx hb hdg kk
  case isub => obtain ⟨x, y, r, rfl, rfl⟩ := pm_ii_s h; exact lv_isub hx hb hdg kk
  case imul => obtain ⟨x, y, r, rfl, rfl⟩ := pm_ii_s h; exact lv_imul hx hb hdg kk
  case iand => obtain ⟨x, y, r, rfl, rfl⟩ := pm_ii_s h; exact lv_iand hx hb hdg kk
  case ior => obtain ⟨x, y, r, rfl, rfl⟩ := pm_ii_s h; exact lv_ior hx hb hdg kk
  case ishl => obtain ⟨x, y, r, rfl, rfl⟩ := pm_ii_s h; exact lv_ishl hx hb hdg kk
  case ishr => obtain ⟨x, y, r, rfl, rfl⟩ := pm_ii_s h; exact lv_ishr hx hb hdg kk
  case idiv => obtain ⟨x, y, r, rfl, h0, rfl⟩ := pm_iz_s h; exact lv_idiv hx hb hdg h0 kk
  case irem => obtain ⟨x, y, r, rfl, h0, rfl⟩ := pm_iz_s h; exact lv_irem hx hb hdg h0 kk
  case ineg => obtain ⟨x, r, rfl, rfl⟩ := pm_i1_s h; exact lv_ineg hx hb hdg kk
  case ladd => obtain ⟨x, y, r, rfl, rfl⟩ := pm_ll_s h; exact lv_ladd hx hb hdg kk
  case lsub => obtain ⟨x, y, r, rfl, rfl⟩ := pm_ll_s h; exact lv_lsub hx hb hdg kk
  case lmul => obtain ⟨x, y, r, rfl, rfl⟩ := pm_ll_s h; exact lv_lmul hx hb hdg kk
  case land => obtain ⟨x, y, r, rfl, rfl⟩ := pm_ll_s h; exact lv_land hx hb hdg kk
  case lor => obtain ⟨x, y, r, rfl, rfl⟩ := pm_ll_s h; exact lv_lor hx hb hdg kk
  case lxor => obtain ⟨x, y, r, rfl, rfl⟩ := pm_ll_s h; exact lv_lxor hx hb hdg kk
  case ldiv => obtain ⟨x, y, r, rfl, h0, rfl⟩ := pm_lz_s h; exact lv_ldiv hx hb hdg h0 kk
  case lrem => obtain ⟨x, y, r, rfl, h0, rfl⟩ := pm_lz_s h; exact lv_lrem hx hb hdg h0 kk
  case lcmp => obtain ⟨x, y, r, rfl, rfl⟩ := pm_ll_s h; exact W.lcmp hx hb hdg kk
  case lneg => obtain ⟨x, r, rfl, rfl⟩ := pm_l1_s h; exact lv_lneg hx hb hdg kk
  case lshl => obtain ⟨x, y, r, rfl, rfl⟩ := pm_li_s h; exact lv_lshl hx hb hdg rfl kk
  case lshr => obtain ⟨x, y, r, rfl, rfl⟩ := pm_li_s h; exact lv_lshr hx hb hdg rfl kk
  case i2l => obtain ⟨x, r, rfl, rfl⟩ := pm_i1_s h; exact lv_i2l hx hb hdg rfl kk
  case l2i => obtain ⟨x, r, rfl, rfl⟩ := pm_l1_s h; exact lv_l2i hx hb hdg rfl kk
  case i2b => obtain ⟨x, r, rfl, rfl⟩ := pm_i1_s h; exact lv_i2b hx hb hdg rfl kk
  case dup => obtain ⟨v, r, rfl, hc, rfl⟩ := pm_dup_s h; exact lv_dup hx hb hdg (by rw [pm_sh_c]; exact hc) kk
  case pop => obtain ⟨v, rfl, hc⟩ := pm_pop_s h; exact lv_pop hx hb hdg (by rw [pm_sh_c]; exact hc) kk
  case dup2 => obtain ⟨v, w, r, rfl, h1, h2, rfl⟩ := pm_dup2_s h; exact lv_dup2_11 hx hb hdg (by rw [pm_sh_c]; exact h1) (by rw [pm_sh_c]; exact h2) kk
  all_goals exact pm_no h
theorem pm_ldi_s {lv : pm_L} {i : Nat} {v : Value} (h : pm_ldi lv i = some v) : ∃ x, v = .int x ∧ pm_get lv i = some (.int x) := by
  unfold pm_ldi at h; split at h
  · rename_i e; cases h; exact ⟨_, rfl, e⟩
  · cases h
theorem pm_ldl_s {lv : pm_L} {i : Nat} {v : Value} (h : pm_ldl lv i = some v) : ∃ x, v = .long x ∧ pm_get lv i = some (.long x) := by
  unfold pm_ldl at h; split at h
  · rename_i e; cases h; exact ⟨_, rfl, e⟩
  · cases h
theorem pm_lda_s {lv : pm_L} {i : Nat} {v : Value} (h : pm_lda lv i = some v) : (∃ x, v = .ref x ∧ pm_get lv i = some (.ref x)) ∨ (v = .null ∧ pm_get lv i = some .null) := by
  unfold pm_lda at h; split at h
  · rename_i e; cases h; exact Or.inl ⟨_, rfl, e⟩
  · rename_i e; cases h; exact Or.inr ⟨rfl, e⟩
  · cases h
theorem pm_g1 {i : Instr} {st : List Value} {v : Value} {lv : pm_L} {nL : Nat} (hx : p.tables.exec = Jvm.exec) (hb : c.code = cc) (hdg : decode cc pc = .ok (i, pm_ldn i)) (hl : lv_has ls nL (pm_lv b base lv))
    (h : pm_ld i lv = some v) (kk : W p l e R s m args below meth c H locs cells slots Q (F0 m (pc + pm_ldn i) ls ((v :: st).map (pm_sh b base)))) : W p l e R s m args below meth c H locs cells slots Q (F0 m pc ls (st.map (pm_sh b base))) := by
  cases i
  case iload_n n => obtain ⟨x, rfl, hg⟩ := pm_ldi_s h; exact lv_iload_n hx hb hdg rfl (pm_lv_get hl hg) kk
  case iload n => obtain ⟨x, rfl, hg⟩ := pm_ldi_s h; exact lv_iload hx hb hdg (pm_lv_get hl hg) kk
  case lload_n n => obtain ⟨x, rfl, hg⟩ := pm_ldl_s h; exact lv_lload_n hx hb hdg rfl (pm_lv_get hl hg) kk
  case lload n => obtain ⟨x, rfl, hg⟩ := pm_ldl_s h; exact lv_lload hx hb hdg (pm_lv_get hl hg) kk
  case aload_n n =>
    rcases pm_lda_s h with ⟨x, rfl, hg⟩ | ⟨rfl, hg⟩
    · exact lv_aload_n hx hb hdg rfl (pm_lv_get hl hg) kk
    · exact lv_aload_nN hx hb hdg rfl (pm_lv_get hl hg) kk
  case aload n =>
    rcases pm_lda_s h with ⟨x, rfl, hg⟩ | ⟨rfl, hg⟩
    · exact lv_aload hx hb hdg (pm_lv_get hl hg) kk
    · exact lv_aloadN hx hb hdg (pm_lv_get hl hg) kk
  all_goals exact pm_no h
theorem pm_sti_s {nL i : Nat} {lv lv' : pm_L} {st st' : List Value} (h : pm_sti nL i lv st = some (lv', st')) : ∃ x, st = .int x :: st' ∧ i < nL ∧ lv' = (i, .int x) :: pm_st1 i lv := by
  unfold pm_sti at h; split at h
  · split at h
    · rename_i h0; cases h; exact ⟨_, rfl, Nat.le_of_ble_eq_true h0, rfl⟩
    · cases h
  · cases h
theorem pm_stl_s {nL i : Nat} {lv lv' : pm_L} {st st' : List Value} (h : pm_stl nL i lv st = some (lv', st')) : ∃ x, st = .long x :: st' ∧ i + 1 < nL ∧ lv' = (i, .long x) :: pm_st2 i lv := by
  unfold pm_stl at h; split at h
  · split at h
    · rename_i h0; cases h; exact ⟨_, rfl, Nat.le_of_ble_eq_true h0, rfl⟩
    · cases h
  · cases h
theorem pm_sta_s {nL i : Nat} {lv lv' : pm_L} {st st' : List Value} (h : pm_sta nL i lv st = some (lv', st')) : i < nL ∧ ((∃ x, st = .ref x :: st' ∧ lv' = (i, .ref x) :: pm_st1 i lv) ∨ (st = .null :: st' ∧ lv' = (i, .null) :: pm_st1 i lv)) := by
  unfold pm_sta at h; split at h
  · split at h
    · rename_i h0; cases h; exact ⟨Nat.le_of_ble_eq_true h0, Or.inl ⟨_, rfl, rfl⟩⟩
    · cases h
  · split at h
    · rename_i h0; cases h; exact ⟨Nat.le_of_ble_eq_true h0, Or.inr ⟨rfl, rfl⟩⟩
    · cases h
  · cases h
theorem pm_inc_s {nL i : Nat} {n : Int} {lv lv' : pm_L} {st st' : List Value} (h : pm_inc nL i n lv st = some (lv', st')) : ∃ x, pm_get lv i = some (.int x) ∧ st' = st ∧ i < nL ∧ lv' = (i, .int (x + Int32.ofInt n)) :: pm_st1 i lv := by
  unfold pm_inc at h; split at h
  · rename_i e
    split at h
    · rename_i h0; cases h; exact ⟨_, e, rfl, Nat.le_of_ble_eq_true h0, rfl⟩
    · cases h
  · cases h
theorem pm_g2 {i : Instr} {st st' : List Value} {lv lv' : pm_L} {nL : Nat} (hx : p.tables.exec = Jvm.exec) (hb : c.code = cc) (hdg : decode cc pc = .ok (i, pm_ston i)) (hl : lv_has ls nL (pm_lv b base lv))
    (h : pm_sto nL i lv st = some (lv', st')) (kk : ∀ ls' : Array Slot, lv_has ls' nL (pm_lv b base lv') → W p l e R s m args below meth c H locs cells slots Q (F0 m (pc + pm_ston i) ls' (st'.map (pm_sh b base)))) : W p l e R s m args below meth c H locs cells slots Q (F0 m pc ls (st.map (pm_sh b base))) := by
  cases i
  case istore_n n => obtain ⟨x, rfl, hn, rfl⟩ := pm_sti_s h; exact lv_istore_n hx hb hdg rfl hl hn rfl (fun ls' hl' => kk ls' (pm_has1 (v := .int x) hl'))
  case istore n => obtain ⟨x, rfl, hn, rfl⟩ := pm_sti_s h; exact lv_istore hx hb hdg hl hn rfl (fun ls' hl' => kk ls' (pm_has1 (v := .int x) hl'))
  case lstore_n n => obtain ⟨x, rfl, hn, rfl⟩ := pm_stl_s h; exact lv_lstore_n hx hb hdg rfl hl hn rfl (fun ls' hl' => kk ls' (pm_has2 (v := .long x) hl'))
  case lstore n => obtain ⟨x, rfl, hn, rfl⟩ := pm_stl_s h; exact lv_lstore hx hb hdg hl hn rfl (fun ls' hl' => kk ls' (pm_has2 (v := .long x) hl'))
  case astore_n n =>
    obtain ⟨hn, ⟨x, rfl, rfl⟩ | ⟨rfl, rfl⟩⟩ := pm_sta_s h
    · exact lv_astore_n hx hb hdg rfl hl hn rfl (fun ls' hl' => kk ls' (pm_has1 (v := .ref x) hl'))
    · exact lv_astore_nN hx hb hdg rfl hl hn rfl (fun ls' hl' => kk ls' (pm_has1 (v := .null) hl'))
  case astore n =>
    obtain ⟨hn, ⟨x, rfl, rfl⟩ | ⟨rfl, rfl⟩⟩ := pm_sta_s h
    · exact lv_astore hx hb hdg hl hn rfl (fun ls' hl' => kk ls' (pm_has1 (v := .ref x) hl'))
    · exact lv_astoreN hx hb hdg hl hn rfl (fun ls' hl' => kk ls' (pm_has1 (v := .null) hl'))
  case iinc n d =>
    obtain ⟨x, hg, rfl, hn, rfl⟩ := pm_inc_s h
    obtain ⟨k, hk⟩ := pm_lv_k (b := b) (base := base) hg
    exact lv_iinc hx hb hdg hl hk rfl hn rfl (fun ls' hl' => kk ls' (pm_has1 (v := .int (x + Int32.ofInt d)) hl'))
  all_goals exact pm_no h
theorem pm_if_s {P : Prop} {inst : Decidable P} {t pc0 pc' : Nat} {r st' : List Value} (h : pm_if (decide P) t pc0 r = some (pc', st')) : st' = r ∧ (P → pc' = t) ∧ (¬ P → pc' = pc0 + 3) := by
  unfold pm_if at h
  by_cases hP : P
  · rw [decide_eq_true hP] at h; cases h; exact ⟨rfl, fun _ => rfl, fun q => absurd hP q⟩
  · rw [decide_eq_false hP] at h; cases h; exact ⟨rfl, fun q => absurd q hP, fun _ => rfl⟩
theorem pm_sw_s {pc0 pc' : Nat} {off : Int} {r st' : List Value} (h : pm_sw pc0 off r = some (pc', st')) : st' = r ∧ (pc0 : Int) + off = (pc' : Int) := by
  unfold pm_sw at h; split at h
  · rename_i e; cases h; exact ⟨rfl, e⟩
  · cases h
def pm_tgt (i : Instr) (pc t : Nat) : Bool := match i with
  | .goto off => decide ((pc : Int) + off = (t : Int))
  | .ifCond _ off => decide ((pc : Int) + off = (t : Int))
  | .if_icmp _ off => decide ((pc : Int) + off = (t : Int))
  | .ifnull off => decide ((pc : Int) + off = (t : Int))
  | .ifnonnull off => decide ((pc : Int) + off = (t : Int))
  | _ => true
theorem pm_g3 {i : Instr} {n t pc' : Nat} {st st' : List Value} (hx : p.tables.exec = Jvm.exec) (hb : c.code = cc) (hdg : decode cc pc = .ok (i, n)) (hn : n = 3 ∨ ∃ a b c d, i = .tableswitch a b c d) (ht : pm_tgt i pc t = true)
    (h : pm_jmp i pc t st = some (pc', st')) (kk : W p l e R s m args below meth c H locs cells slots Q (F0 m pc' ls (st'.map (pm_sh b base)))) : W p l e R s m args below meth c H locs cells slots Q (F0 m pc ls (st.map (pm_sh b base))) := by
  cases i
  case goto off =>
    obtain rfl : n = 3 := by rcases hn with h | ⟨a, b, c, d, h⟩; exact h; cases h
    cases h; exact lv_goto hx hb hdg (of_decide_eq_true ht) kk
  case ifCond cd off =>
    obtain rfl : n = 3 := by rcases hn with h | ⟨a, b, c, d, h⟩; exact h; cases h
    have htt := of_decide_eq_true ht
    simp only [pm_jmp] at h
    split at h
    · cases cd
      · obtain ⟨rfl, h1, h2⟩ := pm_if_s h
        exact lv_if_eq hx hb hdg htt (fun q => by rw [← h1 q]; exact kk) (fun q => by rw [← h2 q]; exact kk)
      · obtain ⟨rfl, h1, h2⟩ := pm_if_s h
        exact lv_if_ne hx hb hdg htt (fun q => by rw [← h1 q]; exact kk) (fun q => by rw [← h2 (fun z => z q)]; exact kk)
      · obtain ⟨rfl, h1, h2⟩ := pm_if_s h
        exact lv_if_lt hx hb hdg htt (fun q => by rw [← h1 q]; exact kk) (fun q => by rw [← h2 q]; exact kk)
      · obtain ⟨rfl, h1, h2⟩ := pm_if_s h
        exact lv_if_ge hx hb hdg htt (fun q => by rw [← h1 q]; exact kk) (fun q => by rw [← h2 q]; exact kk)
      · obtain ⟨rfl, h1, h2⟩ := pm_if_s h
        exact lv_if_gt hx hb hdg htt (fun q => by rw [← h1 q]; exact kk) (fun q => by rw [← h2 q]; exact kk)
      · obtain ⟨rfl, h1, h2⟩ := pm_if_s h
        exact lv_if_le hx hb hdg htt (fun q => by rw [← h1 q]; exact kk) (fun q => by rw [← h2 q]; exact kk)
    · cases h
  case if_icmp cd off =>
    obtain rfl : n = 3 := by rcases hn with h | ⟨a, b, c, d, h⟩; exact h; cases h
    have htt := of_decide_eq_true ht
    simp only [pm_jmp] at h
    split at h
    · cases cd
      · obtain ⟨rfl, h1, h2⟩ := pm_if_s h
        exact lv_icmp_eq hx hb hdg htt (fun q => by rw [← h1 q]; exact kk) (fun q => by rw [← h2 q]; exact kk)
      · obtain ⟨rfl, h1, h2⟩ := pm_if_s h
        exact lv_icmp_ne hx hb hdg htt (fun q => by rw [← h1 q]; exact kk) (fun q => by rw [← h2 (fun z => z q)]; exact kk)
      · obtain ⟨rfl, h1, h2⟩ := pm_if_s h
        exact lv_icmp_lt hx hb hdg htt (fun q => by rw [← h1 q]; exact kk) (fun q => by rw [← h2 q]; exact kk)
      · obtain ⟨rfl, h1, h2⟩ := pm_if_s h
        exact lv_icmp_ge hx hb hdg htt (fun q => by rw [← h1 q]; exact kk) (fun q => by rw [← h2 q]; exact kk)
      · obtain ⟨rfl, h1, h2⟩ := pm_if_s h
        exact lv_icmp_gt hx hb hdg htt (fun q => by rw [← h1 q]; exact kk) (fun q => by rw [← h2 q]; exact kk)
      · obtain ⟨rfl, h1, h2⟩ := pm_if_s h
        exact lv_icmp_le hx hb hdg htt (fun q => by rw [← h1 q]; exact kk) (fun q => by rw [← h2 q]; exact kk)
    · cases h
  case ifnull off =>
    obtain rfl : n = 3 := by rcases hn with h | ⟨a, b, c, d, h⟩; exact h; cases h
    have htt := of_decide_eq_true ht
    simp only [pm_jmp] at h
    split at h
    · cases h; exact lv_ifnullN hx hb hdg htt kk
    · cases h; exact lv_ifnull hx hb hdg kk
    · cases h
  case ifnonnull off =>
    obtain rfl : n = 3 := by rcases hn with h | ⟨a, b, c, d, h⟩; exact h; cases h
    have htt := of_decide_eq_true ht
    simp only [pm_jmp] at h
    split at h
    · cases h; exact lv_ifnonnullN hx hb hdg kk
    · cases h; exact lv_ifnonnull hx hb hdg htt kk
    · cases h
  case tableswitch dflt lo hi offs =>
    simp only [pm_jmp] at h
    split at h
    · split at h
      · rename_i h0
        obtain ⟨rfl, h1⟩ := pm_sw_s h
        exact lv_tableOut hx hb hdg h0 h1 kk
      · rename_i h0
        rw [not_or] at h0
        split at h
        · rename_i h2
          obtain ⟨rfl, h1⟩ := pm_sw_s h
          exact lv_tableIn hx hb hdg h0.1 h0.2 h2 h1 kk
        · cases h
    · cases h
  all_goals exact pm_no h
end PM1
end
section
/-! the instructions that read and write cells, over the kit's rows -/
def pm_tyc (ty : FieldType) : Int := match ty with
  | .int => 0
  | .long => 1
  | .boolean => 2
  | .object _ => 3
  | .array _ => 3
  | _ => 9
theorem pm_fit_ok {ty : FieldType} {v : Value} {b base : Nat} (h : pm_fit (pm_tyc ty) v = true) : narrow ty (pm_sh b base v) = pm_sh b base v ∧ fits ty (pm_sh b base v) = true := by
  cases ty <;> cases v <;> first
    | exact ⟨rfl, rfl⟩
    | cases h
    | (rename_i x
       have h2 : (decide (x = 0) || decide (x = 1)) = true := h
       rw [Bool.or_eq_true, decide_eq_true_eq, decide_eq_true_eq] at h2
       rcases h2 with rfl | rfl <;> exact ⟨rfl, rfl⟩)
def pm_tys (RD : String) (cA : Nat → ClassId) : List (ClassId × FieldType) := [(cA 0, .int), (cA 1, .long), (cA 2, .byte), (cA 3, .boolean), (cA 4, .array .long), (cA 5, .array .int), (cA 6, .object RD)]
/-- what the tables say of the classes -/
def pm_clOk (cl : List vw_C) (TB : List Cond) (cs : Nat → List Value) : Prop := ∀ (ci : Nat) (C : String) (T : u_T) (N : Nat), cl[ci]? = some (C, T, N) →
  (∀ w ∈ u_ws C T N, w ∈ TB) ∧ (∀ a, a < N → ∀ b, b < N → a ≠ b → (T a).2.1 ≠ (T b).2.1) ∧ (∃ ty0 : Nat → FieldType, (∀ k, k < N → parseFieldDescriptor (T k).2.2.1 = some (ty0 k)) ∧ ∀ j, j < N → defaultValue (ty0 j) = vp_V (cs ci) j) ∧ (cs ci).length = N ∧ ∀ v ∈ cs ci, ∀ b base, pm_sh b base v = v
/-- what the tables say of an instruction that works on cells -/
def pm_okm (cl : List vw_C) (TB : List Cond) (RD own mname : String) (i : Instr) (r1 r2 : Nat) (cst : Int) : Prop := match i with
  | .getfield x => ∃ (C : String) (T : u_T) (N : Nat), cl[r1]? = some (C, T, N) ∧ r2 < N ∧ Jvm.Cond.fieldLink own x (T r2).1 (T r2).2.1 (T r2).2.2.1 ∈ TB
  | .putfield x => ∃ (C : String) (T : u_T) (N : Nat) (ty : FieldType), cl[r1]? = some (C, T, N) ∧ r2 < N ∧ Jvm.Cond.fieldLink own x (T r2).1 (T r2).2.1 (T r2).2.2.1 ∈ TB ∧ parseFieldDescriptor (T r2).2.2.1 = some ty ∧ pm_tyc ty = cst ∧ ((T r2).2.2.2 = true → mname = "<init>" ∧ (T r2).1 = own)
  | .newarray ty => Jvm.Cond.arrayClass (newarray.typeOf ty) ∈ TB
  | .anewarray x => Jvm.Cond.classLink own x RD ∈ TB ∧ Jvm.Cond.arrayOver (.object RD) ∈ TB
  | .multianewarray x d => d = 2 ∧ ((r1 = 4 ∧ r2 = 1 ∧ Jvm.Cond.classLink own x ("[" ++ (FieldType.array .long).toString) ∈ TB ∧ Jvm.Cond.arrayOver (.array .long) ∈ TB ∧ Jvm.Cond.arrayClass .long ∈ TB) ∨ (r1 = 5 ∧ r2 = 0 ∧ Jvm.Cond.classLink own x ("[" ++ (FieldType.array .int).toString) ∈ TB ∧ Jvm.Cond.arrayOver (.array .int) ∈ TB ∧ Jvm.Cond.arrayClass .int ∈ TB))
  | .new x => ∃ (C : String) (T : u_T) (N : Nat), cl[r1]? = some (C, T, N) ∧ Jvm.Cond.classLink own x C ∈ TB ∧ Jvm.Cond.instantiable C N ∈ TB ∧ Jvm.Cond.initialized C ∈ TB
  | .aastore => ∃ (T : u_T) (N : Nat), cl[r1]? = some (RD, T, N)
  | _ => True
theorem pm_ix_s {i : Int32} {n j : Nat} (h : pm_ix i n = some j) : vp_in i n ∧ j = i.toNatClampNeg := by
  unfold pm_ix at h; split at h
  · cases h
  · rename_i h0
    split at h
    · cases h
    · rename_i h1
      cases h
      refine ⟨fun q => ?_, rfl⟩
      rcases q with q | q
      · exact h0 q
      · rw [Nat.ble_eq_true_of_le q] at h1; cases h1
theorem pm_psh_s {h h' : pm_H} {r st' : List Value} {v : Option Value} (q : pm_psh h r v = some (st', h')) : ∃ x, v = some x ∧ st' = x :: r ∧ h' = h := by
  unfold pm_psh at q; split at q
  · cases q; exact ⟨_, rfl, rfl, rfl⟩
  · cases q
theorem pm_wrs_s {h h' : pm_H} {a : Nat} {r st' : List Value} {e : Option pm_E} (q : pm_wrs h a r e = some (st', h')) : ∃ x, e = some x ∧ st' = r ∧ h' = pm_wr h a x := by
  unfold pm_wrs at q; split at q
  · cases q; exact ⟨_, rfl, rfl, rfl⟩
  · cases q
theorem pm_wr_s (h : pm_H) (k : Nat) (x : pm_E) : pm_wr h (k + 1) x = h.set k x := pm_put_eq h x k
theorem pm_beq {a b : Nat} (h : Nat.beq a b = true) : a = b := Nat.eq_of_beq_eq_true h
/-- the heap is as long as our cells say -/
theorem pm_size {D : va_G} {cl : List vw_C} {g : pm_E → va_E} {base n0 cells : Nat} {h : pm_H} {H H0 : Heap} {A : Nat → Prop} {locs : List Loc} (hP : va_P D cl (pm_ws g base h) H) (hS : va_S A H0 H locs) (h0 : H0.size = base + n0) (hc : cells + n0 = h.length) (hX : H.size ≤ H0.size + cells) : H.size = base + h.length := by
  have h1 := hS.1
  by_cases e : h.length = 0
  · omega
  · have hlt : h.length - 1 < h.length := by omega
    have hk : (pm_ws g base h)[h.length - 1]? = some (base + (h.length - 1), g h[h.length - 1]) := by rw [pm_ws_get, List.getElem?_eq_getElem hlt]; rfl
    have := (hP _ _ hk).lt
    have h2 : base + (h.length - 1) < H.size := this
    omega
section PM2
variable {p : Program} {l : Launch} {e : Env} {R : Room} {s : State} {m : MethodId} {args : Array Value} {below : List Frame} {meth : Method} {c : Code} {H : Heap} {locs : List Loc} {cells slots : Nat} {Q : State → Prop}
theorem pm_bound {g : JFrame} (k : H.size ≤ s.heap.size + cells → W p l e R s m args below meth c H locs cells slots Q g) : W p l e R s m args below meth c H locs cells slots Q g := fun T hT X => k (by rw [← hT]; exact X.heapSize) T hT X
variable {cc : ByteArray} {pc : Nat} {ls : Array Slot} {b base : Nat} {D : va_G} {cl : List vw_C} {cA : Nat → ClassId} {RD own : String} {TB : List Cond} {cs : Nat → List Value} {h : pm_H} {r : List Value}
theorem pm_gf_s {r1 r2 : Nat} {o : Option pm_E} {v : Value} (q : pm_gf r1 r2 o = some v) : ∃ fs, o = some (.inr (r1, fs)) ∧ fs[r2]? = some v := by
  unfold pm_gf at q; split at q
  · split at q
    · rename_i e1; cases pm_beq e1; rw [pm_nth_eq] at q; exact ⟨_, rfl, q⟩
    · cases q
  · cases q
/-- getfield -/
theorem pm_getfield {r1 r2 x a : Nat} {v : Value} (hx : p.tables.exec = Jvm.exec) (hb : c.code = cc) (hts : ∀ w ∈ TB, w.before args s = true) (hcl : pm_clOk cl TB cs) (hown : s.vm.findClass own = some m.cls) (hK : va_K D cl (pm_tys RD cA) s) (hP : va_P D cl (pm_ws (pm_tr cA b base) base h) H)
    (hok : pm_okm cl TB RD own meth.name (.getfield x) r1 r2 0) (hdg : decode cc pc = .ok (.getfield x, 3)) (q : pm_gf r1 r2 (pm_cell h a) = some v)
    (kk : W p l e R s m args below meth c H locs cells slots Q (F0 m (pc + 3) ls (pm_sh b base v :: r))) : W p l e R s m args below meth c H locs cells slots Q (F0 m pc ls (.ref (pm_ad b base a) :: r)) := by
  obtain ⟨fs, q1, q2⟩ := pm_gf_s q
  obtain ⟨k, rfl, q3⟩ := pm_cell_s q1
  obtain ⟨C, T, N, o1, o2, o3⟩ := hok
  exact va_get hx hb hts (hcl _ _ _ _ o1).1 hown hK hP k (pm_at (D := D) (cl := cl) (H := H) q3) o1 r2 o2 (hts _ o3) (fun _ z => z) (by rw [List.getElem?_map, q2]; rfl) hdg kk
theorem pm_pf_s {r1 r2 : Nat} {ty : Int} {v : Value} {o : Option pm_E} {y : pm_E} (q : pm_pf r1 r2 ty v o = some y) : ∃ fs, o = some (.inr (r1, fs)) ∧ pm_fit ty v = true ∧ r2 < fs.length ∧ y = .inr (r1, fs.set r2 v) := by
  unfold pm_pf at q; split at q
  · split at q
    · rename_i e1 e2 e3; cases pm_beq e1; cases q; exact ⟨_, rfl, e2, Nat.le_of_ble_eq_true e3, by rw [pm_put_eq]⟩
    · cases q
  · cases q
/-- putfield -/
theorem pm_putfield {r1 r2 x a : Nat} {cst : Int} {v : Value} {y : pm_E} (hx : p.tables.exec = Jvm.exec) (hb : c.code = cc) (hts : ∀ w ∈ TB, w.before args s = true) (hcl : pm_clOk cl TB cs) (hown : s.vm.findClass own = some m.cls) (hK : va_K D cl (pm_tys RD cA) s) (hP : va_P D cl (pm_ws (pm_tr cA b base) base h) H) (hS : va_S (fun q => base ≤ q) s.heap H locs)
    (hok : pm_okm cl TB RD own meth.name (.putfield x) r1 r2 cst) (hdg : decode cc pc = .ok (.putfield x, 3)) (q : pm_pf r1 r2 cst v (pm_cell h a) = some y)
    (kk : ∀ (H1 : Heap) (locs1 : List Loc), va_P D cl (pm_ws (pm_tr cA b base) base (pm_wr h a y)) H1 → va_S (fun q => base ≤ q) s.heap H1 locs1 → W p l e R s m args below meth c H1 locs1 cells slots Q (F0 m (pc + 3) ls r)) : W p l e R s m args below meth c H locs cells slots Q (F0 m pc ls (pm_sh b base v :: .ref (pm_ad b base a) :: r)) := by
  obtain ⟨fs, q1, q2, q4, rfl⟩ := pm_pf_s q
  obtain ⟨k, rfl, q3⟩ := pm_cell_s q1
  obtain ⟨C, T, N, ty, o1, o2, o3, o4, rfl, o6⟩ := hok
  obtain ⟨c1, c2, ⟨ty0, c3, -⟩, -⟩ := hcl _ _ _ _ o1
  obtain ⟨f1, f2⟩ := pm_fit_ok (b := b) (base := base) q2
  have hD := pm_ws_D (pm_tr cA b base) base h
  have hk : ∀ (H1 : Heap) (locs1 : List Loc), va_P D cl ((pm_ws (pm_tr cA b base) base h).set k (base + k, .inr (r1, (fs.map (pm_sh b base)).set r2 (pm_sh b base v)))) H1 → va_D (fun q => base ≤ q) ((pm_ws (pm_tr cA b base) base h).set k (base + k, .inr (r1, (fs.map (pm_sh b base)).set r2 (pm_sh b base v)))) → va_S (fun q => base ≤ q) s.heap H1 locs1 → W p l e R s m args below meth c H1 locs1 cells slots Q (F0 m (pc + 3) ls r) := by
    intro H1 locs1 hP1 _ hS1
    refine kk H1 locs1 ?_ hS1
    rw [pm_wr_s, ← pm_ws_set]
    have e9 : pm_tr cA b base (.inr (r1, fs.set r2 v)) = .inr (r1, (fs.map (pm_sh b base)).set r2 (pm_sh b base v)) := by
      show Sum.inr (r1, (fs.set r2 v).map (pm_sh b base)) = _
      rw [List.map_set]
    rw [e9]
    exact hP1
  cases hfin : (T r2).2.2.2 with
  | false => exact va_put hx hb hts c1 ty0 c3 c2 hown hK hP hD hS k (pm_at (D := D) (cl := cl) (H := H) q3) o1 r2 o2 (hts _ o3) (fun _ z => z) hfin o4 f1 f2 (by rw [List.length_map]; exact q4) hdg hk
  | true => exact va_putF hx hb hts c1 ty0 c3 c2 hown hK hP hD hS k (pm_at (D := D) (cl := cl) (H := H) q3) o1 r2 o2 (hts _ o3) (fun _ z => z) hfin (o6 hfin).1 (o6 hfin).2 o4 f1 f2 (by rw [List.length_map]; exact q4) hdg hk
/-- array loads -/
theorem pm_iaload {a : Nat} {i : Int32} {v : Value} (hx : p.tables.exec = Jvm.exec) (hb : c.code = cc) (hK : va_K D cl (pm_tys RD cA) s) (hP : va_P D cl (pm_ws (pm_tr cA b base) base h) H) (hdg : decode cc pc = .ok (.iaload, 1)) (q : pm_rdi i (pm_cell h a) = some v)
    (kk : W p l e R s m args below meth c H locs cells slots Q (F0 m (pc + 1) ls (pm_sh b base v :: r))) : W p l e R s m args below meth c H locs cells slots Q (F0 m pc ls (.int i :: .ref (pm_ad b base a) :: r)) := by
  unfold pm_rdi at q
  split at q
  · rename_i e1
    split at q
    · rename_i e2
      split at q
      · rename_i e3
        cases q
        cases pm_beq e2
        obtain ⟨hin, rfl⟩ := pm_ix_s e3
        obtain ⟨k, rfl, q3⟩ := pm_cell_s e1
        exact va_iald hx hb hK hP k 0 (pm_at (D := D) (cl := cl) (H := H) q3) rfl hin hdg kk
      · cases q
    · cases q
  · cases q
theorem pm_laload {a : Nat} {i : Int32} {v : Value} (hx : p.tables.exec = Jvm.exec) (hb : c.code = cc) (hK : va_K D cl (pm_tys RD cA) s) (hP : va_P D cl (pm_ws (pm_tr cA b base) base h) H) (hdg : decode cc pc = .ok (.laload, 1)) (q : pm_rdl i (pm_cell h a) = some v)
    (kk : W p l e R s m args below meth c H locs cells slots Q (F0 m (pc + 1) ls (pm_sh b base v :: r))) : W p l e R s m args below meth c H locs cells slots Q (F0 m pc ls (.int i :: .ref (pm_ad b base a) :: r)) := by
  unfold pm_rdl at q
  split at q
  · rename_i e1
    split at q
    · rename_i e2
      split at q
      · rename_i e3
        cases q
        cases pm_beq e2
        obtain ⟨hin, rfl⟩ := pm_ix_s e3
        obtain ⟨k, rfl, q3⟩ := pm_cell_s e1
        exact va_lald hx hb hK hP k 1 (pm_at (D := D) (cl := cl) (H := H) q3) rfl hin hdg kk
      · cases q
    · cases q
  · cases q
theorem pm_baload {a : Nat} {i : Int32} {v : Value} (hx : p.tables.exec = Jvm.exec) (hb : c.code = cc) (hK : va_K D cl (pm_tys RD cA) s) (hP : va_P D cl (pm_ws (pm_tr cA b base) base h) H) (hdg : decode cc pc = .ok (.baload, 1)) (q : pm_rdb i (pm_cell h a) = some v)
    (kk : W p l e R s m args below meth c H locs cells slots Q (F0 m (pc + 1) ls (pm_sh b base v :: r))) : W p l e R s m args below meth c H locs cells slots Q (F0 m pc ls (.int i :: .ref (pm_ad b base a) :: r)) := by
  unfold pm_rdb at q
  split at q
  · rename_i kd n f e1
    split at q
    · cases q
    · rename_i e2
      split at q
      · rename_i e3
        cases q
        obtain ⟨hin, rfl⟩ := pm_ix_s e3
        obtain ⟨k, rfl, q3⟩ := pm_cell_s e1
        cases e4 : Nat.beq kd 2 with
        | true =>
          cases pm_beq e4
          exact va_bald hx hb hK hP k 2 (pm_at (D := D) (cl := cl) (H := H) q3) rfl hin hdg kk
        | false =>
          cases e5 : Nat.beq kd 3 with
          | true =>
            cases pm_beq e5
            exact va_zald hx hb hK hP k 3 (pm_at (D := D) (cl := cl) (H := H) q3) rfl hin hdg kk
          | false => exact (e2 e4 e5).elim
      · cases q
  · cases q
theorem pm_rf (o : Option Nat) : pm_sh b base (va_rf o) = va_rf (o.map (pm_ad b base)) := by cases o <;> rfl
theorem pm_aaload {a : Nat} {i : Int32} {v : Value} (hx : p.tables.exec = Jvm.exec) (hb : c.code = cc) (hK : va_K D cl (pm_tys RD cA) s) (hP : va_P D cl (pm_ws (pm_tr cA b base) base h) H) (hdg : decode cc pc = .ok (.aaload, 1)) (q : pm_rda i (pm_cell h a) = some v)
    (kk : W p l e R s m args below meth c H locs cells slots Q (F0 m (pc + 1) ls (pm_sh b base v :: r))) : W p l e R s m args below meth c H locs cells slots Q (F0 m pc ls (.int i :: .ref (pm_ad b base a) :: r)) := by
  unfold pm_rda at q
  split at q
  · rename_i kd n f e1
    split at q
    · cases q
    · rename_i e2
      split at q
      · rename_i e3
        cases q
        obtain ⟨hin, rfl⟩ := pm_ix_s e3
        obtain ⟨k, rfl, q3⟩ := pm_cell_s e1
        rw [pm_rf] at kk
        have hlt : i.toNatClampNeg < n := Nat.not_le.mp fun z => hin (Or.inr z)
        have key : ∀ (t0 : Nat) (ty : FieldType), (pm_tys RD cA)[t0]? = some (cA kd, ty) → ty.isReference = true → W p l e R s m args below meth c H locs cells slots Q (F0 m pc ls (.int i :: .ref (base + k) :: r)) := fun t0 ty ht hr =>
          W.aald (v := va_rf ((f i.toNatClampNeg).map (pm_ad b base))) (ty := ty) hx hb (hP k _ (pm_at (D := D) (cl := cl) (H := H) q3)) ((hK.2 t0 _ ht).1 n (fun j => va_rf ((f j).map (pm_ad b base)))) hr (fun z => by cases z) (by show ¬ (i < 0 ∨ (arrV _ _ _).slots.size ≤ _); rw [arrV_size]; exact hin) (by show (arrV _ _ _).slots[_]? = _; rw [arrV_read _ _ hlt]) rfl rfl hdg kk
        cases e4 : Nat.beq kd 4 with
        | true => cases pm_beq e4; exact key 4 _ rfl rfl
        | false =>
          cases e5 : Nat.beq kd 5 with
          | true => cases pm_beq e5; exact key 5 _ rfl rfl
          | false =>
            cases e6 : Nat.beq kd 6 with
            | true => cases pm_beq e6; exact key 6 _ rfl rfl
            | false => exact (e2 e4 e5 e6).elim
      · cases q
  · cases q
end PM2
end
section
/-! array stores, lengths, the script, new cells -/
section PM3
variable {p : Program} {l : Launch} {e : Env} {R : Room} {s : State} {m : MethodId} {args : Array Value} {below : List Frame} {meth : Method} {c : Code} {H : Heap} {locs : List Loc} {cells slots : Nat} {Q : State → Prop}
variable {cc : ByteArray} {pc : Nat} {ls : Array Slot} {b base : Nat} {D : va_G} {cl : List vw_C} {cA : Nat → ClassId} {RD own : String} {TB : List Cond} {cs : Nat → List Value} {h : pm_H} {r : List Value}
theorem pm_iastore {a : Nat} {i x : Int32} {y : pm_E} (hx : p.tables.exec = Jvm.exec) (hb : c.code = cc) (hK : va_K D cl (pm_tys RD cA) s) (hP : va_P D cl (pm_ws (pm_tr cA b base) base h) H) (hS : va_S (fun q => base ≤ q) s.heap H locs) (hdg : decode cc pc = .ok (.iastore, 1)) (q : pm_wri i x (pm_cell h a) = some y)
    (kk : ∀ (H1 : Heap) (locs1 : List Loc), va_P D cl (pm_ws (pm_tr cA b base) base (pm_wr h a y)) H1 → va_S (fun q => base ≤ q) s.heap H1 locs1 → W p l e R s m args below meth c H1 locs1 cells slots Q (F0 m (pc + 1) ls r)) : W p l e R s m args below meth c H locs cells slots Q (F0 m pc ls (.int x :: .int i :: .ref (pm_ad b base a) :: r)) := by
  unfold pm_wri at q
  split at q
  · rename_i e1
    split at q
    · rename_i e2
      split at q
      · rename_i e3
        cases q
        cases pm_beq e2
        obtain ⟨hin, rfl⟩ := pm_ix_s e3
        obtain ⟨k, rfl, q3⟩ := pm_cell_s e1
        refine va_iast hx hb hK hP (pm_ws_D _ base h) hS k 0 (pm_at (D := D) (cl := cl) (H := H) q3) rfl hin hdg (fun H1 locs1 hP1 _ hS1 => kk H1 locs1 ?_ hS1)
        rw [pm_wr_s, ← pm_ws_set]
        exact hP1
      · cases q
    · cases q
  · cases q
theorem pm_lastore {a : Nat} {i : Int32} {x : Int64} {y : pm_E} (hx : p.tables.exec = Jvm.exec) (hb : c.code = cc) (hK : va_K D cl (pm_tys RD cA) s) (hP : va_P D cl (pm_ws (pm_tr cA b base) base h) H) (hS : va_S (fun q => base ≤ q) s.heap H locs) (hdg : decode cc pc = .ok (.lastore, 1)) (q : pm_wrl i x (pm_cell h a) = some y)
    (kk : ∀ (H1 : Heap) (locs1 : List Loc), va_P D cl (pm_ws (pm_tr cA b base) base (pm_wr h a y)) H1 → va_S (fun q => base ≤ q) s.heap H1 locs1 → W p l e R s m args below meth c H1 locs1 cells slots Q (F0 m (pc + 1) ls r)) : W p l e R s m args below meth c H locs cells slots Q (F0 m pc ls (.long x :: .int i :: .ref (pm_ad b base a) :: r)) := by
  unfold pm_wrl at q
  split at q
  · rename_i e1
    split at q
    · rename_i e2
      split at q
      · rename_i e3
        cases q
        cases pm_beq e2
        obtain ⟨hin, rfl⟩ := pm_ix_s e3
        obtain ⟨k, rfl, q3⟩ := pm_cell_s e1
        refine va_last hx hb hK hP (pm_ws_D _ base h) hS k 1 (pm_at (D := D) (cl := cl) (H := H) q3) rfl hin hdg (fun H1 locs1 hP1 _ hS1 => kk H1 locs1 ?_ hS1)
        rw [pm_wr_s, ← pm_ws_set]
        exact hP1
      · cases q
    · cases q
  · cases q
theorem pm_bastore {a : Nat} {i x : Int32} {y : pm_E} (hx : p.tables.exec = Jvm.exec) (hb : c.code = cc) (hK : va_K D cl (pm_tys RD cA) s) (hP : va_P D cl (pm_ws (pm_tr cA b base) base h) H) (hS : va_S (fun q => base ≤ q) s.heap H locs) (hdg : decode cc pc = .ok (.bastore, 1)) (q : pm_wrb i x (pm_cell h a) = some y)
    (kk : ∀ (H1 : Heap) (locs1 : List Loc), va_P D cl (pm_ws (pm_tr cA b base) base (pm_wr h a y)) H1 → va_S (fun q => base ≤ q) s.heap H1 locs1 → W p l e R s m args below meth c H1 locs1 cells slots Q (F0 m (pc + 1) ls r)) : W p l e R s m args below meth c H locs cells slots Q (F0 m pc ls (.int x :: .int i :: .ref (pm_ad b base a) :: r)) := by
  unfold pm_wrb at q
  split at q
  · rename_i e1
    split at q
    · rename_i e2
      split at q
      · rename_i e3
        cases q
        cases pm_beq e2
        obtain ⟨hin, rfl⟩ := pm_ix_s e3
        obtain ⟨k, rfl, q3⟩ := pm_cell_s e1
        refine va_bast hx hb hK hP (pm_ws_D _ base h) hS k 2 (pm_at (D := D) (cl := cl) (H := H) q3) rfl hin hdg (fun H1 locs1 hP1 _ hS1 => kk H1 locs1 ?_ hS1)
        rw [pm_wr_s, ← pm_ws_set]
        exact hP1
      · cases q
    · rename_i e2 _
      split at q
      · rename_i e3
        cases q
        cases pm_beq e2
        obtain ⟨hin, rfl⟩ := pm_ix_s e3
        obtain ⟨k, rfl, q3⟩ := pm_cell_s e1
        refine va_zast hx hb hK hP (pm_ws_D _ base h) hS k 3 (pm_at (D := D) (cl := cl) (H := H) q3) rfl hin hdg (fun H1 locs1 hP1 _ hS1 => kk H1 locs1 ?_ hS1)
        rw [pm_wr_s, ← pm_ws_set]
        exact hP1
      · cases q
    · cases q
  · cases q
theorem pm_aastore {a x ci : Nat} {i : Int32} {y : pm_E} {T : u_T} {N : Nat} (hx : p.tables.exec = Jvm.exec) (hb : c.code = cc) (hK : va_K D cl (pm_tys RD cA) s) (hP : va_P D cl (pm_ws (pm_tr cA b base) base h) H) (hS : va_S (fun q => base ≤ q) s.heap H locs) (hci : cl[ci]? = some (RD, T, N)) (hdg : decode cc pc = .ok (.aastore, 1)) (q : pm_wra ci i x (pm_cell h x) (pm_cell h a) = some y)
    (kk : ∀ (H1 : Heap) (locs1 : List Loc), va_P D cl (pm_ws (pm_tr cA b base) base (pm_wr h a y)) H1 → va_S (fun q => base ≤ q) s.heap H1 locs1 → W p l e R s m args below meth c H1 locs1 cells slots Q (F0 m (pc + 1) ls r)) : W p l e R s m args below meth c H locs cells slots Q (F0 m pc ls (.ref (pm_ad b base x) :: .int i :: .ref (pm_ad b base a) :: r)) := by
  unfold pm_wra at q
  split at q
  · rename_i k9 n f c9 fs e1 e0
    split at q
    · rename_i e2 e4
      split at q
      · rename_i e3
        cases q
        cases pm_beq e2
        cases pm_beq e4
        obtain ⟨hin, rfl⟩ := pm_ix_s e3
        obtain ⟨k, rfl, q3⟩ := pm_cell_s e1
        obtain ⟨kx, rfl, q4⟩ := pm_cell_s e0
        refine va_astq (r := (RD, T, N)) hx hb hK hP (pm_ws_D _ base h) hS k 6 kx ci (pm_at (D := D) (cl := cl) (H := H) q3) rfl (pm_at (D := D) (cl := cl) (H := H) q4) hci hin hdg (fun H1 locs1 hP1 _ hS1 => kk H1 locs1 ?_ hS1)
        rw [pm_wr_s, ← pm_ws_set]
        have e9 : pm_tr cA b base (.inl (6, n, .inr (.inr (.inr (.inr (va_up f i.toNatClampNeg (some (kx + 1)))))))) = .inl (cA 6, n, .inr (.inr (.inr (.inr (va_up (fun j => (f j).map (pm_ad b base)) i.toNatClampNeg (some (base + kx))))))) := by
          show Sum.inl (cA 6, n, Sum.inr (Sum.inr (Sum.inr (Sum.inr (fun j => (va_up f i.toNatClampNeg (some (kx + 1)) j).map (pm_ad b base)))))) = _
          congr 7
          funext j
          unfold va_up
          split <;> rfl
        rw [e9]
        exact hP1
      · cases q
    · cases q
  · cases q
theorem pm_arraylength {a : Nat} {v : Value} (hx : p.tables.exec = Jvm.exec) (hb : c.code = cc) (hK : va_K D cl (pm_tys RD cA) s) (hP : va_P D cl (pm_ws (pm_tr cA b base) base h) H) (hdg : decode cc pc = .ok (.arraylength, 1)) (q : pm_len (pm_cell h a) = some v)
    (kk : W p l e R s m args below meth c H locs cells slots Q (F0 m (pc + 1) ls (pm_sh b base v :: r))) : W p l e R s m args below meth c H locs cells slots Q (F0 m pc ls (.ref (pm_ad b base a) :: r)) := by
  unfold pm_len at q
  split at q
  · rename_i kd n f e1
    split at q
    · rename_i e2
      cases q
      obtain ⟨k, rfl, q3⟩ := pm_cell_s e1
      have hle := Nat.le_of_ble_eq_true e2
      have key : ∀ ty : FieldType, (pm_tys RD cA)[kd]? = some (cA kd, ty) → W p l e R s m args below meth c H locs cells slots Q (F0 m pc ls (.ref (base + k) :: r)) := by
        intro ty ht
        obtain f | f | f | f | f := f
        · exact va_alen (x := (n, .inl f)) hx hb hK hP k kd (pm_at (D := D) (cl := cl) (H := H) q3) ht rfl hdg kk
        · exact va_alen (x := (n, .inr (.inl f))) hx hb hK hP k kd (pm_at (D := D) (cl := cl) (H := H) q3) ht rfl hdg kk
        · exact va_alen (x := (n, .inr (.inr (.inl f)))) hx hb hK hP k kd (pm_at (D := D) (cl := cl) (H := H) q3) ht rfl hdg kk
        · exact va_alen (x := (n, .inr (.inr (.inr (.inl f))))) hx hb hK hP k kd (pm_at (D := D) (cl := cl) (H := H) q3) ht rfl hdg kk
        · exact va_alen (x := (n, .inr (.inr (.inr (.inr (fun j => (f j).map (pm_ad b base))))))) hx hb hK hP k kd (pm_at (D := D) (cl := cl) (H := H) q3) ht rfl hdg kk
      rcases (show kd = 0 ∨ kd = 1 ∨ kd = 2 ∨ kd = 3 ∨ kd = 4 ∨ kd = 5 ∨ kd = 6 by omega) with rfl | rfl | rfl | rfl | rfl | rfl | rfl <;> exact key _ rfl
    · cases q
  · cases q
/-- a new cell at the end of the heap -/
theorem pm_grow {H1 : Heap} {x : pm_E} (hP : va_P D cl (pm_ws (pm_tr cA b base) base h) H) (hS : va_S (fun q => base ≤ q) s.heap H locs) (hz : H.size = base + h.length) (z1 : H1.size = H.size + 1) (o1 : ∀ q : Nat, q < H.size → H1[q]? = H[q]?) (hat : va_at D cl (base + h.length, pm_tr cA b base x) H1) :
    va_P D cl (pm_ws (pm_tr cA b base) base (h ++ [x])) H1 ∧ va_S (fun q => base ≤ q) s.heap H1 locs := by
  refine ⟨?_, Nat.le_trans hS.1 (by omega), fun q h1 h2 => (o1 q (Nat.lt_of_lt_of_le h1 hS.1)).trans (hS.2.1 q h1 h2), hS.2.2⟩
  rw [pm_ws_app]
  refine (hP.kept (fun k q hk => o1 q.1 ((hP k q hk).lt))).app (fun k q hk => ?_)
  have hk0 : k < 1 := (List.getElem?_eq_some_iff.mp hk).1
  rw [show k = 0 by omega] at hk
  cases hk
  exact hat
theorem pm_sz_s {n : Int32} {N : Nat} (q : pm_sz n = some N) : ¬ n < 0 ∧ n.toNatClampNeg = N ∧ N ≤ 67108864 := by
  unfold pm_sz at q; split at q
  · cases q
  · rename_i h0
    split at q
    · rename_i h1; cases q; exact ⟨h0, rfl, Nat.le_of_ble_eq_true h1⟩
    · cases q
theorem pm_nwa_s {h h' : pm_H} {r st' : List Value} {n : Int32} {f : Nat → pm_E} (q : pm_nwa h r n f = some (st', h')) : ∃ N, ¬ n < 0 ∧ n.toNatClampNeg = N ∧ N ≤ 67108864 ∧ st' = .ref (h.length + 1) :: r ∧ h' = h ++ [f N] := by
  unfold pm_nwa at q; split at q
  · rename_i e1
    obtain ⟨a1, a2, a3⟩ := pm_sz_s e1
    cases q
    exact ⟨_, a1, a2, a3, rfl, rfl⟩
  · cases q
theorem pm_newarray {aty : ArrayType} {ty : FieldType} {kd n0 : Nat} {n : Int32} {N : Nat} {x : pm_E} (hx : p.tables.exec = Jvm.exec) (hb : c.code = cc) (harr : (Jvm.Cond.arrayClass (newarray.typeOf aty)).before args s = true) (hty : newarray.typeOf aty = ty) (hprim : ∀ C, ty ≠ .object C) (hK : va_K D cl (pm_tys RD cA) s) (hP : va_P D cl (pm_ws (pm_tr cA b base) base h) H) (hS : va_S (fun q => base ≤ q) s.heap H locs) (h0 : s.heap.size = base + n0) (hc : cells + n0 = h.length)
    (hkd : (pm_tys RD cA)[kd]? = some (cA kd, ty)) (hcell : ∃ a0, pm_tr cA b base x = .inl (cA kd, a0) ∧ vp_cell (cA kd) a0 = arrV (cA kd) N (fun _ => defaultValue ty)) (hcb : componentBytes ty ≤ 8) (hn : ¬ n < 0) (hN : n.toNatClampNeg = N) (hN2 : N ≤ 67108864) (hcells : cells + 1 ≤ R.cells) (hslots : slots + N ≤ R.slots) (hdg : decode cc pc = .ok (.newarray aty, 2))
    (kk : ∀ H1 : Heap, va_P D cl (pm_ws (pm_tr cA b base) base (h ++ [x])) H1 → va_S (fun q => base ≤ q) s.heap H1 locs → W p l e R s m args below meth c H1 locs (cells + 1) (slots + N) Q (F0 m (pc + 2) ls (.ref (base + h.length) :: r))) : W p l e R s m args below meth c H locs cells slots Q (F0 m pc ls (.int n :: r)) := by
  refine pm_bound fun hbd => ?_
  have hz := pm_size hP hS h0 hc hbd
  subst hty
  refine va_newaK hx hb harr rfl hdg rfl hn hN (Nat.le_trans (Nat.mul_le_mul hN2 hcb) (Nat.le_refl _)) hcells hslots hz fun H1 cA1 e1 z1 o1 hAr hNm => ?_
  have hra := (hK.2 kd _ hkd).2
  have ec : cA1 = cA kd := by
    have h9 : s.vm.findClass ("[" ++ (newarray.typeOf aty).toString) = some (cA kd) := by
      cases aty <;> exact hra
    exact Option.some.inj (hNm.symm.trans h9)
  subst ec
  obtain ⟨a0, t1, t2⟩ := hcell
  obtain ⟨g1, g2⟩ := pm_grow (x := x) hP hS hz (by rw [z1, hz]) (fun q hq => o1 q (by rw [← hz]; exact hq)) (by
    rw [t1]
    show H1[base + h.length]? = some (vp_cell _ _)
    rw [t2]; exact e1)
  exact kk H1 g1 g2
theorem pm_anewarray {n0 x : Nat} {n : Int32} {N : Nat} (hx : p.tables.exec = Jvm.exec) (hb : c.code = cc) (hown : s.vm.findClass own = some m.cls) (hlink : (Jvm.Cond.classLink own x RD).before args s = true) (hover : (Jvm.Cond.arrayOver (.object RD)).before args s = true) (hK : va_K D cl (pm_tys RD cA) s) (hP : va_P D cl (pm_ws (pm_tr cA b base) base h) H) (hS : va_S (fun q => base ≤ q) s.heap H locs) (h0 : s.heap.size = base + n0) (hc : cells + n0 = h.length)
    (hn : ¬ n < 0) (hN : n.toNatClampNeg = N) (hN2 : N ≤ 67108864) (hcells : cells + 1 ≤ R.cells) (hslots : slots + N ≤ R.slots) (hdg : decode cc pc = .ok (.anewarray x, 3))
    (kk : ∀ H1 : Heap, va_P D cl (pm_ws (pm_tr cA b base) base (h ++ [.inl (6, N, .inr (.inr (.inr (.inr (fun _ => none)))))])) H1 → va_S (fun q => base ≤ q) s.heap H1 locs → W p l e R s m args below meth c H1 locs (cells + 1) (slots + N) Q (F0 m (pc + 3) ls (.ref (base + h.length) :: r))) : W p l e R s m args below meth c H locs cells slots Q (F0 m pc ls (.int n :: r)) := by
  refine pm_bound fun hbd => ?_
  have hz := pm_size hP hS h0 hc hbd
  subst hN
  refine W.anew hx hb hown hlink hover rfl hdg rfl hn (by omega) hcells hslots fun cA1 kA comp f1 f2 f3 f4 => ?_
  generalize hH1 : H.push ({ cls := cA1, slots := Array.replicate n.toNatClampNeg .null, vm := .none } : Cell) = H1
  have z1 : H1.size = H.size + 1 := by rw [← hH1, Array.size_push]
  have e1 : H1[H.size]? = some (arrV cA1 n.toNatClampNeg (fun _ => .null)) := by rw [← hH1, Array.getElem?_push_size, ← arrV_new]
  have o1 : ∀ q : Nat, q < H.size → H1[q]? = H[q]? := fun q hq => by rw [← hH1, Array.getElem?_push, if_neg (Nat.ne_of_lt hq)]
  obtain ⟨kA', comp', g1, g2, g3, g4⟩ := (hK.2 6 _ rfl).2
  have ec : cA1 = cA 6 := Option.some.inj (f1.symm.trans g4)
  subst ec
  obtain ⟨u1, u2⟩ := pm_grow (x := .inl (6, n.toNatClampNeg, .inr (.inr (.inr (.inr (fun _ => none)))))) hP hS hz z1 o1 (by
    show H1[base + h.length]? = some (vp_cell _ _)
    rw [← hz, e1]
    rfl)
  rw [hz]
  exact kk H1 u1 u2
theorem pm_newobj {n0 x ci : Nat} {C : String} {T : u_T} {N : Nat} (hx : p.tables.exec = Jvm.exec) (hb : c.code = cc) (hts : ∀ w ∈ TB, w.before args s = true) (hcl : pm_clOk cl TB cs) (hown : s.vm.findClass own = some m.cls) (hci : cl[ci]? = some (C, T, N)) (hlink : (Jvm.Cond.classLink own x C).before args s = true) (hinst : (Jvm.Cond.instantiable C N).before args s = true) (hini : (Jvm.Cond.initialized C).before args s = true)
    (hK : va_K D cl (pm_tys RD cA) s) (hP : va_P D cl (pm_ws (pm_tr cA b base) base h) H) (hS : va_S (fun q => base ≤ q) s.heap H locs) (h0 : s.heap.size = base + n0) (hc : cells + n0 = h.length) (hcells : cells + 1 ≤ R.cells) (hslots : slots + N ≤ R.slots) (hdg : decode cc pc = .ok (.new x, 3))
    (kk : ∀ H1 : Heap, va_P D cl (pm_ws (pm_tr cA b base) base (h ++ [.inr (ci, cs ci)])) H1 → va_S (fun q => base ≤ q) s.heap H1 locs → W p l e R s m args below meth c H1 locs (cells + 1) (slots + N) Q (F0 m (pc + 3) ls (.ref (base + h.length) :: r))) : W p l e R s m args below meth c H locs cells slots Q (F0 m pc ls r) := by
  refine pm_bound fun hbd => ?_
  have hz := pm_size hP hS h0 hc hbd
  obtain ⟨c1, c2, ⟨ty0, c3, c4⟩, c5, c6⟩ := hcl _ _ _ _ hci
  have hKn := hK.1 ci _ hci
  refine W.newcK hx hb hown hlink hinst hini rfl hdg hcells hslots hKn.2.1 hz fun H1 kC hkC e1 z1 o1 => ?_
  have es : (cs ci).map (pm_sh b base) = cs ci := by
    conv => rhs; rw [← List.map_id (cs ci)]
    exact List.map_congr_left (fun v hv => c6 v hv b base)
  obtain ⟨u1, u2⟩ := pm_grow (x := .inr (ci, cs ci)) hP hS hz (by rw [z1, hz]) (fun q hq => o1 q (by rw [← hz]; exact hq)) (by
    show va_at D cl (base + h.length, .inr (ci, (cs ci).map (pm_sh b base))) H1
    rw [es]
    exact ⟨_, hci, (u_born ty0 hts c1 hKn hkC e1 c3).to c4⟩)
  exact kk H1 u1 u2
end PM3
end
section
/-! new T[n][k]: the outer array, then its rows, one behind another -/
def pg_out (cA : ClassId) (N h0 i : Nat) : Cell := arrV cA N (fun j => if j < i then .ref (h0 + 1 + j) else .null)
def pg_row (cI : ClassId) (K : Nat) (dv : Value) : Cell := { cls := cI, slots := Array.replicate K dv, vm := .none }
/-- with i rows laid -/
def pg_st (T : State) (cA cI : ClassId) (N K : Nat) (dv : Value) : Nat → State
  | 0 => T.pushCell (pg_out cA N T.heap.size 0)
  | i + 1 => ((pg_st T cA cI N K dv i).pushCell (pg_row cI K dv)).setCell T.heap.size (pg_out cA N T.heap.size (i + 1))
theorem pg_out_new (cA : ClassId) (N h0 : Nat) : ({ cls := cA, slots := Array.replicate N .null, vm := .none } : Cell) = pg_out cA N h0 0 := by
  rw [arrV_new]
  unfold pg_out
  congr 1
theorem pg_out_set (cA : ClassId) (N h0 i : Nat) : (pg_out cA N h0 i).setSlot i (.ref (h0 + 1 + i)) = pg_out cA N h0 (i + 1) := by
  unfold pg_out
  rw [arrV_store]
  congr 1
  funext j
  unfold updV
  by_cases e : j = i
  · subst e
    rw [if_pos rfl, if_pos (Nat.lt_succ_self j)]
  · rw [if_neg e]
    dsimp only
    by_cases h : j < i
    · rw [if_pos h, if_pos (by omega)]
    · rw [if_neg h, if_neg (by omega)]
theorem pg_row_size (cI : ClassId) (K : Nat) (dv : Value) : (pg_row cI K dv).slots.size = K := by simp [pg_row]
theorem pg_facts (T : State) (cA cI : ClassId) (N K : Nat) (dv : Value) : ∀ i, (pg_st T cA cI N K dv i).heap.size = T.heap.size + 1 + i ∧ (pg_st T cA cI N K dv i).heap[T.heap.size]? = some (pg_out cA N T.heap.size i) ∧ (pg_st T cA cI N K dv i).vm = T.vm ∧ (pg_st T cA cI N K dv i).slotsUsed = T.slotsUsed + N + i * K := by
  intro i
  induction i with
  | zero =>
    refine ⟨by simp [pg_st], by simp [pg_st], rfl, ?_⟩
    show T.slotsUsed + (pg_out cA N T.heap.size 0).slots.size = _
    rw [show (pg_out cA N T.heap.size 0).slots.size = N from arrV_size _ _ _]
    omega
  | succ i ih =>
    obtain ⟨a1, a2, a3, a4⟩ := ih
    have hlt : T.heap.size < (pg_st T cA cI N K dv i).heap.size := by omega
    have hc : ((pg_st T cA cI N K dv i).pushCell (pg_row cI K dv)).heap[T.heap.size]? = some (pg_out cA N T.heap.size i) := (State.heap_pushCell_of_lt _ _ hlt).trans a2
    refine ⟨?_, State.heap_setCell_self hc, a3, ?_⟩
    · show (((pg_st T cA cI N K dv i).heap.push _).setIfInBounds _ _).size = _
      rw [Array.size_setIfInBounds, Array.size_push, a1]
      omega
    · show (pg_st T cA cI N K dv i).slotsUsed + (pg_row cI K dv).slots.size = _
      rw [pg_row_size, a4, Nat.succ_mul]
      omega
theorem pg_old (T : State) (cA cI : ClassId) (N K : Nat) (dv : Value) {a : Nat} (ha : a < T.heap.size) : ∀ i, (pg_st T cA cI N K dv i).heap[a]? = T.heap[a]? := by
  intro i
  induction i with
  | zero => exact State.heap_pushCell_of_lt _ _ ha
  | succ i ih =>
    have h1 := (pg_facts T cA cI N K dv i).1
    refine (State.heap_setCell_other (s := (pg_st T cA cI N K dv i).pushCell (pg_row cI K dv)) (Nat.ne_of_gt ha)).trans ?_
    exact (State.heap_pushCell_of_lt (pg_st T cA cI N K dv i) _ (show a < (pg_st T cA cI N K dv i).heap.size by omega)).trans ih
theorem pg_rows (T : State) (cA cI : ClassId) (N K : Nat) (dv : Value) : ∀ i j, j < i → (pg_st T cA cI N K dv i).heap[T.heap.size + 1 + j]? = some (pg_row cI K dv) := by
  intro i
  induction i with
  | zero => intro j h; omega
  | succ i ih =>
    intro j h
    have h1 := (pg_facts T cA cI N K dv i).1
    refine (State.heap_setCell_other (s := (pg_st T cA cI N K dv i).pushCell (pg_row cI K dv)) (show T.heap.size ≠ T.heap.size + 1 + j by omega)).trans ?_
    by_cases e : j = i
    · subst e
      show ((pg_st T cA cI N K dv j).heap.push _)[_]? = _
      rw [← h1, Array.getElem?_push_size]
    · exact (State.heap_pushCell_of_lt (pg_st T cA cI N K dv i) _ (show T.heap.size + 1 + j < (pg_st T cA cI N K dv i).heap.size by omega)).trans (ih j (by omega))
theorem pg_top (T : State) (f : JFrame) (cA cI : ClassId) (N K : Nat) (dv : Value) : ∀ i, pg_st (T.setTop f) cA cI N K dv i = (pg_st T cA cI N K dv i).setTop f := by
  intro i
  induction i with
  | zero => rfl
  | succ i ih =>
    show ((pg_st (T.setTop f) cA cI N K dv i).pushCell _).setCell _ _ = _
    rw [ih]
    rfl
section PMG
variable {p : Program} {l : Launch} {e : Env} {R : Room} {s : State} {m : MethodId} {args : Array Value} {below : List Frame} {meth : Method} {c : Code} {T : State} {locs : List Loc} {cells slots : Nat}
theorem pg_stand (X : Stand p l e R s m args below meth c T locs cells slots) (cA cI : ClassId) (N K : Nat) (dv : Value) : ∀ i, ∃ L, (∀ q ∈ L, q.base = T.heap.size) ∧ Stand p l e R s m args below meth c (pg_st T cA cI N K dv i) (locs ++ L) (cells + 1 + i) (slots + N + i * K) := by
  intro i
  induction i with
  | zero =>
    have h := X.pushed (pg_out cA N T.heap.size 0)
    rw [show (pg_out cA N T.heap.size 0).slots.size = N from arrV_size _ _ _] at h
    exact ⟨[], fun q h => absurd h List.not_mem_nil, by simpa [pg_st] using h⟩
  | succ i ih =>
    obtain ⟨L, hL, Xi⟩ := ih
    obtain ⟨a1, a2, a3, a4⟩ := pg_facts T cA cI N K dv i
    have hlt : T.heap.size < (pg_st T cA cI N K dv i).heap.size := by omega
    have hc : ((pg_st T cA cI N K dv i).pushCell (pg_row cI K dv)).heap[T.heap.size]? = some (pg_out cA N T.heap.size i) := (State.heap_pushCell_of_lt _ _ hlt).trans a2
    have h := (Xi.pushed (pg_row cI K dv)).stored hc i (.ref (T.heap.size + 1 + i))
    rw [pg_row_size, pg_out_set, List.append_assoc] at h
    refine ⟨L ++ [⟨T.heap.size, i⟩], fun q hq => ?_, ?_⟩
    · rcases List.mem_append.mp hq with h1 | h1
      · exact hL q h1
      · rw [List.mem_singleton.mp h1]
    · rw [show slots + N + (i + 1) * K = slots + N + i * K + K by rw [Nat.succ_mul]; omega]
      exact h
/-- the rows' own making -/
theorem pg_make {E : CtlPost} {d : Bool} {acts : List Action} {S : State} {cA cI cc : ClassId} {kA kI : Class} {t0 ty : FieldType} {n k : Int32} (hkA : S.vm.classes[cA]? = some kA) (hA : kA.kind = .array cI t0) (hr : t0.isReference = true) (hkI : S.vm.classes[cI]? = some kI) (hI : kI.kind = .array cc ty) (hn : ¬ n < 0) (hk : ¬ k < 0)
    (l1 : ¬ n.toNatClampNeg > e.platform.arrayLengthLimit) (b1 : ¬ n.toNatClampNeg * componentBytes t0 > e.platform.maxHeapBytes) (l2 : ¬ k.toNatClampNeg > e.platform.arrayLengthLimit) (b2 : ¬ k.toNatClampNeg * componentBytes ty > e.platform.maxHeapBytes) (hdf : fits ty (defaultValue ty) = true)
    (hc : S.heap.size + 1 + n.toNatClampNeg ≤ e.platform.maxCells) (hs : S.slotsUsed + n.toNatClampNeg + n.toNatClampNeg * k.toNatClampNeg ≤ e.platform.maxSlots)
    {Q : Addr → Pre} (hq : ∀ d' acts', Q S.heap.size d' acts' (pg_st S cA cI n.toNatClampNeg k.toNatClampNeg (defaultValue ty) n.toNatClampNeg)) : wp (multianewarray.make cA [n, k]) Q E e d acts S := by
  have fr : ∀ v : Value, (v = .null ∨ ∃ a, v = .ref a) → fits t0 v = true := by
    intro v hv
    rcases hv with rfl | ⟨a, rfl⟩ <;> cases t0 <;> first | rfl | cases hr
  have hno : ([k].find? (· < 0)) = none := by simp [hk]
  rw [multianewarray.make]
  simp only [wp_bind', W.ite, hn, if_false, wp_pure', W.theClass, hkA, hA, Option.some.injEq, exists_eq_left']
  refine W.newArray_of hkA hA l1 b1 (by omega) (by have := Nat.zero_le (n.toNatClampNeg * k.toNatClampNeg); omega) (fr _ (Or.inl rfl)) fun acts1 => ?_
  simp only [hno]
  rw [ite_self, wp_bind', Std.Legacy.Range.forIn_eq_forIn_range']
  have hsz : ([:n.toNatClampNeg] : Std.Legacy.Range).size = n.toNatClampNeg := by simp [Std.Legacy.Range.size]
  rw [hsz]
  show wp (forIn (List.range' 0 n.toNatClampNeg 1) PUnit.unit _) _ E e d acts1 _
  refine wp_forIn_inv (fun rest s' => ∃ i, i ≤ n.toNatClampNeg ∧ rest = List.range' i (n.toNatClampNeg - i) ∧ s' = pg_st S cA cI n.toNatClampNeg k.toNatClampNeg (defaultValue ty) i) _ _ ⟨0, Nat.zero_le _, rfl, ?_⟩ ?_ ?_
  · show S.pushCell _ = S.pushCell _
    rw [← pg_out_new]
  · rintro x rest s' d' acts' Q' ⟨i, hi, hl, rfl⟩ hnext
    have hlt : i < n.toNatClampNeg := by
      by_cases h9 : i < n.toNatClampNeg
      · exact h9
      · rw [show n.toNatClampNeg - i = 0 by omega] at hl; cases hl
    rw [show n.toNatClampNeg - i = (n.toNatClampNeg - (i + 1)) + 1 by omega, List.range'_succ] at hl
    obtain ⟨rfl, hrest⟩ := List.cons.inj hl
    obtain ⟨a1, a2, a3, a4⟩ := pg_facts S cA cI n.toNatClampNeg k.toNatClampNeg (defaultValue ty) x
    have hm : x * k.toNatClampNeg + k.toNatClampNeg ≤ n.toNatClampNeg * k.toNatClampNeg := by
      have := Nat.mul_le_mul_right k.toNatClampNeg (show x + 1 ≤ n.toNatClampNeg from hlt)
      rw [Nat.succ_mul] at this
      exact this
    simp only [wp_bind']
    rw [multianewarray.make]
    simp only [wp_bind', W.ite, hk, if_false, wp_pure', W.theClass, a3, hkI, hI, Option.some.injEq, exists_eq_left']
    refine W.newArray_of (by rw [a3]; exact hkI) hI l2 b2 (by rw [a1]; omega) (by rw [a4]; omega) hdf fun acts2 => ?_
    have hl0 : S.heap.size < (pg_st S cA cI n.toNatClampNeg k.toNatClampNeg (defaultValue ty) x).heap.size := by rw [a1]; omega
    simp only [wp_bind', W.writeLoc, wp_pure']
    refine ⟨pg_out cA n.toNatClampNeg S.heap.size x, (State.heap_pushCell_of_lt _ _ hl0).trans a2, (fun z => by cases z), by rw [show (pg_out cA n.toNatClampNeg S.heap.size x).slots.size = n.toNatClampNeg from arrV_size _ _ _]; exact hlt, ?_, hnext _ _ _ ⟨x + 1, hlt, hrest, ?_⟩⟩
    · show State.fitsSlot _ cA .none x _ = true
      simp [State.fitsSlot, State.slotType?, a3, hkA, hA, fr _ (Or.inr ⟨_, rfl⟩)]
    · rw [a1, pg_out_set]
      rfl
  · rintro s' d' acts' ⟨i, hi, hl, rfl⟩
    have hiN : i = n.toNatClampNeg := by
      by_cases h9 : i < n.toNatClampNeg
      · rw [show n.toNatClampNeg - i = (n.toNatClampNeg - (i + 1)) + 1 by omega, List.range'_succ] at hl; cases hl
      · omega
    subst hiN
    simp only [wp_pure']
    exact hq _ _
variable {H : Heap} {Q : State → Prop} {cc : ByteArray} {pc : Nat} {ls : Array Slot} {rest : List Value}
/-- the instruction -/
theorem pg_mna {own : String} {index : Nat} {ty : FieldType} (hexec : p.tables.exec = Jvm.exec) (hb : c.code = cc) (hown : s.vm.findClass own = some m.cls) (hclink : (Jvm.Cond.classLink own index ("[" ++ (FieldType.array ty).toString)).before args s = true) (hover : (Jvm.Cond.arrayOver (.array ty)).before args s = true) (harr : (Jvm.Cond.arrayClass ty).before args s = true)
    (hdg : decode cc pc = .ok (.multianewarray index 2, 4)) {n k : Int32} (hn : ¬ n < 0) (hk : ¬ k < 0) (hb1 : n.toNatClampNeg * 4 ≤ 536870912) (hb2 : k.toNatClampNeg * componentBytes ty ≤ 536870912) (hb3 : k.toNatClampNeg ≤ 536870912) (hdf : fits ty (defaultValue ty) = true)
    (hcells : cells + (1 + n.toNatClampNeg) ≤ R.cells) (hslots : slots + (n.toNatClampNeg + n.toNatClampNeg * k.toNatClampNeg) ≤ R.slots)
    (kk : ∀ (H1 : Heap) (cA cI : ClassId), s.vm.findClass ("[" ++ (FieldType.array ty).toString) = some cA → s.vm.findClass (FieldType.array ty).toString = some cI → H1.size = H.size + 1 + n.toNatClampNeg → (∀ q : Nat, q < H.size → H1[q]? = H[q]?) → H1[H.size]? = some (pg_out cA n.toNatClampNeg H.size n.toNatClampNeg) → (∀ j, j < n.toNatClampNeg → H1[H.size + 1 + j]? = some (pg_row cI k.toNatClampNeg (defaultValue ty))) →
      W p l e R s m args below meth c H1 locs (cells + 1 + n.toNatClampNeg) (slots + n.toNatClampNeg + n.toNatClampNeg * k.toNatClampNeg) Q (F0 m (pc + 4) ls (.ref H.size :: rest))) : W p l e R s m args below meth c H locs cells slots Q (F0 m pc ls (.int k :: .int n :: rest)) := by
  intro T hT X
  subst hb
  have hpl : e.platform.magicAccessors = ({} : Platform).magicAccessors := by rw [X.admits.platform]
  obtain ⟨cI, cA, kA, hcI, -, hkA, hA, hnA⟩ := arrayOverA_spec hover
  obtain ⟨cI', kI, cc, hcI', hkI, hI⟩ := Cond.arrayClass_spec harr
  have ei : cI' = cI := Option.some.inj (hcI'.symm.trans hcI)
  subst ei
  obtain ⟨c0, hc0, hcl⟩ := Cond.classLink_spec hown hclink e.platform hpl
  cases hnA.symm.trans hc0
  obtain ⟨hg1, hw1, hr1⟩ := State.classEntry (e := e) X.warmed hcl
  generalize T.vm.noted m.cls index (.cls cA) = vm1 at hg1 hw1 hr1
  have hal : s.vm.Alike vm1 := hw1.alike
  obtain ⟨kA1, hkA1, eA⟩ := hal.2.2 _ _ hkA
  obtain ⟨kI1, hkI1, eI⟩ := hal.2.2 _ _ hkI
  have hA1 : kA1.kind = .array cI' (.array ty) := by rw [eA]; exact hA
  have hI1 : kI1.kind = .array cc ty := by rw [eI]; exact hI
  have X1 := X.noted hw1
  obtain ⟨hr2, hr3⟩ := X.roomAbove hcells hslots
  obtain ⟨L, hL, XF⟩ := pg_stand X1 cA cI' n.toNatClampNeg k.toNatClampNeg (defaultValue ty) n.toNatClampNeg
  obtain ⟨a1, a2, a3, a4⟩ := pg_facts (T.setVm vm1) cA cI' n.toNatClampNeg k.toNatClampNeg (defaultValue ty) n.toNatClampNeg
  have eh : (T.setVm vm1).heap = H := hT
  have hgr : s.heap.size ≤ T.heap.size := X.heapGrown
  have XG := Stand.forget (locs := locs) (extra := L) XF (fun q hq => by rw [hL q hq]; exact hgr)
  generalize hF : pg_st (T.setVm vm1) cA cI' n.toNatClampNeg k.toNatClampNeg (defaultValue ty) n.toNatClampNeg = F at XG a1 a2 a3 a4
  rw [eh] at a1 a2
  obtain ⟨t, k1, k2⟩ := kk F.heap cA cI' hnA hcI a1 (fun q hq => by
      have := pg_old (T.setVm vm1) cA cI' n.toNatClampNeg k.toNatClampNeg (defaultValue ty) (a := q) (by rw [eh]; exact hq) n.toNatClampNeg
      rw [hF, eh] at this
      exact this) a2 (fun j hj => by
      have := pg_rows (T.setVm vm1) cA cI' n.toNatClampNeg k.toNatClampNeg (defaultValue ty) n.toNatClampNeg j hj
      rw [hF, eh] at this
      exact this) F rfl XG
  refine ⟨t, ?_, k2⟩
  have l1 : ¬ n.toNatClampNeg > e.platform.arrayLengthLimit := by rw [Launch.admits_arrayLengthLimit X.admits]; omega
  have b1 : ¬ n.toNatClampNeg * componentBytes (.array ty) > e.platform.maxHeapBytes := by
    rw [Launch.admits_maxHeapBytes X.admits]; show ¬ n.toNatClampNeg * 4 > 536870912; omega
  have l2 : ¬ k.toNatClampNeg > e.platform.arrayLengthLimit := by rw [Launch.admits_arrayLengthLimit X.admits]; omega
  have b2 : ¬ k.toNatClampNeg * componentBytes ty > e.platform.maxHeapBytes := by rw [Launch.admits_maxHeapBytes X.admits]; omega
  jvm_step X.here [hexec, hdg]
  simp only [multianewarray.sem, wp_bind', W.resolveClassAt_links (State.method?_setTop (F0 m pc ls (.int k :: .int n :: rest)) X.here.top) hg1]
  rw [W.popN, if_neg (by decide)]
  refine ⟨F0 m pc ls (.int k :: .int n :: rest), State.topJava?_setTop' (s := T.setVm vm1) (F0 m pc ls (.int k :: .int n :: rest)) X.here.top, [.int n, .int k], rest, rfl, rfl, ?_⟩
  simp only [List.mapM_cons, List.mapM_nil, wp_bind', wp_pure']
  refine pg_make (kA := kA1) (kI := kI1) (cI := cI') (cc := cc) (t0 := .array ty) (ty := ty) hkA1 hA1 rfl hkI1 hI1 hn hk l1 b1 l2 b2 hdf (by show T.heap.size + 1 + _ ≤ _; omega) (by show T.slotsUsed + _ + _ ≤ _; omega) (fun d' acts' => ?_)
  have eS : ((T.setTop (F0 m pc ls (.int k :: .int n :: rest))).setVm vm1).setTop (F0 m pc ls rest) = (T.setVm vm1).setTop (F0 m pc ls rest) := by
    show ((T.setVm vm1).setTop _).setTop _ = _
    rw [State.setTop_setTop]
  rw [eS, pg_top, hF]
  simp only [wp_bind', W.mark, W.pushRef, State.topJava?_setTop' _ XG.here.top, Option.some.injEq, exists_eq_left', State.setTop_setTop, State.heap_setTop]
  intro acts
  simp [jvm, XG.here.top]
  rw [hT]
  exact k1
end PMG
end
section
/-! the group of instructions that work on cells -/
section PM4
variable {p : Program} {l : Launch} {e : Env} {R : Room} {s : State} {m : MethodId} {args : Array Value} {below : List Frame} {meth : Method} {c : Code} {H : Heap} {locs : List Loc} {cells slots : Nat} {Q : State → Prop}
variable {cc : ByteArray} {pc : Nat} {ls : Array Slot} {b base : Nat} {D : va_G} {cl : List vw_C} {cA : Nat → ClassId} {RD own : String} {TB : List Cond} {cs : Nat → List Value} {h : pm_H} {r : List Value}
theorem pm_growL {H1 : Heap} {t : pm_H} (hP : va_P D cl (pm_ws (pm_tr cA b base) base h) H) (hS : va_S (fun q => base ≤ q) s.heap H locs) (hz : H.size = base + h.length) (z1 : H.size ≤ H1.size) (o1 : ∀ q : Nat, q < H.size → H1[q]? = H[q]?) (hat : ∀ (k : Nat) (x : pm_E), t[k]? = some x → va_at D cl (base + h.length + k, pm_tr cA b base x) H1) :
    va_P D cl (pm_ws (pm_tr cA b base) base (h ++ t)) H1 ∧ va_S (fun q => base ≤ q) s.heap H1 locs := by
  refine ⟨?_, Nat.le_trans hS.1 z1, fun q h1 h2 => (o1 q (Nat.lt_of_lt_of_le h1 hS.1)).trans (hS.2.1 q h1 h2), hS.2.2⟩
  rw [pm_ws_app]
  refine (hP.kept (fun k q hk => o1 q.1 ((hP k q hk).lt))).app (fun k q hk => ?_)
  rw [pm_ws_get] at hk
  cases e1 : t[k]? with
  | none => rw [e1] at hk; cases hk
  | some x =>
    rw [e1] at hk
    cases hk
    exact hat k x e1
theorem pm_nwm_s {h h' : pm_H} {r st' : List Value} {r1 r2 : Nat} {n k : Int32} (q : pm_nwm h r r1 r2 n k = some (st', h')) : ∃ N K, (¬ n < 0 ∧ n.toNatClampNeg = N ∧ N ≤ 67108864) ∧ (¬ k < 0 ∧ k.toNatClampNeg = K ∧ K ≤ 67108864) ∧ st' = .ref (h.length + 1) :: r ∧ h' = h ++ (.inl (r1, N, .inr (.inr (.inr (.inr (fun i => if i < N then some (h.length + 2 + i) else none))))) :: List.replicate N (pm_zero r2 K)) := by
  unfold pm_nwm at q; split at q
  · rename_i e1 e2
    cases q
    exact ⟨_, _, pm_sz_s e1, pm_sz_s e2, rfl, rfl⟩
  · cases q
theorem pm_multi {r1 r2 n0 x N K : Nat} {n k : Int32} {ty : FieldType} (hx : p.tables.exec = Jvm.exec) (hb : c.code = cc) (hown : s.vm.findClass own = some m.cls) (hlink : (Jvm.Cond.classLink own x ("[" ++ (FieldType.array ty).toString)).before args s = true) (hover : (Jvm.Cond.arrayOver (.array ty)).before args s = true) (harr : (Jvm.Cond.arrayClass ty).before args s = true)
    (hK : va_K D cl (pm_tys RD cA) s) (hP : va_P D cl (pm_ws (pm_tr cA b base) base h) H) (hS : va_S (fun q => base ≤ q) s.heap H locs) (h0 : s.heap.size = base + n0) (hc : cells + n0 = h.length)
    (hk1 : s.vm.findClass ("[" ++ (FieldType.array ty).toString) = some (cA r1)) (hk2 : s.vm.findClass (FieldType.array ty).toString = some (cA r2)) (hrow : ∃ a0, pm_tr cA b base (pm_zero r2 K) = .inl (cA r2, a0) ∧ vp_cell (cA r2) a0 = arrV (cA r2) K (fun _ => defaultValue ty)) (hcb : componentBytes ty ≤ 8) (hdf : fits ty (defaultValue ty) = true)
    (hn : ¬ n < 0 ∧ n.toNatClampNeg = N ∧ N ≤ 67108864) (hk : ¬ k < 0 ∧ k.toNatClampNeg = K ∧ K ≤ 67108864) (hcells : cells + (1 + N) ≤ R.cells) (hslots : slots + (N + N * K) ≤ R.slots) (hdg : decode cc pc = .ok (.multianewarray x 2, 4))
    (kk : ∀ H1 : Heap, va_P D cl (pm_ws (pm_tr cA b base) base (h ++ (.inl (r1, N, .inr (.inr (.inr (.inr (fun i => if i < N then some (h.length + 2 + i) else none))))) :: List.replicate N (pm_zero r2 K)))) H1 → va_S (fun q => base ≤ q) s.heap H1 locs → W p l e R s m args below meth c H1 locs (cells + 1 + N) (slots + N + N * K) Q (F0 m (pc + 4) ls (.ref (base + h.length) :: r))) : W p l e R s m args below meth c H locs cells slots Q (F0 m pc ls (.int k :: .int n :: r)) := by
  refine pm_bound fun hbd => ?_
  have hz := pm_size hP hS h0 hc hbd
  obtain ⟨n1, rfl, n2⟩ := hn
  obtain ⟨k1, rfl, k2⟩ := hk
  refine pg_mna hx hb hown hlink hover harr hdg n1 k1 (by omega) (Nat.le_trans (Nat.mul_le_mul k2 hcb) (Nat.le_refl _)) (by omega) hdf hcells hslots fun H1 c1 c2 f1 f2 z1 o1 e1 e2 => ?_
  have ec1 : c1 = cA r1 := Option.some.inj (f1.symm.trans hk1)
  have ec2 : c2 = cA r2 := Option.some.inj (f2.symm.trans hk2)
  subst ec1
  subst ec2
  obtain ⟨u1, u2⟩ := pm_growL (t := .inl (r1, n.toNatClampNeg, .inr (.inr (.inr (.inr (fun i => if i < n.toNatClampNeg then some (h.length + 2 + i) else none))))) :: List.replicate n.toNatClampNeg (pm_zero r2 k.toNatClampNeg)) hP hS hz (by omega) o1 (by
    intro j y hj
    cases j with
    | zero =>
      cases hj
      show H1[base + h.length + 0]? = some (vp_cell (cA r1) (n.toNatClampNeg, .inr (.inr (.inr (.inr (fun j => (if j < n.toNatClampNeg then some (h.length + 2 + j) else none).map (pm_ad b base)))))))
      rw [Nat.add_zero, ← hz, e1, vp_cell_q]
      unfold pg_out
      congr 2
      funext j
      by_cases hj : j < n.toNatClampNeg
      · rw [if_pos hj, if_pos hj]
        show Value.ref (H.size + 1 + j) = .ref (pm_ad b base (h.length + 2 + j))
        rw [show h.length + 2 + j = (h.length + 1 + j) + 1 by omega]
        show Value.ref (H.size + 1 + j) = .ref (base + (h.length + 1 + j))
        exact congrArg Value.ref (show H.size + 1 + j = base + (h.length + 1 + j) by omega)
      · rw [if_neg hj, if_neg hj]
        rfl
    | succ j =>
      have hj2 : (List.replicate n.toNatClampNeg (pm_zero r2 k.toNatClampNeg))[j]? = some y := hj
      rw [List.getElem?_replicate] at hj2
      split at hj2
      · rename_i hlt
        cases hj2
        obtain ⟨a0, t1, t2⟩ := hrow
        rw [t1]
        show H1[base + h.length + (j + 1)]? = some (vp_cell (cA r2) a0)
        rw [t2, show base + h.length + (j + 1) = H.size + 1 + j by omega, e2 j hlt]
        unfold pg_row
        rw [arrV_new]
      · cases hj2)
  rw [hz]
  exact kk H1 u1 u2
theorem pm_sls_rep (N K : Nat) (x : pm_E) (hx : pm_sl x = K) : pm_sls (List.replicate N x) = N * K := by
  induction N with
  | zero => simp [pm_sls]
  | succ N ih =>
    rw [List.replicate_succ]
    show pm_sl x + pm_sls (List.replicate N x) = _
    rw [ih, hx, Nat.succ_mul]
    omega
theorem pm_zero_sl (k N : Nat) : pm_sl (pm_zero k N) = N := by
  unfold pm_zero
  split <;> rfl
theorem pm_wr_sls {h : pm_H} {k : Nat} {x y : pm_E} (hk : h[k]? = some x) (hy : pm_sl y = pm_sl x) : (pm_wr h (k + 1) y).length = h.length ∧ pm_sls (pm_wr h (k + 1) y) = pm_sls h := by
  rw [pm_wr_s]
  exact ⟨List.length_set, pm_sls_set h k x y hk hy⟩
/-- a store changes neither how many cells there are nor their slots -/
theorem pm_wrs_n {h : pm_H} {a : Nat} {x : pm_E} (f : Option pm_E → Option pm_E) (hf : ∀ o y, f o = some y → ∃ z, o = some z ∧ pm_sl y = pm_sl z) (q : f (pm_cell h a) = some x) : (pm_wr h a x).length = h.length ∧ pm_sls (pm_wr h a x) = pm_sls h := by
  obtain ⟨z, q1, q2⟩ := hf _ _ q
  obtain ⟨k, rfl, q3⟩ := pm_cell_s q1
  exact pm_wr_sls q3 q2
theorem pm_n_pf {r1 r2 : Nat} {cst : Int} {v : Value} : ∀ o y, pm_pf r1 r2 cst v o = some y → ∃ z, o = some z ∧ pm_sl y = pm_sl z := by
  intro o y q
  obtain ⟨fs, rfl, -, -, rfl⟩ := pm_pf_s q
  exact ⟨_, rfl, List.length_set⟩
theorem pm_n_wri {i x : Int32} : ∀ o y, pm_wri i x o = some y → ∃ z, o = some z ∧ pm_sl y = pm_sl z := by
  intro o y q
  unfold pm_wri at q
  split at q
  · split at q
    · split at q
      · cases q; exact ⟨_, rfl, rfl⟩
      · cases q
    · cases q
  · cases q
theorem pm_n_wrl {i : Int32} {x : Int64} : ∀ o y, pm_wrl i x o = some y → ∃ z, o = some z ∧ pm_sl y = pm_sl z := by
  intro o y q
  unfold pm_wrl at q
  split at q
  · split at q
    · split at q
      · cases q; exact ⟨_, rfl, rfl⟩
      · cases q
    · cases q
  · cases q
theorem pm_n_wrb {i x : Int32} : ∀ o y, pm_wrb i x o = some y → ∃ z, o = some z ∧ pm_sl y = pm_sl z := by
  intro o y q
  unfold pm_wrb at q
  split at q
  · split at q
    · split at q
      · cases q; exact ⟨_, rfl, rfl⟩
      · cases q
    · split at q
      · cases q; exact ⟨_, rfl, rfl⟩
      · cases q
    · cases q
  · cases q
theorem pm_n_wra {ci x : Nat} {i : Int32} {w : Option pm_E} : ∀ o y, pm_wra ci i x w o = some y → ∃ z, o = some z ∧ pm_sl y = pm_sl z := by
  intro o y q
  unfold pm_wra at q
  split at q
  · split at q
    · split at q
      · cases q; exact ⟨_, rfl, rfl⟩
      · cases q
    · cases q
  · cases q
/-- cells only grow -/
def pm_le (h h' : pm_H) : Prop := h.length ≤ h'.length ∧ pm_sls h ≤ pm_sls h'
theorem pm_le_app (h t : pm_H) : pm_le h (h ++ t) := ⟨by rw [List.length_append]; omega, by rw [pm_sls_app]; omega⟩
theorem pm_le_rf (h : pm_H) : pm_le h h := ⟨Nat.le_refl _, Nat.le_refl _⟩
theorem pm_le_tr {a b c : pm_H} (h1 : pm_le a b) (h2 : pm_le b c) : pm_le a c := ⟨Nat.le_trans h1.1 h2.1, Nat.le_trans h1.2 h2.2⟩
theorem pm_le_eq {h h' : pm_H} (q : h'.length = h.length ∧ pm_sls h' = pm_sls h) : pm_le h h' := ⟨by rw [q.1]; exact Nat.le_refl _, by rw [q.2]; exact Nat.le_refl _⟩
set_option maxHeartbeats 1000000 in
theorem pm_mem_le {cs : Nat → List Value} {scr : pm_S} {i : Instr} {r1 r2 : Nat} {cst : Int} {st st' : List Value} {h h' : pm_H} (q : pm_mem cs scr i r1 r2 cst st h = some (st', h')) : pm_le h h' := by
  cases i <;> simp only [pm_mem] at q <;> try exact pm_no q
  case getfield =>
    split at q
    · obtain ⟨x, -, -, rfl⟩ := pm_psh_s q; exact pm_le_rf _
    · cases q
  case putfield =>
    split at q
    · obtain ⟨x, q1, -, rfl⟩ := pm_wrs_s q; exact pm_le_eq (pm_wrs_n _ pm_n_pf q1)
    · cases q
  case iaload =>
    split at q
    · split at q
      · obtain ⟨x, -, -, rfl⟩ := pm_psh_s q; exact pm_le_rf _
      · obtain ⟨x, -, -, rfl⟩ := pm_psh_s q; exact pm_le_rf _
    · cases q
  case baload =>
    split at q
    · obtain ⟨x, -, -, rfl⟩ := pm_psh_s q; exact pm_le_rf _
    · cases q
  case laload =>
    split at q
    · obtain ⟨x, -, -, rfl⟩ := pm_psh_s q; exact pm_le_rf _
    · cases q
  case aaload =>
    split at q
    · obtain ⟨x, -, -, rfl⟩ := pm_psh_s q; exact pm_le_rf _
    · cases q
  case iastore =>
    split at q
    · obtain ⟨x, q1, -, rfl⟩ := pm_wrs_s q; exact pm_le_eq (pm_wrs_n _ pm_n_wri q1)
    · cases q
  case bastore =>
    split at q
    · obtain ⟨x, q1, -, rfl⟩ := pm_wrs_s q; exact pm_le_eq (pm_wrs_n _ pm_n_wrb q1)
    · cases q
  case lastore =>
    split at q
    · obtain ⟨x, q1, -, rfl⟩ := pm_wrs_s q; exact pm_le_eq (pm_wrs_n _ pm_n_wrl q1)
    · cases q
  case aastore =>
    split at q
    · obtain ⟨x, q1, -, rfl⟩ := pm_wrs_s q; exact pm_le_eq (pm_wrs_n _ pm_n_wra q1)
    · cases q
  case arraylength =>
    split at q
    · split at q
      · split at q
        · cases q; exact pm_le_rf _
        · cases q
      · obtain ⟨x, -, -, rfl⟩ := pm_psh_s q; exact pm_le_rf _
    · cases q
  case newarray ty =>
    split at q
    · cases ty <;> first | (obtain ⟨N, -, -, -, -, rfl⟩ := pm_nwa_s q; exact pm_le_app _ _) | exact pm_no q
    · cases q
  case anewarray =>
    split at q
    · obtain ⟨N, -, -, -, -, rfl⟩ := pm_nwa_s q; exact pm_le_app _ _
    · cases q
  case multianewarray =>
    split at q
    · obtain ⟨N, K, -, -, -, rfl⟩ := pm_nwm_s q; exact pm_le_app _ _
    · cases q
  case new => cases q; exact pm_le_app _ _
theorem pm_zero_tr (kd N : Nat) (ty : FieldType) (hd : (kd = 0 ∧ ty = .int) ∨ (kd = 1 ∧ ty = .long) ∨ (kd = 2 ∧ ty = .byte) ∨ (kd = 3 ∧ ty = .boolean)) : ∃ a0, pm_tr cA b base (pm_zero kd N) = .inl (cA kd, a0) ∧ vp_cell (cA kd) a0 = arrV (cA kd) N (fun _ => defaultValue ty) := by
  rcases hd with ⟨rfl, rfl⟩ | ⟨rfl, rfl⟩ | ⟨rfl, rfl⟩ | ⟨rfl, rfl⟩
  · exact ⟨_, rfl, rfl⟩
  · exact ⟨_, rfl, rfl⟩
  · exact ⟨_, rfl, rfl⟩
  · exact ⟨_, rfl, rfl⟩
theorem pm_scr_s {i : Int32} {scr : pm_S} {v : Value} (q : pm_scr i scr = some v) : ∃ n xs, scr = some (n, xs) ∧ vp_in i n ∧ v = .int (xs i.toNatClampNeg) := by
  unfold pm_scr at q
  split at q
  · split at q
    · rename_i e1
      obtain ⟨h1, rfl⟩ := pm_ix_s e1
      cases q
      exact ⟨_, _, rfl, h1, rfl⟩
    · cases q
  · cases q
/-- where the script may be read, it lies at b -/
def pm_Sc (scr : pm_S) (b base : Nat) (s : State) : Prop := ∀ n xs, scr = some (n, xs) → va_X b n xs s s.heap ∧ b < s.heap.size ∧ b < base
set_option maxHeartbeats 4000000 in
theorem pm_g4 {i : Instr} {r1 r2 n0 z0 : Nat} {cst : Int} {st st' : List Value} {h' : pm_H} {scr : pm_S} (hx : p.tables.exec = Jvm.exec) (hb : c.code = cc) (hts : ∀ w ∈ TB, w.before args s = true) (hcl : pm_clOk cl TB cs) (hown : s.vm.findClass own = some m.cls) (hK : va_K D cl (pm_tys RD cA) s) (hSc : pm_Sc scr b base s)
    (hP : va_P D cl (pm_ws (pm_tr cA b base) base h) H) (hS : va_S (fun q => base ≤ q) s.heap H locs) (h0 : s.heap.size = base + n0) (hc : cells + n0 = h.length) (hs : slots + z0 = pm_sls h) (hr1 : h'.length ≤ n0 + R.cells) (hr2 : pm_sls h' ≤ z0 + R.slots)
    (hok : pm_okm cl TB RD own meth.name i r1 r2 cst) (hdg : decode cc pc = .ok (i, pm_memn i)) (q : pm_mem cs scr i r1 r2 cst st h = some (st', h'))
    (kk : ∀ (H1 : Heap) (locs1 : List Loc) (cells1 slots1 : Nat), va_P D cl (pm_ws (pm_tr cA b base) base h') H1 → va_S (fun q => base ≤ q) s.heap H1 locs1 → cells1 + n0 = h'.length → slots1 + z0 = pm_sls h' → W p l e R s m args below meth c H1 locs1 cells1 slots1 Q (F0 m (pc + pm_memn i) ls (st'.map (pm_sh b base)))) : W p l e R s m args below meth c H locs cells slots Q (F0 m pc ls (st.map (pm_sh b base))) := by
  cases i <;> simp only [pm_mem] at q <;> try exact pm_no q
  case getfield x =>
    split at q
    · obtain ⟨y, q1, rfl, rfl⟩ := pm_psh_s q
      exact pm_getfield hx hb hts hcl hown hK hP hok hdg q1 (kk H locs cells slots hP hS hc hs)
    · cases q
  case putfield x =>
    split at q
    · obtain ⟨y, q1, rfl, rfl⟩ := pm_wrs_s q
      obtain ⟨g1, g2⟩ := pm_wrs_n _ pm_n_pf q1
      exact pm_putfield hx hb hts hcl hown hK hP hS hok hdg q1 (fun H1 locs1 hP1 hS1 => kk H1 locs1 cells slots hP1 hS1 (by rw [g1]; exact hc) (by rw [g2]; exact hs))
    · cases q
  case iaload =>
    split at q
    · split at q
      · obtain ⟨y, q1, rfl, rfl⟩ := pm_psh_s q
        obtain ⟨n, xs, e1, e2, rfl⟩ := pm_scr_s q1
        obtain ⟨s1, s2, s3⟩ := hSc n xs e1
        exact va_sld hx hb s1 s2 (Nat.not_le.mpr s3) hS e2 hdg (kk H locs cells slots hP hS hc hs)
      · obtain ⟨y, q1, rfl, rfl⟩ := pm_psh_s q
        exact pm_iaload hx hb hK hP hdg q1 (kk H locs cells slots hP hS hc hs)
    · cases q
  case baload =>
    split at q
    · obtain ⟨y, q1, rfl, rfl⟩ := pm_psh_s q
      exact pm_baload hx hb hK hP hdg q1 (kk H locs cells slots hP hS hc hs)
    · cases q
  case laload =>
    split at q
    · obtain ⟨y, q1, rfl, rfl⟩ := pm_psh_s q
      exact pm_laload hx hb hK hP hdg q1 (kk H locs cells slots hP hS hc hs)
    · cases q
  case aaload =>
    split at q
    · obtain ⟨y, q1, rfl, rfl⟩ := pm_psh_s q
      exact pm_aaload hx hb hK hP hdg q1 (kk H locs cells slots hP hS hc hs)
    · cases q
  case iastore =>
    split at q
    · obtain ⟨y, q1, rfl, rfl⟩ := pm_wrs_s q
      obtain ⟨g1, g2⟩ := pm_wrs_n _ pm_n_wri q1
      exact pm_iastore hx hb hK hP hS hdg q1 (fun H1 locs1 hP1 hS1 => kk H1 locs1 cells slots hP1 hS1 (by rw [g1]; exact hc) (by rw [g2]; exact hs))
    · cases q
  case bastore =>
    split at q
    · obtain ⟨y, q1, rfl, rfl⟩ := pm_wrs_s q
      obtain ⟨g1, g2⟩ := pm_wrs_n _ pm_n_wrb q1
      exact pm_bastore hx hb hK hP hS hdg q1 (fun H1 locs1 hP1 hS1 => kk H1 locs1 cells slots hP1 hS1 (by rw [g1]; exact hc) (by rw [g2]; exact hs))
    · cases q
  case lastore =>
    split at q
    · obtain ⟨y, q1, rfl, rfl⟩ := pm_wrs_s q
      obtain ⟨g1, g2⟩ := pm_wrs_n _ pm_n_wrl q1
      exact pm_lastore hx hb hK hP hS hdg q1 (fun H1 locs1 hP1 hS1 => kk H1 locs1 cells slots hP1 hS1 (by rw [g1]; exact hc) (by rw [g2]; exact hs))
    · cases q
  case aastore =>
    split at q
    · obtain ⟨y, q1, rfl, rfl⟩ := pm_wrs_s q
      obtain ⟨g1, g2⟩ := pm_wrs_n _ pm_n_wra q1
      obtain ⟨T, N, o1⟩ := hok
      exact pm_aastore hx hb hK hP hS o1 hdg q1 (fun H1 locs1 hP1 hS1 => kk H1 locs1 cells slots hP1 hS1 (by rw [g1]; exact hc) (by rw [g2]; exact hs))
    · cases q
  case arraylength =>
    split at q
    · split at q
      · split at q
        · rename_i n xs
          cases q
          obtain ⟨s1, s2, s3⟩ := hSc n xs rfl
          exact va_slen hx hb s1 s2 (Nat.not_le.mpr s3) hS hdg (kk H locs cells slots hP hS hc hs)
        · cases q
      · obtain ⟨y, q1, rfl, rfl⟩ := pm_psh_s q
        exact pm_arraylength hx hb hK hP hdg q1 (kk H locs cells slots hP hS hc hs)
    · cases q
  case newarray aty =>
    split at q
    · have key : ∀ (kd : Nat) (ty : FieldType) (n : Int32) (r : List Value), newarray.typeOf aty = ty → ((kd = 0 ∧ ty = .int) ∨ (kd = 1 ∧ ty = .long) ∨ (kd = 2 ∧ ty = .byte) ∨ (kd = 3 ∧ ty = .boolean)) → (pm_tys RD cA)[kd]? = some (cA kd, ty) → componentBytes ty ≤ 8 → pm_nwa h r n (pm_zero kd) = some (st', h') → W p l e R s m args below meth c H locs cells slots Q (F0 m pc ls (.int n :: r.map (pm_sh b base))) := by
        intro kd ty n r hty hd hkd hcb q
        obtain ⟨N, n1, n2, n3, rfl, rfl⟩ := pm_nwa_s q
        rw [List.length_append] at hr1
        rw [pm_sls_app] at hr2
        have e1 : pm_sls [pm_zero kd N] = N := by show pm_sl _ + 0 = N; rw [pm_zero_sl]; rfl
        rw [e1] at hr2
        have hr1 : h.length + 1 ≤ n0 + R.cells := hr1
        exact pm_newarray (kd := kd) (x := pm_zero kd N) hx hb (hts _ hok) hty (by rcases hd with ⟨rfl, rfl⟩ | ⟨rfl, rfl⟩ | ⟨rfl, rfl⟩ | ⟨rfl, rfl⟩ <;> (intro C z; cases z)) hK hP hS h0 hc hkd (pm_zero_tr kd N ty hd) hcb n1 n2 n3 (by omega) (by omega) hdg (fun H1 hP1 hS1 => kk H1 locs _ _ hP1 hS1 (by rw [List.length_append]; show cells + 1 + n0 = h.length + 1; omega) (by rw [pm_sls_app, e1]; omega))
      cases aty <;> first | exact pm_no q | skip
      · exact key 3 .boolean _ _ rfl (by simp) rfl (by decide) q
      · exact key 2 .byte _ _ rfl (by simp) rfl (by decide) q
      · exact key 0 .int _ _ rfl (by simp) rfl (by decide) q
      · exact key 1 .long _ _ rfl (by simp) rfl (by decide) q
    · cases q
  case anewarray x =>
    split at q
    · obtain ⟨N, n1, n2, n3, rfl, rfl⟩ := pm_nwa_s q
      obtain ⟨o1, o2⟩ := hok
      rw [List.length_append] at hr1
      rw [pm_sls_app] at hr2
      have hr1 : h.length + 1 ≤ n0 + R.cells := hr1
      have hr2 : pm_sls h + (N + 0) ≤ z0 + R.slots := hr2
      exact pm_anewarray hx hb hown (hts _ o1) (hts _ o2) hK hP hS h0 hc n1 n2 n3 (by omega) (by omega) hdg (fun H1 hP1 hS1 => kk H1 locs _ _ hP1 hS1 (by rw [List.length_append]; show cells + 1 + n0 = h.length + 1; omega) (by rw [pm_sls_app]; show slots + N + z0 = pm_sls h + (N + 0); omega))
    · cases q
  case multianewarray x d =>
    split at q
    · obtain ⟨N, K, n1, k1, rfl, rfl⟩ := pm_nwm_s q
      have e1 : pm_sls ((.inl (r1, N, .inr (.inr (.inr (.inr (fun i => if i < N then some (h.length + 2 + i) else none))))) : pm_E) :: List.replicate N (pm_zero r2 K)) = N + N * K := by
        show N + pm_sls _ = _
        rw [pm_sls_rep N K _ (pm_zero_sl r2 K)]
      have e2 : ((.inl (r1, N, .inr (.inr (.inr (.inr (fun i => if i < N then some (h.length + 2 + i) else none))))) : pm_E) :: List.replicate N (pm_zero r2 K)).length = N + 1 := by
        rw [List.length_cons, List.length_replicate]
      rw [List.length_append, e2] at hr1
      rw [pm_sls_app, e1] at hr2
      obtain ⟨rfl, o⟩ := hok
      rcases o with ⟨rfl, rfl, o1, o2, o3⟩ | ⟨rfl, rfl, o1, o2, o3⟩
      · exact pm_multi (ty := .long) hx hb hown (hts _ o1) (hts _ o2) (hts _ o3) hK hP hS h0 hc (hK.2 4 _ rfl).2 (hK.2 1 _ rfl).2 (pm_zero_tr 1 K .long (by simp)) (by decide) rfl n1 k1 (by omega) (by omega) hdg (fun H1 hP1 hS1 => kk H1 locs _ _ hP1 hS1 (by rw [List.length_append, e2]; omega) (by rw [pm_sls_app, e1]; omega))
      · exact pm_multi (ty := .int) hx hb hown (hts _ o1) (hts _ o2) (hts _ o3) hK hP hS h0 hc (hK.2 5 _ rfl).2 (hK.2 0 _ rfl).2 (pm_zero_tr 0 K .int (by simp)) (by decide) rfl n1 k1 (by omega) (by omega) hdg (fun H1 hP1 hS1 => kk H1 locs _ _ hP1 hS1 (by rw [List.length_append, e2]; omega) (by rw [pm_sls_app, e1]; omega))
    · cases q
  case new x =>
    cases q
    obtain ⟨C, T, N, o1, o2, o3, o4⟩ := hok
    have eN : (cs r1).length = N := (hcl _ _ _ _ o1).2.2.2.1
    rw [List.length_append] at hr1
    rw [pm_sls_app] at hr2
    have hr1 : h.length + 1 ≤ n0 + R.cells := hr1
    have hr2 : pm_sls h + ((cs r1).length + 0) ≤ z0 + R.slots := hr2
    rw [eN] at hr2
    exact pm_newobj hx hb hts hcl hown o1 (hts _ o2) (hts _ o3) (hts _ o4) hK hP hS h0 hc (by omega) (by omega) hdg (fun H1 hP1 hS1 => kk H1 locs _ _ hP1 hS1 (by rw [List.length_append]; show cells + 1 + n0 = h.length + 1; omega) (by rw [pm_sls_app]; show slots + N + z0 = pm_sls h + ((cs r1).length + 0); rw [eN]; omega))
end PM4
end
section
/-! calls and ends -/
/-- words that stay as they are while the machine warms -/
def pm_stb (w : Cond) : Bool := match w with
  | .methodLinkNest _ _ _ _ => true
  | .arrayOver (.object _) => true
  | .arrayOver (.array _) => true
  | w => goodWord w
theorem pm_overA {t : FieldType} {u U : State} (hvm : u.vm.Alike U.vm) {A A' : Array Value} (h : (Jvm.Cond.arrayOver (.array t)).before A u = true) : (Jvm.Cond.arrayOver (.array t)).before A' U = true := by
  obtain ⟨comp, c, k, h1, h2, h3, h4, h5⟩ := arrayOverA_spec h
  obtain ⟨k', hk', he⟩ := hvm.2.2 _ _ h3
  have hi := (hvm.findIdx?_eqK _ (fun _ => rfl)).trans h2
  have hkind : k'.kind = .array comp (.array t) := by rw [he]; exact h4
  have f1 : U.vm.findClass (FieldType.array t).toString = some comp := by rw [hvm.findClass]; exact h1
  have f2 : U.vm.findClass ("[" ++ (FieldType.array t).toString) = some c := by rw [hvm.findClass]; exact h5
  unfold Cond.before Cond.holds
  simp only [Cond.value]
  rw [f1, Option.bind_some]
  refine (congrArg (fun o : Option Nat => (o.bind (fun c => (U.vm.classes[c]?).map fun (k : Class) => match k.kind with | .array _ ty => decide (ty = FieldType.array t) && decide (U.vm.findClass ("[" ++ (FieldType.array t).toString) = some c) | _ => false) == some true)) hi).trans ?_
  simp [hk', hkind, f2]
theorem pm_wd {w : Cond} (hs : pm_stb w = true) {s U : State} (hW : s.WarmedH U.vm) {A A' : Array Value} (h : w.before A s = true) : w.before A' U = true := by
  unfold pm_stb at hs
  split at hs
  · exact va_Nw.use rfl (va_Nw.warmM hW (va_Nw.of rfl h))
  · exact va_AO.use (va_AO.moved hW.alike (va_AO.of h))
  · exact pm_overA hW.alike h
  · exact word_at hW (good_of_word hs) h
def pm_T (TB : List Cond) (U : State) : Prop := ∀ w ∈ TB, w.before #[] U = true
/-- what the tables say of the methods -/
def pm_msOk (ms : Nat → Option pm_M) (TB : List Cond) : Prop := ∀ (k : Nat) (y : MethodName) (bytes : ByteArray) (nL : Nat) (rt : Option FieldType) (na ci : Nat), ms k = some (y, bytes, nL, rt, na, ci) →
  Jvm.Cond.code y bytes nL rt ∈ TB ∧ Jvm.Cond.initialized y.cls ∈ TB ∧ plainName y.cls = true ∧ (y.cls ≠ "java/lang/invoke/MethodHandle" ∧ y.cls ≠ "java/lang/invoke/VarHandle") ∧ (parseMethodDescriptor y.desc).map (fun d => d.parameters.length) = some na ∧ nL ≤ 13
def pm_lnk (TB : List Cond) (own : String) (x : Nat) (y : MethodName) : Prop := Jvm.Cond.methodLink own x y ∈ TB ∨ ∃ host, Jvm.Cond.methodLinkNest own x y host ∈ TB
/-- what the tables say of a call -/
def pm_okc (ms : Nat → Option pm_M) (cl : List vw_C) (TB : List Cond) (own : String) (i : Instr) (r1 : Nat) : Prop := match i with
  | .invokestatic x => ∃ (y : MethodName) (bytes : ByteArray) (nL : Nat) (rt : Option FieldType) (na ci : Nat), ms r1 = some (y, bytes, nL, rt, na, ci) ∧ pm_lnk TB own x y ∧ Jvm.Cond.static y ∈ TB
  | .invokevirtual x => ∃ (y : MethodName) (bytes : ByteArray) (nL : Nat) (rt : Option FieldType) (na ci : Nat), ms r1 = some (y, bytes, nL, rt, na, ci) ∧ pm_lnk TB own x y ∧ Jvm.Cond.instanceMethod y ∈ TB ∧ ∃ (T : u_T) (N : Nat), cl[ci]? = some (y.cls, T, N) ∧ Jvm.Cond.selects y.cls y y ∈ TB
  | .invokespecial x => (r1 = 0 ∧ Jvm.Cond.methodLink own x objectInit ∈ TB ∧ Jvm.Cond.instanceMethod objectInit ∈ TB ∧ Jvm.Cond.code objectInit ⟨#[0xb1]⟩ 1 none ∈ TB) ∨
      (r1 ≠ 0 ∧ ∃ (y : MethodName) (bytes : ByteArray) (nL na ci : Nat), ms r1 = some (y, bytes, nL, none, na, ci) ∧ y.name = "<init>" ∧ pm_lnk TB own x y ∧ Jvm.Cond.instanceMethod y ∈ TB)
  | _ => True
/-- behind a method -/
def pm_Qc (D : va_G) (cl : List vw_C) (cA : Nat → ClassId) (b base : Nat) (v : Option Value) (h' : pm_H) : Array Value → State → Outcome → State → Prop := fun _ st oc t => oc = .returned (v.map (pm_sh b base)) ∧ va_P D cl (pm_ws (pm_tr cA b base) base h') t.heap ∧ va_F (fun q => base ≤ q) st t
/-- ahead of a method -/
def pm_Wo (D : va_G) (cl : List vw_C) (cA : Nat → ClassId) (RD : String) (TB : List Cond) (b base : Nat) (h : pm_H) (U : State) : Prop := U.heap.size = base + h.length ∧ va_P D cl (pm_ws (pm_tr cA b base) base h) U.heap ∧ va_K D cl (pm_tys RD cA) U ∧ pm_T TB U
/-- a callee of depth d keeps what the small machine says of it -/
def pm_CallOk (l : Launch) (cl : List vw_C) (RD : String) (TB : List Cond) (ms : Nat → Option pm_M) (call : pm_C) (d : Nat) : Prop := ∀ (k : Nat) (as : List Value) (h h' : pm_H) (v : Option Value), call k as h = some (v, h') → pm_le h h' ∧
  ∀ (y : MethodName) (bytes : ByteArray) (nL : Nat) (rt : Option FieldType) (na ci : Nat), ms k = some (y, bytes, nL, rt, na, ci) → ∀ (D : va_G) (cA : Nat → ClassId) (b base : Nat),
    Met l y [Jvm.Cond.code y bytes nL rt] ({ frames := d, cells := h'.length - h.length, slots := pm_sls h' - pm_sls h, locals := 32 * d }) (va_Pc (as.map (pm_sh b base)) (pm_Wo D cl cA RD TB b base h)) (pm_Qc D cl cA b base v h') (h'.length - h.length) (pm_sls h' - pm_sls h) (fun q => base ≤ q)
theorem pm_popn : ∀ (n : Nat) (as st as' r : List Value), pm_pop_n n as st = some (as', r) → ∃ t, t.length = n ∧ as' = t ++ as ∧ st = t.reverse ++ r := by
  intro n
  induction n with
  | zero => intro as st as' r q; cases q; exact ⟨[], rfl, rfl, rfl⟩
  | succ n ih =>
    intro as st as' r q
    cases st with
    | nil => cases q
    | cons v st =>
      obtain ⟨t, h1, h2, h3⟩ := ih (v :: as) st as' r q
      refine ⟨t ++ [v], by rw [List.length_append, h1]; rfl, by rw [h2, List.append_assoc]; rfl, ?_⟩
      rw [List.reverse_append, h3]
      rfl
theorem pm_wt_sum (b base : Nat) (r : List Value) : ((r.map (pm_sh b base)).map fun v => v.category).sum = pm_wt r := by
  induction r with
  | nil => rfl
  | cons v r ih =>
    simp only [List.map_cons, List.sum_cons]
    rw [ih, pm_sh_c]
    cases v <;> rfl
theorem pm_wt_sl (vs : List Value) : (lg_sl vs).length = pm_wt vs := by
  induction vs with
  | nil => rfl
  | cons v r ih =>
    have e : lg_sl (v :: r) = (if v.category = 2 then [.val v, .second] else [.val v]) ++ lg_sl r := by simp [lg_sl]
    rw [e, List.length_append, ih]
    cases v <;> rfl
theorem pm_wt_map (b base : Nat) (vs : List Value) : pm_wt (vs.map (pm_sh b base)) = pm_wt vs := by
  induction vs with
  | nil => rfl
  | cons v r ih =>
    show pm_cat (pm_sh b base v) + _ = pm_cat v + _
    rw [ih]
    cases v <;> rfl
section PM5
variable {p : Program} {l : Launch} {e : Env} {R : Room} {s : State} {m : MethodId} {args : Array Value} {below : List Frame} {meth : Method} {c : Code} {H : Heap} {locs : List Loc} {cells slots : Nat} {Q : State → Prop}
variable {cc : ByteArray} {pc : Nat} {ls : Array Slot} {b base : Nat} {D : va_G} {cl : List vw_C} {cA : Nat → ClassId} {RD own : String} {TB : List Cond} {cs : Nat → List Value} {ms : Nat → Option pm_M} {h h' : pm_H} {r : List Value}
theorem pm_back {mc nc : Nat} {st0 rest : List Value} {v : Option Value} {a : Array Value} (hr : va_Run p l e R s m args below meth c H locs cells slots mc nc (F0 m pc ls st0) rest (pm_Qc D cl cA b base v h' a) (fun q => base ≤ q)) (hS : va_S (fun q => base ≤ q) s.heap H locs)
    (kk : ∀ (H1 : Heap) (locs1 : List Loc), va_P D cl (pm_ws (pm_tr cA b base) base h') H1 → va_S (fun q => base ≤ q) s.heap H1 locs1 → W p l e R s m args below meth c H1 locs1 (cells + mc) (slots + nc) Q (F0 m (pc + 3) ls ((v.map (pm_sh b base)).toList ++ rest))) : W p l e R s m args below meth c H locs cells slots Q (F0 m pc ls st0) := by
  intro T hT X
  obtain ⟨v', st0', t, T', L, g0, X', hL, e1, e2, ⟨hv, hp, hz, hk⟩, st⟩ := hr T hT X
  cases hv
  rw [g0] at hz hk
  obtain ⟨t2, a1, b1⟩ := kk T'.heap (locs ++ L) (by rw [e1]; exact hp)
    ⟨Nat.le_trans hS.1 (by rw [e1]; exact hz), fun q h1 h2 => by rw [e1, hk q (Nat.lt_of_lt_of_le h1 hS.1) h2]; exact hS.2.1 q h1 h2, fun q hq => by
      rcases List.mem_append.mp hq with h | h
      · exact hS.2.2 q h
      · exact hL q h⟩ T' rfl X'
  exact ⟨t2, st t2 a1, b1⟩
theorem pm_blind (hst : ∀ w ∈ TB, pm_stb w = true) {as : List Value} : FrameBlind (va_Pc as (pm_Wo D cl cA RD TB b base h)) := by
  intro a U g mk q
  obtain ⟨q0, q1, q2, q3, q4⟩ := q
  exact ⟨q0, q1, q2, va_K.moved (u := U) (U := U.calling g mk a) (Vm.Alike.refl U.vm) q3, fun w hw => pm_wd (s := U) (U := U.calling g mk a) (hst w hw) (State.WarmedH.refl U) (q4 w hw)⟩
theorem pm_pre (hst : ∀ w ∈ TB, pm_stb w = true) (hts : ∀ w ∈ TB, w.before args s = true) (hK : va_K D cl (pm_tys RD cA) s) (hP : va_P D cl (pm_ws (pm_tr cA b base) base h) H) (hz : H.size = base + h.length) {as : List Value} {av : Array Value} (hav : av = (as.map (pm_sh b base)).toArray) : ∀ U : State, U.heap = H → s.WarmedH U.vm → va_Pc (as.map (pm_sh b base)) (pm_Wo D cl cA RD TB b base h) av U := by
  intro U hU hW
  exact ⟨hav, by rw [hU]; exact hz, by rw [hU]; exact hP, va_K.moved hW.alike hK, fun w hw => pm_wd (hst w hw) hW (hts w hw)⟩
set_option maxHeartbeats 2000000 in
theorem pm_g5 {i : Instr} {r1 n0 z0 d : Nat} {st st' : List Value} {call : pm_C} (hx : p.tables.exec = Jvm.exec) (hb : c.code = cc) {nL : Nat} (hml : c.maxLocals = nL) (hst : ∀ w ∈ TB, pm_stb w = true) (hts : ∀ w ∈ TB, w.before args s = true) (hms : pm_msOk ms TB) (hown : s.vm.findClass own = some m.cls) (hK : va_K D cl (pm_tys RD cA) s)
    (hcall : pm_CallOk l cl RD TB ms call d) (hd : d + 1 ≤ R.frames) (hlo : 32 * (d + 1) ≤ R.locals)
    (hP : va_P D cl (pm_ws (pm_tr cA b base) base h) H) (hS : va_S (fun q => base ≤ q) s.heap H locs) (h0 : s.heap.size = base + n0) (hc : cells + n0 = h.length) (hs : slots + z0 = pm_sls h) (hr1 : h'.length ≤ n0 + R.cells) (hr2 : pm_sls h' ≤ z0 + R.slots) (hls : ls.size = nL)
    (hok : pm_okc ms cl TB own i r1) (hdg : decode cc pc = .ok (i, 3)) (q : pm_inv call i r1 (pm_na ms r1).1 (pm_na ms r1).2 st h = some (st', h'))
    (kk : ∀ (H1 : Heap) (locs1 : List Loc) (cells1 slots1 : Nat), va_P D cl (pm_ws (pm_tr cA b base) base h') H1 → va_S (fun q => base ≤ q) s.heap H1 locs1 → cells1 + n0 = h'.length → slots1 + z0 = pm_sls h' → W p l e R s m args below meth c H1 locs1 cells1 slots1 Q (F0 m (pc + 3) ls (st'.map (pm_sh b base)))) : W p l e R s m args below meth c H locs cells slots Q (F0 m pc ls (st.map (pm_sh b base))) := by
  refine pm_bound fun hbd => ?_
  have hz := pm_size hP hS h0 hc hbd
  have hwd : ∀ w ∈ TB, ∀ (a' : Array Value) (U : State), s.WarmedH U.vm → w.before a' U = true := fun w hw a' U hW => pm_wd (hst w hw) hW (hts w hw)
  -- what stands on the stack behind a call
  have hbk : ∀ (v : Option Value) (r : List Value), (v.map (pm_sh b base)).toList ++ r.map (pm_sh b base) = (v.toList ++ r).map (pm_sh b base) := by
    intro v r
    cases v <;> rfl
  cases i <;> simp only [pm_inv] at q <;> try exact pm_no q
  case invokestatic x =>
    obtain ⟨y, bytes, mL, rt, na, ci, o1, o2, o3⟩ := hok
    have e1 : pm_na ms r1 = (na, ci) := by unfold pm_na; rw [o1]
    rw [e1] at q
    split at q
    · rename_i as r ep
      split at q
      · rename_i v h2 ew ec
        cases q
        obtain ⟨m1, m2, m3, m4, m5, m6⟩ := hms _ _ _ _ _ _ _ o1
        obtain ⟨g1, g2⟩ := hcall _ _ _ _ _ ec
        obtain ⟨t, t1, t2, rfl⟩ := pm_popn _ _ _ _ _ ep
        rw [List.append_nil] at t2
        subst t2
        have hM := g2 _ _ _ _ _ _ o1 D cA b base
        have hfit : (∀ w ∈ [Jvm.Cond.code y bytes mL rt], ∀ (a' : Array Value) (U : State), s.WarmedH U.vm → w.before a' U = true) := fun w hw => by
          rw [List.mem_singleton.mp hw]
          exact hwd _ m1
        have hn : ∀ sig, parseMethodDescriptor y.desc = some sig → na = sig.parameters.length := fun sig hsig => by
          rw [hsig] at m5
          exact (Option.some.inj m5).symm
        have hmc : cells + (h'.length - h.length) ≤ R.cells ∧ slots + (pm_sls h' - pm_sls h) ≤ R.slots := ⟨by have := g1.1; omega, by have := g1.2; omega⟩
        have hpre : PreS s H (va_Pc (as.map (pm_sh b base)) (pm_Wo D cl cA RD TB b base h)) (as.map (pm_sh b base)) := ⟨pm_blind hst, pm_pre hst hts hK hP hz rfl⟩
        have hrun : va_Run p l e R s m args below meth c H locs cells slots (h'.length - h.length) (pm_sls h' - pm_sls h) (F0 m pc ls ((as.reverse ++ r).map (pm_sh b base))) (r.map (pm_sh b base)) (pm_Qc D cl cA b base v h' (as.map (pm_sh b base)).toArray) (fun q => base ≤ q) := by
          rcases o2 with o2 | ⟨host, o2⟩
          · exact va_runS ⟨hx, hb, hml, hown, hts⟩ hM ⟨⟨rfl, rfl, hd, (by show 8 + (mL + 11) + 32 * d ≤ R.locals; omega), hfit, List.mem_singleton.mpr rfl, hts _ m1, hts _ m2, m4, hn, hts _ o2⟩, hts _ o3⟩ hpre rfl (by rw [List.length_map]; exact t1) hls (by show (as.reverse ++ r).map _ = _; rw [List.map_append, List.map_reverse]) (lv_room (by rw [pm_wt_sum]; exact Nat.le_of_ble_eq_true ew)) hdg hmc
          · exact va_runSN ⟨hx, hb, hml, hown, hts⟩ hM ⟨⟨⟨rfl, rfl, hd, (by show 8 + (mL + 11) + 32 * d ≤ R.locals; omega), hfit, List.mem_singleton.mpr rfl⟩, hts _ m1, hts _ m2, m4, hn, hts _ o2⟩, hts _ o3, trivial⟩ hpre rfl (by rw [List.length_map]; exact t1) hls (by show (as.reverse ++ r).map _ = _; rw [List.map_append, List.map_reverse]) (lv_room (by rw [pm_wt_sum]; exact Nat.le_of_ble_eq_true ew)) hdg hmc
        refine pm_back hrun hS (fun H1 locs1 hP1 hS1 => ?_)
        rw [hbk]
        exact kk H1 locs1 _ _ hP1 hS1 (by have := g1.1; omega) (by have := g1.2; omega)
      · cases q
    · cases q
  case invokevirtual x =>
    obtain ⟨y, bytes, mL, rt, na, ci, o1, o2, o3, T9, N9, o4, o5⟩ := hok
    have e1 : pm_na ms r1 = (na, ci) := by unfold pm_na; rw [o1]
    rw [e1] at q
    split at q
    · rename_i as a r ep
      split at q
      · rename_i v h2 ew eo ec
        cases q
        obtain ⟨m1, m2, m3, m4, m5, m6⟩ := hms _ _ _ _ _ _ _ o1
        obtain ⟨g1, g2⟩ := hcall _ _ _ _ _ ec
        obtain ⟨t, t1, t2, rfl⟩ := pm_popn _ _ _ _ _ ep
        rw [List.append_nil] at t2
        subst t2
        have hM := g2 _ _ _ _ _ _ o1 D cA b base
        have hfit : (∀ w ∈ [Jvm.Cond.code y bytes mL rt], ∀ (a' : Array Value) (U : State), s.WarmedH U.vm → w.before a' U = true) := fun w hw => by
          rw [List.mem_singleton.mp hw]
          exact hwd _ m1
        have hn : ∀ sig, parseMethodDescriptor y.desc = some sig → na = sig.parameters.length := fun sig hsig => by
          rw [hsig] at m5
          exact (Option.some.inj m5).symm
        have hmc : cells + (h'.length - h.length) ≤ R.cells ∧ slots + (pm_sls h' - pm_sls h) ≤ R.slots := ⟨by have := g1.1; omega, by have := g1.2; omega⟩
        have hrc : ∃ cellB : Cell, H[pm_ad b base a]? = some cellB ∧ cellB.vm.isStatics = false ∧ s.vm.findClass y.cls = some cellB.cls := by
          unfold pm_clsOk at eo
          split at eo
          · rename_i c9 fs9 e9
            cases pm_beq eo
            obtain ⟨k, rfl, q3⟩ := pm_cell_s e9
            exact va_recv hK hP o4 (pm_at (D := D) (cl := cl) (H := H) q3)
          · cases eo
        have hpre : PreV s H y.cls (pm_ad b base a) (va_Pc ((Value.ref a :: as).map (pm_sh b base)) (pm_Wo D cl cA RD TB b base h)) (as.map (pm_sh b base)) := ⟨pm_blind hst, hrc, pm_pre hst hts hK hP hz rfl⟩
        have hrun : va_Run p l e R s m args below meth c H locs cells slots (h'.length - h.length) (pm_sls h' - pm_sls h) (F0 m pc ls ((as.reverse ++ .ref a :: r).map (pm_sh b base))) (r.map (pm_sh b base)) (pm_Qc D cl cA b base v h' (Value.ref (pm_ad b base a) :: as.map (pm_sh b base)).toArray) (fun q => base ≤ q) := by
          rcases o2 with o2 | ⟨host, o2⟩
          · exact va_runV ⟨hx, hb, hml, hown, hts⟩ hM ⟨⟨rfl, rfl, hd, (by show 8 + (mL + 11) + 32 * d ≤ R.locals; omega), hfit, List.mem_singleton.mpr rfl, hts _ m1, hts _ m2, m4, hn, hts _ o2⟩, hts _ o3, hts _ o5⟩ hpre rfl (by rw [List.length_map]; exact t1) hls (by show (as.reverse ++ .ref a :: r).map _ = _; rw [List.map_append, List.map_reverse]; rfl) (lv_room (by rw [pm_wt_sum]; exact Nat.le_of_ble_eq_true ew)) hdg hmc
          · exact va_runVN ⟨hx, hb, hml, hown, hts⟩ hM ⟨⟨⟨rfl, rfl, hd, (by show 8 + (mL + 11) + 32 * d ≤ R.locals; omega), hfit, List.mem_singleton.mpr rfl⟩, hts _ m1, hts _ m2, m4, hn, hts _ o2⟩, hts _ o3, hts _ o5⟩ hpre rfl (by rw [List.length_map]; exact t1) hls (by show (as.reverse ++ .ref a :: r).map _ = _; rw [List.map_append, List.map_reverse]; rfl) (lv_room (by rw [pm_wt_sum]; exact Nat.le_of_ble_eq_true ew)) hdg hmc
        refine pm_back hrun hS (fun H1 locs1 hP1 hS1 => ?_)
        rw [hbk]
        exact kk H1 locs1 _ _ hP1 hS1 (by have := g1.1; omega) (by have := g1.2; omega)
      · cases q
    · cases q
  case invokespecial x =>
    rcases hok with ⟨rfl, o1, o2, o3⟩ | ⟨hne, y, bytes, mL, na, ci, o1, o2, o3, o4⟩
    · simp only at q
      split at q
      · split at q
        · rename_i ew
          cases q
          refine W.objInit hx hb hown (hts _ o1) (hts _ o2) (hts _ o3) rfl (by rw [hml]; exact hls) rfl hdg (by omega) ?_ (kk H locs cells slots hP hS hc hs)
          have hwt := Nat.le_of_ble_eq_true ew
          have hw2 := lv_room (m := m) (pc := pc) (ls := ls) (rest := (Value.ref ‹Addr› :: st').map (pm_sh b base)) (st := st'.map (pm_sh b base)) (by rw [pm_wt_sum]; exact hwt)
          have := hlo
          exact Nat.le_trans (Nat.add_le_add_right hw2 12) (by omega)
        · cases q
      · cases q
    · obtain ⟨k1, rfl⟩ : ∃ k1, r1 = k1 + 1 := ⟨r1 - 1, by omega⟩
      simp only at q
      have e1 : pm_na ms (k1 + 1) = (na, ci) := by unfold pm_na; rw [o1]
      rw [e1] at q
      split at q
      · rename_i as a r ep
        split at q
        · rename_i v h2 ew ec
          cases q
          obtain ⟨m1, m2, m3, m4, m5, m6⟩ := hms _ _ _ _ _ _ _ o1
          obtain ⟨g1, g2⟩ := hcall _ _ _ _ _ ec
          obtain ⟨t, t1, t2, rfl⟩ := pm_popn _ _ _ _ _ ep
          rw [List.append_nil] at t2
          subst t2
          have hM := g2 _ _ _ _ _ _ o1 D cA b base
          have hfit : (∀ w ∈ [Jvm.Cond.code y bytes mL none], ∀ (a' : Array Value) (U : State), s.WarmedH U.vm → w.before a' U = true) := fun w hw => by
            rw [List.mem_singleton.mp hw]
            exact hwd _ m1
          have hn : ∀ sig, parseMethodDescriptor y.desc = some sig → na = sig.parameters.length := fun sig hsig => by
            rw [hsig] at m5
            exact (Option.some.inj m5).symm
          have hmc : cells + (h'.length - h.length) ≤ R.cells ∧ slots + (pm_sls h' - pm_sls h) ≤ R.slots := ⟨by have := g1.1; omega, by have := g1.2; omega⟩
          have hpre : PreS s H (va_Pc ((Value.ref a :: as).map (pm_sh b base)) (pm_Wo D cl cA RD TB b base h)) (.ref (pm_ad b base a) :: as.map (pm_sh b base)) := ⟨pm_blind hst, pm_pre hst hts hK hP hz rfl⟩
          have hrun : va_Run p l e R s m args below meth c H locs cells slots (h'.length - h.length) (pm_sls h' - pm_sls h) (F0 m pc ls ((as.reverse ++ .ref a :: r).map (pm_sh b base))) (r.map (pm_sh b base)) (pm_Qc D cl cA b base v h' (Value.ref (pm_ad b base a) :: as.map (pm_sh b base)).toArray) (fun q => base ≤ q) := by
            rcases o3 with o3 | ⟨host, o3⟩
            · exact va_runI ⟨hx, hb, hml, hown, hts⟩ hM ⟨⟨rfl, rfl, hd, (by show 8 + (mL + 11) + 32 * d ≤ R.locals; omega), hfit, List.mem_singleton.mpr rfl, hts _ m1, hts _ m2, m4, hn, hts _ o3⟩, o2, hts _ o4⟩ hpre rfl (by rw [List.length_map]; exact t1) hls (by show (as.reverse ++ .ref a :: r).map _ = _; rw [List.map_append, List.map_reverse]; rfl) (lv_room (by rw [pm_wt_sum]; exact Nat.le_of_ble_eq_true ew)) hdg hmc
            · exact va_runIN ⟨hx, hb, hml, hown, hts⟩ hM ⟨⟨⟨rfl, rfl, hd, (by show 8 + (mL + 11) + 32 * d ≤ R.locals; omega), hfit, List.mem_singleton.mpr rfl⟩, hts _ m1, hts _ m2, m4, hn, hts _ o3⟩, o2, hts _ o4⟩ hpre rfl (by rw [List.length_map]; exact t1) hls (by show (as.reverse ++ .ref a :: r).map _ = _; rw [List.map_append, List.map_reverse]; rfl) (lv_room (by rw [pm_wt_sum]; exact Nat.le_of_ble_eq_true ew)) hdg hmc
          refine pm_back hrun hS (fun H1 locs1 hP1 hS1 => ?_)
          rw [hbk]
          exact kk H1 locs1 _ _ hP1 hS1 (by have := g1.1; omega) (by have := g1.2; omega)
        · cases q
      · cases q
end PM5
end
section
/-! runs and calls: what the small machine says, the machine does -/
def pm_lenOk (i : Instr) (n : Nat) : Prop := match pm_grp i with
  | 0 => n = pm_aln i
  | 1 => n = pm_ldn i
  | 2 => n = pm_ston i
  | 3 => n = 3 ∨ ∃ a b c d, i = .tableswitch a b c d
  | 4 => n = pm_memn i
  | 5 => n = 3
  | _ => n = 1
/-- what the tables say of an instruction -/
def pm_okI (cl : List vw_C) (TB : List Cond) (RD : String) (ms : Nat → Option pm_M) (cc : ByteArray) (own mname : String) (pc : Nat) (q : pm_I) : Prop :=
  decode cc pc = .ok (q.1, q.2.1) ∧ pm_lenOk q.1 q.2.1 ∧ pm_tgt q.1 pc q.2.2.1 = true ∧ (∀ x, q.1 = .ldc x ∨ q.1 = .ldc_w x → Jvm.Cond.constant own x (Int32.ofInt q.2.2.2.2.1) ∈ TB) ∧ (∀ x, q.1 = .ldc2_w x → Jvm.Cond.constantLong own x (Int64.ofInt q.2.2.2.2.1) ∈ TB) ∧ pm_okm cl TB RD own mname q.1 q.2.2.1 q.2.2.2.1 q.2.2.2.2.1 ∧ pm_okc ms cl TB own q.1 q.2.2.1
theorem pm_o0_s {pc : Nat} {lv : pm_L} {h : pm_H} {o : Option (List Value)} {x : pm_F ⊕ pm_R} (q : pm_o0 pc lv h o = some x) : ∃ st, o = some st ∧ x = .inl (pc, lv, st, h) := by
  unfold pm_o0 at q; split at q
  · cases q; exact ⟨_, rfl, rfl⟩
  · cases q
theorem pm_o1_s {pc : Nat} {lv : pm_L} {st : List Value} {h : pm_H} {o : Option Value} {x : pm_F ⊕ pm_R} (q : pm_o1 pc lv st h o = some x) : ∃ v, o = some v ∧ x = .inl (pc, lv, v :: st, h) := by
  unfold pm_o1 at q; split at q
  · cases q; exact ⟨_, rfl, rfl⟩
  · cases q
theorem pm_o2_s {pc : Nat} {h : pm_H} {o : Option (pm_L × List Value)} {x : pm_F ⊕ pm_R} (q : pm_o2 pc h o = some x) : ∃ lv st, o = some (lv, st) ∧ x = .inl (pc, lv, st, h) := by
  unfold pm_o2 at q; split at q
  · cases q; exact ⟨_, _, rfl, rfl⟩
  · cases q
theorem pm_o3_s {lv : pm_L} {h : pm_H} {o : Option (Nat × List Value)} {x : pm_F ⊕ pm_R} (q : pm_o3 lv h o = some x) : ∃ pc st, o = some (pc, st) ∧ x = .inl (pc, lv, st, h) := by
  unfold pm_o3 at q; split at q
  · cases q; exact ⟨_, _, rfl, rfl⟩
  · cases q
theorem pm_o4_s {pc : Nat} {lv : pm_L} {o : Option (List Value × pm_H)} {x : pm_F ⊕ pm_R} (q : pm_o4 pc lv o = some x) : ∃ st h, o = some (st, h) ∧ x = .inl (pc, lv, st, h) := by
  unfold pm_o4 at q; split at q
  · cases q; exact ⟨_, _, rfl, rfl⟩
  · cases q
theorem pm_o6_s {h : pm_H} {o : Option (Option Value)} {x : pm_F ⊕ pm_R} (q : pm_o6 h o = some x) : ∃ v, o = some v ∧ x = .inr (v, h) := by
  unfold pm_o6 at q; split at q
  · cases q; exact ⟨_, rfl, rfl⟩
  · cases q
def pm_MonoC (call : pm_C) : Prop := ∀ (k : Nat) (as : List Value) (h h' : pm_H) (v : Option Value), call k as h = some (v, h') → pm_le h h'
theorem pm_inv_le {call : pm_C} (hc : pm_MonoC call) {i : Instr} {k na ci : Nat} {st st' : List Value} {h h' : pm_H} (q : pm_inv call i k na ci st h = some (st', h')) : pm_le h h' := by
  cases i <;> simp only [pm_inv] at q <;> try exact pm_no q
  case invokestatic =>
    split at q
    · split at q
      · rename_i ec; cases q; exact hc _ _ _ _ _ ec
      · cases q
    · cases q
  case invokevirtual =>
    split at q
    · split at q
      · rename_i ec; cases q; exact hc _ _ _ _ _ ec
      · cases q
    · cases q
  case invokespecial =>
    split at q
    · split at q
      · split at q
        · cases q; exact pm_le_rf _
        · cases q
      · cases q
    · split at q
      · split at q
        · rename_i ec; cases q; exact hc _ _ _ _ _ ec
        · cases q
      · cases q
theorem pm_step_le {cs : Nat → List Value} {ms : Nat → Option pm_M} {call : pm_C} (hc : pm_MonoC call) {scr : pm_S} {nL : Nat} {rt : Option FieldType} {q : pm_I} {F : pm_F} {x : pm_F ⊕ pm_R} (s : pm_step cs ms call scr nL rt q F = some x) : (∀ F', x = .inl F' → pm_le F.2.2.2 F'.2.2.2) ∧ (∀ v h', x = .inr (v, h') → h' = F.2.2.2) := by
  obtain ⟨i, n, r1, r2, cst, hh⟩ := q
  obtain ⟨pc, lv, st, h⟩ := F
  simp only [pm_step] at s
  split at s
  · obtain ⟨st', -, rfl⟩ := pm_o0_s s; exact ⟨fun F' e => by cases e; exact pm_le_rf _, fun v h' e => by cases e⟩
  · obtain ⟨st', -, rfl⟩ := pm_o1_s s; exact ⟨fun F' e => by cases e; exact pm_le_rf _, fun v h' e => by cases e⟩
  · obtain ⟨lv', st', -, rfl⟩ := pm_o2_s s; exact ⟨fun F' e => by cases e; exact pm_le_rf _, fun v h' e => by cases e⟩
  · obtain ⟨pc', st', -, rfl⟩ := pm_o3_s s; exact ⟨fun F' e => by cases e; exact pm_le_rf _, fun v h' e => by cases e⟩
  · obtain ⟨st', h', q1, rfl⟩ := pm_o4_s s; exact ⟨fun F' e => by cases e; exact pm_mem_le q1, fun v h' e => by cases e⟩
  · obtain ⟨st', h', q1, rfl⟩ := pm_o4_s s; exact ⟨fun F' e => by cases e; exact pm_inv_le hc q1, fun v h' e => by cases e⟩
  · obtain ⟨v', q1, rfl⟩ := pm_o6_s s; exact ⟨(fun F' e => by cases e), (fun v h' e => by cases e; rfl)⟩
theorem pm_run_le {cs : Nat → List Value} {ms : Nat → Option pm_M} {call : pm_C} (hc : pm_MonoC call) {scr : pm_S} {nL : Nat} {rt : Option FieldType} {ins : Nat → Option pm_I} : ∀ (n : Nat) (F : pm_F) (v : Option Value) (hE : pm_H), pm_run (pm_step cs ms call scr nL rt) ins n F = some (v, hE) → pm_le F.2.2.2 hE := by
  intro n
  induction n with
  | zero => intro F v hE q; cases q
  | succ n ih =>
    intro F v hE q
    rw [pm_run_succ] at q
    split at q
    · cases q
    · split at q
      · cases q
      · rename_i F' es
        exact pm_le_tr ((pm_step_le hc es).1 F' rfl) (ih F' v hE q)
      · rename_i r es
        cases q
        rw [(pm_step_le hc es).2 _ _ rfl]
        exact pm_le_rf _
section PM6
variable {p : Program} {l : Launch} {e : Env} {R : Room} {s : State} {m : MethodId} {args : Array Value} {below : List Frame} {meth : Method} {c : Code} {Q : State → Prop}
variable {cc : ByteArray} {b base : Nat} {D : va_G} {cl : List vw_C} {cA : Nat → ClassId} {RD own : String} {TB : List Cond} {cs : Nat → List Value} {ms : Nat → Option pm_M}
set_option maxHeartbeats 2000000 in
/-- a run in a frame -/
theorem pm_runOk {call : pm_C} {scr : pm_S} {nL d n0 z0 : Nat} {rt : Option FieldType} {ins : Nat → Option pm_I} {v : Option Value} {hE : pm_H} (hx : p.tables.exec = Jvm.exec) (hb : c.code = cc) (hml : c.maxLocals = nL) (hst : ∀ w ∈ TB, pm_stb w = true) (hts : ∀ w ∈ TB, w.before args s = true) (hcl : pm_clOk cl TB cs) (hms : pm_msOk ms TB) (hown : s.vm.findClass own = some m.cls) (hK : va_K D cl (pm_tys RD cA) s) (hSc : pm_Sc scr b base s)
    (hcall : pm_CallOk l cl RD TB ms call d) (hd : d + 1 ≤ R.frames) (hlo : 32 * (d + 1) ≤ R.locals) (hI : ∀ pc q, ins pc = some q → pm_okI cl TB RD ms cc own meth.name pc q) (h0 : s.heap.size = base + n0) (hr1 : hE.length ≤ n0 + R.cells) (hr2 : pm_sls hE ≤ z0 + R.slots)
    (hend : ∀ (i : Instr) (pc : Nat) (ls : Array Slot) (st : List Value) (H : Heap) (locs : List Loc) (cells slots : Nat), decode cc pc = .ok (i, 1) → pm_ret i rt st = some v → va_P D cl (pm_ws (pm_tr cA b base) base hE) H → va_S (fun q => base ≤ q) s.heap H locs → cells + n0 = hE.length → slots + z0 = pm_sls hE → W p l e R s m args below meth c H locs cells slots Q (F0 m pc ls (st.map (pm_sh b base)))) :
    ∀ (n : Nat) (F : pm_F), pm_run (pm_step cs ms call scr nL rt) ins n F = some (v, hE) → ∀ (ls : Array Slot) (H : Heap) (locs : List Loc) (cells slots : Nat), lv_has ls nL (pm_lv b base F.2.1) → va_P D cl (pm_ws (pm_tr cA b base) base F.2.2.2) H → va_S (fun q => base ≤ q) s.heap H locs → cells + n0 = F.2.2.2.length → slots + z0 = pm_sls F.2.2.2 →
      W p l e R s m args below meth c H locs cells slots Q (F0 m F.1 ls (F.2.2.1.map (pm_sh b base))) := by
  have hmono : pm_MonoC call := fun k as h h' v q => (hcall k as h h' v q).1
  intro n
  induction n with
  | zero => intro F q; cases q
  | succ n ih =>
    intro F q ls H locs cells slots hl hP hS hc hs
    have hle := pm_run_le hmono _ _ _ _ q
    rw [pm_run_succ] at q
    split at q
    · cases q
    · rename_i qi ei
      obtain ⟨k1, k2, k3, k4, k5, k6, k7⟩ := hI _ _ ei
      obtain ⟨i, len, r1, r2, cst, hh⟩ := qi
      obtain ⟨pc, lv, st, h⟩ := F
      dsimp only at k1 k2 k3 k4 k5 k6 k7 hl hP hc hs hle ei ⊢
      split at q
      · cases q
      · rename_i F' es
        have hleF := pm_run_le hmono _ _ _ _ q
        simp only [pm_step] at es
        unfold pm_lenOk at k2
        split at es
        · rename_i eg
          rw [eg] at k2
          have k2 := k2
          subst k2
          obtain ⟨st', q1, e9⟩ := pm_o0_s es
          cases e9
          exact pm_g0 hx hb k1 hown (fun x hx => hts _ (k4 x hx)) (fun x hx => hts _ (k5 x hx)) q1 (ih _ q ls H locs cells slots hl hP hS hc hs)
        · rename_i eg
          rw [eg] at k2
          have k2 := k2
          subst k2
          obtain ⟨v', q1, e9⟩ := pm_o1_s es
          cases e9
          exact pm_g1 hx hb k1 hl q1 (ih _ q ls H locs cells slots hl hP hS hc hs)
        · rename_i eg
          rw [eg] at k2
          have k2 := k2
          subst k2
          obtain ⟨lv', st', q1, e9⟩ := pm_o2_s es
          cases e9
          exact pm_g2 hx hb k1 hl q1 (fun ls' hl' => ih _ q ls' H locs cells slots hl' hP hS hc hs)
        · rename_i eg
          rw [eg] at k2
          obtain ⟨pc', st', q1, e9⟩ := pm_o3_s es
          cases e9
          exact pm_g3 hx hb k1 k2 k3 q1 (ih _ q ls H locs cells slots hl hP hS hc hs)
        · rename_i eg
          rw [eg] at k2
          have k2 := k2
          subst k2
          obtain ⟨st', h', q1, e9⟩ := pm_o4_s es
          cases e9
          exact pm_g4 hx hb hts hcl hown hK hSc hP hS h0 hc hs (Nat.le_trans hleF.1 hr1) (Nat.le_trans hleF.2 hr2) k6 k1 q1 (fun H1 locs1 cells1 slots1 hP1 hS1 hc1 hs1 => ih _ q ls H1 locs1 cells1 slots1 hl hP1 hS1 hc1 hs1)
        · rename_i eg
          rw [eg] at k2
          have k2 := k2
          subst k2
          obtain ⟨st', h', q1, e9⟩ := pm_o4_s es
          cases e9
          exact pm_g5 hx hb hml hst hts hms hown hK hcall hd hlo hP hS h0 hc hs (Nat.le_trans hleF.1 hr1) (Nat.le_trans hleF.2 hr2) hl.1 k7 k1 q1 (fun H1 locs1 cells1 slots1 hP1 hS1 hc1 hs1 => ih _ q ls H1 locs1 cells1 slots1 hl hP1 hS1 hc1 hs1)
        · obtain ⟨v', q1, e9⟩ := pm_o6_s es
          cases e9
      · rename_i r es
        cases q
        simp only [pm_step] at es
        unfold pm_lenOk at k2
        split at es
        · obtain ⟨st', q1, e9⟩ := pm_o0_s es; cases e9
        · obtain ⟨st', q1, e9⟩ := pm_o1_s es; cases e9
        · obtain ⟨lv', st', q1, e9⟩ := pm_o2_s es; cases e9
        · obtain ⟨pc', st', q1, e9⟩ := pm_o3_s es; cases e9
        · obtain ⟨st', h', q1, e9⟩ := pm_o4_s es; cases e9
        · obtain ⟨st', h', q1, e9⟩ := pm_o4_s es; cases e9
        · obtain ⟨v', q1, e9⟩ := pm_o6_s es
          cases e9
          have k9 : len = 1 := by
            split at k2 <;> first | exact k2 | (rename_i h9; simp_all; done) | contradiction
          subst k9
          exact hend i pc ls st H locs cells slots k1 q1 hP hS hc hs
end PM6
end
section
/-! every call of the small machine is a contract -/
section PM7
variable {p : Program} {l : Launch} {e : Env} {R : Room} {s : State} {m : MethodId} {args : Array Value} {below : List Frame} {meth : Method} {c : Code} {H : Heap} {locs : List Loc} {cells slots : Nat}
variable {cc : ByteArray} {pc : Nat} {ls : Array Slot} {b base : Nat}
theorem pm_end {Qc : Array Value → State → Outcome → State → Prop} {free : Addr → Prop} {i : Instr} {rt : Option FieldType} {st : List Value} {v : Option Value} (hx : p.tables.exec = Jvm.exec) (hb : c.code = cc) (hr : meth.sig.returnType = rt) (hlocks : meth.locks = false) (hdg : decode cc pc = .ok (i, 1)) (q : pm_ret i rt st = some v)
    (hq : ∀ t : State, t.heap = H → s.WarmedH t.vm → Qc args s (.returned (v.map (pm_sh b base))) t) (hf : ∀ q ∈ locs, free q.base) : W p l e R s m args below meth c H locs cells slots (MQ below Qc args s cells slots free) (F0 m pc ls (st.map (pm_sh b base))) := by
  cases i <;> simp only [pm_ret] at q <;> try exact pm_no q
  case return_ =>
    split at q
    · cases q; exact W.vret hx hb hr hq hf hdg
    · cases q
  case ireturn =>
    split at q
    · cases q; exact W.iret hx hb hr hq hf hdg
    · split at q
      · rename_i x h01
        cases q
        exact W.zret hx hb hr (by rcases h01 with rfl | rfl <;> rfl) hq hf hdg
      · cases q
    · cases q
  case lreturn =>
    split at q
    · cases q; exact W.lret hx hb hr hq hf hdg
    · cases q
  case areturn =>
    split at q
    · cases q; exact W.aret hx hb hr (Or.inl ⟨_, rfl⟩) (Or.inr ⟨_, rfl⟩) hq hf hdg
    · cases q; exact W.aret hx hb hr (Or.inl ⟨_, rfl⟩) (Or.inl rfl) hq hf hdg
    · cases q; exact W.aret hx hb hr (Or.inr ⟨_, rfl⟩) (Or.inr ⟨_, rfl⟩) hq hf hdg
    · cases q; exact W.aret hx hb hr (Or.inr ⟨_, rfl⟩) (Or.inl rfl) hq hf hdg
    · cases q
end PM7
/-- what the tables say of all instructions -/
def pm_insOk (cl : List vw_C) (TB : List Cond) (RD : String) (ms : Nat → Option pm_M) (ins : Nat → Nat → Option pm_I) : Prop := ∀ (k : Nat) (y : MethodName) (bytes : ByteArray) (nL : Nat) (rt : Option FieldType) (na ci : Nat), ms k = some (y, bytes, nL, rt, na, ci) → ∀ pc q, ins k pc = some q → pm_okI cl TB RD ms bytes y.cls y.name pc q
set_option maxHeartbeats 2000000 in
theorem pm_callOk {l : Launch} {cl : List vw_C} {RD : String} {TB : List Cond} {cs : Nat → List Value} {ms : Nat → Option pm_M} {ins : Nat → Nat → Option pm_I} {fuel : Nat} (hst : ∀ w ∈ TB, pm_stb w = true) (hcl : pm_clOk cl TB cs) (hms : pm_msOk ms TB) (hI : pm_insOk cl TB RD ms ins) : ∀ d, pm_CallOk l cl RD TB ms (pm_call cs ms ins fuel d) d := by
  intro d
  induction d with
  | zero => intro k as h h' v q; cases q
  | succ d ih =>
    intro k as h h' v q
    rw [pm_call_succ] at q
    split at q
    · rename_i y0 by0 nL0 rt0 na0 ci0 em
      split at q
      · rename_i ew
        have hmono : pm_MonoC (pm_call cs ms ins fuel d) := fun k as h h' v q => (ih k as h h' v q).1
        have hle := pm_run_le hmono _ _ _ _ q
        refine ⟨hle, ?_⟩
        intro y bytes nL rt na ci em2 D cA b base
        rw [em] at em2
        cases em2
        obtain ⟨m1, m2, m3, m4, m5, m6⟩ := hms _ _ _ _ _ _ _ em
        refine Met.ofW (cc := by0) (maxL := nL0) (ret := rt0) m3 rfl ?_
        intro p e s m args below meth c s₁ B hml hv
        obtain ⟨rfl, hsz, hP, hK, hT⟩ := hv
        have hx := B.exec
        have hb := B.bytes
        have hr := B.returns
        have hlocks := B.notSynchronized
        have hown : s.vm.findClass y0.cls = some m.cls := findClass_of_methodNamed B.named
        have hnm : meth.name = y0.name := (name_of_methodNamed B.named B.method).1
        have hts : ∀ w ∈ TB, w.before (as.map (pm_sh b base)).toArray s = true := fun w hw => pm_wd (hst w hw) (State.WarmedH.refl s) (hT w hw)
        have hl := lv_entry (as.map (pm_sh b base)) (n := nL0) (by rw [pm_wt_sl, pm_wt_map]; exact Nat.le_of_ble_eq_true ew)
        rw [lg_entry_eq]
        generalize (lg_sl (as.map (pm_sh b base)) ++ List.replicate (nL0 - (lg_sl (as.map (pm_sh b base))).length) Slot.unset).toArray = ls at hl ⊢
        rw [pm_args] at hl
        have hS : va_S (fun q => base ≤ q) s.heap s.heap [] := va_S.rf
        refine pm_runOk (R := { frames := d + 1, cells := h'.length - h.length, slots := pm_sls h' - pm_sls h, locals := 32 * (d + 1) }) (scr := none) (n0 := h.length) (z0 := pm_sls h) (hE := h') (v := v) (cs := cs) hx hb hml hst hts hcl hms hown hK (fun n xs e9 => by cases e9) ih (Nat.le_refl _) (Nat.le_refl _) (fun pc q e9 => by rw [hnm]; exact hI _ _ _ _ _ _ _ em pc q e9) hsz (by have := hle.1; show h'.length ≤ h.length + (h'.length - h.length); omega) (by have := hle.2; show pm_sls h' ≤ pm_sls h + (pm_sls h' - pm_sls h); omega) ?_ fuel (0, lv_args 0 as, [], h) q ls s.heap [] 0 0 hl hP hS (Nat.zero_add _) (Nat.zero_add _)
        intro i pc ls st H locs cells slots hdg q1 hP1 hS1 hc1 hs1
        have e1 : h'.length - h.length = cells := by omega
        have e2 : pm_sls h' - pm_sls h = slots := by omega
        rw [e1, e2]
        exact pm_end hx hb hr hlocks hdg q1 (fun t ht hW => ⟨rfl, by rw [ht]; exact hP1, hS1.F ht⟩) hS1.2.2
      · cases q
    · cases q
end
section
-- ===== PART A: goes FIRST, ahead of the names: the tables' words, and 'selects' of the private methods out of them =====
/-- a private method of a class that the tables say can be made, by its rows of tables_1 -/
def lw_okq (q : MethodName × Nat) : Prop := (q.1.cls ≠ "java/lang/invoke/MethodHandle" ∧ q.1.cls ≠ "java/lang/invoke/VarHandle") ∧ Cond.instantiable q.1.cls q.2 ∈ tables_1 ∧ Cond.privateMethod q.1 ∈ tables_1 ∧ Cond.instanceMethod q.1 ∈ tables_1
theorem lw_p0 : lw_okq (⟨"LoopGround", "putBytes", "(I)V"⟩, 19) := ⟨⟨by decide +kernel, by decide +kernel⟩, List.mem_of_getElem? (i := 15) (by decide +kernel), List.mem_of_getElem? (i := 474) (by decide +kernel), List.mem_of_getElem? (i := 475) (by decide +kernel)⟩
theorem lw_p1 : lw_okq (⟨"LoopGround$Reader", "readToken", "()V"⟩, 11) := ⟨⟨by decide +kernel, by decide +kernel⟩, List.mem_of_getElem? (i := 23) (by decide +kernel), List.mem_of_getElem? (i := 497) (by decide +kernel), List.mem_of_getElem? (i := 498) (by decide +kernel)⟩
theorem lw_p2 : lw_okq (⟨"LoopGround$Reader", "byteAt", "(I)I"⟩, 11) := ⟨⟨by decide +kernel, by decide +kernel⟩, List.mem_of_getElem? (i := 23) (by decide +kernel), List.mem_of_getElem? (i := 501) (by decide +kernel), List.mem_of_getElem? (i := 502) (by decide +kernel)⟩
theorem lw_p3 : lw_okq (⟨"LoopGround$Reader", "readLetters", "()V"⟩, 11) := ⟨⟨by decide +kernel, by decide +kernel⟩, List.mem_of_getElem? (i := 23) (by decide +kernel), List.mem_of_getElem? (i := 508) (by decide +kernel), List.mem_of_getElem? (i := 509) (by decide +kernel)⟩
theorem lw_p4 : lw_okq (⟨"LoopGround$Reader", "kindOfWord", "()I"⟩, 11) := ⟨⟨by decide +kernel, by decide +kernel⟩, List.mem_of_getElem? (i := 23) (by decide +kernel), List.mem_of_getElem? (i := 514) (by decide +kernel), List.mem_of_getElem? (i := 515) (by decide +kernel)⟩
theorem lw_p5 : lw_okq (⟨"LoopGround$Reader", "readDigits", "()V"⟩, 11) := ⟨⟨by decide +kernel, by decide +kernel⟩, List.mem_of_getElem? (i := 23) (by decide +kernel), List.mem_of_getElem? (i := 526) (by decide +kernel), List.mem_of_getElem? (i := 527) (by decide +kernel)⟩
theorem lw_p6 : lw_okq (⟨"LoopGround$Reader", "readPiece", "()V"⟩, 11) := ⟨⟨by decide +kernel, by decide +kernel⟩, List.mem_of_getElem? (i := 23) (by decide +kernel), List.mem_of_getElem? (i := 530) (by decide +kernel), List.mem_of_getElem? (i := 531) (by decide +kernel)⟩
theorem lw_p7 : lw_okq (⟨"LoopGround$Reader", "refuseToken", "()Z"⟩, 11) := ⟨⟨by decide +kernel, by decide +kernel⟩, List.mem_of_getElem? (i := 23) (by decide +kernel), List.mem_of_getElem? (i := 534) (by decide +kernel), List.mem_of_getElem? (i := 535) (by decide +kernel)⟩
theorem lw_p8 : lw_okq (⟨"LoopGround$Reader", "refuse", "(II)V"⟩, 11) := ⟨⟨by decide +kernel, by decide +kernel⟩, List.mem_of_getElem? (i := 23) (by decide +kernel), List.mem_of_getElem? (i := 538) (by decide +kernel), List.mem_of_getElem? (i := 539) (by decide +kernel)⟩
theorem lw_p9 : lw_okq (⟨"LoopGround$Reader", "readEdge", "(I)Z"⟩, 11) := ⟨⟨by decide +kernel, by decide +kernel⟩, List.mem_of_getElem? (i := 23) (by decide +kernel), List.mem_of_getElem? (i := 542) (by decide +kernel), List.mem_of_getElem? (i := 543) (by decide +kernel)⟩
theorem lw_p10 : lw_okq (⟨"LoopGround$Reader", "pass", "(I)Z"⟩, 11) := ⟨⟨by decide +kernel, by decide +kernel⟩, List.mem_of_getElem? (i := 23) (by decide +kernel), List.mem_of_getElem? (i := 550) (by decide +kernel), List.mem_of_getElem? (i := 551) (by decide +kernel)⟩
theorem lw_p11 : lw_okq (⟨"LoopGround$Reader", "closePieces", "()Z"⟩, 11) := ⟨⟨by decide +kernel, by decide +kernel⟩, List.mem_of_getElem? (i := 23) (by decide +kernel), List.mem_of_getElem? (i := 554) (by decide +kernel), List.mem_of_getElem? (i := 555) (by decide +kernel)⟩
theorem lw_p12 : lw_okq (⟨"LoopGround$Told", "hangsTogether", "()Z"⟩, 17) := ⟨⟨by decide +kernel, by decide +kernel⟩, List.mem_of_getElem? (i := 313) (by decide +kernel), List.mem_of_getElem? (i := 562) (by decide +kernel), List.mem_of_getElem? (i := 563) (by decide +kernel)⟩
theorem lw_p13 : lw_okq (⟨"LoopGround$Told", "numberPoints", "()V"⟩, 17) := ⟨⟨by decide +kernel, by decide +kernel⟩, List.mem_of_getElem? (i := 313) (by decide +kernel), List.mem_of_getElem? (i := 566) (by decide +kernel), List.mem_of_getElem? (i := 567) (by decide +kernel)⟩
theorem lw_p14 : lw_okq (⟨"LoopGround$Reader", "readLoops", "()V"⟩, 11) := ⟨⟨by decide +kernel, by decide +kernel⟩, List.mem_of_getElem? (i := 23) (by decide +kernel), List.mem_of_getElem? (i := 573) (by decide +kernel), List.mem_of_getElem? (i := 574) (by decide +kernel)⟩
theorem lw_p15 : lw_okq (⟨"LoopGround$Reader", "passNewName", "(I)Z"⟩, 11) := ⟨⟨by decide +kernel, by decide +kernel⟩, List.mem_of_getElem? (i := 23) (by decide +kernel), List.mem_of_getElem? (i := 584) (by decide +kernel), List.mem_of_getElem? (i := 585) (by decide +kernel)⟩
def lw_privs_1 : List (MethodName × Nat) := [(⟨"LoopGround", "putBytes", "(I)V"⟩, 19), (⟨"LoopGround$Reader", "readToken", "()V"⟩, 11), (⟨"LoopGround$Reader", "byteAt", "(I)I"⟩, 11), (⟨"LoopGround$Reader", "readLetters", "()V"⟩, 11), (⟨"LoopGround$Reader", "kindOfWord", "()I"⟩, 11), (⟨"LoopGround$Reader", "readDigits", "()V"⟩, 11), (⟨"LoopGround$Reader", "readPiece", "()V"⟩, 11), (⟨"LoopGround$Reader", "refuseToken", "()Z"⟩, 11), (⟨"LoopGround$Reader", "refuse", "(II)V"⟩, 11), (⟨"LoopGround$Reader", "readEdge", "(I)Z"⟩, 11), (⟨"LoopGround$Reader", "pass", "(I)Z"⟩, 11), (⟨"LoopGround$Reader", "closePieces", "()Z"⟩, 11), (⟨"LoopGround$Told", "hangsTogether", "()Z"⟩, 17), (⟨"LoopGround$Told", "numberPoints", "()V"⟩, 17), (⟨"LoopGround$Reader", "readLoops", "()V"⟩, 11), (⟨"LoopGround$Reader", "passNewName", "(I)Z"⟩, 11)]
theorem lw_r1 : ∀ q ∈ lw_privs_1, lw_okq q := List.forall_mem_cons.mpr ⟨lw_p0, List.forall_mem_cons.mpr ⟨lw_p1, List.forall_mem_cons.mpr ⟨lw_p2, List.forall_mem_cons.mpr ⟨lw_p3, List.forall_mem_cons.mpr ⟨lw_p4, List.forall_mem_cons.mpr ⟨lw_p5, List.forall_mem_cons.mpr ⟨lw_p6, List.forall_mem_cons.mpr ⟨lw_p7, List.forall_mem_cons.mpr ⟨lw_p8, List.forall_mem_cons.mpr ⟨lw_p9, List.forall_mem_cons.mpr ⟨lw_p10, List.forall_mem_cons.mpr ⟨lw_p11, List.forall_mem_cons.mpr ⟨lw_p12, List.forall_mem_cons.mpr ⟨lw_p13, List.forall_mem_cons.mpr ⟨lw_p14, List.forall_mem_cons.mpr ⟨lw_p15, fun _ h => absurd h List.not_mem_nil⟩⟩⟩⟩⟩⟩⟩⟩⟩⟩⟩⟩⟩⟩⟩⟩
theorem lw_p16 : lw_okq (⟨"LoopGround$Reader", "readTwists", "()V"⟩, 11) := ⟨⟨by decide +kernel, by decide +kernel⟩, List.mem_of_getElem? (i := 23) (by decide +kernel), List.mem_of_getElem? (i := 597) (by decide +kernel), List.mem_of_getElem? (i := 598) (by decide +kernel)⟩
theorem lw_p17 : lw_okq (⟨"LoopGround$Reader", "readTwist", "(II)Z"⟩, 11) := ⟨⟨by decide +kernel, by decide +kernel⟩, List.mem_of_getElem? (i := 23) (by decide +kernel), List.mem_of_getElem? (i := 605) (by decide +kernel), List.mem_of_getElem? (i := 606) (by decide +kernel)⟩
theorem lw_p18 : lw_okq (⟨"LoopGround$Tracer", "isPassed", "(I)Z"⟩, 14) := ⟨⟨by decide +kernel, by decide +kernel⟩, List.mem_of_getElem? (i := 66) (by decide +kernel), List.mem_of_getElem? (i := 629) (by decide +kernel), List.mem_of_getElem? (i := 630) (by decide +kernel)⟩
theorem lw_p19 : lw_okq (⟨"LoopGround$Tracer", "begin", "(II)V"⟩, 14) := ⟨⟨by decide +kernel, by decide +kernel⟩, List.mem_of_getElem? (i := 66) (by decide +kernel), List.mem_of_getElem? (i := 633) (by decide +kernel), List.mem_of_getElem? (i := 634) (by decide +kernel)⟩
theorem lw_p20 : lw_okq (⟨"LoopGround$Tracer", "closeLoop", "()Z"⟩, 14) := ⟨⟨by decide +kernel, by decide +kernel⟩, List.mem_of_getElem? (i := 66) (by decide +kernel), List.mem_of_getElem? (i := 637) (by decide +kernel), List.mem_of_getElem? (i := 638) (by decide +kernel)⟩
theorem lw_p21 : lw_okq (⟨"LoopGround$Tracer", "strandNumber", "()I"⟩, 14) := ⟨⟨by decide +kernel, by decide +kernel⟩, List.mem_of_getElem? (i := 66) (by decide +kernel), List.mem_of_getElem? (i := 641) (by decide +kernel), List.mem_of_getElem? (i := 642) (by decide +kernel)⟩
theorem lw_p22 : lw_okq (⟨"LoopGround$Tracer", "step", "()V"⟩, 14) := ⟨⟨by decide +kernel, by decide +kernel⟩, List.mem_of_getElem? (i := 66) (by decide +kernel), List.mem_of_getElem? (i := 645) (by decide +kernel), List.mem_of_getElem? (i := 646) (by decide +kernel)⟩
theorem lw_p23 : lw_okq (⟨"LoopGround$Tracer", "countAt", "(I)I"⟩, 14) := ⟨⟨by decide +kernel, by decide +kernel⟩, List.mem_of_getElem? (i := 66) (by decide +kernel), List.mem_of_getElem? (i := 649) (by decide +kernel), List.mem_of_getElem? (i := 650) (by decide +kernel)⟩
theorem lw_p24 : lw_okq (⟨"LoopGround$Tracer", "isBack", "()Z"⟩, 14) := ⟨⟨by decide +kernel, by decide +kernel⟩, List.mem_of_getElem? (i := 66) (by decide +kernel), List.mem_of_getElem? (i := 657) (by decide +kernel), List.mem_of_getElem? (i := 658) (by decide +kernel)⟩
theorem lw_p25 : lw_okq (⟨"LoopGround$Shortener", "findSides", "()V"⟩, 11) := ⟨⟨by decide +kernel, by decide +kernel⟩, List.mem_of_getElem? (i := 125) (by decide +kernel), List.mem_of_getElem? (i := 668) (by decide +kernel), List.mem_of_getElem? (i := 669) (by decide +kernel)⟩
theorem lw_p26 : lw_okq (⟨"LoopGround$Shortener", "shorten", "(LLoopGround$Road;)V"⟩, 11) := ⟨⟨by decide +kernel, by decide +kernel⟩, List.mem_of_getElem? (i := 125) (by decide +kernel), List.mem_of_getElem? (i := 672) (by decide +kernel), List.mem_of_getElem? (i := 673) (by decide +kernel)⟩
theorem lw_p27 : lw_okq (⟨"LoopGround$Shortener", "isShort", "()Z"⟩, 11) := ⟨⟨by decide +kernel, by decide +kernel⟩, List.mem_of_getElem? (i := 125) (by decide +kernel), List.mem_of_getElem? (i := 676) (by decide +kernel), List.mem_of_getElem? (i := 677) (by decide +kernel)⟩
theorem lw_p28 : lw_okq (⟨"LoopGround$Shortener", "firstToFlip", "()I"⟩, 11) := ⟨⟨by decide +kernel, by decide +kernel⟩, List.mem_of_getElem? (i := 125) (by decide +kernel), List.mem_of_getElem? (i := 680) (by decide +kernel), List.mem_of_getElem? (i := 681) (by decide +kernel)⟩
theorem lw_p29 : lw_okq (⟨"LoopGround$Shortener", "lookRound", "(I)V"⟩, 11) := ⟨⟨by decide +kernel, by decide +kernel⟩, List.mem_of_getElem? (i := 125) (by decide +kernel), List.mem_of_getElem? (i := 684) (by decide +kernel), List.mem_of_getElem? (i := 685) (by decide +kernel)⟩
theorem lw_p30 : lw_okq (⟨"LoopGround$Shortener", "turnEdge", "(I)V"⟩, 11) := ⟨⟨by decide +kernel, by decide +kernel⟩, List.mem_of_getElem? (i := 125) (by decide +kernel), List.mem_of_getElem? (i := 693) (by decide +kernel), List.mem_of_getElem? (i := 694) (by decide +kernel)⟩
theorem lw_p31 : lw_okq (⟨"LoopGround$Shortener", "findNeighbours", "(LLoopGround$Road;)V"⟩, 11) := ⟨⟨by decide +kernel, by decide +kernel⟩, List.mem_of_getElem? (i := 125) (by decide +kernel), List.mem_of_getElem? (i := 697) (by decide +kernel), List.mem_of_getElem? (i := 698) (by decide +kernel)⟩
def lw_privs_2 : List (MethodName × Nat) := [(⟨"LoopGround$Reader", "readTwists", "()V"⟩, 11), (⟨"LoopGround$Reader", "readTwist", "(II)Z"⟩, 11), (⟨"LoopGround$Tracer", "isPassed", "(I)Z"⟩, 14), (⟨"LoopGround$Tracer", "begin", "(II)V"⟩, 14), (⟨"LoopGround$Tracer", "closeLoop", "()Z"⟩, 14), (⟨"LoopGround$Tracer", "strandNumber", "()I"⟩, 14), (⟨"LoopGround$Tracer", "step", "()V"⟩, 14), (⟨"LoopGround$Tracer", "countAt", "(I)I"⟩, 14), (⟨"LoopGround$Tracer", "isBack", "()Z"⟩, 14), (⟨"LoopGround$Shortener", "findSides", "()V"⟩, 11), (⟨"LoopGround$Shortener", "shorten", "(LLoopGround$Road;)V"⟩, 11), (⟨"LoopGround$Shortener", "isShort", "()Z"⟩, 11), (⟨"LoopGround$Shortener", "firstToFlip", "()I"⟩, 11), (⟨"LoopGround$Shortener", "lookRound", "(I)V"⟩, 11), (⟨"LoopGround$Shortener", "turnEdge", "(I)V"⟩, 11), (⟨"LoopGround$Shortener", "findNeighbours", "(LLoopGround$Road;)V"⟩, 11)]
theorem lw_r2 : ∀ q ∈ lw_privs_2, lw_okq q := List.forall_mem_cons.mpr ⟨lw_p16, List.forall_mem_cons.mpr ⟨lw_p17, List.forall_mem_cons.mpr ⟨lw_p18, List.forall_mem_cons.mpr ⟨lw_p19, List.forall_mem_cons.mpr ⟨lw_p20, List.forall_mem_cons.mpr ⟨lw_p21, List.forall_mem_cons.mpr ⟨lw_p22, List.forall_mem_cons.mpr ⟨lw_p23, List.forall_mem_cons.mpr ⟨lw_p24, List.forall_mem_cons.mpr ⟨lw_p25, List.forall_mem_cons.mpr ⟨lw_p26, List.forall_mem_cons.mpr ⟨lw_p27, List.forall_mem_cons.mpr ⟨lw_p28, List.forall_mem_cons.mpr ⟨lw_p29, List.forall_mem_cons.mpr ⟨lw_p30, List.forall_mem_cons.mpr ⟨lw_p31, fun _ h => absurd h List.not_mem_nil⟩⟩⟩⟩⟩⟩⟩⟩⟩⟩⟩⟩⟩⟩⟩⟩
theorem lw_p32 : lw_okq (⟨"LoopGround", "numbersOf", "(I)[J"⟩, 19) := ⟨⟨by decide +kernel, by decide +kernel⟩, List.mem_of_getElem? (i := 15) (by decide +kernel), List.mem_of_getElem? (i := 725) (by decide +kernel), List.mem_of_getElem? (i := 726) (by decide +kernel)⟩
theorem lw_p33 : lw_okq (⟨"LoopGround", "isLine", "(I)Z"⟩, 19) := ⟨⟨by decide +kernel, by decide +kernel⟩, List.mem_of_getElem? (i := 15) (by decide +kernel), List.mem_of_getElem? (i := 730) (by decide +kernel), List.mem_of_getElem? (i := 731) (by decide +kernel)⟩
theorem lw_p34 : lw_okq (⟨"LoopGround", "isEdge", "(I)Z"⟩, 19) := ⟨⟨by decide +kernel, by decide +kernel⟩, List.mem_of_getElem? (i := 15) (by decide +kernel), List.mem_of_getElem? (i := 734) (by decide +kernel), List.mem_of_getElem? (i := 735) (by decide +kernel)⟩
theorem lw_p35 : lw_okq (⟨"LoopGround$Tracer", "beginFirst", "()Z"⟩, 14) := ⟨⟨by decide +kernel, by decide +kernel⟩, List.mem_of_getElem? (i := 66) (by decide +kernel), List.mem_of_getElem? (i := 754) (by decide +kernel), List.mem_of_getElem? (i := 755) (by decide +kernel)⟩
theorem lw_p36 : lw_okq (⟨"LoopGround$Mover", "passFlips", "([JLLoopGround$Road;ZLLoopGround$Table;)Z"⟩, 3) := ⟨⟨by decide +kernel, by decide +kernel⟩, List.mem_of_getElem? (i := 119) (by decide +kernel), List.mem_of_getElem? (i := 789) (by decide +kernel), List.mem_of_getElem? (i := 790) (by decide +kernel)⟩
theorem lw_p37 : lw_okq (⟨"LoopGround$Mover", "change", "([JIIIIILLoopGround$Table;)Z"⟩, 3) := ⟨⟨by decide +kernel, by decide +kernel⟩, List.mem_of_getElem? (i := 119) (by decide +kernel), List.mem_of_getElem? (i := 793) (by decide +kernel), List.mem_of_getElem? (i := 794) (by decide +kernel)⟩
theorem lw_p38 : lw_okq (⟨"LoopGround$Tracer", "flowInto", "([I)V"⟩, 14) := ⟨⟨by decide +kernel, by decide +kernel⟩, List.mem_of_getElem? (i := 66) (by decide +kernel), List.mem_of_getElem? (i := 819) (by decide +kernel), List.mem_of_getElem? (i := 820) (by decide +kernel)⟩
theorem lw_p39 : lw_okq (⟨"LoopGround", "leavesAsItIs", "(I[J)Z"⟩, 19) := ⟨⟨by decide +kernel, by decide +kernel⟩, List.mem_of_getElem? (i := 15) (by decide +kernel), List.mem_of_getElem? (i := 832) (by decide +kernel), List.mem_of_getElem? (i := 833) (by decide +kernel)⟩
theorem lw_p40 : lw_okq (⟨"LoopGround$Mover", "exchange", "([JIILLoopGround$Table;)V"⟩, 3) := ⟨⟨by decide +kernel, by decide +kernel⟩, List.mem_of_getElem? (i := 119) (by decide +kernel), List.mem_of_getElem? (i := 847) (by decide +kernel), List.mem_of_getElem? (i := 848) (by decide +kernel)⟩
theorem lw_p41 : lw_okq (⟨"LoopGround", "canStretch", "(II)Z"⟩, 19) := ⟨⟨by decide +kernel, by decide +kernel⟩, List.mem_of_getElem? (i := 15) (by decide +kernel), List.mem_of_getElem? (i := 870) (by decide +kernel), List.mem_of_getElem? (i := 871) (by decide +kernel)⟩
theorem lw_p42 : lw_okq (⟨"LoopGround", "noteTable", "(II)Z"⟩, 19) := ⟨⟨by decide +kernel, by decide +kernel⟩, List.mem_of_getElem? (i := 15) (by decide +kernel), List.mem_of_getElem? (i := 880) (by decide +kernel), List.mem_of_getElem? (i := 881) (by decide +kernel)⟩
theorem lw_p43 : lw_okq (⟨"LoopGround$Table", "setOne", "([[J)V"⟩, 9) := ⟨⟨by decide +kernel, by decide +kernel⟩, List.mem_of_getElem? (i := 277) (by decide +kernel), List.mem_of_getElem? (i := 892) (by decide +kernel), List.mem_of_getElem? (i := 893) (by decide +kernel)⟩
theorem lw_p44 : lw_okq (⟨"LoopGround$Table", "expand", "()V"⟩, 9) := ⟨⟨by decide +kernel, by decide +kernel⟩, List.mem_of_getElem? (i := 277) (by decide +kernel), List.mem_of_getElem? (i := 908) (by decide +kernel), List.mem_of_getElem? (i := 909) (by decide +kernel)⟩
theorem lw_p45 : lw_okq (⟨"LoopGround$Table", "multiplyPower", "()V"⟩, 9) := ⟨⟨by decide +kernel, by decide +kernel⟩, List.mem_of_getElem? (i := 277) (by decide +kernel), List.mem_of_getElem? (i := 912) (by decide +kernel), List.mem_of_getElem? (i := 913) (by decide +kernel)⟩
theorem lw_p46 : lw_okq (⟨"LoopGround$Counter", "countUp", "(I)Z"⟩, 3) := ⟨⟨by decide +kernel, by decide +kernel⟩, List.mem_of_getElem? (i := 214) (by decide +kernel), List.mem_of_getElem? (i := 938) (by decide +kernel), List.mem_of_getElem? (i := 939) (by decide +kernel)⟩
theorem lw_p47 : lw_okq (⟨"LoopGround$Counter", "wrongEdge", "()I"⟩, 3) := ⟨⟨by decide +kernel, by decide +kernel⟩, List.mem_of_getElem? (i := 214) (by decide +kernel), List.mem_of_getElem? (i := 942) (by decide +kernel), List.mem_of_getElem? (i := 943) (by decide +kernel)⟩
def lw_privs_3 : List (MethodName × Nat) := [(⟨"LoopGround", "numbersOf", "(I)[J"⟩, 19), (⟨"LoopGround", "isLine", "(I)Z"⟩, 19), (⟨"LoopGround", "isEdge", "(I)Z"⟩, 19), (⟨"LoopGround$Tracer", "beginFirst", "()Z"⟩, 14), (⟨"LoopGround$Mover", "passFlips", "([JLLoopGround$Road;ZLLoopGround$Table;)Z"⟩, 3), (⟨"LoopGround$Mover", "change", "([JIIIIILLoopGround$Table;)Z"⟩, 3), (⟨"LoopGround$Tracer", "flowInto", "([I)V"⟩, 14), (⟨"LoopGround", "leavesAsItIs", "(I[J)Z"⟩, 19), (⟨"LoopGround$Mover", "exchange", "([JIILLoopGround$Table;)V"⟩, 3), (⟨"LoopGround", "canStretch", "(II)Z"⟩, 19), (⟨"LoopGround", "noteTable", "(II)Z"⟩, 19), (⟨"LoopGround$Table", "setOne", "([[J)V"⟩, 9), (⟨"LoopGround$Table", "expand", "()V"⟩, 9), (⟨"LoopGround$Table", "multiplyPower", "()V"⟩, 9), (⟨"LoopGround$Counter", "countUp", "(I)Z"⟩, 3), (⟨"LoopGround$Counter", "wrongEdge", "()I"⟩, 3)]
theorem lw_r3 : ∀ q ∈ lw_privs_3, lw_okq q := List.forall_mem_cons.mpr ⟨lw_p32, List.forall_mem_cons.mpr ⟨lw_p33, List.forall_mem_cons.mpr ⟨lw_p34, List.forall_mem_cons.mpr ⟨lw_p35, List.forall_mem_cons.mpr ⟨lw_p36, List.forall_mem_cons.mpr ⟨lw_p37, List.forall_mem_cons.mpr ⟨lw_p38, List.forall_mem_cons.mpr ⟨lw_p39, List.forall_mem_cons.mpr ⟨lw_p40, List.forall_mem_cons.mpr ⟨lw_p41, List.forall_mem_cons.mpr ⟨lw_p42, List.forall_mem_cons.mpr ⟨lw_p43, List.forall_mem_cons.mpr ⟨lw_p44, List.forall_mem_cons.mpr ⟨lw_p45, List.forall_mem_cons.mpr ⟨lw_p46, List.forall_mem_cons.mpr ⟨lw_p47, fun _ h => absurd h List.not_mem_nil⟩⟩⟩⟩⟩⟩⟩⟩⟩⟩⟩⟩⟩⟩⟩⟩
theorem lw_p48 : lw_okq (⟨"LoopGround", "hasLoop", "([J)Z"⟩, 19) := ⟨⟨by decide +kernel, by decide +kernel⟩, List.mem_of_getElem? (i := 15) (by decide +kernel), List.mem_of_getElem? (i := 954) (by decide +kernel), List.mem_of_getElem? (i := 955) (by decide +kernel)⟩
theorem lw_p49 : lw_okq (⟨"LoopGround", "act", "(Z)J"⟩, 19) := ⟨⟨by decide +kernel, by decide +kernel⟩, List.mem_of_getElem? (i := 15) (by decide +kernel), List.mem_of_getElem? (i := 976) (by decide +kernel), List.mem_of_getElem? (i := 977) (by decide +kernel)⟩
theorem lw_p50 : lw_okq (⟨"LoopGround$Drawing", "isRoundLine", "()Z"⟩, 5) := ⟨⟨by decide +kernel, by decide +kernel⟩, List.mem_of_getElem? (i := 231) (by decide +kernel), List.mem_of_getElem? (i := 1031) (by decide +kernel), List.mem_of_getElem? (i := 1032) (by decide +kernel)⟩
theorem lw_p51 : lw_okq (⟨"LoopGround$Drawing", "agrees", "(II)Z"⟩, 5) := ⟨⟨by decide +kernel, by decide +kernel⟩, List.mem_of_getElem? (i := 231) (by decide +kernel), List.mem_of_getElem? (i := 1035) (by decide +kernel), List.mem_of_getElem? (i := 1036) (by decide +kernel)⟩
theorem lw_p52 : lw_okq (⟨"LoopGroundModel", "points", "()V"⟩, 81) := ⟨⟨by decide +kernel, by decide +kernel⟩, List.mem_of_getElem? (i := 1052) (by decide +kernel), List.mem_of_getElem? (i := 1059) (by decide +kernel), List.mem_of_getElem? (i := 1060) (by decide +kernel)⟩
theorem lw_p53 : lw_okq (⟨"LoopGroundModel", "four", "(I)V"⟩, 81) := ⟨⟨by decide +kernel, by decide +kernel⟩, List.mem_of_getElem? (i := 1052) (by decide +kernel), List.mem_of_getElem? (i := 1314) (by decide +kernel), List.mem_of_getElem? (i := 1315) (by decide +kernel)⟩
theorem lw_p54 : lw_okq (⟨"LoopGroundModel", "readAll", "()V"⟩, 81) := ⟨⟨by decide +kernel, by decide +kernel⟩, List.mem_of_getElem? (i := 1052) (by decide +kernel), List.mem_of_getElem? (i := 1326) (by decide +kernel), List.mem_of_getElem? (i := 1327) (by decide +kernel)⟩
theorem lw_p55 : lw_okq (⟨"LoopGroundModel", "token", "()V"⟩, 81) := ⟨⟨by decide +kernel, by decide +kernel⟩, List.mem_of_getElem? (i := 1052) (by decide +kernel), List.mem_of_getElem? (i := 1330) (by decide +kernel), List.mem_of_getElem? (i := 1331) (by decide +kernel)⟩
theorem lw_p56 : lw_okq (⟨"LoopGroundModel", "here", "(I)I"⟩, 81) := ⟨⟨by decide +kernel, by decide +kernel⟩, List.mem_of_getElem? (i := 1052) (by decide +kernel), List.mem_of_getElem? (i := 1334) (by decide +kernel), List.mem_of_getElem? (i := 1335) (by decide +kernel)⟩
theorem lw_p57 : lw_okq (⟨"LoopGroundModel", "readLine", "()V"⟩, 81) := ⟨⟨by decide +kernel, by decide +kernel⟩, List.mem_of_getElem? (i := 1052) (by decide +kernel), List.mem_of_getElem? (i := 1344) (by decide +kernel), List.mem_of_getElem? (i := 1345) (by decide +kernel)⟩
theorem lw_p58 : lw_okq (⟨"LoopGroundModel", "isWord", "(J)Z"⟩, 81) := ⟨⟨by decide +kernel, by decide +kernel⟩, List.mem_of_getElem? (i := 1052) (by decide +kernel), List.mem_of_getElem? (i := 1349) (by decide +kernel), List.mem_of_getElem? (i := 1350) (by decide +kernel)⟩
theorem lw_p59 : lw_okq (⟨"LoopGroundModel", "wrong", "(I)V"⟩, 81) := ⟨⟨by decide +kernel, by decide +kernel⟩, List.mem_of_getElem? (i := 1052) (by decide +kernel), List.mem_of_getElem? (i := 1355) (by decide +kernel), List.mem_of_getElem? (i := 1356) (by decide +kernel)⟩
theorem lw_p60 : lw_okq (⟨"LoopGroundModel", "wrongAt", "(II)V"⟩, 81) := ⟨⟨by decide +kernel, by decide +kernel⟩, List.mem_of_getElem? (i := 1052) (by decide +kernel), List.mem_of_getElem? (i := 1359) (by decide +kernel), List.mem_of_getElem? (i := 1360) (by decide +kernel)⟩
theorem lw_p61 : lw_okq (⟨"LoopGroundModel", "isWhole", "()Z"⟩, 81) := ⟨⟨by decide +kernel, by decide +kernel⟩, List.mem_of_getElem? (i := 1052) (by decide +kernel), List.mem_of_getElem? (i := 1363) (by decide +kernel), List.mem_of_getElem? (i := 1364) (by decide +kernel)⟩
theorem lw_p62 : lw_okq (⟨"LoopGroundModel", "nEdges", "()I"⟩, 81) := ⟨⟨by decide +kernel, by decide +kernel⟩, List.mem_of_getElem? (i := 1052) (by decide +kernel), List.mem_of_getElem? (i := 1367) (by decide +kernel), List.mem_of_getElem? (i := 1368) (by decide +kernel)⟩
theorem lw_p63 : lw_okq (⟨"LoopGroundModel", "hangs", "(II)Z"⟩, 81) := ⟨⟨by decide +kernel, by decide +kernel⟩, List.mem_of_getElem? (i := 1052) (by decide +kernel), List.mem_of_getElem? (i := 1371) (by decide +kernel), List.mem_of_getElem? (i := 1372) (by decide +kernel)⟩
def lw_privs_4 : List (MethodName × Nat) := [(⟨"LoopGround", "hasLoop", "([J)Z"⟩, 19), (⟨"LoopGround", "act", "(Z)J"⟩, 19), (⟨"LoopGround$Drawing", "isRoundLine", "()Z"⟩, 5), (⟨"LoopGround$Drawing", "agrees", "(II)Z"⟩, 5), (⟨"LoopGroundModel", "points", "()V"⟩, 81), (⟨"LoopGroundModel", "four", "(I)V"⟩, 81), (⟨"LoopGroundModel", "readAll", "()V"⟩, 81), (⟨"LoopGroundModel", "token", "()V"⟩, 81), (⟨"LoopGroundModel", "here", "(I)I"⟩, 81), (⟨"LoopGroundModel", "readLine", "()V"⟩, 81), (⟨"LoopGroundModel", "isWord", "(J)Z"⟩, 81), (⟨"LoopGroundModel", "wrong", "(I)V"⟩, 81), (⟨"LoopGroundModel", "wrongAt", "(II)V"⟩, 81), (⟨"LoopGroundModel", "isWhole", "()Z"⟩, 81), (⟨"LoopGroundModel", "nEdges", "()I"⟩, 81), (⟨"LoopGroundModel", "hangs", "(II)Z"⟩, 81)]
theorem lw_r4 : ∀ q ∈ lw_privs_4, lw_okq q := List.forall_mem_cons.mpr ⟨lw_p48, List.forall_mem_cons.mpr ⟨lw_p49, List.forall_mem_cons.mpr ⟨lw_p50, List.forall_mem_cons.mpr ⟨lw_p51, List.forall_mem_cons.mpr ⟨lw_p52, List.forall_mem_cons.mpr ⟨lw_p53, List.forall_mem_cons.mpr ⟨lw_p54, List.forall_mem_cons.mpr ⟨lw_p55, List.forall_mem_cons.mpr ⟨lw_p56, List.forall_mem_cons.mpr ⟨lw_p57, List.forall_mem_cons.mpr ⟨lw_p58, List.forall_mem_cons.mpr ⟨lw_p59, List.forall_mem_cons.mpr ⟨lw_p60, List.forall_mem_cons.mpr ⟨lw_p61, List.forall_mem_cons.mpr ⟨lw_p62, List.forall_mem_cons.mpr ⟨lw_p63, fun _ h => absurd h List.not_mem_nil⟩⟩⟩⟩⟩⟩⟩⟩⟩⟩⟩⟩⟩⟩⟩⟩
theorem lw_p64 : lw_okq (⟨"LoopGroundModel", "readPiece", "()V"⟩, 81) := ⟨⟨by decide +kernel, by decide +kernel⟩, List.mem_of_getElem? (i := 1052) (by decide +kernel), List.mem_of_getElem? (i := 1375) (by decide +kernel), List.mem_of_getElem? (i := 1376) (by decide +kernel)⟩
theorem lw_p65 : lw_okq (⟨"LoopGroundModel", "toldNumber", "(II)I"⟩, 81) := ⟨⟨by decide +kernel, by decide +kernel⟩, List.mem_of_getElem? (i := 1052) (by decide +kernel), List.mem_of_getElem? (i := 1379) (by decide +kernel), List.mem_of_getElem? (i := 1380) (by decide +kernel)⟩
theorem lw_p66 : lw_okq (⟨"LoopGroundModel", "readLineOf", "()V"⟩, 81) := ⟨⟨by decide +kernel, by decide +kernel⟩, List.mem_of_getElem? (i := 1052) (by decide +kernel), List.mem_of_getElem? (i := 1383) (by decide +kernel), List.mem_of_getElem? (i := 1384) (by decide +kernel)⟩
theorem lw_p67 : lw_okq (⟨"LoopGroundModel", "isName", "()Z"⟩, 81) := ⟨⟨by decide +kernel, by decide +kernel⟩, List.mem_of_getElem? (i := 1052) (by decide +kernel), List.mem_of_getElem? (i := 1387) (by decide +kernel), List.mem_of_getElem? (i := 1388) (by decide +kernel)⟩
theorem lw_p68 : lw_okq (⟨"LoopGroundModel", "findLine", "()I"⟩, 81) := ⟨⟨by decide +kernel, by decide +kernel⟩, List.mem_of_getElem? (i := 1052) (by decide +kernel), List.mem_of_getElem? (i := 1393) (by decide +kernel), List.mem_of_getElem? (i := 1394) (by decide +kernel)⟩
theorem lw_p69 : lw_okq (⟨"LoopGroundModel", "want", "(J)V"⟩, 81) := ⟨⟨by decide +kernel, by decide +kernel⟩, List.mem_of_getElem? (i := 1052) (by decide +kernel), List.mem_of_getElem? (i := 1397) (by decide +kernel), List.mem_of_getElem? (i := 1398) (by decide +kernel)⟩
theorem lw_p70 : lw_okq (⟨"LoopGroundModel", "nFits", "(I)Z"⟩, 81) := ⟨⟨by decide +kernel, by decide +kernel⟩, List.mem_of_getElem? (i := 1052) (by decide +kernel), List.mem_of_getElem? (i := 1401) (by decide +kernel), List.mem_of_getElem? (i := 1402) (by decide +kernel)⟩
theorem lw_p71 : lw_okq (⟨"LoopGroundModel", "readWordOf", "()V"⟩, 81) := ⟨⟨by decide +kernel, by decide +kernel⟩, List.mem_of_getElem? (i := 1052) (by decide +kernel), List.mem_of_getElem? (i := 1405) (by decide +kernel), List.mem_of_getElem? (i := 1406) (by decide +kernel)⟩
theorem lw_p72 : lw_okq (⟨"LoopGroundModel", "times", "()I"⟩, 81) := ⟨⟨by decide +kernel, by decide +kernel⟩, List.mem_of_getElem? (i := 1052) (by decide +kernel), List.mem_of_getElem? (i := 1409) (by decide +kernel), List.mem_of_getElem? (i := 1410) (by decide +kernel)⟩
theorem lw_p73 : lw_okq (⟨"LoopGroundModel", "layOver", "()V"⟩, 81) := ⟨⟨by decide +kernel, by decide +kernel⟩, List.mem_of_getElem? (i := 1052) (by decide +kernel), List.mem_of_getElem? (i := 1413) (by decide +kernel), List.mem_of_getElem? (i := 1414) (by decide +kernel)⟩
theorem lw_p74 : lw_okq (⟨"LoopGroundModel", "layFlips", "(I)V"⟩, 81) := ⟨⟨by decide +kernel, by decide +kernel⟩, List.mem_of_getElem? (i := 1052) (by decide +kernel), List.mem_of_getElem? (i := 1417) (by decide +kernel), List.mem_of_getElem? (i := 1418) (by decide +kernel)⟩
theorem lw_p75 : lw_okq (⟨"LoopGroundModel", "isSingle", "(I)Z"⟩, 81) := ⟨⟨by decide +kernel, by decide +kernel⟩, List.mem_of_getElem? (i := 1052) (by decide +kernel), List.mem_of_getElem? (i := 1421) (by decide +kernel), List.mem_of_getElem? (i := 1422) (by decide +kernel)⟩
theorem lw_p76 : lw_okq (⟨"LoopGroundModel", "sumOf", "(I)J"⟩, 81) := ⟨⟨by decide +kernel, by decide +kernel⟩, List.mem_of_getElem? (i := 1052) (by decide +kernel), List.mem_of_getElem? (i := 1425) (by decide +kernel), List.mem_of_getElem? (i := 1426) (by decide +kernel)⟩
theorem lw_p77 : lw_okq (⟨"LoopGroundModel", "edges", "()I"⟩, 81) := ⟨⟨by decide +kernel, by decide +kernel⟩, List.mem_of_getElem? (i := 1052) (by decide +kernel), List.mem_of_getElem? (i := 1429) (by decide +kernel), List.mem_of_getElem? (i := 1430) (by decide +kernel)⟩
theorem lw_p78 : lw_okq (⟨"LoopGroundModel", "countLoops", "(I)V"⟩, 81) := ⟨⟨by decide +kernel, by decide +kernel⟩, List.mem_of_getElem? (i := 1052) (by decide +kernel), List.mem_of_getElem? (i := 1437) (by decide +kernel), List.mem_of_getElem? (i := 1438) (by decide +kernel)⟩
theorem lw_p79 : lw_okq (⟨"LoopGroundModel", "layRow", "(I)V"⟩, 81) := ⟨⟨by decide +kernel, by decide +kernel⟩, List.mem_of_getElem? (i := 1052) (by decide +kernel), List.mem_of_getElem? (i := 1441) (by decide +kernel), List.mem_of_getElem? (i := 1442) (by decide +kernel)⟩
def lw_privs_5 : List (MethodName × Nat) := [(⟨"LoopGroundModel", "readPiece", "()V"⟩, 81), (⟨"LoopGroundModel", "toldNumber", "(II)I"⟩, 81), (⟨"LoopGroundModel", "readLineOf", "()V"⟩, 81), (⟨"LoopGroundModel", "isName", "()Z"⟩, 81), (⟨"LoopGroundModel", "findLine", "()I"⟩, 81), (⟨"LoopGroundModel", "want", "(J)V"⟩, 81), (⟨"LoopGroundModel", "nFits", "(I)Z"⟩, 81), (⟨"LoopGroundModel", "readWordOf", "()V"⟩, 81), (⟨"LoopGroundModel", "times", "()I"⟩, 81), (⟨"LoopGroundModel", "layOver", "()V"⟩, 81), (⟨"LoopGroundModel", "layFlips", "(I)V"⟩, 81), (⟨"LoopGroundModel", "isSingle", "(I)Z"⟩, 81), (⟨"LoopGroundModel", "sumOf", "(I)J"⟩, 81), (⟨"LoopGroundModel", "edges", "()I"⟩, 81), (⟨"LoopGroundModel", "countLoops", "(I)V"⟩, 81), (⟨"LoopGroundModel", "layRow", "(I)V"⟩, 81)]
theorem lw_r5 : ∀ q ∈ lw_privs_5, lw_okq q := List.forall_mem_cons.mpr ⟨lw_p64, List.forall_mem_cons.mpr ⟨lw_p65, List.forall_mem_cons.mpr ⟨lw_p66, List.forall_mem_cons.mpr ⟨lw_p67, List.forall_mem_cons.mpr ⟨lw_p68, List.forall_mem_cons.mpr ⟨lw_p69, List.forall_mem_cons.mpr ⟨lw_p70, List.forall_mem_cons.mpr ⟨lw_p71, List.forall_mem_cons.mpr ⟨lw_p72, List.forall_mem_cons.mpr ⟨lw_p73, List.forall_mem_cons.mpr ⟨lw_p74, List.forall_mem_cons.mpr ⟨lw_p75, List.forall_mem_cons.mpr ⟨lw_p76, List.forall_mem_cons.mpr ⟨lw_p77, List.forall_mem_cons.mpr ⟨lw_p78, List.forall_mem_cons.mpr ⟨lw_p79, fun _ h => absurd h List.not_mem_nil⟩⟩⟩⟩⟩⟩⟩⟩⟩⟩⟩⟩⟩⟩⟩⟩
theorem lw_p80 : lw_okq (⟨"LoopGroundModel", "isRing", "(II)Z"⟩, 81) := ⟨⟨by decide +kernel, by decide +kernel⟩, List.mem_of_getElem? (i := 1052) (by decide +kernel), List.mem_of_getElem? (i := 1445) (by decide +kernel), List.mem_of_getElem? (i := 1446) (by decide +kernel)⟩
theorem lw_p81 : lw_okq (⟨"LoopGroundModel", "strand", "()I"⟩, 81) := ⟨⟨by decide +kernel, by decide +kernel⟩, List.mem_of_getElem? (i := 1052) (by decide +kernel), List.mem_of_getElem? (i := 1449) (by decide +kernel), List.mem_of_getElem? (i := 1450) (by decide +kernel)⟩
theorem lw_p82 : lw_okq (⟨"LoopGroundModel", "goOver", "()V"⟩, 81) := ⟨⟨by decide +kernel, by decide +kernel⟩, List.mem_of_getElem? (i := 1052) (by decide +kernel), List.mem_of_getElem? (i := 1453) (by decide +kernel), List.mem_of_getElem? (i := 1454) (by decide +kernel)⟩
theorem lw_p83 : lw_okq (⟨"LoopGroundModel", "on", "(I)I"⟩, 81) := ⟨⟨by decide +kernel, by decide +kernel⟩, List.mem_of_getElem? (i := 1052) (by decide +kernel), List.mem_of_getElem? (i := 1457) (by decide +kernel), List.mem_of_getElem? (i := 1458) (by decide +kernel)⟩
theorem lw_p84 : lw_okq (⟨"LoopGroundModel", "goThrough", "()V"⟩, 81) := ⟨⟨by decide +kernel, by decide +kernel⟩, List.mem_of_getElem? (i := 1052) (by decide +kernel), List.mem_of_getElem? (i := 1461) (by decide +kernel), List.mem_of_getElem? (i := 1462) (by decide +kernel)⟩
theorem lw_p85 : lw_okq (⟨"LoopGroundModel", "round", "(I)I"⟩, 81) := ⟨⟨by decide +kernel, by decide +kernel⟩, List.mem_of_getElem? (i := 1052) (by decide +kernel), List.mem_of_getElem? (i := 1465) (by decide +kernel), List.mem_of_getElem? (i := 1466) (by decide +kernel)⟩
theorem lw_p86 : lw_okq (⟨"LoopGroundModel", "isShort", "()Z"⟩, 81) := ⟨⟨by decide +kernel, by decide +kernel⟩, List.mem_of_getElem? (i := 1052) (by decide +kernel), List.mem_of_getElem? (i := 1469) (by decide +kernel), List.mem_of_getElem? (i := 1470) (by decide +kernel)⟩
theorem lw_p87 : lw_okq (⟨"LoopGroundModel", "shorter", "()I"⟩, 81) := ⟨⟨by decide +kernel, by decide +kernel⟩, List.mem_of_getElem? (i := 1052) (by decide +kernel), List.mem_of_getElem? (i := 1473) (by decide +kernel), List.mem_of_getElem? (i := 1474) (by decide +kernel)⟩
theorem lw_p88 : lw_okq (⟨"LoopGroundModel", "findSides", "(I)Z"⟩, 81) := ⟨⟨by decide +kernel, by decide +kernel⟩, List.mem_of_getElem? (i := 1052) (by decide +kernel), List.mem_of_getElem? (i := 1477) (by decide +kernel), List.mem_of_getElem? (i := 1478) (by decide +kernel)⟩
theorem lw_p89 : lw_okq (⟨"LoopGroundModel", "flipped", "(I)I"⟩, 81) := ⟨⟨by decide +kernel, by decide +kernel⟩, List.mem_of_getElem? (i := 1052) (by decide +kernel), List.mem_of_getElem? (i := 1481) (by decide +kernel), List.mem_of_getElem? (i := 1482) (by decide +kernel)⟩
theorem lw_p90 : lw_okq (⟨"LoopGroundModel", "doFlip", "(II)V"⟩, 81) := ⟨⟨by decide +kernel, by decide +kernel⟩, List.mem_of_getElem? (i := 1052) (by decide +kernel), List.mem_of_getElem? (i := 1485) (by decide +kernel), List.mem_of_getElem? (i := 1486) (by decide +kernel)⟩
theorem lw_p91 : lw_okq (⟨"LoopGroundModel", "layShort", "(I)V"⟩, 81) := ⟨⟨by decide +kernel, by decide +kernel⟩, List.mem_of_getElem? (i := 1052) (by decide +kernel), List.mem_of_getElem? (i := 1489) (by decide +kernel), List.mem_of_getElem? (i := 1490) (by decide +kernel)⟩
theorem lw_p92 : lw_okq (⟨"LoopGroundModel", "isLine", "(I)Z"⟩, 81) := ⟨⟨by decide +kernel, by decide +kernel⟩, List.mem_of_getElem? (i := 1052) (by decide +kernel), List.mem_of_getElem? (i := 1505) (by decide +kernel), List.mem_of_getElem? (i := 1506) (by decide +kernel)⟩
theorem lw_p93 : lw_okq (⟨"LoopGroundModel", "isEdge", "(I)Z"⟩, 81) := ⟨⟨by decide +kernel, by decide +kernel⟩, List.mem_of_getElem? (i := 1052) (by decide +kernel), List.mem_of_getElem? (i := 1509) (by decide +kernel), List.mem_of_getElem? (i := 1510) (by decide +kernel)⟩
theorem lw_p94 : lw_okq (⟨"LoopGroundModel", "trace", "(I)V"⟩, 81) := ⟨⟨by decide +kernel, by decide +kernel⟩, List.mem_of_getElem? (i := 1052) (by decide +kernel), List.mem_of_getElem? (i := 1522) (by decide +kernel), List.mem_of_getElem? (i := 1523) (by decide +kernel)⟩
theorem lw_p95 : lw_okq (⟨"LoopGroundModel", "begin", "(I)V"⟩, 81) := ⟨⟨by decide +kernel, by decide +kernel⟩, List.mem_of_getElem? (i := 1052) (by decide +kernel), List.mem_of_getElem? (i := 1539) (by decide +kernel), List.mem_of_getElem? (i := 1540) (by decide +kernel)⟩
def lw_privs_6 : List (MethodName × Nat) := [(⟨"LoopGroundModel", "isRing", "(II)Z"⟩, 81), (⟨"LoopGroundModel", "strand", "()I"⟩, 81), (⟨"LoopGroundModel", "goOver", "()V"⟩, 81), (⟨"LoopGroundModel", "on", "(I)I"⟩, 81), (⟨"LoopGroundModel", "goThrough", "()V"⟩, 81), (⟨"LoopGroundModel", "round", "(I)I"⟩, 81), (⟨"LoopGroundModel", "isShort", "()Z"⟩, 81), (⟨"LoopGroundModel", "shorter", "()I"⟩, 81), (⟨"LoopGroundModel", "findSides", "(I)Z"⟩, 81), (⟨"LoopGroundModel", "flipped", "(I)I"⟩, 81), (⟨"LoopGroundModel", "doFlip", "(II)V"⟩, 81), (⟨"LoopGroundModel", "layShort", "(I)V"⟩, 81), (⟨"LoopGroundModel", "isLine", "(I)Z"⟩, 81), (⟨"LoopGroundModel", "isEdge", "(I)Z"⟩, 81), (⟨"LoopGroundModel", "trace", "(I)V"⟩, 81), (⟨"LoopGroundModel", "begin", "(I)V"⟩, 81)]
theorem lw_r6 : ∀ q ∈ lw_privs_6, lw_okq q := List.forall_mem_cons.mpr ⟨lw_p80, List.forall_mem_cons.mpr ⟨lw_p81, List.forall_mem_cons.mpr ⟨lw_p82, List.forall_mem_cons.mpr ⟨lw_p83, List.forall_mem_cons.mpr ⟨lw_p84, List.forall_mem_cons.mpr ⟨lw_p85, List.forall_mem_cons.mpr ⟨lw_p86, List.forall_mem_cons.mpr ⟨lw_p87, List.forall_mem_cons.mpr ⟨lw_p88, List.forall_mem_cons.mpr ⟨lw_p89, List.forall_mem_cons.mpr ⟨lw_p90, List.forall_mem_cons.mpr ⟨lw_p91, List.forall_mem_cons.mpr ⟨lw_p92, List.forall_mem_cons.mpr ⟨lw_p93, List.forall_mem_cons.mpr ⟨lw_p94, List.forall_mem_cons.mpr ⟨lw_p95, fun _ h => absurd h List.not_mem_nil⟩⟩⟩⟩⟩⟩⟩⟩⟩⟩⟩⟩⟩⟩⟩⟩
theorem lw_p96 : lw_okq (⟨"LoopGroundModel", "goFlips", "(I)V"⟩, 81) := ⟨⟨by decide +kernel, by decide +kernel⟩, List.mem_of_getElem? (i := 1052) (by decide +kernel), List.mem_of_getElem? (i := 1543) (by decide +kernel), List.mem_of_getElem? (i := 1544) (by decide +kernel)⟩
theorem lw_p97 : lw_okq (⟨"LoopGroundModel", "goFlip", "(I)V"⟩, 81) := ⟨⟨by decide +kernel, by decide +kernel⟩, List.mem_of_getElem? (i := 1052) (by decide +kernel), List.mem_of_getElem? (i := 1547) (by decide +kernel), List.mem_of_getElem? (i := 1548) (by decide +kernel)⟩
theorem lw_p98 : lw_okq (⟨"LoopGroundModel", "greater", "(IIIIII)V"⟩, 81) := ⟨⟨by decide +kernel, by decide +kernel⟩, List.mem_of_getElem? (i := 1052) (by decide +kernel), List.mem_of_getElem? (i := 1551) (by decide +kernel), List.mem_of_getElem? (i := 1552) (by decide +kernel)⟩
theorem lw_p99 : lw_okq (⟨"LoopGroundModel", "take", "(IZIIIII)V"⟩, 81) := ⟨⟨by decide +kernel, by decide +kernel⟩, List.mem_of_getElem? (i := 1052) (by decide +kernel), List.mem_of_getElem? (i := 1555) (by decide +kernel), List.mem_of_getElem? (i := 1556) (by decide +kernel)⟩
theorem lw_p100 : lw_okq (⟨"LoopGroundModel", "layOuts", "(II)V"⟩, 81) := ⟨⟨by decide +kernel, by decide +kernel⟩, List.mem_of_getElem? (i := 1052) (by decide +kernel), List.mem_of_getElem? (i := 1569) (by decide +kernel), List.mem_of_getElem? (i := 1570) (by decide +kernel)⟩
theorem lw_p101 : lw_okq (⟨"LoopGroundModel", "isFairWord", "(I)Z"⟩, 81) := ⟨⟨by decide +kernel, by decide +kernel⟩, List.mem_of_getElem? (i := 1052) (by decide +kernel), List.mem_of_getElem? (i := 1577) (by decide +kernel), List.mem_of_getElem? (i := 1578) (by decide +kernel)⟩
theorem lw_p102 : lw_okq (⟨"LoopGroundModel", "isWordOf", "(I)Z"⟩, 81) := ⟨⟨by decide +kernel, by decide +kernel⟩, List.mem_of_getElem? (i := 1052) (by decide +kernel), List.mem_of_getElem? (i := 1581) (by decide +kernel), List.mem_of_getElem? (i := 1582) (by decide +kernel)⟩
theorem lw_p103 : lw_okq (⟨"LoopGroundModel", "goWord", "(I)V"⟩, 81) := ⟨⟨by decide +kernel, by decide +kernel⟩, List.mem_of_getElem? (i := 1052) (by decide +kernel), List.mem_of_getElem? (i := 1585) (by decide +kernel), List.mem_of_getElem? (i := 1586) (by decide +kernel)⟩
theorem lw_p104 : lw_okq (⟨"LoopGroundModel", "goTwist", "(II)V"⟩, 81) := ⟨⟨by decide +kernel, by decide +kernel⟩, List.mem_of_getElem? (i := 1052) (by decide +kernel), List.mem_of_getElem? (i := 1589) (by decide +kernel), List.mem_of_getElem? (i := 1590) (by decide +kernel)⟩
theorem lw_p105 : lw_okq (⟨"LoopGroundModel", "turnOnce", "(III)V"⟩, 81) := ⟨⟨by decide +kernel, by decide +kernel⟩, List.mem_of_getElem? (i := 1052) (by decide +kernel), List.mem_of_getElem? (i := 1593) (by decide +kernel), List.mem_of_getElem? (i := 1594) (by decide +kernel)⟩
theorem lw_p106 : lw_okq (⟨"LoopGroundModel", "goBack", "(I)V"⟩, 81) := ⟨⟨by decide +kernel, by decide +kernel⟩, List.mem_of_getElem? (i := 1052) (by decide +kernel), List.mem_of_getElem? (i := 1597) (by decide +kernel), List.mem_of_getElem? (i := 1598) (by decide +kernel)⟩
theorem lw_p107 : lw_okq (⟨"LoopGroundModel", "isAsWas", "(I)Z"⟩, 81) := ⟨⟨by decide +kernel, by decide +kernel⟩, List.mem_of_getElem? (i := 1052) (by decide +kernel), List.mem_of_getElem? (i := 1601) (by decide +kernel), List.mem_of_getElem? (i := 1602) (by decide +kernel)⟩
theorem lw_p108 : lw_okq (⟨"LoopGroundModel", "goOn", "(II)Z"⟩, 81) := ⟨⟨by decide +kernel, by decide +kernel⟩, List.mem_of_getElem? (i := 1052) (by decide +kernel), List.mem_of_getElem? (i := 1613) (by decide +kernel), List.mem_of_getElem? (i := 1614) (by decide +kernel)⟩
theorem lw_p109 : lw_okq (⟨"LoopGroundModel", "allOf", "()J"⟩, 81) := ⟨⟨by decide +kernel, by decide +kernel⟩, List.mem_of_getElem? (i := 1052) (by decide +kernel), List.mem_of_getElem? (i := 1621) (by decide +kernel), List.mem_of_getElem? (i := 1622) (by decide +kernel)⟩
theorem lw_p110 : lw_okq (⟨"LoopGroundModel", "layTable", "(II)Z"⟩, 81) := ⟨⟨by decide +kernel, by decide +kernel⟩, List.mem_of_getElem? (i := 1052) (by decide +kernel), List.mem_of_getElem? (i := 1630) (by decide +kernel), List.mem_of_getElem? (i := 1631) (by decide +kernel)⟩
theorem lw_p111 : lw_okq (⟨"LoopGroundModel", "layPolynomial", "()V"⟩, 81) := ⟨⟨by decide +kernel, by decide +kernel⟩, List.mem_of_getElem? (i := 1052) (by decide +kernel), List.mem_of_getElem? (i := 1638) (by decide +kernel), List.mem_of_getElem? (i := 1639) (by decide +kernel)⟩
def lw_privs_7 : List (MethodName × Nat) := [(⟨"LoopGroundModel", "goFlips", "(I)V"⟩, 81), (⟨"LoopGroundModel", "goFlip", "(I)V"⟩, 81), (⟨"LoopGroundModel", "greater", "(IIIIII)V"⟩, 81), (⟨"LoopGroundModel", "take", "(IZIIIII)V"⟩, 81), (⟨"LoopGroundModel", "layOuts", "(II)V"⟩, 81), (⟨"LoopGroundModel", "isFairWord", "(I)Z"⟩, 81), (⟨"LoopGroundModel", "isWordOf", "(I)Z"⟩, 81), (⟨"LoopGroundModel", "goWord", "(I)V"⟩, 81), (⟨"LoopGroundModel", "goTwist", "(II)V"⟩, 81), (⟨"LoopGroundModel", "turnOnce", "(III)V"⟩, 81), (⟨"LoopGroundModel", "goBack", "(I)V"⟩, 81), (⟨"LoopGroundModel", "isAsWas", "(I)Z"⟩, 81), (⟨"LoopGroundModel", "goOn", "(II)Z"⟩, 81), (⟨"LoopGroundModel", "allOf", "()J"⟩, 81), (⟨"LoopGroundModel", "layTable", "(II)Z"⟩, 81), (⟨"LoopGroundModel", "layPolynomial", "()V"⟩, 81)]
theorem lw_r7 : ∀ q ∈ lw_privs_7, lw_okq q := List.forall_mem_cons.mpr ⟨lw_p96, List.forall_mem_cons.mpr ⟨lw_p97, List.forall_mem_cons.mpr ⟨lw_p98, List.forall_mem_cons.mpr ⟨lw_p99, List.forall_mem_cons.mpr ⟨lw_p100, List.forall_mem_cons.mpr ⟨lw_p101, List.forall_mem_cons.mpr ⟨lw_p102, List.forall_mem_cons.mpr ⟨lw_p103, List.forall_mem_cons.mpr ⟨lw_p104, List.forall_mem_cons.mpr ⟨lw_p105, List.forall_mem_cons.mpr ⟨lw_p106, List.forall_mem_cons.mpr ⟨lw_p107, List.forall_mem_cons.mpr ⟨lw_p108, List.forall_mem_cons.mpr ⟨lw_p109, List.forall_mem_cons.mpr ⟨lw_p110, List.forall_mem_cons.mpr ⟨lw_p111, fun _ h => absurd h List.not_mem_nil⟩⟩⟩⟩⟩⟩⟩⟩⟩⟩⟩⟩⟩⟩⟩⟩
theorem lw_p112 : lw_okq (⟨"LoopGroundModel", "timesTable", "()V"⟩, 81) := ⟨⟨by decide +kernel, by decide +kernel⟩, List.mem_of_getElem? (i := 1052) (by decide +kernel), List.mem_of_getElem? (i := 1642) (by decide +kernel), List.mem_of_getElem? (i := 1643) (by decide +kernel)⟩
theorem lw_p113 : lw_okq (⟨"LoopGroundModel", "triedFits", "()Z"⟩, 81) := ⟨⟨by decide +kernel, by decide +kernel⟩, List.mem_of_getElem? (i := 1052) (by decide +kernel), List.mem_of_getElem? (i := 1655) (by decide +kernel), List.mem_of_getElem? (i := 1656) (by decide +kernel)⟩
theorem lw_p114 : lw_okq (⟨"LoopGroundModel", "hasLoop", "()Z"⟩, 81) := ⟨⟨by decide +kernel, by decide +kernel⟩, List.mem_of_getElem? (i := 1052) (by decide +kernel), List.mem_of_getElem? (i := 1659) (by decide +kernel), List.mem_of_getElem? (i := 1660) (by decide +kernel)⟩
theorem lw_p115 : lw_okq (⟨"LoopGroundModel", "isLeft", "(I)Z"⟩, 81) := ⟨⟨by decide +kernel, by decide +kernel⟩, List.mem_of_getElem? (i := 1052) (by decide +kernel), List.mem_of_getElem? (i := 1663) (by decide +kernel), List.mem_of_getElem? (i := 1664) (by decide +kernel)⟩
theorem lw_p116 : lw_okq (⟨"LoopGroundModel", "putDown", "()V"⟩, 81) := ⟨⟨by decide +kernel, by decide +kernel⟩, List.mem_of_getElem? (i := 1052) (by decide +kernel), List.mem_of_getElem? (i := 1667) (by decide +kernel), List.mem_of_getElem? (i := 1668) (by decide +kernel)⟩
theorem lw_p117 : lw_okq (⟨"LoopGroundModel", "lainAll", "()I"⟩, 81) := ⟨⟨by decide +kernel, by decide +kernel⟩, List.mem_of_getElem? (i := 1052) (by decide +kernel), List.mem_of_getElem? (i := 1671) (by decide +kernel), List.mem_of_getElem? (i := 1672) (by decide +kernel)⟩
theorem lw_p118 : lw_okq (⟨"LoopGroundModel", "nextTried", "(I)Z"⟩, 81) := ⟨⟨by decide +kernel, by decide +kernel⟩, List.mem_of_getElem? (i := 1052) (by decide +kernel), List.mem_of_getElem? (i := 1675) (by decide +kernel), List.mem_of_getElem? (i := 1676) (by decide +kernel)⟩
theorem lw_p119 : lw_okq (⟨"LoopGroundModel", "act", "()J"⟩, 81) := ⟨⟨by decide +kernel, by decide +kernel⟩, List.mem_of_getElem? (i := 1052) (by decide +kernel), List.mem_of_getElem? (i := 1687) (by decide +kernel), List.mem_of_getElem? (i := 1688) (by decide +kernel)⟩
theorem lw_p120 : lw_okq (⟨"LoopGroundModel", "shiftOut", "()V"⟩, 81) := ⟨⟨by decide +kernel, by decide +kernel⟩, List.mem_of_getElem? (i := 1052) (by decide +kernel), List.mem_of_getElem? (i := 1691) (by decide +kernel), List.mem_of_getElem? (i := 1692) (by decide +kernel)⟩
theorem lw_p121 : lw_okq (⟨"LoopGroundModel", "nowAll", "()J"⟩, 81) := ⟨⟨by decide +kernel, by decide +kernel⟩, List.mem_of_getElem? (i := 1052) (by decide +kernel), List.mem_of_getElem? (i := 1695) (by decide +kernel), List.mem_of_getElem? (i := 1696) (by decide +kernel)⟩
theorem lw_p122 : lw_okq (⟨"LoopGroundModel", "exchange", "(I)V"⟩, 81) := ⟨⟨by decide +kernel, by decide +kernel⟩, List.mem_of_getElem? (i := 1052) (by decide +kernel), List.mem_of_getElem? (i := 1711) (by decide +kernel), List.mem_of_getElem? (i := 1712) (by decide +kernel)⟩
theorem lw_p123 : lw_okq (⟨"LoopGroundModel", "readSketch", "(I)Z"⟩, 81) := ⟨⟨by decide +kernel, by decide +kernel⟩, List.mem_of_getElem? (i := 1052) (by decide +kernel), List.mem_of_getElem? (i := 1723) (by decide +kernel), List.mem_of_getElem? (i := 1724) (by decide +kernel)⟩
theorem lw_p124 : lw_okq (⟨"LoopGroundModel", "sideIn", "(II)I"⟩, 81) := ⟨⟨by decide +kernel, by decide +kernel⟩, List.mem_of_getElem? (i := 1052) (by decide +kernel), List.mem_of_getElem? (i := 1727) (by decide +kernel), List.mem_of_getElem? (i := 1728) (by decide +kernel)⟩
theorem lw_p125 : lw_okq (⟨"LoopGroundModel", "leaveOut", "()V"⟩, 81) := ⟨⟨by decide +kernel, by decide +kernel⟩, List.mem_of_getElem? (i := 1052) (by decide +kernel), List.mem_of_getElem? (i := 1731) (by decide +kernel), List.mem_of_getElem? (i := 1732) (by decide +kernel)⟩
theorem lw_p126 : lw_okq (⟨"LoopGroundModel", "isTrue", "()Z"⟩, 81) := ⟨⟨by decide +kernel, by decide +kernel⟩, List.mem_of_getElem? (i := 1052) (by decide +kernel), List.mem_of_getElem? (i := 1735) (by decide +kernel), List.mem_of_getElem? (i := 1736) (by decide +kernel)⟩
theorem lw_p127 : lw_okq (⟨"LoopGroundModel", "isPath", "(IZ)Z"⟩, 81) := ⟨⟨by decide +kernel, by decide +kernel⟩, List.mem_of_getElem? (i := 1052) (by decide +kernel), List.mem_of_getElem? (i := 1739) (by decide +kernel), List.mem_of_getElem? (i := 1740) (by decide +kernel)⟩
def lw_privs_8 : List (MethodName × Nat) := [(⟨"LoopGroundModel", "timesTable", "()V"⟩, 81), (⟨"LoopGroundModel", "triedFits", "()Z"⟩, 81), (⟨"LoopGroundModel", "hasLoop", "()Z"⟩, 81), (⟨"LoopGroundModel", "isLeft", "(I)Z"⟩, 81), (⟨"LoopGroundModel", "putDown", "()V"⟩, 81), (⟨"LoopGroundModel", "lainAll", "()I"⟩, 81), (⟨"LoopGroundModel", "nextTried", "(I)Z"⟩, 81), (⟨"LoopGroundModel", "act", "()J"⟩, 81), (⟨"LoopGroundModel", "shiftOut", "()V"⟩, 81), (⟨"LoopGroundModel", "nowAll", "()J"⟩, 81), (⟨"LoopGroundModel", "exchange", "(I)V"⟩, 81), (⟨"LoopGroundModel", "readSketch", "(I)Z"⟩, 81), (⟨"LoopGroundModel", "sideIn", "(II)I"⟩, 81), (⟨"LoopGroundModel", "leaveOut", "()V"⟩, 81), (⟨"LoopGroundModel", "isTrue", "()Z"⟩, 81), (⟨"LoopGroundModel", "isPath", "(IZ)Z"⟩, 81)]
theorem lw_r8 : ∀ q ∈ lw_privs_8, lw_okq q := List.forall_mem_cons.mpr ⟨lw_p112, List.forall_mem_cons.mpr ⟨lw_p113, List.forall_mem_cons.mpr ⟨lw_p114, List.forall_mem_cons.mpr ⟨lw_p115, List.forall_mem_cons.mpr ⟨lw_p116, List.forall_mem_cons.mpr ⟨lw_p117, List.forall_mem_cons.mpr ⟨lw_p118, List.forall_mem_cons.mpr ⟨lw_p119, List.forall_mem_cons.mpr ⟨lw_p120, List.forall_mem_cons.mpr ⟨lw_p121, List.forall_mem_cons.mpr ⟨lw_p122, List.forall_mem_cons.mpr ⟨lw_p123, List.forall_mem_cons.mpr ⟨lw_p124, List.forall_mem_cons.mpr ⟨lw_p125, List.forall_mem_cons.mpr ⟨lw_p126, List.forall_mem_cons.mpr ⟨lw_p127, fun _ h => absurd h List.not_mem_nil⟩⟩⟩⟩⟩⟩⟩⟩⟩⟩⟩⟩⟩⟩⟩⟩
def lw_privs : List (MethodName × Nat) := lw_privs_1 ++ (lw_privs_2 ++ (lw_privs_3 ++ (lw_privs_4 ++ (lw_privs_5 ++ (lw_privs_6 ++ (lw_privs_7 ++ (lw_privs_8)))))))
def lw_tbl : List Cond := k2_sels lw_privs ++ tables_1
theorem lw_privs_ok : ∀ q ∈ lw_privs, lw_okq q := by
  show ∀ q ∈ lw_privs_1 ++ (lw_privs_2 ++ (lw_privs_3 ++ (lw_privs_4 ++ (lw_privs_5 ++ (lw_privs_6 ++ (lw_privs_7 ++ (lw_privs_8))))))), lw_okq q
  exact List.forall_mem_append.mpr ⟨lw_r1, List.forall_mem_append.mpr ⟨lw_r2, List.forall_mem_append.mpr ⟨lw_r3, List.forall_mem_append.mpr ⟨lw_r4, List.forall_mem_append.mpr ⟨lw_r5, List.forall_mem_append.mpr ⟨lw_r6, List.forall_mem_append.mpr ⟨lw_r7, lw_r8⟩⟩⟩⟩⟩⟩⟩
end
section
/-! names of the program: classes, fields, methods (as the task's names have them), by program -/
def RX0 : String := "LoopGround$Acts"
def TX0 : u_T := fun k => match k with
  | 0 => ("LoopGround$Acts", "done", "I", false)
  | 1 => ("LoopGround$Acts", "ahead", "I", false)
  | 2 => ("LoopGround$Acts", "oldest", "I", false)
  | _ => ("LoopGround$Acts", "states", "[[J", true)
def tyX0 : Nat → FieldType := fun k => match k with
  | 0 => .int
  | 1 => .int
  | 2 => .int
  | _ => .array (.array .long)
theorem nmX0 : ∀ a, a < 4 → ∀ b, b < 4 → a ≠ b → (TX0 a).2.1 ≠ (TX0 b).2.1 := by decide +kernel
theorem tyX0_ok : ∀ k, k < 4 → parseFieldDescriptor (TX0 k).2.2.1 = some (tyX0 k) := by decide +kernel
abbrev cX0_init : ByteArray := prog_2_method_1_code
def yX0_init : MethodName := ⟨RX0, "<init>", "()V"⟩
abbrev cX0_now : ByteArray := prog_2_method_2_code
def yX0_now : MethodName := ⟨RX0, "now", "()[J"⟩
abbrev cX0_keep : ByteArray := prog_2_method_3_code
def yX0_keep : MethodName := ⟨RX0, "keep", "([J)V"⟩
abbrev cX0_clearTo : ByteArray := prog_2_method_4_code
def yX0_clearTo : MethodName := ⟨RX0, "clearTo", "([J)V"⟩
abbrev cX0_stepBack : ByteArray := prog_2_method_5_code
def yX0_stepBack : MethodName := ⟨RX0, "stepBack", "()Z"⟩
abbrev cX0_stepOn : ByteArray := prog_2_method_6_code
def yX0_stepOn : MethodName := ⟨RX0, "stepOn", "()Z"⟩
def RX1 : String := "LoopGround$Counter"
def TX1 : u_T := fun k => match k with
  | 0 => ("LoopGround$Counter", "numbers", "[J", true)
  | 1 => ("LoopGround$Counter", "told", "LLoopGround$Told;", false)
  | _ => ("LoopGround$Counter", "most", "I", false)
def tyX1 : Nat → FieldType := fun k => match k with
  | 0 => .array .long
  | 1 => .object "LoopGround$Told"
  | _ => .int
theorem nmX1 : ∀ a, a < 3 → ∀ b, b < 3 → a ≠ b → (TX1 a).2.1 ≠ (TX1 b).2.1 := by decide +kernel
theorem tyX1_ok : ∀ k, k < 3 → parseFieldDescriptor (TX1 k).2.2.1 = some (tyX1 k) := by decide +kernel
abbrev cX1_init : ByteArray := prog_3_method_1_code
def yX1_init : MethodName := ⟨RX1, "<init>", "()V"⟩
abbrev cX1_begin : ByteArray := prog_3_method_2_code
def yX1_begin : MethodName := ⟨RX1, "begin", "(LLoopGround$Told;I)Z"⟩
abbrev cX1_nextFit : ByteArray := prog_3_method_3_code
def yX1_nextFit : MethodName := ⟨RX1, "nextFit", "()Z"⟩
abbrev cX1_wrongEdge : ByteArray := prog_3_method_4_code
def yX1_wrongEdge : MethodName := ⟨RX1, "wrongEdge", "()I"⟩
abbrev cX1_countUp : ByteArray := prog_3_method_5_code
def yX1_countUp : MethodName := ⟨RX1, "countUp", "(I)Z"⟩
def RX2 : String := "LoopGround$Drawing"
def TX2 : u_T := fun k => match k with
  | 0 => ("LoopGround$Drawing", "numbers", "[J", true)
  | 1 => ("LoopGround$Drawing", "crossed", "[I", true)
  | 2 => ("LoopGround$Drawing", "line", "[I", true)
  | 3 => ("LoopGround$Drawing", "from", "I", false)
  | _ => ("LoopGround$Drawing", "to", "I", false)
def tyX2 : Nat → FieldType := fun k => match k with
  | 0 => .array .long
  | 1 => .array .int
  | 2 => .array .int
  | 3 => .int
  | _ => .int
theorem nmX2 : ∀ a, a < 5 → ∀ b, b < 5 → a ≠ b → (TX2 a).2.1 ≠ (TX2 b).2.1 := by decide +kernel
theorem tyX2_ok : ∀ k, k < 5 → parseFieldDescriptor (TX2 k).2.2.1 = some (tyX2 k) := by decide +kernel
abbrev cX2_init : ByteArray := prog_4_method_1_code
def yX2_init : MethodName := ⟨RX2, "<init>", "()V"⟩
abbrev cX2_walk : ByteArray := prog_4_method_2_code
def yX2_walk : MethodName := ⟨RX2, "walk", "(LLoopGround$Told;[BI)Z"⟩
abbrev cX2_slotOf : ByteArray := prog_4_method_3_code
def yX2_slotOf : MethodName := ⟨RX2, "slotOf", "(LLoopGround$Told;II)I"⟩
abbrev cX2_leaveOut : ByteArray := prog_4_method_4_code
def yX2_leaveOut : MethodName := ⟨RX2, "leaveOut", "(LLoopGround$Told;)V"⟩
abbrev cX2_left : ByteArray := prog_4_method_5_code
def yX2_left : MethodName := ⟨RX2, "left", "()I"⟩
abbrev cX2_isTrue : ByteArray := prog_4_method_6_code
def yX2_isTrue : MethodName := ⟨RX2, "isTrue", "(LLoopGround$Told;LLoopGround$Tracer;)Z"⟩
abbrev cX2_isRoundLine : ByteArray := prog_4_method_7_code
def yX2_isRoundLine : MethodName := ⟨RX2, "isRoundLine", "()Z"⟩
abbrev cX2_agrees : ByteArray := prog_4_method_8_code
def yX2_agrees : MethodName := ⟨RX2, "agrees", "(II)Z"⟩
def RX3 : String := "LoopGround$Mover"
def TX3 : u_T := fun k => match k with
  | 0 => ("LoopGround$Mover", "shortener", "LLoopGround$Shortener;", true)
  | 1 => ("LoopGround$Mover", "roads", "[LLoopGround$Road;", true)
  | _ => ("LoopGround$Mover", "told", "LLoopGround$Told;", false)
def tyX3 : Nat → FieldType := fun k => match k with
  | 0 => .object "LoopGround$Shortener"
  | 1 => .array (.object "LoopGround$Road")
  | _ => .object "LoopGround$Told"
theorem nmX3 : ∀ a, a < 3 → ∀ b, b < 3 → a ≠ b → (TX3 a).2.1 ≠ (TX3 b).2.1 := by decide +kernel
theorem tyX3_ok : ∀ k, k < 3 → parseFieldDescriptor (TX3 k).2.2.1 = some (tyX3 k) := by decide +kernel
abbrev cX3_init : ByteArray := prog_5_method_1_code
def yX3_init : MethodName := ⟨RX3, "<init>", "()V"⟩
abbrev cX3_settle : ByteArray := prog_5_method_2_code
def yX3_settle : MethodName := ⟨RX3, "settle", "(LLoopGround$Told;LLoopGround$Tracer;)V"⟩
abbrev cX3_roadOf : ByteArray := prog_5_method_3_code
def yX3_roadOf : MethodName := ⟨RX3, "roadOf", "(I)LLoopGround$Road;"⟩
abbrev cX3_isFairLine : ByteArray := prog_5_method_4_code
def yX3_isFairLine : MethodName := ⟨RX3, "isFairLine", "(I)Z"⟩
abbrev cX3_isFairWord : ByteArray := prog_5_method_5_code
def yX3_isFairWord : MethodName := ⟨RX3, "isFairWord", "(I)Z"⟩
abbrev cX3_leastCrossings : ByteArray := prog_5_method_6_code
def yX3_leastCrossings : MethodName := ⟨RX3, "leastCrossings", "([JI)J"⟩
abbrev cX3_goThrough : ByteArray := prog_5_method_7_code
def yX3_goThrough : MethodName := ⟨RX3, "goThrough", "([JILLoopGround$Table;)Z"⟩
abbrev cX3_twistAlong : ByteArray := prog_5_method_8_code
def yX3_twistAlong : MethodName := ⟨RX3, "twistAlong", "([JIILLoopGround$Table;)Z"⟩
abbrev cX3_passFlips : ByteArray := prog_5_method_9_code
def yX3_passFlips : MethodName := ⟨RX3, "passFlips", "([JLLoopGround$Road;ZLLoopGround$Table;)Z"⟩
abbrev cX3_change : ByteArray := prog_5_method_10_code
def yX3_change : MethodName := ⟨RX3, "change", "([JIIIIILLoopGround$Table;)Z"⟩
abbrev cX3_exchange : ByteArray := prog_5_method_11_code
def yX3_exchange : MethodName := ⟨RX3, "exchange", "([JIILLoopGround$Table;)V"⟩
def RX4 : String := "LoopGround$Reader"
def TX4 : u_T := fun k => match k with
  | 0 => ("LoopGround$Reader", "faultKind", "I", false)
  | 1 => ("LoopGround$Reader", "faultPlace", "I", false)
  | 2 => ("LoopGround$Reader", "text", "[B", false)
  | 3 => ("LoopGround$Reader", "length", "I", false)
  | 4 => ("LoopGround$Reader", "into", "LLoopGround$Told;", false)
  | 5 => ("LoopGround$Reader", "piecesClosed", "Z", false)
  | 6 => ("LoopGround$Reader", "at", "I", false)
  | 7 => ("LoopGround$Reader", "kind", "I", false)
  | 8 => ("LoopGround$Reader", "start", "I", false)
  | 9 => ("LoopGround$Reader", "number", "I", false)
  | _ => ("LoopGround$Reader", "letters", "J", false)
def tyX4 : Nat → FieldType := fun k => match k with
  | 0 => .int
  | 1 => .int
  | 2 => .array .byte
  | 3 => .int
  | 4 => .object "LoopGround$Told"
  | 5 => .boolean
  | 6 => .int
  | 7 => .int
  | 8 => .int
  | 9 => .int
  | _ => .long
theorem nmX4 : ∀ a, a < 11 → ∀ b, b < 11 → a ≠ b → (TX4 a).2.1 ≠ (TX4 b).2.1 := by decide +kernel
theorem tyX4_ok : ∀ k, k < 11 → parseFieldDescriptor (TX4 k).2.2.1 = some (tyX4 k) := by decide +kernel
abbrev cX4_init : ByteArray := prog_6_method_1_code
def yX4_init : MethodName := ⟨RX4, "<init>", "()V"⟩
abbrev cX4_readGround : ByteArray := prog_6_method_2_code
def yX4_readGround : MethodName := ⟨RX4, "readGround", "([BILLoopGround$Told;)Z"⟩
abbrev cX4_refuse : ByteArray := prog_6_method_3_code
def yX4_refuse : MethodName := ⟨RX4, "refuse", "(II)V"⟩
abbrev cX4_refuseToken : ByteArray := prog_6_method_4_code
def yX4_refuseToken : MethodName := ⟨RX4, "refuseToken", "()Z"⟩
abbrev cX4_closePieces : ByteArray := prog_6_method_5_code
def yX4_closePieces : MethodName := ⟨RX4, "closePieces", "()Z"⟩
abbrev cX4_readPiece : ByteArray := prog_6_method_6_code
def yX4_readPiece : MethodName := ⟨RX4, "readPiece", "()V"⟩
abbrev cX4_readEdge : ByteArray := prog_6_method_7_code
def yX4_readEdge : MethodName := ⟨RX4, "readEdge", "(I)Z"⟩
abbrev cX4_readLoops : ByteArray := prog_6_method_8_code
def yX4_readLoops : MethodName := ⟨RX4, "readLoops", "()V"⟩
abbrev cX4_readTwists : ByteArray := prog_6_method_9_code
def yX4_readTwists : MethodName := ⟨RX4, "readTwists", "()V"⟩
abbrev cX4_readTwist : ByteArray := prog_6_method_10_code
def yX4_readTwist : MethodName := ⟨RX4, "readTwist", "(II)Z"⟩
abbrev cX4_passNewName : ByteArray := prog_6_method_11_code
def yX4_passNewName : MethodName := ⟨RX4, "passNewName", "(I)Z"⟩
abbrev cX4_pass : ByteArray := prog_6_method_12_code
def yX4_pass : MethodName := ⟨RX4, "pass", "(I)Z"⟩
abbrev cX4_byteAt : ByteArray := prog_6_method_13_code
def yX4_byteAt : MethodName := ⟨RX4, "byteAt", "(I)I"⟩
abbrev cX4_isLetter : ByteArray := prog_6_method_14_code
def yX4_isLetter : MethodName := ⟨RX4, "isLetter", "(I)Z"⟩
abbrev cX4_isDigit : ByteArray := prog_6_method_15_code
def yX4_isDigit : MethodName := ⟨RX4, "isDigit", "(I)Z"⟩
abbrev cX4_readToken : ByteArray := prog_6_method_16_code
def yX4_readToken : MethodName := ⟨RX4, "readToken", "()V"⟩
abbrev cX4_readLetters : ByteArray := prog_6_method_17_code
def yX4_readLetters : MethodName := ⟨RX4, "readLetters", "()V"⟩
abbrev cX4_kindOfWord : ByteArray := prog_6_method_18_code
def yX4_kindOfWord : MethodName := ⟨RX4, "kindOfWord", "()I"⟩
abbrev cX4_readDigits : ByteArray := prog_6_method_19_code
def yX4_readDigits : MethodName := ⟨RX4, "readDigits", "()V"⟩
def RX5 : String := "LoopGround$Road"
def TX5 : u_T := fun k => match k with
  | 0 => ("LoopGround$Road", "kind", "I", false)
  | 1 => ("LoopGround$Road", "count", "I", false)
  | 2 => ("LoopGround$Road", "a", "I", false)
  | 3 => ("LoopGround$Road", "b", "I", false)
  | 4 => ("LoopGround$Road", "e", "I", false)
  | 5 => ("LoopGround$Road", "f", "I", false)
  | _ => ("LoopGround$Road", "flips", "[I", true)
def tyX5 : Nat → FieldType := fun k => match k with
  | 0 => .int
  | 1 => .int
  | 2 => .int
  | 3 => .int
  | 4 => .int
  | 5 => .int
  | _ => .array .int
theorem nmX5 : ∀ a, a < 7 → ∀ b, b < 7 → a ≠ b → (TX5 a).2.1 ≠ (TX5 b).2.1 := by decide +kernel
theorem tyX5_ok : ∀ k, k < 7 → parseFieldDescriptor (TX5 k).2.2.1 = some (tyX5 k) := by decide +kernel
abbrev cX5_init : ByteArray := prog_7_method_1_code
def yX5_init : MethodName := ⟨RX5, "<init>", "()V"⟩
abbrev cX5_edgeFlipped : ByteArray := prog_7_method_2_code
def yX5_edgeFlipped : MethodName := ⟨RX5, "edgeFlipped", "(I)I"⟩
def RX6 : String := "LoopGround$Shortener"
def TX6 : u_T := fun k => match k with
  | 0 => ("LoopGround$Shortener", "edgeAt", "[I", true)
  | 1 => ("LoopGround$Shortener", "lowSide", "[I", true)
  | 2 => ("LoopGround$Shortener", "highSide", "[I", true)
  | 3 => ("LoopGround$Shortener", "numbers", "[J", true)
  | 4 => ("LoopGround$Shortener", "slots", "I", false)
  | 5 => ("LoopGround$Shortener", "edges", "I", false)
  | 6 => ("LoopGround$Shortener", "x", "I", false)
  | 7 => ("LoopGround$Shortener", "y", "I", false)
  | 8 => ("LoopGround$Shortener", "z", "I", false)
  | 9 => ("LoopGround$Shortener", "w", "I", false)
  | _ => ("LoopGround$Shortener", "numberFlipped", "J", false)
def tyX6 : Nat → FieldType := fun k => match k with
  | 0 => .array .int
  | 1 => .array .int
  | 2 => .array .int
  | 3 => .array .long
  | 4 => .int
  | 5 => .int
  | 6 => .int
  | 7 => .int
  | 8 => .int
  | 9 => .int
  | _ => .long
theorem nmX6 : ∀ a, a < 11 → ∀ b, b < 11 → a ≠ b → (TX6 a).2.1 ≠ (TX6 b).2.1 := by decide +kernel
theorem tyX6_ok : ∀ k, k < 11 → parseFieldDescriptor (TX6 k).2.2.1 = some (tyX6 k) := by decide +kernel
abbrev cX6_init : ByteArray := prog_8_method_1_code
def yX6_init : MethodName := ⟨RX6, "<init>", "()V"⟩
abbrev cX6_pave : ByteArray := prog_8_method_2_code
def yX6_pave : MethodName := ⟨RX6, "pave", "(LLoopGround$Told;ILLoopGround$Tracer;LLoopGround$Road;)V"⟩
abbrev cX6_shorten : ByteArray := prog_8_method_3_code
def yX6_shorten : MethodName := ⟨RX6, "shorten", "(LLoopGround$Road;)V"⟩
abbrev cX6_findSides : ByteArray := prog_8_method_4_code
def yX6_findSides : MethodName := ⟨RX6, "findSides", "()V"⟩
abbrev cX6_isShort : ByteArray := prog_8_method_5_code
def yX6_isShort : MethodName := ⟨RX6, "isShort", "()Z"⟩
abbrev cX6_firstToFlip : ByteArray := prog_8_method_6_code
def yX6_firstToFlip : MethodName := ⟨RX6, "firstToFlip", "()I"⟩
abbrev cX6_lookRound : ByteArray := prog_8_method_7_code
def yX6_lookRound : MethodName := ⟨RX6, "lookRound", "(I)V"⟩
abbrev cX6_turnEdge : ByteArray := prog_8_method_8_code
def yX6_turnEdge : MethodName := ⟨RX6, "turnEdge", "(I)V"⟩
abbrev cX6_findNeighbours : ByteArray := prog_8_method_9_code
def yX6_findNeighbours : MethodName := ⟨RX6, "findNeighbours", "(LLoopGround$Road;)V"⟩
def RX7 : String := "LoopGround$Table"
def TX7 : u_T := fun k => match k with
  | 0 => ("LoopGround$Table", "right", "Z", false)
  | 1 => ("LoopGround$Table", "size", "I", false)
  | 2 => ("LoopGround$Table", "word", "I", false)
  | 3 => ("LoopGround$Table", "line", "I", false)
  | 4 => ("LoopGround$Table", "expanded", "Z", false)
  | 5 => ("LoopGround$Table", "rows", "[[J", true)
  | 6 => ("LoopGround$Table", "power", "[[J", true)
  | 7 => ("LoopGround$Table", "column", "[J", true)
  | _ => ("LoopGround$Table", "coefficients", "[J", true)
def tyX7 : Nat → FieldType := fun k => match k with
  | 0 => .boolean
  | 1 => .int
  | 2 => .int
  | 3 => .int
  | 4 => .boolean
  | 5 => .array (.array .long)
  | 6 => .array (.array .long)
  | 7 => .array .long
  | _ => .array .long
theorem nmX7 : ∀ a, a < 9 → ∀ b, b < 9 → a ≠ b → (TX7 a).2.1 ≠ (TX7 b).2.1 := by decide +kernel
theorem tyX7_ok : ∀ k, k < 9 → parseFieldDescriptor (TX7 k).2.2.1 = some (tyX7 k) := by decide +kernel
abbrev cX7_init : ByteArray := prog_9_method_1_code
def yX7_init : MethodName := ⟨RX7, "<init>", "()V"⟩
abbrev cX7_forget : ByteArray := prog_9_method_2_code
def yX7_forget : MethodName := ⟨RX7, "forget", "()V"⟩
abbrev cX7_isOf : ByteArray := prog_9_method_3_code
def yX7_isOf : MethodName := ⟨RX7, "isOf", "(II)Z"⟩
abbrev cX7_begin : ByteArray := prog_9_method_4_code
def yX7_begin : MethodName := ⟨RX7, "begin", "(III)V"⟩
abbrev cX7_setOne : ByteArray := prog_9_method_5_code
def yX7_setOne : MethodName := ⟨RX7, "setOne", "([[J)V"⟩
abbrev cX7_changeRow : ByteArray := prog_9_method_6_code
def yX7_changeRow : MethodName := ⟨RX7, "changeRow", "(III)V"⟩
abbrev cX7_exchangeRows : ByteArray := prog_9_method_7_code
def yX7_exchangeRows : MethodName := ⟨RX7, "exchangeRows", "(II)V"⟩
abbrev cX7_at : ByteArray := prog_9_method_8_code
def yX7_at : MethodName := ⟨RX7, "at", "(II)I"⟩
abbrev cX7_coefficient : ByteArray := prog_9_method_9_code
def yX7_coefficient : MethodName := ⟨RX7, "coefficient", "(I)I"⟩
abbrev cX7_expand : ByteArray := prog_9_method_10_code
def yX7_expand : MethodName := ⟨RX7, "expand", "()V"⟩
abbrev cX7_multiplyPower : ByteArray := prog_9_method_11_code
def yX7_multiplyPower : MethodName := ⟨RX7, "multiplyPower", "()V"⟩
abbrev cX7_inverse : ByteArray := prog_9_method_12_code
def yX7_inverse : MethodName := ⟨RX7, "inverse", "(I)J"⟩
def RX8 : String := "LoopGround$Told"
def TX8 : u_T := fun k => match k with
  | 0 => ("LoopGround$Told", "pieces", "I", false)
  | 1 => ("LoopGround$Told", "edges", "I", false)
  | 2 => ("LoopGround$Told", "points", "I", false)
  | 3 => ("LoopGround$Told", "lines", "I", false)
  | 4 => ("LoopGround$Told", "words", "I", false)
  | 5 => ("LoopGround$Told", "edgeAt", "[I", true)
  | 6 => ("LoopGround$Told", "otherSide", "[I", true)
  | 7 => ("LoopGround$Told", "pointAt", "[I", true)
  | 8 => ("LoopGround$Told", "timesTold", "[I", true)
  | 9 => ("LoopGround$Told", "firstSide", "[I", true)
  | 10 => ("LoopGround$Told", "secondSide", "[I", true)
  | 11 => ("LoopGround$Told", "rows", "[[J", true)
  | 12 => ("LoopGround$Told", "lineNames", "[J", true)
  | 13 => ("LoopGround$Told", "wordNames", "[J", true)
  | 14 => ("LoopGround$Told", "wordLength", "[I", true)
  | 15 => ("LoopGround$Told", "wordLines", "[[I", true)
  | _ => ("LoopGround$Told", "wordTimes", "[[I", true)
def tyX8 : Nat → FieldType := fun k => match k with
  | 0 => .int
  | 1 => .int
  | 2 => .int
  | 3 => .int
  | 4 => .int
  | 5 => .array .int
  | 6 => .array .int
  | 7 => .array .int
  | 8 => .array .int
  | 9 => .array .int
  | 10 => .array .int
  | 11 => .array (.array .long)
  | 12 => .array .long
  | 13 => .array .long
  | 14 => .array .int
  | 15 => .array (.array .int)
  | _ => .array (.array .int)
theorem nmX8 : ∀ a, a < 17 → ∀ b, b < 17 → a ≠ b → (TX8 a).2.1 ≠ (TX8 b).2.1 := by decide +kernel
theorem tyX8_ok : ∀ k, k < 17 → parseFieldDescriptor (TX8 k).2.2.1 = some (tyX8 k) := by decide +kernel
abbrev cX8_init : ByteArray := prog_10_method_1_code
def yX8_init : MethodName := ⟨RX8, "<init>", "()V"⟩
abbrev cX8_clear : ByteArray := prog_10_method_2_code
def yX8_clear : MethodName := ⟨RX8, "clear", "()V"⟩
abbrev cX8_tellEdge : ByteArray := prog_10_method_3_code
def yX8_tellEdge : MethodName := ⟨RX8, "tellEdge", "(II)V"⟩
abbrev cX8_glue : ByteArray := prog_10_method_4_code
def yX8_glue : MethodName := ⟨RX8, "glue", "()Z"⟩
abbrev cX8_hangsTogether : ByteArray := prog_10_method_5_code
def yX8_hangsTogether : MethodName := ⟨RX8, "hangsTogether", "()Z"⟩
abbrev cX8_numberPoints : ByteArray := prog_10_method_6_code
def yX8_numberPoints : MethodName := ⟨RX8, "numberPoints", "()V"⟩
abbrev cX8_fitsIn : ByteArray := prog_10_method_7_code
def yX8_fitsIn : MethodName := ⟨RX8, "fitsIn", "(I[J)Z"⟩
abbrev cX8_fits : ByteArray := prog_10_method_8_code
def yX8_fits : MethodName := ⟨RX8, "fits", "([J)Z"⟩
abbrev cX8_lastEdgeOf : ByteArray := prog_10_method_9_code
def yX8_lastEdgeOf : MethodName := ⟨RX8, "lastEdgeOf", "(I)I"⟩
abbrev cX8_lineNamed : ByteArray := prog_10_method_10_code
def yX8_lineNamed : MethodName := ⟨RX8, "lineNamed", "(J)I"⟩
abbrev cX8_wordNamed : ByteArray := prog_10_method_11_code
def yX8_wordNamed : MethodName := ⟨RX8, "wordNamed", "(J)I"⟩
abbrev cX8_placeOf : ByteArray := prog_10_method_12_code
def yX8_placeOf : MethodName := ⟨RX8, "placeOf", "(J[JI)I"⟩
def RX9 : String := "LoopGround$Tracer"
def TX9 : u_T := fun k => match k with
  | 0 => ("LoopGround$Tracer", "loopCount", "I", false)
  | 1 => ("LoopGround$Tracer", "ringCount", "I", false)
  | 2 => ("LoopGround$Tracer", "passed", "[J", true)
  | 3 => ("LoopGround$Tracer", "firstStrand", "[I", true)
  | 4 => ("LoopGround$Tracer", "counts", "[I", true)
  | 5 => ("LoopGround$Tracer", "flows", "[I", true)
  | 6 => ("LoopGround$Tracer", "flowsOfOther", "[I", true)
  | 7 => ("LoopGround$Tracer", "told", "LLoopGround$Told;", false)
  | 8 => ("LoopGround$Tracer", "strands", "I", false)
  | 9 => ("LoopGround$Tracer", "slot", "I", false)
  | 10 => ("LoopGround$Tracer", "strand", "I", false)
  | 11 => ("LoopGround$Tracer", "startSlot", "I", false)
  | 12 => ("LoopGround$Tracer", "startStrand", "I", false)
  | _ => ("LoopGround$Tracer", "turnedOn", "Z", false)
def tyX9 : Nat → FieldType := fun k => match k with
  | 0 => .int
  | 1 => .int
  | 2 => .array .long
  | 3 => .array .int
  | 4 => .array .int
  | 5 => .array .int
  | 6 => .array .int
  | 7 => .object "LoopGround$Told"
  | 8 => .int
  | 9 => .int
  | 10 => .int
  | 11 => .int
  | 12 => .int
  | _ => .boolean
theorem nmX9 : ∀ a, a < 14 → ∀ b, b < 14 → a ≠ b → (TX9 a).2.1 ≠ (TX9 b).2.1 := by decide +kernel
theorem tyX9_ok : ∀ k, k < 14 → parseFieldDescriptor (TX9 k).2.2.1 = some (tyX9 k) := by decide +kernel
abbrev cX9_init : ByteArray := prog_11_method_1_code
def yX9_init : MethodName := ⟨RX9, "<init>", "()V"⟩
abbrev cX9_load : ByteArray := prog_11_method_2_code
def yX9_load : MethodName := ⟨RX9, "load", "(LLoopGround$Told;[J)Z"⟩
abbrev cX9_begin : ByteArray := prog_11_method_3_code
def yX9_begin : MethodName := ⟨RX9, "begin", "(II)V"⟩
abbrev cX9_beginFirst : ByteArray := prog_11_method_4_code
def yX9_beginFirst : MethodName := ⟨RX9, "beginFirst", "()Z"⟩
abbrev cX9_isBack : ByteArray := prog_11_method_5_code
def yX9_isBack : MethodName := ⟨RX9, "isBack", "()Z"⟩
abbrev cX9_countAt : ByteArray := prog_11_method_6_code
def yX9_countAt : MethodName := ⟨RX9, "countAt", "(I)I"⟩
abbrev cX9_step : ByteArray := prog_11_method_7_code
def yX9_step : MethodName := ⟨RX9, "step", "()V"⟩
abbrev cX9_strandNumber : ByteArray := prog_11_method_8_code
def yX9_strandNumber : MethodName := ⟨RX9, "strandNumber", "()I"⟩
abbrev cX9_countLoops : ByteArray := prog_11_method_9_code
def yX9_countLoops : MethodName := ⟨RX9, "countLoops", "()V"⟩
abbrev cX9_isPassed : ByteArray := prog_11_method_10_code
def yX9_isPassed : MethodName := ⟨RX9, "isPassed", "(I)Z"⟩
abbrev cX9_closeLoop : ByteArray := prog_11_method_11_code
def yX9_closeLoop : MethodName := ⟨RX9, "closeLoop", "()Z"⟩
abbrev cX9_isSingle : ByteArray := prog_11_method_12_code
def yX9_isSingle : MethodName := ⟨RX9, "isSingle", "()Z"⟩
abbrev cX9_edgeAt : ByteArray := prog_11_method_13_code
def yX9_edgeAt : MethodName := ⟨RX9, "edgeAt", "(I)I"⟩
abbrev cX9_traceInto : ByteArray := prog_11_method_14_code
def yX9_traceInto : MethodName := ⟨RX9, "traceInto", "([I)I"⟩
abbrev cX9_turns : ByteArray := prog_11_method_15_code
def yX9_turns : MethodName := ⟨RX9, "turns", "(LLoopGround$Told;[J[J)I"⟩
abbrev cX9_flowInto : ByteArray := prog_11_method_16_code
def yX9_flowInto : MethodName := ⟨RX9, "flowInto", "([I)V"⟩
def RX10 : String := "LoopGround"
def TX10 : u_T := fun k => match k with
  | 0 => ("LoopGround", "tape", "[B", true)
  | 1 => ("LoopGround", "reader", "LLoopGround$Reader;", true)
  | 2 => ("LoopGround", "tracer", "LLoopGround$Tracer;", true)
  | 3 => ("LoopGround", "mover", "LLoopGround$Mover;", true)
  | 4 => ("LoopGround", "counter", "LLoopGround$Counter;", true)
  | 5 => ("LoopGround", "drawing", "LLoopGround$Drawing;", true)
  | 6 => ("LoopGround", "acts", "LLoopGround$Acts;", true)
  | 7 => ("LoopGround", "noted", "LLoopGround$Table;", true)
  | 8 => ("LoopGround", "boxes", "[[J", true)
  | 9 => ("LoopGround", "boxFull", "[Z", true)
  | 10 => ("LoopGround", "images", "[[J", true)
  | 11 => ("LoopGround", "work", "[J", true)
  | 12 => ("LoopGround", "row", "[J", true)
  | 13 => ("LoopGround", "told", "LLoopGround$Told;", false)
  | 14 => ("LoopGround", "spare", "LLoopGround$Told;", false)
  | 15 => ("LoopGround", "length", "I", false)
  | 16 => ("LoopGround", "faultKind", "I", false)
  | 17 => ("LoopGround", "faultPlace", "I", false)
  | _ => ("LoopGround", "rowLies", "Z", false)
def tyX10 : Nat → FieldType := fun k => match k with
  | 0 => .array .byte
  | 1 => .object "LoopGround$Reader"
  | 2 => .object "LoopGround$Tracer"
  | 3 => .object "LoopGround$Mover"
  | 4 => .object "LoopGround$Counter"
  | 5 => .object "LoopGround$Drawing"
  | 6 => .object "LoopGround$Acts"
  | 7 => .object "LoopGround$Table"
  | 8 => .array (.array .long)
  | 9 => .array .boolean
  | 10 => .array (.array .long)
  | 11 => .array .long
  | 12 => .array .long
  | 13 => .object "LoopGround$Told"
  | 14 => .object "LoopGround$Told"
  | 15 => .int
  | 16 => .int
  | 17 => .int
  | _ => .boolean
theorem nmX10 : ∀ a, a < 19 → ∀ b, b < 19 → a ≠ b → (TX10 a).2.1 ≠ (TX10 b).2.1 := by decide +kernel
theorem tyX10_ok : ∀ k, k < 19 → parseFieldDescriptor (TX10 k).2.2.1 = some (tyX10 k) := by decide +kernel
abbrev cX10_init : ByteArray := prog_1_method_1_code
def yX10_init : MethodName := ⟨RX10, "<init>", "()V"⟩
abbrev cX10_feed : ByteArray := prog_1_method_2_code
def yX10_feed : MethodName := ⟨RX10, "feed", "(IIIII)I"⟩
abbrev cX10_putBytes : ByteArray := prog_1_method_3_code
def yX10_putBytes : MethodName := ⟨RX10, "putBytes", "(I)V"⟩
abbrev cX10_end : ByteArray := prog_1_method_4_code
def yX10_end : MethodName := ⟨RX10, "end", "(I)I"⟩
abbrev cX10_ground : ByteArray := prog_1_method_5_code
def yX10_ground : MethodName := ⟨RX10, "ground", "()I"⟩
abbrev cX10_fault : ByteArray := prog_1_method_6_code
def yX10_fault : MethodName := ⟨RX10, "fault", "(I)I"⟩
abbrev cX10_point : ByteArray := prog_1_method_7_code
def yX10_point : MethodName := ⟨RX10, "point", "(II)I"⟩
abbrev cX10_number : ByteArray := prog_1_method_8_code
def yX10_number : MethodName := ⟨RX10, "number", "(II)J"⟩
abbrev cX10_loops : ByteArray := prog_1_method_9_code
def yX10_loops : MethodName := ⟨RX10, "loops", "(II)I"⟩
abbrev cX10_traced : ByteArray := prog_1_method_10_code
def yX10_traced : MethodName := ⟨RX10, "traced", "(II)I"⟩
abbrev cX10_flips : ByteArray := prog_1_method_11_code
def yX10_flips : MethodName := ⟨RX10, "flips", "(I)I"⟩
abbrev cX10_flip : ByteArray := prog_1_method_12_code
def yX10_flip : MethodName := ⟨RX10, "flip", "(II)I"⟩
abbrev cX10_cross : ByteArray := prog_1_method_13_code
def yX10_cross : MethodName := ⟨RX10, "cross", "(II)J"⟩
abbrev cX10_across : ByteArray := prog_1_method_14_code
def yX10_across : MethodName := ⟨RX10, "across", "(II)I"⟩
abbrev cX10_kept : ByteArray := prog_1_method_15_code
def yX10_kept : MethodName := ⟨RX10, "kept", "(I)I"⟩
abbrev cX10_alike : ByteArray := prog_1_method_16_code
def yX10_alike : MethodName := ⟨RX10, "alike", "(II)I"⟩
abbrev cX10_order : ByteArray := prog_1_method_17_code
def yX10_order : MethodName := ⟨RX10, "order", "(I)I"⟩
abbrev cX10_stretch : ByteArray := prog_1_method_18_code
def yX10_stretch : MethodName := ⟨RX10, "stretch", "(III)J"⟩
abbrev cX10_table : ByteArray := prog_1_method_19_code
def yX10_table : MethodName := ⟨RX10, "table", "(IIII)I"⟩
abbrev cX10_polynomial : ByteArray := prog_1_method_20_code
def yX10_polynomial : MethodName := ⟨RX10, "polynomial", "(III)I"⟩
abbrev cX10_least : ByteArray := prog_1_method_21_code
def yX10_least : MethodName := ⟨RX10, "least", "(II)I"⟩
abbrev cX10_lies : ByteArray := prog_1_method_22_code
def yX10_lies : MethodName := ⟨RX10, "lies", "(I)I"⟩
abbrev cX10_lay : ByteArray := prog_1_method_23_code
def yX10_lay : MethodName := ⟨RX10, "lay", "(I)J"⟩
abbrev cX10_twist : ByteArray := prog_1_method_24_code
def yX10_twist : MethodName := ⟨RX10, "twist", "(II)J"⟩
abbrev cX10_go : ByteArray := prog_1_method_25_code
def yX10_go : MethodName := ⟨RX10, "go", "(I)J"⟩
abbrev cX10_act : ByteArray := prog_1_method_26_code
def yX10_act : MethodName := ⟨RX10, "act", "(Z)J"⟩
abbrev cX10_undo : ByteArray := prog_1_method_27_code
def yX10_undo : MethodName := ⟨RX10, "undo", "()Z"⟩
abbrev cX10_redo : ByteArray := prog_1_method_28_code
def yX10_redo : MethodName := ⟨RX10, "redo", "()Z"⟩
abbrev cX10_sketch : ByteArray := prog_1_method_29_code
def yX10_sketch : MethodName := ⟨RX10, "sketch", "()I"⟩
abbrev cX10_image : ByteArray := prog_1_method_30_code
def yX10_image : MethodName := ⟨RX10, "image", "(I)J"⟩
abbrev cX10_back : ByteArray := prog_1_method_31_code
def yX10_back : MethodName := ⟨RX10, "back", "(I)J"⟩
abbrev cX10_about : ByteArray := prog_1_method_32_code
def yX10_about : MethodName := ⟨RX10, "about", "(I)I"⟩
abbrev cX10_isEdge : ByteArray := prog_1_method_33_code
def yX10_isEdge : MethodName := ⟨RX10, "isEdge", "(I)Z"⟩
abbrev cX10_isLine : ByteArray := prog_1_method_34_code
def yX10_isLine : MethodName := ⟨RX10, "isLine", "(I)Z"⟩
abbrev cX10_numbersOf : ByteArray := prog_1_method_35_code
def yX10_numbersOf : MethodName := ⟨RX10, "numbersOf", "(I)[J"⟩
abbrev cX10_leavesAsItIs : ByteArray := prog_1_method_36_code
def yX10_leavesAsItIs : MethodName := ⟨RX10, "leavesAsItIs", "(I[J)Z"⟩
abbrev cX10_hasLoop : ByteArray := prog_1_method_37_code
def yX10_hasLoop : MethodName := ⟨RX10, "hasLoop", "([J)Z"⟩
abbrev cX10_canStretch : ByteArray := prog_1_method_38_code
def yX10_canStretch : MethodName := ⟨RX10, "canStretch", "(II)Z"⟩
abbrev cX10_noteTable : ByteArray := prog_1_method_39_code
def yX10_noteTable : MethodName := ⟨RX10, "noteTable", "(II)Z"⟩
abbrev cX10_copyRow : ByteArray := prog_1_method_40_code
def yX10_copyRow : MethodName := ⟨RX10, "copyRow", "([J[J)V"⟩
abbrev cX10_sameRow : ByteArray := prog_1_method_41_code
def yX10_sameRow : MethodName := ⟨RX10, "sameRow", "([J[J)Z"⟩
abbrev cX10_total : ByteArray := prog_1_method_42_code
def yX10_total : MethodName := ⟨RX10, "total", "([J)J"⟩
abbrev cX10_behind : ByteArray := prog_1_method_43_code
def yX10_behind : MethodName := ⟨RX10, "behind", "(I)I"⟩
abbrev cX10_ahead : ByteArray := prog_1_method_44_code
def yX10_ahead : MethodName := ⟨RX10, "ahead", "(I)I"⟩
def RX11 : String := "LoopGroundModel"
def TX11 : u_T := fun k => match k with
  | 0 => ("LoopGroundModel", "tape", "[I", true)
  | 1 => ("LoopGroundModel", "taped", "I", false)
  | 2 => ("LoopGroundModel", "fault", "I", false)
  | 3 => ("LoopGroundModel", "faultPlace", "I", false)
  | 4 => ("LoopGroundModel", "at", "I", false)
  | 5 => ("LoopGroundModel", "size", "I", false)
  | 6 => ("LoopGroundModel", "sort", "I", false)
  | 7 => ("LoopGroundModel", "place", "I", false)
  | 8 => ("LoopGroundModel", "number", "I", false)
  | 9 => ("LoopGroundModel", "word", "J", false)
  | 10 => ("LoopGroundModel", "nLineName", "[J", true)
  | 11 => ("LoopGroundModel", "nWordName", "[J", true)
  | 12 => ("LoopGroundModel", "nPiece", "[I", true)
  | 13 => ("LoopGroundModel", "nOften", "[I", true)
  | 14 => ("LoopGroundModel", "nLine", "[I", true)
  | 15 => ("LoopGroundModel", "nAlong", "[I", true)
  | 16 => ("LoopGroundModel", "nTimes", "[I", true)
  | 17 => ("LoopGroundModel", "nTwists", "[I", true)
  | 18 => ("LoopGroundModel", "piece", "[I", true)
  | 19 => ("LoopGroundModel", "line", "[I", true)
  | 20 => ("LoopGroundModel", "along", "[I", true)
  | 21 => ("LoopGroundModel", "timesOf", "[I", true)
  | 22 => ("LoopGroundModel", "twists", "[I", true)
  | 23 => ("LoopGroundModel", "nPieces", "I", false)
  | 24 => ("LoopGroundModel", "nLines", "I", false)
  | 25 => ("LoopGroundModel", "nWords", "I", false)
  | 26 => ("LoopGroundModel", "pieces", "I", false)
  | 27 => ("LoopGroundModel", "lines", "I", false)
  | 28 => ("LoopGroundModel", "words", "I", false)
  | 29 => ("LoopGroundModel", "over", "[I", true)
  | 30 => ("LoopGroundModel", "first", "[I", true)
  | 31 => ("LoopGroundModel", "pointOf", "[I", true)
  | 32 => ("LoopGroundModel", "pointMany", "I", false)
  | 33 => ("LoopGroundModel", "row", "[I", true)
  | 34 => ("LoopGroundModel", "begins", "[I", true)
  | 35 => ("LoopGroundModel", "went", "[Z", true)
  | 36 => ("LoopGroundModel", "loopMany", "I", false)
  | 37 => ("LoopGroundModel", "ringMany", "I", false)
  | 38 => ("LoopGroundModel", "strandSide", "I", false)
  | 39 => ("LoopGroundModel", "strandAt", "I", false)
  | 40 => ("LoopGroundModel", "hand", "I", false)
  | 41 => ("LoopGroundModel", "path", "[I", true)
  | 42 => ("LoopGroundModel", "pathMany", "I", false)
  | 43 => ("LoopGroundModel", "flipOf", "[I", true)
  | 44 => ("LoopGroundModel", "flipMany", "[I", true)
  | 45 => ("LoopGroundModel", "shortE", "[I", true)
  | 46 => ("LoopGroundModel", "shortF", "[I", true)
  | 47 => ("LoopGroundModel", "shortA", "[I", true)
  | 48 => ("LoopGroundModel", "shortB", "[I", true)
  | 49 => ("LoopGroundModel", "isSingleLine", "[Z", true)
  | 50 => ("LoopGroundModel", "isFairLine", "[Z", true)
  | 51 => ("LoopGroundModel", "work", "[I", true)
  | 52 => ("LoopGroundModel", "small", "[I", true)
  | 53 => ("LoopGroundModel", "sideOne", "I", false)
  | 54 => ("LoopGroundModel", "sideTwo", "I", false)
  | 55 => ("LoopGroundModel", "goes", "[J", true)
  | 56 => ("LoopGroundModel", "table", "[J", true)
  | 57 => ("LoopGroundModel", "spare", "[J", true)
  | 58 => ("LoopGroundModel", "isSpent", "Z", false)
  | 59 => ("LoopGroundModel", "hasTable", "Z", false)
  | 60 => ("LoopGroundModel", "kept", "[J", true)
  | 61 => ("LoopGroundModel", "outs", "[I", true)
  | 62 => ("LoopGroundModel", "behind", "[J", true)
  | 63 => ("LoopGroundModel", "states", "[J", true)
  | 64 => ("LoopGroundModel", "spentState", "[Z", true)
  | 65 => ("LoopGroundModel", "power", "[J", true)
  | 66 => ("LoopGroundModel", "next", "[J", true)
  | 67 => ("LoopGroundModel", "poly", "[J", true)
  | 68 => ("LoopGroundModel", "lain", "[I", true)
  | 69 => ("LoopGroundModel", "tried", "[I", true)
  | 70 => ("LoopGroundModel", "lies", "Z", false)
  | 71 => ("LoopGroundModel", "now", "[J", true)
  | 72 => ("LoopGroundModel", "were", "[J", true)
  | 73 => ("LoopGroundModel", "acts", "I", false)
  | 74 => ("LoopGroundModel", "undone", "I", false)
  | 75 => ("LoopGroundModel", "sketched", "[I", true)
  | 76 => ("LoopGroundModel", "sketchMany", "I", false)
  | 77 => ("LoopGroundModel", "sketchFrom", "I", false)
  | 78 => ("LoopGroundModel", "spareLine", "[J", true)
  | 79 => ("LoopGroundModel", "hasBox", "[Z", true)
  | _ => ("LoopGroundModel", "boxes", "[J", true)
def tyX11 : Nat → FieldType := fun k => match k with
  | 0 => .array .int
  | 1 => .int
  | 2 => .int
  | 3 => .int
  | 4 => .int
  | 5 => .int
  | 6 => .int
  | 7 => .int
  | 8 => .int
  | 9 => .long
  | 10 => .array .long
  | 11 => .array .long
  | 12 => .array .int
  | 13 => .array .int
  | 14 => .array .int
  | 15 => .array .int
  | 16 => .array .int
  | 17 => .array .int
  | 18 => .array .int
  | 19 => .array .int
  | 20 => .array .int
  | 21 => .array .int
  | 22 => .array .int
  | 23 => .int
  | 24 => .int
  | 25 => .int
  | 26 => .int
  | 27 => .int
  | 28 => .int
  | 29 => .array .int
  | 30 => .array .int
  | 31 => .array .int
  | 32 => .int
  | 33 => .array .int
  | 34 => .array .int
  | 35 => .array .boolean
  | 36 => .int
  | 37 => .int
  | 38 => .int
  | 39 => .int
  | 40 => .int
  | 41 => .array .int
  | 42 => .int
  | 43 => .array .int
  | 44 => .array .int
  | 45 => .array .int
  | 46 => .array .int
  | 47 => .array .int
  | 48 => .array .int
  | 49 => .array .boolean
  | 50 => .array .boolean
  | 51 => .array .int
  | 52 => .array .int
  | 53 => .int
  | 54 => .int
  | 55 => .array .long
  | 56 => .array .long
  | 57 => .array .long
  | 58 => .boolean
  | 59 => .boolean
  | 60 => .array .long
  | 61 => .array .int
  | 62 => .array .long
  | 63 => .array .long
  | 64 => .array .boolean
  | 65 => .array .long
  | 66 => .array .long
  | 67 => .array .long
  | 68 => .array .int
  | 69 => .array .int
  | 70 => .boolean
  | 71 => .array .long
  | 72 => .array .long
  | 73 => .int
  | 74 => .int
  | 75 => .array .int
  | 76 => .int
  | 77 => .int
  | 78 => .array .long
  | 79 => .array .boolean
  | _ => .array .long
theorem nmX11 : ∀ a, a < 81 → ∀ b, b < 81 → a ≠ b → (TX11 a).2.1 ≠ (TX11 b).2.1 := by decide +kernel
theorem tyX11_ok : ∀ k, k < 81 → parseFieldDescriptor (TX11 k).2.2.1 = some (tyX11 k) := by decide +kernel
abbrev cX11_init : ByteArray := prog_13_method_1_code
def yX11_init : MethodName := ⟨RX11, "<init>", "()V"⟩
abbrev cX11_feed : ByteArray := prog_13_method_2_code
def yX11_feed : MethodName := ⟨RX11, "feed", "(IIIII)I"⟩
abbrev cX11_four : ByteArray := prog_13_method_3_code
def yX11_four : MethodName := ⟨RX11, "four", "(I)V"⟩
abbrev cX11_end : ByteArray := prog_13_method_4_code
def yX11_end : MethodName := ⟨RX11, "end", "(I)I"⟩
abbrev cX11_here : ByteArray := prog_13_method_5_code
def yX11_here : MethodName := ⟨RX11, "here", "(I)I"⟩
abbrev cX11_isLetter : ByteArray := prog_13_method_6_code
def yX11_isLetter : MethodName := ⟨RX11, "isLetter", "(I)Z"⟩
abbrev cX11_isDigit : ByteArray := prog_13_method_7_code
def yX11_isDigit : MethodName := ⟨RX11, "isDigit", "(I)Z"⟩
abbrev cX11_token : ByteArray := prog_13_method_8_code
def yX11_token : MethodName := ⟨RX11, "token", "()V"⟩
abbrev cX11_wrongAt : ByteArray := prog_13_method_9_code
def yX11_wrongAt : MethodName := ⟨RX11, "wrongAt", "(II)V"⟩
abbrev cX11_wrong : ByteArray := prog_13_method_10_code
def yX11_wrong : MethodName := ⟨RX11, "wrong", "(I)V"⟩
abbrev cX11_isWord : ByteArray := prog_13_method_11_code
def yX11_isWord : MethodName := ⟨RX11, "isWord", "(J)Z"⟩
abbrev cX11_isName : ByteArray := prog_13_method_12_code
def yX11_isName : MethodName := ⟨RX11, "isName", "()Z"⟩
abbrev cX11_want : ByteArray := prog_13_method_13_code
def yX11_want : MethodName := ⟨RX11, "want", "(J)V"⟩
abbrev cX11_toldNumber : ByteArray := prog_13_method_14_code
def yX11_toldNumber : MethodName := ⟨RX11, "toldNumber", "(II)I"⟩
abbrev cX11_times : ByteArray := prog_13_method_15_code
def yX11_times : MethodName := ⟨RX11, "times", "()I"⟩
abbrev cX11_nEdges : ByteArray := prog_13_method_16_code
def yX11_nEdges : MethodName := ⟨RX11, "nEdges", "()I"⟩
abbrev cX11_edges : ByteArray := prog_13_method_17_code
def yX11_edges : MethodName := ⟨RX11, "edges", "()I"⟩
abbrev cX11_readPiece : ByteArray := prog_13_method_18_code
def yX11_readPiece : MethodName := ⟨RX11, "readPiece", "()V"⟩
abbrev cX11_isWhole : ByteArray := prog_13_method_19_code
def yX11_isWhole : MethodName := ⟨RX11, "isWhole", "()Z"⟩
abbrev cX11_hangs : ByteArray := prog_13_method_20_code
def yX11_hangs : MethodName := ⟨RX11, "hangs", "(II)Z"⟩
abbrev cX11_findLine : ByteArray := prog_13_method_21_code
def yX11_findLine : MethodName := ⟨RX11, "findLine", "()I"⟩
abbrev cX11_nFits : ByteArray := prog_13_method_22_code
def yX11_nFits : MethodName := ⟨RX11, "nFits", "(I)Z"⟩
abbrev cX11_readLineOf : ByteArray := prog_13_method_23_code
def yX11_readLineOf : MethodName := ⟨RX11, "readLineOf", "()V"⟩
abbrev cX11_readWordOf : ByteArray := prog_13_method_24_code
def yX11_readWordOf : MethodName := ⟨RX11, "readWordOf", "()V"⟩
abbrev cX11_readLine : ByteArray := prog_13_method_25_code
def yX11_readLine : MethodName := ⟨RX11, "readLine", "()V"⟩
abbrev cX11_readAll : ByteArray := prog_13_method_26_code
def yX11_readAll : MethodName := ⟨RX11, "readAll", "()V"⟩
abbrev cX11_ground : ByteArray := prog_13_method_27_code
def yX11_ground : MethodName := ⟨RX11, "ground", "()I"⟩
abbrev cX11_fault : ByteArray := prog_13_method_28_code
def yX11_fault : MethodName := ⟨RX11, "fault", "(I)I"⟩
abbrev cX11_isLine : ByteArray := prog_13_method_29_code
def yX11_isLine : MethodName := ⟨RX11, "isLine", "(I)Z"⟩
abbrev cX11_isWordOf : ByteArray := prog_13_method_30_code
def yX11_isWordOf : MethodName := ⟨RX11, "isWordOf", "(I)Z"⟩
abbrev cX11_isEdge : ByteArray := prog_13_method_31_code
def yX11_isEdge : MethodName := ⟨RX11, "isEdge", "(I)Z"⟩
abbrev cX11_layOver : ByteArray := prog_13_method_32_code
def yX11_layOver : MethodName := ⟨RX11, "layOver", "()V"⟩
abbrev cX11_turned : ByteArray := prog_13_method_33_code
def yX11_turned : MethodName := ⟨RX11, "turned", "(II)I"⟩
abbrev cX11_points : ByteArray := prog_13_method_34_code
def yX11_points : MethodName := ⟨RX11, "points", "()V"⟩
abbrev cX11_point : ByteArray := prog_13_method_35_code
def yX11_point : MethodName := ⟨RX11, "point", "(II)I"⟩
abbrev cX11_layRow : ByteArray := prog_13_method_36_code
def yX11_layRow : MethodName := ⟨RX11, "layRow", "(I)V"⟩
abbrev cX11_sumOf : ByteArray := prog_13_method_37_code
def yX11_sumOf : MethodName := ⟨RX11, "sumOf", "(I)J"⟩
abbrev cX11_on : ByteArray := prog_13_method_38_code
def yX11_on : MethodName := ⟨RX11, "on", "(I)I"⟩
abbrev cX11_round : ByteArray := prog_13_method_39_code
def yX11_round : MethodName := ⟨RX11, "round", "(I)I"⟩
abbrev cX11_goThrough : ByteArray := prog_13_method_40_code
def yX11_goThrough : MethodName := ⟨RX11, "goThrough", "()V"⟩
abbrev cX11_goOver : ByteArray := prog_13_method_41_code
def yX11_goOver : MethodName := ⟨RX11, "goOver", "()V"⟩
abbrev cX11_strand : ByteArray := prog_13_method_42_code
def yX11_strand : MethodName := ⟨RX11, "strand", "()I"⟩
abbrev cX11_countLoops : ByteArray := prog_13_method_43_code
def yX11_countLoops : MethodName := ⟨RX11, "countLoops", "(I)V"⟩
abbrev cX11_isRing : ByteArray := prog_13_method_44_code
def yX11_isRing : MethodName := ⟨RX11, "isRing", "(II)Z"⟩
abbrev cX11_isSum : ByteArray := prog_13_method_45_code
def yX11_isSum : MethodName := ⟨RX11, "isSum", "(J)Z"⟩
abbrev cX11_isSingle : ByteArray := prog_13_method_46_code
def yX11_isSingle : MethodName := ⟨RX11, "isSingle", "(I)Z"⟩
abbrev cX11_number : ByteArray := prog_13_method_47_code
def yX11_number : MethodName := ⟨RX11, "number", "(II)J"⟩
abbrev cX11_loops : ByteArray := prog_13_method_48_code
def yX11_loops : MethodName := ⟨RX11, "loops", "(II)I"⟩
abbrev cX11_trace : ByteArray := prog_13_method_49_code
def yX11_trace : MethodName := ⟨RX11, "trace", "(I)V"⟩
abbrev cX11_traced : ByteArray := prog_13_method_50_code
def yX11_traced : MethodName := ⟨RX11, "traced", "(II)I"⟩
abbrev cX11_findSides : ByteArray := prog_13_method_51_code
def yX11_findSides : MethodName := ⟨RX11, "findSides", "(I)Z"⟩
abbrev cX11_flipped : ByteArray := prog_13_method_52_code
def yX11_flipped : MethodName := ⟨RX11, "flipped", "(I)I"⟩
abbrev cX11_isShort : ByteArray := prog_13_method_53_code
def yX11_isShort : MethodName := ⟨RX11, "isShort", "()Z"⟩
abbrev cX11_doFlip : ByteArray := prog_13_method_54_code
def yX11_doFlip : MethodName := ⟨RX11, "doFlip", "(II)V"⟩
abbrev cX11_shorter : ByteArray := prog_13_method_55_code
def yX11_shorter : MethodName := ⟨RX11, "shorter", "()I"⟩
abbrev cX11_layFlips : ByteArray := prog_13_method_56_code
def yX11_layFlips : MethodName := ⟨RX11, "layFlips", "(I)V"⟩
abbrev cX11_layShort : ByteArray := prog_13_method_57_code
def yX11_layShort : MethodName := ⟨RX11, "layShort", "(I)V"⟩
abbrev cX11_flips : ByteArray := prog_13_method_58_code
def yX11_flips : MethodName := ⟨RX11, "flips", "(I)I"⟩
abbrev cX11_flip : ByteArray := prog_13_method_59_code
def yX11_flip : MethodName := ⟨RX11, "flip", "(II)I"⟩
abbrev cX11_take : ByteArray := prog_13_method_60_code
def yX11_take : MethodName := ⟨RX11, "take", "(IZIIIII)V"⟩
abbrev cX11_greater : ByteArray := prog_13_method_61_code
def yX11_greater : MethodName := ⟨RX11, "greater", "(IIIIII)V"⟩
abbrev cX11_goFlips : ByteArray := prog_13_method_62_code
def yX11_goFlips : MethodName := ⟨RX11, "goFlips", "(I)V"⟩
abbrev cX11_goFlip : ByteArray := prog_13_method_63_code
def yX11_goFlip : MethodName := ⟨RX11, "goFlip", "(I)V"⟩
abbrev cX11_goBack : ByteArray := prog_13_method_64_code
def yX11_goBack : MethodName := ⟨RX11, "goBack", "(I)V"⟩
abbrev cX11_turnOnce : ByteArray := prog_13_method_65_code
def yX11_turnOnce : MethodName := ⟨RX11, "turnOnce", "(III)V"⟩
abbrev cX11_goTwist : ByteArray := prog_13_method_66_code
def yX11_goTwist : MethodName := ⟨RX11, "goTwist", "(II)V"⟩
abbrev cX11_goWord : ByteArray := prog_13_method_67_code
def yX11_goWord : MethodName := ⟨RX11, "goWord", "(I)V"⟩
abbrev cX11_begin : ByteArray := prog_13_method_68_code
def yX11_begin : MethodName := ⟨RX11, "begin", "(I)V"⟩
abbrev cX11_allOf : ByteArray := prog_13_method_69_code
def yX11_allOf : MethodName := ⟨RX11, "allOf", "()J"⟩
abbrev cX11_far : ByteArray := prog_13_method_70_code
def yX11_far : MethodName := ⟨RX11, "far", "(J)J"⟩
abbrev cX11_cross : ByteArray := prog_13_method_71_code
def yX11_cross : MethodName := ⟨RX11, "cross", "(II)J"⟩
abbrev cX11_layOuts : ByteArray := prog_13_method_72_code
def yX11_layOuts : MethodName := ⟨RX11, "layOuts", "(II)V"⟩
abbrev cX11_across : ByteArray := prog_13_method_73_code
def yX11_across : MethodName := ⟨RX11, "across", "(II)I"⟩
abbrev cX11_isFairWord : ByteArray := prog_13_method_74_code
def yX11_isFairWord : MethodName := ⟨RX11, "isFairWord", "(I)Z"⟩
abbrev cX11_isAsWas : ByteArray := prog_13_method_75_code
def yX11_isAsWas : MethodName := ⟨RX11, "isAsWas", "(I)Z"⟩
abbrev cX11_kept : ByteArray := prog_13_method_76_code
def yX11_kept : MethodName := ⟨RX11, "kept", "(I)I"⟩
abbrev cX11_alike : ByteArray := prog_13_method_77_code
def yX11_alike : MethodName := ⟨RX11, "alike", "(II)I"⟩
abbrev cX11_goOn : ByteArray := prog_13_method_78_code
def yX11_goOn : MethodName := ⟨RX11, "goOn", "(II)Z"⟩
abbrev cX11_order : ByteArray := prog_13_method_79_code
def yX11_order : MethodName := ⟨RX11, "order", "(I)I"⟩
abbrev cX11_stretch : ByteArray := prog_13_method_80_code
def yX11_stretch : MethodName := ⟨RX11, "stretch", "(III)J"⟩
abbrev cX11_layTable : ByteArray := prog_13_method_81_code
def yX11_layTable : MethodName := ⟨RX11, "layTable", "(II)Z"⟩
abbrev cX11_table : ByteArray := prog_13_method_82_code
def yX11_table : MethodName := ⟨RX11, "table", "(IIII)I"⟩
abbrev cX11_raised : ByteArray := prog_13_method_83_code
def yX11_raised : MethodName := ⟨RX11, "raised", "(JJ)J"⟩
abbrev cX11_timesTable : ByteArray := prog_13_method_84_code
def yX11_timesTable : MethodName := ⟨RX11, "timesTable", "()V"⟩
abbrev cX11_layPolynomial : ByteArray := prog_13_method_85_code
def yX11_layPolynomial : MethodName := ⟨RX11, "layPolynomial", "()V"⟩
abbrev cX11_polynomial : ByteArray := prog_13_method_86_code
def yX11_polynomial : MethodName := ⟨RX11, "polynomial", "(III)I"⟩
abbrev cX11_triedFits : ByteArray := prog_13_method_87_code
def yX11_triedFits : MethodName := ⟨RX11, "triedFits", "()Z"⟩
abbrev cX11_hasLoop : ByteArray := prog_13_method_88_code
def yX11_hasLoop : MethodName := ⟨RX11, "hasLoop", "()Z"⟩
abbrev cX11_isLeft : ByteArray := prog_13_method_89_code
def yX11_isLeft : MethodName := ⟨RX11, "isLeft", "(I)Z"⟩
abbrev cX11_nextTried : ByteArray := prog_13_method_90_code
def yX11_nextTried : MethodName := ⟨RX11, "nextTried", "(I)Z"⟩
abbrev cX11_least : ByteArray := prog_13_method_91_code
def yX11_least : MethodName := ⟨RX11, "least", "(II)I"⟩
abbrev cX11_putDown : ByteArray := prog_13_method_92_code
def yX11_putDown : MethodName := ⟨RX11, "putDown", "()V"⟩
abbrev cX11_lainAll : ByteArray := prog_13_method_93_code
def yX11_lainAll : MethodName := ⟨RX11, "lainAll", "()I"⟩
abbrev cX11_lies : ByteArray := prog_13_method_94_code
def yX11_lies : MethodName := ⟨RX11, "lies", "(I)I"⟩
abbrev cX11_nowAll : ByteArray := prog_13_method_95_code
def yX11_nowAll : MethodName := ⟨RX11, "nowAll", "()J"⟩
abbrev cX11_shiftOut : ByteArray := prog_13_method_96_code
def yX11_shiftOut : MethodName := ⟨RX11, "shiftOut", "()V"⟩
abbrev cX11_act : ByteArray := prog_13_method_97_code
def yX11_act : MethodName := ⟨RX11, "act", "()J"⟩
abbrev cX11_lay : ByteArray := prog_13_method_98_code
def yX11_lay : MethodName := ⟨RX11, "lay", "(I)J"⟩
abbrev cX11_twist : ByteArray := prog_13_method_99_code
def yX11_twist : MethodName := ⟨RX11, "twist", "(II)J"⟩
abbrev cX11_go : ByteArray := prog_13_method_100_code
def yX11_go : MethodName := ⟨RX11, "go", "(I)J"⟩
abbrev cX11_exchange : ByteArray := prog_13_method_101_code
def yX11_exchange : MethodName := ⟨RX11, "exchange", "(I)V"⟩
abbrev cX11_undo : ByteArray := prog_13_method_102_code
def yX11_undo : MethodName := ⟨RX11, "undo", "()Z"⟩
abbrev cX11_redo : ByteArray := prog_13_method_103_code
def yX11_redo : MethodName := ⟨RX11, "redo", "()Z"⟩
abbrev cX11_sideIn : ByteArray := prog_13_method_104_code
def yX11_sideIn : MethodName := ⟨RX11, "sideIn", "(II)I"⟩
abbrev cX11_readSketch : ByteArray := prog_13_method_105_code
def yX11_readSketch : MethodName := ⟨RX11, "readSketch", "(I)Z"⟩
abbrev cX11_leaveOut : ByteArray := prog_13_method_106_code
def yX11_leaveOut : MethodName := ⟨RX11, "leaveOut", "()V"⟩
abbrev cX11_isPath : ByteArray := prog_13_method_107_code
def yX11_isPath : MethodName := ⟨RX11, "isPath", "(IZ)Z"⟩
abbrev cX11_isTrue : ByteArray := prog_13_method_108_code
def yX11_isTrue : MethodName := ⟨RX11, "isTrue", "()Z"⟩
abbrev cX11_sketch : ByteArray := prog_13_method_109_code
def yX11_sketch : MethodName := ⟨RX11, "sketch", "()I"⟩
abbrev cX11_isBox : ByteArray := prog_13_method_110_code
def yX11_isBox : MethodName := ⟨RX11, "isBox", "(I)Z"⟩
abbrev cX11_image : ByteArray := prog_13_method_111_code
def yX11_image : MethodName := ⟨RX11, "image", "(I)J"⟩
abbrev cX11_back : ByteArray := prog_13_method_112_code
def yX11_back : MethodName := ⟨RX11, "back", "(I)J"⟩
abbrev cX11_about : ByteArray := prog_13_method_113_code
def yX11_about : MethodName := ⟨RX11, "about", "(I)I"⟩
def RJ9 : String := "java/lang/Math"
abbrev cJ9_floorMod_f86c9 : ByteArray := prog_14_method_52_code
def yJ9_floorMod_f86c9 : MethodName := ⟨RJ9, "floorMod", "(JJ)J"⟩
abbrev cJ9_abs_0f7a4 : ByteArray := prog_14_method_59_code
def yJ9_abs_0f7a4 : MethodName := ⟨RJ9, "abs", "(I)I"⟩
abbrev cJ9_abs_067f4 : ByteArray := prog_14_method_61_code
def yJ9_abs_067f4 : MethodName := ⟨RJ9, "abs", "(J)J"⟩
abbrev cJ9_max_7cf53 : ByteArray := prog_14_method_65_code
def yJ9_max_7cf53 : MethodName := ⟨RJ9, "max", "(II)I"⟩
abbrev cJ9_max_f86c9 : ByteArray := prog_14_method_66_code
def yJ9_max_f86c9 : MethodName := ⟨RJ9, "max", "(JJ)J"⟩
abbrev cJ9_min_7cf53 : ByteArray := prog_14_method_69_code
def yJ9_min_7cf53 : MethodName := ⟨RJ9, "min", "(II)I"⟩
def RL : String := "LoopGroundLaw"
abbrev cL_law : ByteArray := code
def yL_law : MethodName := ⟨RL, "law", "([I)Z"⟩
abbrev vwCl : List vw_C := [(RX0, TX0, 4), (RX1, TX1, 3), (RX2, TX2, 5), (RX3, TX3, 3), (RX4, TX4, 11), (RX5, TX5, 7), (RX6, TX6, 11), (RX7, TX7, 9), (RX8, TX8, 17), (RX9, TX9, 14), (RX10, TX10, 19), (RX11, TX11, 81)]
end
section
/-! what a program decides of the tables, and that it is enough -/
def pm_RD : String := RX5
def pm_TB : List Cond := lw_tbl.filter pm_stb
def pm_chunk (j : Nat) : List Cond := match j with
  | 0 => k2_sels lw_privs
  | 1 => tables_1_1
  | 2 => tables_1_2
  | 3 => tables_1_3
  | 4 => tables_1_4
  | 5 => tables_1_5
  | 6 => tables_1_6
  | 7 => tables_1_7
  | 8 => tables_1_8
  | _ => []
theorem pm_chunk_in {j : Nat} {w : Cond} (h : w ∈ pm_chunk j) : w ∈ lw_tbl := by
  have ht : ∀ w, w ∈ tables_1 → w ∈ lw_tbl := fun w hw => List.mem_append_right _ hw
  unfold pm_chunk at h
  split at h
  · exact List.mem_append_left _ h
  · exact ht w (List.mem_append_left _ h)
  · exact ht w (List.mem_append_right _ (List.mem_append_left _ h))
  · exact ht w (List.mem_append_right _ (List.mem_append_right _ (List.mem_append_left _ h)))
  · exact ht w (List.mem_append_right _ (List.mem_append_right _ (List.mem_append_right _ (List.mem_append_left _ h))))
  · exact ht w (List.mem_append_right _ (List.mem_append_right _ (List.mem_append_right _ (List.mem_append_right _ (List.mem_append_left _ h)))))
  · exact ht w (List.mem_append_right _ (List.mem_append_right _ (List.mem_append_right _ (List.mem_append_right _ (List.mem_append_right _ (List.mem_append_left _ h))))))
  · exact ht w (List.mem_append_right _ (List.mem_append_right _ (List.mem_append_right _ (List.mem_append_right _ (List.mem_append_right _ (List.mem_append_right _ (List.mem_append_left _ h)))))))
  · exact ht w (List.mem_append_right _ (List.mem_append_right _ (List.mem_append_right _ (List.mem_append_right _ (List.mem_append_right _ (List.mem_append_right _ (List.mem_append_right _ h)))))))
  · cases h
noncomputable def pm_hasW (a : Nat × Nat) (w : Cond) : Bool := decide (pm_nth (pm_chunk a.1) a.2 = some w) && pm_stb w
theorem pm_hasW_in {a : Nat × Nat} {w : Cond} (h : pm_hasW a w = true) : w ∈ pm_TB := by
  unfold pm_hasW at h
  rw [Bool.and_eq_true, decide_eq_true_eq, pm_nth_eq] at h
  exact List.mem_filter.mpr ⟨pm_chunk_in (List.mem_of_getElem? h.1), h.2⟩
noncomputable def pm_hs : List (Nat × Nat) → List Cond → Bool
  | [], [] => true
  | a :: as, w :: ws => pm_hasW a w && pm_hs as ws
  | _, _ => false
theorem pm_hs_in : ∀ (as : List (Nat × Nat)) (ws : List Cond), pm_hs as ws = true → ∀ w ∈ ws, w ∈ pm_TB := by
  intro as
  induction as with
  | nil =>
    intro ws h w hw
    cases ws with
    | nil => cases hw
    | cons x r => cases h
  | cons a as ih =>
    intro ws h w hw
    cases ws with
    | nil => cases hw
    | cons x r =>
      have h2 : (pm_hasW a x && pm_hs as r) = true := h
      rw [Bool.and_eq_true] at h2
      rcases List.mem_cons.mp hw with rfl | hw
      · exact pm_hasW_in h2.1
      · exact ih r h2.2 w hw
noncomputable def pm_ckm (own mname : String) (i : Instr) (r1 r2 : Nat) (cst : Int) (hs : List (Nat × Nat)) : Bool := match i with
  | .getfield x => match vwCl[r1]? with
    | some (_, T, N) => Nat.ble (r2 + 1) N && pm_hs hs [.fieldLink own x (T r2).1 (T r2).2.1 (T r2).2.2.1]
    | none => false
  | .putfield x => match vwCl[r1]? with
    | some (_, T, N) => match parseFieldDescriptor (T r2).2.2.1 with
      | some ty => (Nat.ble (r2 + 1) N && pm_hs hs [.fieldLink own x (T r2).1 (T r2).2.1 (T r2).2.2.1]) && (decide (pm_tyc ty = cst) && (!(T r2).2.2.2 || (decide (mname = "<init>") && decide ((T r2).1 = own))))
      | none => false
    | none => false
  | .newarray ty => pm_hs hs [.arrayClass (newarray.typeOf ty)]
  | .anewarray x => pm_hs hs [.classLink own x pm_RD, .arrayOver (.object pm_RD)]
  | .multianewarray x d => decide (d = 2) && ((decide (r1 = 4) && (decide (r2 = 1) && pm_hs hs [.classLink own x ("[" ++ (FieldType.array .long).toString), .arrayOver (.array .long), .arrayClass .long])) || (decide (r1 = 5) && (decide (r2 = 0) && pm_hs hs [.classLink own x ("[" ++ (FieldType.array .int).toString), .arrayOver (.array .int), .arrayClass .int])))
  | .new x => match vwCl[r1]? with
    | some (C, _, N) => pm_hs hs [.classLink own x C, .instantiable C N, .initialized C]
    | none => false
  | .aastore => match vwCl[r1]? with
    | some (C, _, _) => decide (C = pm_RD)
    | none => false
  | _ => true
theorem pm_ckm_ok {own mname : String} {i : Instr} {r1 r2 : Nat} {cst : Int} {hs : List (Nat × Nat)} (h : pm_ckm own mname i r1 r2 cst hs = true) : pm_okm vwCl pm_TB pm_RD own mname i r1 r2 cst := by
  cases i <;> simp only [pm_ckm] at h <;> try exact trivial
  case getfield x =>
    split at h
    · rename_i C T N e1
      rw [Bool.and_eq_true] at h
      exact ⟨C, T, N, e1, Nat.le_of_ble_eq_true h.1, pm_hs_in _ _ h.2 _ List.mem_cons_self⟩
    · cases h
  case putfield x =>
    split at h
    · rename_i C T N e1
      split at h
      · rename_i ty e2
        simp only [Bool.and_eq_true, decide_eq_true_eq, Bool.or_eq_true, Bool.not_eq_true'] at h
        obtain ⟨⟨h1, h2⟩, h3, h4⟩ := h
        refine ⟨C, T, N, ty, e1, Nat.le_of_ble_eq_true h1, pm_hs_in _ _ h2 _ List.mem_cons_self, e2, h3, fun hf => ?_⟩
        rcases h4 with h4 | h4
        · rw [hf] at h4; cases h4
        · exact h4
      · cases h
    · cases h
  case newarray ty => exact pm_hs_in _ _ h _ List.mem_cons_self
  case anewarray x => exact ⟨pm_hs_in _ _ h _ List.mem_cons_self, pm_hs_in _ _ h _ (List.mem_cons_of_mem _ List.mem_cons_self)⟩
  case multianewarray x d =>
    simp only [Bool.and_eq_true, decide_eq_true_eq, Bool.or_eq_true] at h
    obtain ⟨h1, h2⟩ := h
    refine ⟨h1, ?_⟩
    rcases h2 with ⟨a, b, h3⟩ | ⟨a, b, h3⟩
    · exact Or.inl ⟨a, b, pm_hs_in _ _ h3 _ List.mem_cons_self, pm_hs_in _ _ h3 _ (List.mem_cons_of_mem _ List.mem_cons_self), pm_hs_in _ _ h3 _ (List.mem_cons_of_mem _ (List.mem_cons_of_mem _ List.mem_cons_self))⟩
    · exact Or.inr ⟨a, b, pm_hs_in _ _ h3 _ List.mem_cons_self, pm_hs_in _ _ h3 _ (List.mem_cons_of_mem _ List.mem_cons_self), pm_hs_in _ _ h3 _ (List.mem_cons_of_mem _ (List.mem_cons_of_mem _ List.mem_cons_self))⟩
  case new x =>
    split at h
    · rename_i C T N e1
      exact ⟨C, T, N, e1, pm_hs_in _ _ h _ List.mem_cons_self, pm_hs_in _ _ h _ (List.mem_cons_of_mem _ List.mem_cons_self), pm_hs_in _ _ h _ (List.mem_cons_of_mem _ (List.mem_cons_of_mem _ List.mem_cons_self))⟩
    · cases h
  case aastore =>
    split at h
    · rename_i C T N e1
      rw [decide_eq_true_eq] at h
      subst h
      exact ⟨T, N, e1⟩
    · cases h
/-- the word that links a call: a nest mate's where r2 is 1 -/
def pm_lkw (own : String) (x r2 : Nat) (y : MethodName) : Cond := match r2 with
  | 0 => .methodLink own x y
  | _ => .methodLinkNest own x y "LoopGround"
theorem pm_lkw_ok {own : String} {x r2 : Nat} {y : MethodName} (h : pm_lkw own x r2 y ∈ pm_TB) : pm_lnk pm_TB own x y := by
  cases r2 with
  | zero => exact Or.inl h
  | succ n => exact Or.inr ⟨_, h⟩
noncomputable def pm_ckc (ms : Nat → Option pm_M) (own : String) (i : Instr) (r1 r2 : Nat) (hs : List (Nat × Nat)) : Bool := match i with
  | .invokestatic x => match ms r1 with
    | some (y, _, _, _, _, _) => pm_hs hs [pm_lkw own x r2 y, .static y]
    | none => false
  | .invokevirtual x => match ms r1 with
    | some (y, _, _, _, _, ci) => match vwCl[ci]? with
      | some (C, _, _) => decide (C = y.cls) && pm_hs hs [pm_lkw own x r2 y, .instanceMethod y, .selects y.cls y y]
      | none => false
    | none => false
  | .invokespecial x => match r1 with
    | 0 => pm_hs hs [.methodLink own x objectInit, .instanceMethod objectInit, .code objectInit ⟨#[0xb1]⟩ 1 none]
    | r1 + 1 => match ms (r1 + 1) with
      | some (y, _, _, none, _, _) => decide (y.name = "<init>") && pm_hs hs [pm_lkw own x r2 y, .instanceMethod y]
      | _ => false
  | _ => true
theorem pm_ckc_ok {ms : Nat → Option pm_M} {own : String} {i : Instr} {r1 r2 : Nat} {hs : List (Nat × Nat)} (h : pm_ckc ms own i r1 r2 hs = true) : pm_okc ms vwCl pm_TB own i r1 := by
  cases i <;> simp only [pm_ckc] at h <;> try exact trivial
  case invokestatic x =>
    split at h
    · rename_i y bytes nL rt na ci e1
      exact ⟨y, bytes, nL, rt, na, ci, e1, pm_lkw_ok (pm_hs_in _ _ h _ List.mem_cons_self), pm_hs_in _ _ h _ (List.mem_cons_of_mem _ List.mem_cons_self)⟩
    · cases h
  case invokevirtual x =>
    split at h
    · rename_i y bytes nL rt na ci e1
      split at h
      · rename_i C T N e2
        rw [Bool.and_eq_true, decide_eq_true_eq] at h
        obtain ⟨rfl, h⟩ := h
        exact ⟨y, bytes, nL, rt, na, ci, e1, pm_lkw_ok (pm_hs_in _ _ h _ List.mem_cons_self), pm_hs_in _ _ h _ (List.mem_cons_of_mem _ List.mem_cons_self), T, N, e2, pm_hs_in _ _ h _ (List.mem_cons_of_mem _ (List.mem_cons_of_mem _ List.mem_cons_self))⟩
      · cases h
    · cases h
  case invokespecial x =>
    split at h
    · exact Or.inl ⟨rfl, pm_hs_in _ _ h _ List.mem_cons_self, pm_hs_in _ _ h _ (List.mem_cons_of_mem _ List.mem_cons_self), pm_hs_in _ _ h _ (List.mem_cons_of_mem _ (List.mem_cons_of_mem _ List.mem_cons_self))⟩
    · split at h
      · rename_i y bytes nL na ci e1
        rw [Bool.and_eq_true, decide_eq_true_eq] at h
        exact Or.inr ⟨by omega, y, bytes, nL, na, ci, e1, h.1, pm_lkw_ok (pm_hs_in _ _ h.2 _ List.mem_cons_self), pm_hs_in _ _ h.2 _ (List.mem_cons_of_mem _ List.mem_cons_self)⟩
      · cases h
noncomputable def pm_ckk (own : String) (i : Instr) (cst : Int) (hs : List (Nat × Nat)) : Bool := match i with
  | .ldc x => pm_hs hs [.constant own x (Int32.ofInt cst)]
  | .ldc_w x => pm_hs hs [.constant own x (Int32.ofInt cst)]
  | .ldc2_w x => pm_hs hs [.constantLong own x (Int64.ofInt cst)]
  | _ => true
def pm_ckl (i : Instr) (n : Nat) : Bool := match pm_grp i with
  | 0 => Nat.beq n (pm_aln i)
  | 1 => Nat.beq n (pm_ldn i)
  | 2 => Nat.beq n (pm_ston i)
  | 3 => Nat.beq n 3 || (match i with | .tableswitch _ _ _ _ => true | _ => false)
  | 4 => Nat.beq n (pm_memn i)
  | 5 => Nat.beq n 3
  | _ => Nat.beq n 1
theorem pm_ckl_ok {i : Instr} {n : Nat} (h : pm_ckl i n = true) : pm_lenOk i n := by
  cases i <;> first
    | exact pm_beq h
    | exact Or.inr ⟨_, _, _, _, rfl⟩
    | exact Or.inl (pm_beq ((Bool.or_false _).symm.trans h))
noncomputable def pm_ck (ms : Nat → Option pm_M) (cc : ByteArray) (own mname : String) (pc : Nat) (q : pm_I) : Bool := match q with
  | (i, n, r1, r2, cst, hs) => decide (decode cc pc = .ok (i, n)) && (pm_ckl i n && (pm_tgt i pc r1 && (pm_ckk own i cst hs && (pm_ckm own mname i r1 r2 cst hs && pm_ckc ms own i r1 r2 hs))))
theorem pm_ck_ok {ms : Nat → Option pm_M} {cc : ByteArray} {own mname : String} {pc : Nat} {q : pm_I} (h : pm_ck ms cc own mname pc q = true) : pm_okI vwCl pm_TB pm_RD ms cc own mname pc q := by
  obtain ⟨i, n, r1, r2, cst, hs⟩ := q
  simp only [pm_ck, Bool.and_eq_true, decide_eq_true_eq] at h
  obtain ⟨h1, h2, h3, h4, h5, h6⟩ := h
  refine ⟨h1, pm_ckl_ok h2, h3, ?_, ?_, pm_ckm_ok h5, pm_ckc_ok h6⟩
  · intro x hx
    rcases hx with hx | hx
    · have hx : i = .ldc x := hx
      subst hx
      exact pm_hs_in _ _ h4 _ List.mem_cons_self
    · have hx : i = .ldc_w x := hx
      subst hx
      exact pm_hs_in _ _ h4 _ List.mem_cons_self
  · intro x hx
    have hx : i = .ldc2_w x := hx
    subst hx
    exact pm_hs_in _ _ h4 _ List.mem_cons_self
/-- a method's table: itself, the places of its words, its instructions in rows of eight bytes -/
abbrev pm_D : Type := pm_M × List (Nat × Nat) × List (List (Nat × pm_I))
def pm_find : List (Nat × pm_I) → Nat → Option pm_I
  | [], _ => none
  | q :: r, pc => match Nat.beq q.1 pc with
    | true => some q.2
    | false => pm_find r pc
theorem pm_find_in {l : List (Nat × pm_I)} {pc : Nat} {q : pm_I} (h : pm_find l pc = some q) : (pc, q) ∈ l := by
  induction l with
  | nil => cases h
  | cons x r ih =>
    unfold pm_find at h
    split at h
    · rename_i e1
      cases h
      rw [← pm_beq e1]
      exact List.mem_cons_self
    · exact List.mem_cons_of_mem _ (ih h)
noncomputable def pm_at_pc (bs : List (List (Nat × pm_I))) (pc : Nat) : Option pm_I := match pm_nth bs (pc / 8) with
  | some l => pm_find l pc
  | none => none
noncomputable def pm_ckb (ms : Nat → Option pm_M) (cc : ByteArray) (own mname : String) (bs : List (List (Nat × pm_I))) : Bool := bs.all (fun l => l.all (fun x => pm_ck ms cc own mname x.1 x.2))
theorem pm_ckb_ok {ms : Nat → Option pm_M} {cc : ByteArray} {own mname : String} {bs : List (List (Nat × pm_I))} (h : pm_ckb ms cc own mname bs = true) {pc : Nat} {q : pm_I} (hq : pm_at_pc bs pc = some q) : pm_okI vwCl pm_TB pm_RD ms cc own mname pc q := by
  unfold pm_at_pc at hq
  split at hq
  · rename_i l e1
    rw [pm_nth_eq] at e1
    have h1 := List.all_eq_true.mp h l (List.mem_of_getElem? e1)
    exact pm_ck_ok (List.all_eq_true.mp h1 (pc, q) (pm_find_in hq))
  · cases hq
noncomputable def pm_ckM (x : pm_M) (hs : List (Nat × Nat)) : Bool := match x with
  | (y, bytes, nL, rt, na, _) => pm_hs hs [.code y bytes nL rt, .initialized y.cls] && (plainName y.cls && (decide (y.cls ≠ "java/lang/invoke/MethodHandle") && (decide (y.cls ≠ "java/lang/invoke/VarHandle") && (decide ((parseMethodDescriptor y.desc).map (fun d => d.parameters.length) = some na) && Nat.ble nL 13))))
/-- the methods, sixteen to a row -/
noncomputable def pm_tk (tab : List (List pm_D)) (k : Nat) : Option pm_D := match k with
  | 0 => none
  | k + 1 => match pm_nth tab (k / 16) with
    | some r => pm_nth r (k % 16)
    | none => none
theorem pm_tk_in {tab : List (List pm_D)} {k : Nat} {x : pm_D} (h : pm_tk tab k = some x) : ∃ r ∈ tab, x ∈ r := by
  unfold pm_tk at h
  split at h
  · cases h
  · split at h
    · rename_i r e1
      rw [pm_nth_eq] at e1 h
      exact ⟨r, List.mem_of_getElem? e1, List.mem_of_getElem? h⟩
    · cases h
noncomputable def pm_msT (tab : List (List pm_D)) (k : Nat) : Option pm_M := match pm_tk tab k with
  | some (x, _, _) => some x
  | none => none
noncomputable def pm_inT (tab : List (List pm_D)) (k pc : Nat) : Option pm_I := match pm_tk tab k with
  | some (_, _, bs) => pm_at_pc bs pc
  | none => none
/-- all is well with a method's table -/
def pm_dOk (ms : Nat → Option pm_M) (x : pm_D) : Prop := pm_ckM x.1 x.2.1 = true ∧ pm_ckb ms x.1.2.1 x.1.1.cls x.1.1.name x.2.2 = true
theorem pm_tab_ms {tab : List (List pm_D)} (h : ∀ r ∈ tab, ∀ x ∈ r, pm_dOk (pm_msT tab) x) : pm_msOk (pm_msT tab) pm_TB := by
  intro k y bytes nL rt na ci e1
  unfold pm_msT at e1
  split at e1
  · rename_i x hs bs e2
    cases e1
    obtain ⟨r, h1, h2⟩ := pm_tk_in e2
    have h3 := (h r h1 _ h2).1
    simp only [pm_ckM, Bool.and_eq_true, decide_eq_true_eq] at h3
    obtain ⟨a1, a2, a3, a4, a5, a6⟩ := h3
    exact ⟨pm_hs_in _ _ a1 _ List.mem_cons_self, pm_hs_in _ _ a1 _ (List.mem_cons_of_mem _ List.mem_cons_self), a2, ⟨a3, a4⟩, a5, Nat.le_of_ble_eq_true a6⟩
  · cases e1
theorem pm_tab_ins {tab : List (List pm_D)} (h : ∀ r ∈ tab, ∀ x ∈ r, pm_dOk (pm_msT tab) x) : pm_insOk vwCl pm_TB pm_RD (pm_msT tab) (pm_inT tab) := by
  intro k y bytes nL rt na ci e1 pc q e3
  unfold pm_msT at e1
  split at e1
  · rename_i x hs bs e2
    cases e1
    obtain ⟨r, h1, h2⟩ := pm_tk_in e2
    have h3 := (h r h1 _ h2).2
    unfold pm_inT at e3
    rw [e2] at e3
    exact pm_ckb_ok h3 e3
  · cases e1
end

section
/-! A SMALL MACHINE: the bytecode's instructions over a list of cells of our own, a pure function; its soundness over the kit's rows stands in the parts behind. -/
/-- a cell: an array (its kind, its length, its contents) or an object (its class' number, its fields) -/
abbrev pm_E : Type := (Nat × vp_A) ⊕ (Nat × List Value)
abbrev pm_H : Type := List pm_E
abbrev pm_L : Type := List (Nat × Value)
/-- an instruction, its length, two resolved numbers, a constant, places of words in the tables -/
abbrev pm_I : Type := Instr × Nat × Nat × Nat × Int × List (Nat × Nat)
/-- a frame: where, variables, stack, cells -/
abbrev pm_F : Type := Nat × pm_L × List Value × pm_H
/-- an end: the answer, the cells -/
abbrev pm_R : Type := Option Value × pm_H
/-- a method: name, bytes, variables, type of its answer, how many arguments, its class' number -/
abbrev pm_M : Type := MethodName × ByteArray × Nat × Option FieldType × Nat × Nat
/-- the script, where it may be read -/
abbrev pm_S : Type := Option (Nat × (Nat → Int32))
noncomputable def pm_nth {α : Type} (l : List α) : Nat → Option α := List.rec (fun _ => none) (fun x _ ih i => Nat.rec (some x) (fun j _ => ih j) i) l
noncomputable def pm_put {α : Type} (l : List α) (y : α) : Nat → List α := List.rec (fun _ => []) (fun x r ih i => Nat.rec (y :: r) (fun j _ => x :: ih j) i) l
theorem pm_nth_eq {α : Type} (l : List α) : ∀ i, pm_nth l i = l[i]? := by
  induction l with
  | nil => intro i; rfl
  | cons x r ih =>
    intro i
    cases i with
    | zero => rfl
    | succ j => exact ih j
theorem pm_put_eq {α : Type} (l : List α) (y : α) : ∀ i, pm_put l y i = l.set i y := by
  induction l with
  | nil => intro i; rfl
  | cons x r ih =>
    intro i
    cases i with
    | zero => rfl
    | succ j => exact congrArg (List.cons x) (ih j)
/-- a variable's value -/
def pm_get : pm_L → Nat → Option Value
  | [], _ => none
  | q :: r, i => match Nat.beq q.1 i with
    | true => some q.2
    | false => pm_get r i
theorem pm_get_mem {l : pm_L} {i : Nat} {v : Value} (h : pm_get l i = some v) : (i, v) ∈ l := by
  induction l with
  | nil => cases h
  | cons q r ih =>
    unfold pm_get at h
    split at h
    · rename_i e
      have e2 := Nat.eq_of_beq_eq_true e
      cases h
      subst e2
      exact List.mem_cons_self
    · exact List.mem_cons_of_mem _ (ih h)
def pm_c2 : Value → Bool
  | .long _ => true
  | .double _ => true
  | _ => false
/-- behind a store of one word, of two -/
def pm_st1 (i : Nat) : pm_L → pm_L
  | [] => []
  | q :: r => match Nat.beq q.1 i, (Nat.beq (q.1 + 1) i && pm_c2 q.2) with
    | false, false => q :: pm_st1 i r
    | _, _ => pm_st1 i r
def pm_st2 (i : Nat) : pm_L → pm_L
  | [] => []
  | q :: r => match (Nat.beq q.1 i || Nat.beq q.1 (i + 1)), (Nat.beq (q.1 + 1) i && pm_c2 q.2) with
    | false, false => q :: pm_st2 i r
    | _, _ => pm_st2 i r
/-- a cell by its address: 0 is the script's -/
noncomputable def pm_cell (h : pm_H) (a : Nat) : Option pm_E := Nat.rec none (fun j _ => pm_nth h j) a
noncomputable def pm_wr (h : pm_H) (a : Nat) (e : pm_E) : pm_H := Nat.rec h (fun j _ => pm_put h e j) a
def pm_ii (st : List Value) (f : Int32 → Int32 → Value) : Option (List Value) := match st with
  | .int y :: .int x :: r => some (f x y :: r)
  | _ => none
def pm_iz (st : List Value) (f : Int32 → Int32 → Value) : Option (List Value) := match st with
  | .int y :: .int x :: r => if y = 0 then none else some (f x y :: r)
  | _ => none
def pm_ll (st : List Value) (f : Int64 → Int64 → Value) : Option (List Value) := match st with
  | .long y :: .long x :: r => some (f x y :: r)
  | _ => none
def pm_lz (st : List Value) (f : Int64 → Int64 → Value) : Option (List Value) := match st with
  | .long y :: .long x :: r => if y = 0 then none else some (f x y :: r)
  | _ => none
def pm_li (st : List Value) (f : Int64 → Int32 → Value) : Option (List Value) := match st with
  | .int y :: .long x :: r => some (f x y :: r)
  | _ => none
def pm_i1 (st : List Value) (f : Int32 → Value) : Option (List Value) := match st with
  | .int x :: r => some (f x :: r)
  | _ => none
def pm_l1 (st : List Value) (f : Int64 → Value) : Option (List Value) := match st with
  | .long x :: r => some (f x :: r)
  | _ => none
def pm_dup (st : List Value) : Option (List Value) := match st with
  | v :: r => match pm_c2 v with
    | true => none
    | false => some (v :: v :: r)
  | _ => none
def pm_pop (st : List Value) : Option (List Value) := match st with
  | v :: r => match pm_c2 v with
    | true => none
    | false => some r
  | _ => none
def pm_dup2 (st : List Value) : Option (List Value) := match st with
  | v :: w :: r => match pm_c2 v, pm_c2 w with
    | false, false => some (v :: w :: v :: w :: r)
    | _, _ => none
  | _ => none
/-- what works on the stack alone -/
def pm_alu (q : Instr) (cst : Int) (st : List Value) : Option (List Value) := match q with
  | .iconst n => some (.int (Int32.ofInt n) :: st)
  | .bipush n => some (.int (Int8.ofInt n).toInt32 :: st)
  | .sipush n => some (.int (Int16.ofInt n).toInt32 :: st)
  | .lconst n => some (.long (Int64.ofNat (n : Nat)) :: st)
  | .ldc _ => some (.int (Int32.ofInt cst) :: st)
  | .ldc_w _ => some (.int (Int32.ofInt cst) :: st)
  | .ldc2_w _ => some (.long (Int64.ofInt cst) :: st)
  | .aconst_null => some (.null :: st)
  | .iadd => pm_ii st (fun x y => .int (x + y))
  | .isub => pm_ii st (fun x y => .int (x - y))
  | .imul => pm_ii st (fun x y => .int (x * y))
  | .iand => pm_ii st (fun x y => .int (x &&& y))
  | .ior => pm_ii st (fun x y => .int (x ||| y))
  | .ishl => pm_ii st (fun x y => .int (x <<< (y &&& 31)))
  | .ishr => pm_ii st (fun x y => .int (x >>> (y &&& 31)))
  | .idiv => pm_iz st (fun x y => .int (x / y))
  | .irem => pm_iz st (fun x y => .int (x - x / y * y))
  | .ineg => pm_i1 st (fun x => .int (-x))
  | .ladd => pm_ll st (fun x y => .long (x + y))
  | .lsub => pm_ll st (fun x y => .long (x - y))
  | .lmul => pm_ll st (fun x y => .long (x * y))
  | .land => pm_ll st (fun x y => .long (x &&& y))
  | .lor => pm_ll st (fun x y => .long (x ||| y))
  | .lxor => pm_ll st (fun x y => .long (x ^^^ y))
  | .ldiv => pm_lz st (fun x y => .long (x / y))
  | .lrem => pm_lz st (fun x y => .long (x - x / y * y))
  | .lcmp => pm_ll st (fun x y => .int (lg_cmp x y))
  | .lneg => pm_l1 st (fun x => .long (-x))
  | .lshl => pm_li st (fun x y => .long (x <<< (y.toInt64 &&& 63)))
  | .lshr => pm_li st (fun x y => .long (x >>> (y.toInt64 &&& 63)))
  | .i2l => pm_i1 st (fun x => .long x.toInt64)
  | .l2i => pm_l1 st (fun x => .int x.toInt32)
  | .i2b => pm_i1 st (fun x => .int x.toInt8.toInt32)
  | .dup => pm_dup st
  | .pop => pm_pop st
  | .dup2 => pm_dup2 st
  | _ => none
/-- the next place behind what works on the stack alone -/
def pm_aln (q : Instr) : Nat := match q with
  | .bipush _ => 2
  | .sipush _ => 3
  | .ldc _ => 2
  | .ldc_w _ => 3
  | .ldc2_w _ => 3
  | _ => 1
def pm_ldi (lv : pm_L) (i : Nat) : Option Value := match pm_get lv i with
  | some (.int x) => some (.int x)
  | _ => none
def pm_ldl (lv : pm_L) (i : Nat) : Option Value := match pm_get lv i with
  | some (.long x) => some (.long x)
  | _ => none
def pm_lda (lv : pm_L) (i : Nat) : Option Value := match pm_get lv i with
  | some (.ref x) => some (.ref x)
  | some .null => some .null
  | _ => none
/-- a load: the value, the next place -/
def pm_ld (q : Instr) (lv : pm_L) : Option Value := match q with
  | .iload_n n => pm_ldi lv (n : Nat)
  | .iload n => pm_ldi lv n
  | .lload_n n => pm_ldl lv (n : Nat)
  | .lload n => pm_ldl lv n
  | .aload_n n => pm_lda lv (n : Nat)
  | .aload n => pm_lda lv n
  | _ => none
def pm_ldn (q : Instr) : Nat := match q with
  | .iload _ => 2
  | .lload _ => 2
  | .aload _ => 2
  | _ => 1
def pm_sti (nL i : Nat) (lv : pm_L) (st : List Value) : Option (pm_L × List Value) := match st with
  | .int x :: r => match Nat.ble (i + 1) nL with
    | true => some ((i, .int x) :: pm_st1 i lv, r)
    | false => none
  | _ => none
def pm_stl (nL i : Nat) (lv : pm_L) (st : List Value) : Option (pm_L × List Value) := match st with
  | .long x :: r => match Nat.ble (i + 2) nL with
    | true => some ((i, .long x) :: pm_st2 i lv, r)
    | false => none
  | _ => none
def pm_sta (nL i : Nat) (lv : pm_L) (st : List Value) : Option (pm_L × List Value) := match st with
  | .ref x :: r => match Nat.ble (i + 1) nL with
    | true => some ((i, .ref x) :: pm_st1 i lv, r)
    | false => none
  | .null :: r => match Nat.ble (i + 1) nL with
    | true => some ((i, .null) :: pm_st1 i lv, r)
    | false => none
  | _ => none
def pm_inc (nL i : Nat) (n : Int) (lv : pm_L) (st : List Value) : Option (pm_L × List Value) := match pm_get lv i with
  | some (.int x) => match Nat.ble (i + 1) nL with
    | true => some ((i, .int (x + Int32.ofInt n)) :: pm_st1 i lv, st)
    | false => none
  | _ => none
def pm_sto (nL : Nat) (q : Instr) (lv : pm_L) (st : List Value) : Option (pm_L × List Value) := match q with
  | .istore_n n => pm_sti nL (n : Nat) lv st
  | .istore n => pm_sti nL n lv st
  | .lstore_n n => pm_stl nL (n : Nat) lv st
  | .lstore n => pm_stl nL n lv st
  | .astore_n n => pm_sta nL (n : Nat) lv st
  | .astore n => pm_sta nL n lv st
  | .iinc i n => pm_inc nL i n lv st
  | _ => none
def pm_ston (q : Instr) : Nat := match q with
  | .istore _ => 2
  | .lstore _ => 2
  | .astore _ => 2
  | .iinc _ _ => 3
  | _ => 1
def pm_if (b : Bool) (t pc : Nat) (r : List Value) : Option (Nat × List Value) := match b with
  | true => some (t, r)
  | false => some (pc + 3, r)
def pm_sw (pc : Nat) (off : Int) (r : List Value) : Option (Nat × List Value) := match (pc : Int) + off with
  | .ofNat t => some (t, r)
  | _ => none
/-- a jump: t is the target -/
def pm_jmp (q : Instr) (pc t : Nat) (st : List Value) : Option (Nat × List Value) := match q with
  | .goto _ => some (t, st)
  | .ifCond cd _ => match st with
    | .int x :: r => match cd with
      | .eq => pm_if (decide (x = 0)) t pc r
      | .ne => pm_if (decide (¬ x = 0)) t pc r
      | .lt => pm_if (decide (x < 0)) t pc r
      | .ge => pm_if (decide (0 ≤ x)) t pc r
      | .gt => pm_if (decide (0 < x)) t pc r
      | .le => pm_if (decide (x ≤ 0)) t pc r
    | _ => none
  | .if_icmp cd _ => match st with
    | .int y :: .int x :: r => match cd with
      | .eq => pm_if (decide (x = y)) t pc r
      | .ne => pm_if (decide (¬ x = y)) t pc r
      | .lt => pm_if (decide (x < y)) t pc r
      | .ge => pm_if (decide (y ≤ x)) t pc r
      | .gt => pm_if (decide (y < x)) t pc r
      | .le => pm_if (decide (x ≤ y)) t pc r
    | _ => none
  | .ifnull _ => match st with
    | .null :: r => some (t, r)
    | .ref _ :: r => some (pc + 3, r)
    | _ => none
  | .ifnonnull _ => match st with
    | .null :: r => some (pc + 3, r)
    | .ref _ :: r => some (t, r)
    | _ => none
  | .tableswitch dflt lo hi offs => match st with
    | .int x :: r => if x.toInt < lo ∨ hi < x.toInt then pm_sw pc dflt r else match offs[(x.toInt - lo).toNat]? with
      | some off => pm_sw pc off r
      | none => none
    | _ => none
  | _ => none
/-- whether a value may stand in a field: 0 int, 1 long, 2 boolean, 3 a reference -/
def pm_fit (k : Int) (v : Value) : Bool := match k, v with
  | .ofNat 0, .int _ => true
  | .ofNat 1, .long _ => true
  | .ofNat 2, .int x => decide (x = 0) || decide (x = 1)
  | .ofNat 3, .ref _ => true
  | .ofNat 3, .null => true
  | _, _ => false
end
section
/-- an index in range, as a place -/
def pm_ix (i : Int32) (n : Nat) : Option Nat := if i < 0 then none else match Nat.ble n i.toNatClampNeg with
  | true => none
  | false => some i.toNatClampNeg
/-- array loads: kinds 0 int, 1 long, 2 byte, 3 boolean, 4 long[], 5 int[], 6 a class' objects -/
def pm_rdi (i : Int32) (e : Option pm_E) : Option Value := match e with
  | some (.inl (k, n, .inl f)) => match Nat.beq k 0 with
    | true => match pm_ix i n with
      | some j => some (.int (f j))
      | none => none
    | false => none
  | _ => none
def pm_rdb (i : Int32) (e : Option pm_E) : Option Value := match e with
  | some (.inl (k, n, .inl f)) => match Nat.beq k 2, Nat.beq k 3 with
    | false, false => none
    | _, _ => match pm_ix i n with
      | some j => some (.int (f j))
      | none => none
  | _ => none
def pm_rdl (i : Int32) (e : Option pm_E) : Option Value := match e with
  | some (.inl (k, n, .inr (.inl f))) => match Nat.beq k 1 with
    | true => match pm_ix i n with
      | some j => some (.long (f j))
      | none => none
    | false => none
  | _ => none
def pm_rda (i : Int32) (e : Option pm_E) : Option Value := match e with
  | some (.inl (k, n, .inr (.inr (.inr (.inr f))))) => match Nat.beq k 4, Nat.beq k 5, Nat.beq k 6 with
    | false, false, false => none
    | _, _, _ => match pm_ix i n with
      | some j => some (va_rf (f j))
      | none => none
  | _ => none
def pm_scr (i : Int32) (s : pm_S) : Option Value := match s with
  | some (n, xs) => match pm_ix i n with
    | some j => some (.int (xs j))
    | none => none
  | none => none
/-- array stores -/
def pm_wri (i x : Int32) (e : Option pm_E) : Option pm_E := match e with
  | some (.inl (k, n, .inl f)) => match Nat.beq k 0 with
    | true => match pm_ix i n with
      | some j => some (.inl (k, n, .inl (upd f j x)))
      | none => none
    | false => none
  | _ => none
def pm_wrb (i x : Int32) (e : Option pm_E) : Option pm_E := match e with
  | some (.inl (k, n, .inl f)) => match Nat.beq k 2, Nat.beq k 3 with
    | true, _ => match pm_ix i n with
      | some j => some (.inl (k, n, .inl (upd f j (vp_nar .byte x))))
      | none => none
    | _, true => match pm_ix i n with
      | some j => some (.inl (k, n, .inl (upd f j (vp_nar .boolean x))))
      | none => none
    | _, _ => none
  | _ => none
def pm_wrl (i : Int32) (x : Int64) (e : Option pm_E) : Option pm_E := match e with
  | some (.inl (k, n, .inr (.inl f))) => match Nat.beq k 1 with
    | true => match pm_ix i n with
      | some j => some (.inl (k, n, .inr (.inl (vp_updL f j x))))
      | none => none
    | false => none
  | _ => none
/-- a reference to an object of the class ci into an array of kind 6 -/
def pm_wra (ci : Nat) (i : Int32) (x : Nat) (o e : Option pm_E) : Option pm_E := match e, o with
  | some (.inl (k, n, .inr (.inr (.inr (.inr f))))), some (.inr (c, _)) => match Nat.beq k 6, Nat.beq c ci with
    | true, true => match pm_ix i n with
      | some j => some (.inl (k, n, .inr (.inr (.inr (.inr (va_up f j (some x)))))))
      | none => none
    | _, _ => none
  | _, _ => none
noncomputable def pm_gf (r1 r2 : Nat) (e : Option pm_E) : Option Value := match e with
  | some (.inr (c, fs)) => match Nat.beq c r1 with
    | true => pm_nth fs r2
    | false => none
  | _ => none
noncomputable def pm_pf (r1 r2 : Nat) (ty : Int) (v : Value) (e : Option pm_E) : Option pm_E := match e with
  | some (.inr (c, fs)) => match Nat.beq c r1, pm_fit ty v, Nat.ble (r2 + 1) fs.length with
    | true, true, true => some (.inr (c, pm_put fs v r2))
    | _, _, _ => none
  | _ => none
def pm_len (e : Option pm_E) : Option Value := match e with
  | some (.inl (k, n, _)) => match Nat.ble k 6 with
    | true => some (.int (Int32.ofNat n))
    | false => none
  | _ => none
noncomputable def pm_wrs (h : pm_H) (a : Nat) (r : List Value) (e : Option pm_E) : Option (List Value × pm_H) := match e with
  | some e => some (r, pm_wr h a e)
  | none => none
def pm_psh (h : pm_H) (r : List Value) (v : Option Value) : Option (List Value × pm_H) := match v with
  | some v => some (v :: r, h)
  | none => none
/-- a length that may be -/
def pm_sz (n : Int32) : Option Nat := if n < 0 then none else match Nat.ble n.toNatClampNeg 67108864 with
  | true => some n.toNatClampNeg
  | false => none
def pm_new (h : pm_H) (r : List Value) (e : pm_E) : Option (List Value × pm_H) := some (.ref (h.length + 1) :: r, h ++ [e])
def pm_nwa (h : pm_H) (r : List Value) (n : Int32) (f : Nat → pm_E) : Option (List Value × pm_H) := match pm_sz n with
  | some N => pm_new h r (f N)
  | none => none
/-- an empty array of a kind -/
def pm_zero (k N : Nat) : pm_E := match k with
  | 1 => .inl (1, N, .inr (.inl (fun _ => 0)))
  | 0 => .inl (0, N, .inl (fun _ => 0))
  | k => .inl (k, N, .inl (fun _ => 0))
def pm_nwm (h : pm_H) (r : List Value) (r1 r2 : Nat) (n k : Int32) : Option (List Value × pm_H) := match pm_sz n, pm_sz k with
  | some N, some K => some (.ref (h.length + 1) :: r, h ++ (.inl (r1, N, .inr (.inr (.inr (.inr (fun i => if i < N then some (h.length + 2 + i) else none))))) :: List.replicate N (pm_zero r2 K)))
  | _, _ => none
/-- what works on the cells: cs are the classes' fields as they are born -/
noncomputable def pm_mem (cs : Nat → List Value) (scr : pm_S) (q : Instr) (r1 r2 : Nat) (cst : Int) (st : List Value) (h : pm_H) : Option (List Value × pm_H) := match q with
  | .getfield _ => match st with
    | .ref a :: r => pm_psh h r (pm_gf r1 r2 (pm_cell h a))
    | _ => none
  | .putfield _ => match st with
    | v :: .ref a :: r => pm_wrs h a r (pm_pf r1 r2 cst v (pm_cell h a))
    | _ => none
  | .iaload => match st with
    | .int i :: .ref a :: r => match a with
      | 0 => pm_psh h r (pm_scr i scr)
      | a + 1 => pm_psh h r (pm_rdi i (pm_cell h (a + 1)))
    | _ => none
  | .baload => match st with
    | .int i :: .ref a :: r => pm_psh h r (pm_rdb i (pm_cell h a))
    | _ => none
  | .laload => match st with
    | .int i :: .ref a :: r => pm_psh h r (pm_rdl i (pm_cell h a))
    | _ => none
  | .aaload => match st with
    | .int i :: .ref a :: r => pm_psh h r (pm_rda i (pm_cell h a))
    | _ => none
  | .iastore => match st with
    | .int x :: .int i :: .ref a :: r => pm_wrs h a r (pm_wri i x (pm_cell h a))
    | _ => none
  | .bastore => match st with
    | .int x :: .int i :: .ref a :: r => pm_wrs h a r (pm_wrb i x (pm_cell h a))
    | _ => none
  | .lastore => match st with
    | .long x :: .int i :: .ref a :: r => pm_wrs h a r (pm_wrl i x (pm_cell h a))
    | _ => none
  | .aastore => match st with
    | .ref x :: .int i :: .ref a :: r => pm_wrs h a r (pm_wra r1 i x (pm_cell h x) (pm_cell h a))
    | _ => none
  | .arraylength => match st with
    | .ref a :: r => match a with
      | 0 => match scr with
        | some (n, _) => some (.int (Int32.ofNat n) :: r, h)
        | none => none
      | a + 1 => pm_psh h r (pm_len (pm_cell h (a + 1)))
    | _ => none
  | .newarray ty => match st with
    | .int n :: r => match ty with
      | .int => pm_nwa h r n (pm_zero 0)
      | .long => pm_nwa h r n (pm_zero 1)
      | .byte => pm_nwa h r n (pm_zero 2)
      | .boolean => pm_nwa h r n (pm_zero 3)
      | _ => none
    | _ => none
  | .anewarray _ => match st with
    | .int n :: r => pm_nwa h r n (fun N => .inl (6, N, .inr (.inr (.inr (.inr (fun _ => none))))))
    | _ => none
  | .multianewarray _ _ => match st with
    | .int k :: .int n :: r => pm_nwm h r r1 r2 n k
    | _ => none
  | .new _ => pm_new h st (.inr (r1, cs r1))
  | _ => none
def pm_memn (q : Instr) : Nat := match q with
  | .getfield _ => 3
  | .putfield _ => 3
  | .newarray _ => 2
  | .anewarray _ => 3
  | .multianewarray _ _ => 4
  | .new _ => 3
  | _ => 1
/-- a method's end: its answer is of its type -/
def pm_ret (q : Instr) (rt : Option FieldType) (st : List Value) : Option (Option Value) := match q with
  | .return_ => match rt, st with
    | none, [] => some none
    | _, _ => none
  | .ireturn => match rt, st with
    | some .int, [.int x] => some (some (.int x))
    | some .boolean, [.int x] => if x = 0 ∨ x = 1 then some (some (.int x)) else none
    | _, _ => none
  | .lreturn => match rt, st with
    | some .long, [.long x] => some (some (.long x))
    | _, _ => none
  | .areturn => match rt, st with
    | some (.object _), [.ref a] => some (some (.ref a))
    | some (.object _), [.null] => some (some .null)
    | some (.array _), [.ref a] => some (some (.ref a))
    | some (.array _), [.null] => some (some .null)
    | _, _ => none
  | _ => none
/-- n values off a stack, the last first -/
def pm_pop_n : Nat → List Value → List Value → Option (List Value × List Value)
  | 0, as, st => some (as, st)
  | n + 1, as, v :: st => pm_pop_n n (v :: as) st
  | _ + 1, _, [] => none
def pm_cat (v : Value) : Nat := match v with
  | .long _ => 2
  | .double _ => 2
  | _ => 1
def pm_wt : List Value → Nat
  | [] => 0
  | v :: r => pm_cat v + pm_wt r
def pm_clsOk (ci : Nat) (e : Option pm_E) : Bool := match e with
  | some (.inr (c, _)) => Nat.beq c ci
  | _ => false
abbrev pm_C : Type := Nat → List Value → pm_H → Option pm_R
/-- a call: r1 is the callee (0: Object's constructor), na how many arguments it has, ci its class -/
noncomputable def pm_inv (call : pm_C) (q : Instr) (k na ci : Nat) (st : List Value) (h : pm_H) : Option (List Value × pm_H) := match q with
  | .invokestatic _ => match pm_pop_n na [] st with
    | some (as, r) => match Nat.ble (pm_wt r) 8, call k as h with
      | true, some (v, h') => some (v.toList ++ r, h')
      | _, _ => none
    | none => none
  | .invokevirtual _ => match pm_pop_n na [] st with
    | some (as, .ref a :: r) => match Nat.ble (pm_wt r) 8, pm_clsOk ci (pm_cell h a), call k (.ref a :: as) h with
      | true, true, some (v, h') => some (v.toList ++ r, h')
      | _, _, _ => none
    | _ => none
  | .invokespecial _ => match k with
    | 0 => match st with
      | .ref _ :: r => match Nat.ble (pm_wt r) 8 with
        | true => some (r, h)
        | false => none
      | _ => none
    | k + 1 => match pm_pop_n na [] st with
      | some (as, .ref a :: r) => match Nat.ble (pm_wt r) 8, call (k + 1) (.ref a :: as) h with
        | true, some (v, h') => some (v.toList ++ r, h')
        | _, _ => none
      | _ => none
  | _ => none
/-- which of the groups an instruction is in: 0 stack, 1 load, 2 store, 3 jump, 4 cells, 5 call, 6 end -/
def pm_grp (q : Instr) : Nat := match q with
  | .iload_n _ => 1 | .iload _ => 1 | .lload_n _ => 1 | .lload _ => 1 | .aload_n _ => 1 | .aload _ => 1
  | .istore_n _ => 2 | .istore _ => 2 | .lstore_n _ => 2 | .lstore _ => 2 | .astore_n _ => 2 | .astore _ => 2 | .iinc _ _ => 2
  | .goto _ => 3 | .ifCond _ _ => 3 | .if_icmp _ _ => 3 | .ifnull _ => 3 | .ifnonnull _ => 3 | .tableswitch _ _ _ _ => 3
  | .getfield _ => 4 | .putfield _ => 4 | .iaload => 4 | .baload => 4 | .laload => 4 | .aaload => 4 | .iastore => 4 | .bastore => 4 | .lastore => 4 | .aastore => 4 | .arraylength => 4 | .newarray _ => 4 | .anewarray _ => 4 | .multianewarray _ _ => 4 | .new _ => 4
  | .invokestatic _ => 5 | .invokevirtual _ => 5 | .invokespecial _ => 5
  | .return_ => 6 | .ireturn => 6 | .lreturn => 6 | .areturn => 6
  | _ => 0
abbrev pm_O : Type := Option (pm_F ⊕ pm_R)
def pm_o0 (pc : Nat) (lv : pm_L) (h : pm_H) (o : Option (List Value)) : pm_O := match o with
  | some st => some (.inl (pc, lv, st, h))
  | none => none
def pm_o1 (pc : Nat) (lv : pm_L) (st : List Value) (h : pm_H) (o : Option Value) : pm_O := match o with
  | some v => some (.inl (pc, lv, v :: st, h))
  | none => none
def pm_o2 (pc : Nat) (h : pm_H) (o : Option (pm_L × List Value)) : pm_O := match o with
  | some (lv, st) => some (.inl (pc, lv, st, h))
  | none => none
def pm_o3 (lv : pm_L) (h : pm_H) (o : Option (Nat × List Value)) : pm_O := match o with
  | some (pc, st) => some (.inl (pc, lv, st, h))
  | none => none
def pm_o4 (pc : Nat) (lv : pm_L) (o : Option (List Value × pm_H)) : pm_O := match o with
  | some (st, h) => some (.inl (pc, lv, st, h))
  | none => none
def pm_o6 (h : pm_H) (o : Option (Option Value)) : pm_O := match o with
  | some v => some (.inr (v, h))
  | none => none
/-- how many arguments a callee has, its class -/
def pm_na (ms : Nat → Option pm_M) (k : Nat) : Nat × Nat := match ms k with
  | some (_, _, _, _, n, ci) => (n, ci)
  | none => (0, 0)
/-- one instruction -/
noncomputable def pm_step (cs : Nat → List Value) (ms : Nat → Option pm_M) (call : pm_C) (scr : pm_S) (nL : Nat) (rt : Option FieldType) (q : pm_I) (F : pm_F) : pm_O := match q, F with
  | (i, _, r1, r2, cst, _), (pc, lv, st, h) => match pm_grp i with
    | 0 => pm_o0 (pc + pm_aln i) lv h (pm_alu i cst st)
    | 1 => pm_o1 (pc + pm_ldn i) lv st h (pm_ld i lv)
    | 2 => pm_o2 (pc + pm_ston i) h (pm_sto nL i lv st)
    | 3 => pm_o3 lv h (pm_jmp i pc r1 st)
    | 4 => pm_o4 (pc + pm_memn i) lv (pm_mem cs scr i r1 r2 cst st h)
    | 5 => pm_o4 (pc + 3) lv (pm_inv call i r1 (pm_na ms r1).1 (pm_na ms r1).2 st h)
    | _ => pm_o6 h (pm_ret i rt st)
/-- a method's run: by the fuel -/
noncomputable def pm_run (step : pm_I → pm_F → pm_O) (ins : Nat → Option pm_I) : Nat → pm_F → Option pm_R := fun n => Nat.rec (fun _ => none) (fun _ ih F => match ins F.1 with
  | none => none
  | some q => match step q F with
    | none => none
    | some (.inl F') => ih F'
    | some (.inr r) => some r) n
/-- a call, by its depth; the tables: classes, methods, instructions -/
noncomputable def pm_call (cs : Nat → List Value) (ms : Nat → Option pm_M) (ins : Nat → Nat → Option pm_I) (fuel : Nat) : Nat → pm_C := fun d => Nat.rec (fun _ _ _ => none) (fun _ ih k as h => match ms k with
  | some (_, _, nL, rt, _, _) => match Nat.ble (pm_wt as) nL with
    | true => pm_run (pm_step cs ms ih none nL rt) (ins k) fuel (0, lv_args 0 as, [], h)
    | false => none
  | none => none) d
theorem pm_run_succ (step : pm_I → pm_F → pm_O) (ins : Nat → Option pm_I) (n : Nat) (F : pm_F) : pm_run step ins (n + 1) F = match ins F.1 with
  | none => none
  | some q => match step q F with
    | none => none
    | some (.inl F') => pm_run step ins n F'
    | some (.inr r) => some r := rfl
theorem pm_call_succ (cs : Nat → List Value) (ms : Nat → Option pm_M) (ins : Nat → Nat → Option pm_I) (fuel d k : Nat) (as : List Value) (h : pm_H) : pm_call cs ms ins fuel (d + 1) k as h = match ms k with
  | some (_, _, nL, rt, _, _) => match Nat.ble (pm_wt as) nL with
    | true => pm_run (pm_step cs ms (pm_call cs ms ins fuel d) none nL rt) (ins k) fuel (0, lv_args 0 as, [], h)
    | false => none
  | none => none := rfl
end
section
/-! how the small machine's values and cells lie in the machine's heap -/
def pm_ad (b base : Nat) (a : Nat) : Nat := match a with
  | 0 => b
  | a + 1 => base + a
def pm_sh (b base : Nat) (v : Value) : Value := match v with
  | .ref a => .ref (pm_ad b base a)
  | v => v
def pm_tr (cA : Nat → ClassId) (b base : Nat) (e : pm_E) : va_E := match e with
  | .inl (k, n, .inl f) => .inl (cA k, n, .inl f)
  | .inl (k, n, .inr (.inl f)) => .inl (cA k, n, .inr (.inl f))
  | .inl (k, n, .inr (.inr (.inl f))) => .inl (cA k, n, .inr (.inr (.inl f)))
  | .inl (k, n, .inr (.inr (.inr (.inl f)))) => .inl (cA k, n, .inr (.inr (.inr (.inl f))))
  | .inl (k, n, .inr (.inr (.inr (.inr f)))) => .inl (cA k, n, .inr (.inr (.inr (.inr (fun j => (f j).map (pm_ad b base))))))
  | .inr (c, fs) => .inr (c, fs.map (pm_sh b base))
/-- the cells as the kit's list: from the address i on -/
def pm_ws (g : pm_E → va_E) : Nat → pm_H → va_W
  | _, [] => []
  | i, e :: r => (i, g e) :: pm_ws g (i + 1) r
theorem pm_ws_get (g : pm_E → va_E) (h : pm_H) : ∀ i k, (pm_ws g i h)[k]? = (h[k]?).map (fun e => (i + k, g e)) := by
  induction h with
  | nil => intro i k; rfl
  | cons e r ih =>
    intro i k
    cases k with
    | zero => rfl
    | succ k =>
      show (pm_ws g (i + 1) r)[k]? = (r[k]?).map _
      rw [ih, show i + 1 + k = i + (k + 1) by omega]
theorem pm_ws_set (g : pm_E → va_E) (h : pm_H) (x : pm_E) : ∀ i k, (pm_ws g i h).set k (i + k, g x) = pm_ws g i (h.set k x) := by
  induction h with
  | nil => intro i k; rfl
  | cons e r ih =>
    intro i k
    cases k with
    | zero => rfl
    | succ k =>
      show (i, g e) :: (pm_ws g (i + 1) r).set k (i + (k + 1), g x) = (i, g e) :: pm_ws g (i + 1) (r.set k x)
      rw [← ih, show i + 1 + k = i + (k + 1) by omega]
theorem pm_ws_app (g : pm_E → va_E) (h t : pm_H) : ∀ i, pm_ws g i (h ++ t) = pm_ws g i h ++ pm_ws g (i + h.length) t := by
  induction h with
  | nil => intro i; rfl
  | cons e r ih =>
    intro i
    show (i, g e) :: pm_ws g (i + 1) (r ++ t) = (i, g e) :: (pm_ws g (i + 1) r ++ pm_ws g (i + (r.length + 1)) t)
    rw [ih, show i + 1 + r.length = i + (r.length + 1) by omega]
theorem pm_ws_D (g : pm_E → va_E) (base : Nat) (h : pm_H) : va_D (fun q => base ≤ q) (pm_ws g base h) := by
  refine ⟨fun i j p q hi hj hpq => ?_, fun k q hk => ?_⟩
  · rw [pm_ws_get] at hi hj
    cases e1 : h[i]? with
    | none => rw [e1] at hi; cases hi
    | some x =>
      cases e2 : h[j]? with
      | none => rw [e2] at hj; cases hj
      | some y =>
        rw [e1] at hi; rw [e2] at hj
        cases hi; cases hj
        have : base + i = base + j := hpq
        omega
  · rw [pm_ws_get] at hk
    cases e1 : h[k]? with
    | none => rw [e1] at hk; cases hk
    | some x =>
      rw [e1] at hk
      cases hk
      show base ≤ base + k
      omega
/-- slots in all -/
def pm_sl (e : pm_E) : Nat := match e with
  | .inl (_, n, _) => n
  | .inr (_, fs) => fs.length
def pm_sls : pm_H → Nat
  | [] => 0
  | e :: r => pm_sl e + pm_sls r
theorem pm_sls_app (h t : pm_H) : pm_sls (h ++ t) = pm_sls h + pm_sls t := by
  induction h with
  | nil => simp [pm_sls]
  | cons e r ih =>
    show pm_sl e + pm_sls (r ++ t) = pm_sl e + pm_sls r + pm_sls t
    rw [ih]; omega
theorem pm_sls_set (h : pm_H) : ∀ (k : Nat) (x y : pm_E), h[k]? = some x → pm_sl y = pm_sl x → pm_sls (h.set k y) = pm_sls h := by
  induction h with
  | nil => intro k x y hk; cases hk
  | cons e r ih =>
    intro k x y hk hy
    cases k with
    | zero =>
      cases hk
      show pm_sl y + pm_sls r = pm_sl e + pm_sls r
      rw [hy]
    | succ k =>
      show pm_sl e + pm_sls (r.set k y) = pm_sl e + pm_sls r
      rw [ih k x y hk hy]
/-- the heap H holds the cells h -/
def pm_P (D : va_G) (cl : List vw_C) (cA : Nat → ClassId) (b base : Nat) (h : pm_H) (H : Heap) : Prop := H.size = base + h.length ∧ va_P D cl (pm_ws (pm_tr cA b base) base h) H
theorem pm_sh_c (b base : Nat) (v : Value) : (pm_sh b base v).category = v.category := by cases v <;> rfl
theorem pm_cell_s {h : pm_H} {a : Nat} {e : pm_E} (q : pm_cell h a = some e) : ∃ k, a = k + 1 ∧ h[k]? = some e := by
  cases a with
  | zero => cases q
  | succ k => exact ⟨k, rfl, by rw [← pm_nth_eq]; exact q⟩
theorem pm_at {D : va_G} {cl : List vw_C} {cA : Nat → ClassId} {b base : Nat} {h : pm_H} {H : Heap} {k : Nat} {e : pm_E} (q : h[k]? = some e) : (pm_ws (pm_tr cA b base) base h)[k]? = some (base + k, pm_tr cA b base e) := by
  rw [pm_ws_get, q]; rfl
/-- variables -/
def pm_lv (b base : Nat) (l : pm_L) : pm_L := l.map (fun q => (q.1, pm_sh b base q.2))
theorem pm_lv_in {b base : Nat} {l : pm_L} {i : Nat} {v : Value} (h : (i, v) ∈ l) : (i, pm_sh b base v) ∈ pm_lv b base l := List.mem_map.mpr ⟨(i, v), h, rfl⟩
theorem pm_lv_get {b base : Nat} {l : pm_L} {i : Nat} {v : Value} {ls : Array Slot} {nL : Nat} (hl : lv_has ls nL (pm_lv b base l)) (h : pm_get l i = some v) : ls[i]? = some (.val (pm_sh b base v)) := hl.2.2 _ (pm_lv_in (pm_get_mem h))
theorem pm_lv_k {b base : Nat} {l : pm_L} {i : Nat} {v : Value} (h : pm_get l i = some v) : ∃ k : Nat, (pm_lv b base l)[k]? = some (i, pm_sh b base v) := List.getElem?_of_mem (pm_lv_in (pm_get_mem h))
theorem pm_c2_cat (v : Value) : (v.category == 2) = pm_c2 v := by cases v <;> rfl
theorem pm_st1_sub {b base i : Nat} {l : pm_L} {q : Nat × Value} (h : q ∈ pm_lv b base (pm_st1 i l)) : q ∈ (pm_lv b base l).filter (fun q => !(q.1 == i) && !(q.1 + 1 == i && q.2.category == 2)) := by
  obtain ⟨x, hx, rfl⟩ := List.mem_map.mp h
  rw [List.mem_filter]
  induction l with
  | nil => cases hx
  | cons y r ih =>
    unfold pm_st1 at hx
    split at hx
    · rename_i e1 e2
      rcases List.mem_cons.mp hx with rfl | hx
      · refine ⟨List.mem_map.mpr ⟨x, List.mem_cons_self, rfl⟩, ?_⟩
        have e3 : (x.1 == i) = false := by
          cases e4 : (x.1 == i) with
          | false => rfl
          | true => rw [beq_iff_eq] at e4; rw [e4] at e1; simp at e1
        have e5 : (x.1 + 1 == i && (pm_sh b base x.2).category == 2) = false := by
          rw [pm_sh_c, pm_c2_cat]
          cases e4 : (x.1 + 1 == i) with
          | false => rfl
          | true =>
            rw [beq_iff_eq] at e4
            rw [e4] at e2
            simpa using e2
        show (!(x.1 == i) && !(x.1 + 1 == i && (pm_sh b base x.2).category == 2)) = true
        rw [e3, e5]; rfl
      · obtain ⟨h1, h2⟩ := ih hx (List.mem_map.mpr ⟨x, hx, rfl⟩)
        exact ⟨by obtain ⟨z, hz, e⟩ := List.mem_map.mp h1; exact List.mem_map.mpr ⟨z, List.mem_cons_of_mem _ hz, e⟩, h2⟩
    · obtain ⟨h1, h2⟩ := ih hx (List.mem_map.mpr ⟨x, hx, rfl⟩)
      exact ⟨by obtain ⟨z, hz, e⟩ := List.mem_map.mp h1; exact List.mem_map.mpr ⟨z, List.mem_cons_of_mem _ hz, e⟩, h2⟩
theorem pm_st2_sub {b base i : Nat} {l : pm_L} {q : Nat × Value} (h : q ∈ pm_lv b base (pm_st2 i l)) : q ∈ (pm_lv b base l).filter (fun q => !(q.1 == i) && (!(q.1 == i + 1) && !(q.1 + 1 == i && q.2.category == 2))) := by
  obtain ⟨x, hx, rfl⟩ := List.mem_map.mp h
  rw [List.mem_filter]
  induction l with
  | nil => cases hx
  | cons y r ih =>
    unfold pm_st2 at hx
    split at hx
    · rename_i e1 e2
      rcases List.mem_cons.mp hx with rfl | hx
      · refine ⟨List.mem_map.mpr ⟨x, List.mem_cons_self, rfl⟩, ?_⟩
        rw [Bool.or_eq_false_iff] at e1
        have e3 : (x.1 == i) = false := by
          cases e4 : (x.1 == i) with
          | false => rfl
          | true => rw [beq_iff_eq] at e4; have := e1.1; rw [e4] at this; simp at this
        have e6 : (x.1 == i + 1) = false := by
          cases e4 : (x.1 == i + 1) with
          | false => rfl
          | true => rw [beq_iff_eq] at e4; have := e1.2; rw [e4] at this; simp at this
        have e5 : (x.1 + 1 == i && (pm_sh b base x.2).category == 2) = false := by
          rw [pm_sh_c, pm_c2_cat]
          cases e4 : (x.1 + 1 == i) with
          | false => rfl
          | true =>
            rw [beq_iff_eq] at e4
            rw [e4] at e2
            simpa using e2
        show (!(x.1 == i) && (!(x.1 == i + 1) && !(x.1 + 1 == i && (pm_sh b base x.2).category == 2))) = true
        rw [e3, e5, e6]; rfl
      · obtain ⟨h1, h2⟩ := ih hx (List.mem_map.mpr ⟨x, hx, rfl⟩)
        exact ⟨by obtain ⟨z, hz, e⟩ := List.mem_map.mp h1; exact List.mem_map.mpr ⟨z, List.mem_cons_of_mem _ hz, e⟩, h2⟩
    · obtain ⟨h1, h2⟩ := ih hx (List.mem_map.mpr ⟨x, hx, rfl⟩)
      exact ⟨by obtain ⟨z, hz, e⟩ := List.mem_map.mp h1; exact List.mem_map.mpr ⟨z, List.mem_cons_of_mem _ hz, e⟩, h2⟩
/-- of a list of variables, a smaller one -/
theorem pm_has_sub {ls : Array Slot} {nL : Nat} {l l' : pm_L} (h : lv_has ls nL l) (hs : ∀ q ∈ l', q ∈ l) : lv_has ls nL l' := ⟨h.1, h.2.1, fun q hq => h.2.2 q (hs q hq)⟩
theorem pm_has1 {ls : Array Slot} {nL b base i : Nat} {v : Value} {l : pm_L} (h : lv_has ls nL ((i, pm_sh b base v) :: (pm_lv b base l).filter (fun q => !(q.1 == i) && !(q.1 + 1 == i && q.2.category == 2)))) : lv_has ls nL (pm_lv b base ((i, v) :: pm_st1 i l)) := by
  refine pm_has_sub h fun q hq => ?_
  rcases List.mem_cons.mp (show q ∈ (i, pm_sh b base v) :: pm_lv b base (pm_st1 i l) from hq) with rfl | hq
  · exact List.mem_cons_self
  · exact List.mem_cons_of_mem _ (pm_st1_sub hq)
theorem pm_has2 {ls : Array Slot} {nL b base i : Nat} {v : Value} {l : pm_L} (h : lv_has ls nL ((i, pm_sh b base v) :: (pm_lv b base l).filter (fun q => !(q.1 == i) && (!(q.1 == i + 1) && !(q.1 + 1 == i && q.2.category == 2))))) : lv_has ls nL (pm_lv b base ((i, v) :: pm_st2 i l)) := by
  refine pm_has_sub h fun q hq => ?_
  rcases List.mem_cons.mp (show q ∈ (i, pm_sh b base v) :: pm_lv b base (pm_st2 i l) from hq) with rfl | hq
  · exact List.mem_cons_self
  · exact List.mem_cons_of_mem _ (pm_st2_sub hq)
theorem pm_args (b base : Nat) (vs : List Value) : ∀ i, lv_args i (vs.map (pm_sh b base)) = pm_lv b base (lv_args i vs) := by
  induction vs with
  | nil => intro i; rfl
  | cons v r ih =>
    intro i
    show (i, pm_sh b base v) :: lv_args (if (pm_sh b base v).category = 2 then i + 2 else i + 1) (r.map (pm_sh b base)) = (i, pm_sh b base v) :: pm_lv b base (lv_args (if v.category = 2 then i + 2 else i + 1) r)
    rw [pm_sh_c, ih]
end
section
/-! the groups of instructions over the kit's rows: the stack, variables, jumps -/
theorem pm_no {α : Type} {P : Prop} {x : α} (h : (none : Option α) = some x) : P := by cases h
theorem pm_ii_s {st st' : List Value} {f : Int32 → Int32 → Value} (h : pm_ii st f = some st') : ∃ x y r, st = .int y :: .int x :: r ∧ st' = f x y :: r := by
  unfold pm_ii at h; split at h
  · cases h; exact ⟨_, _, _, rfl, rfl⟩
  · cases h
theorem pm_iz_s {st st' : List Value} {f : Int32 → Int32 → Value} (h : pm_iz st f = some st') : ∃ x y r, st = .int y :: .int x :: r ∧ ¬ y = 0 ∧ st' = f x y :: r := by
  unfold pm_iz at h; split at h
  · split at h
    · cases h
    · rename_i h0; cases h; exact ⟨_, _, _, rfl, h0, rfl⟩
  · cases h
theorem pm_ll_s {st st' : List Value} {f : Int64 → Int64 → Value} (h : pm_ll st f = some st') : ∃ x y r, st = .long y :: .long x :: r ∧ st' = f x y :: r := by
  unfold pm_ll at h; split at h
  · cases h; exact ⟨_, _, _, rfl, rfl⟩
  · cases h
theorem pm_lz_s {st st' : List Value} {f : Int64 → Int64 → Value} (h : pm_lz st f = some st') : ∃ x y r, st = .long y :: .long x :: r ∧ ¬ y = 0 ∧ st' = f x y :: r := by
  unfold pm_lz at h; split at h
  · split at h
    · cases h
    · rename_i h0; cases h; exact ⟨_, _, _, rfl, h0, rfl⟩
  · cases h
theorem pm_li_s {st st' : List Value} {f : Int64 → Int32 → Value} (h : pm_li st f = some st') : ∃ x y r, st = .int y :: .long x :: r ∧ st' = f x y :: r := by
  unfold pm_li at h; split at h
  · cases h; exact ⟨_, _, _, rfl, rfl⟩
  · cases h
theorem pm_i1_s {st st' : List Value} {f : Int32 → Value} (h : pm_i1 st f = some st') : ∃ x r, st = .int x :: r ∧ st' = f x :: r := by
  unfold pm_i1 at h; split at h
  · cases h; exact ⟨_, _, rfl, rfl⟩
  · cases h
theorem pm_l1_s {st st' : List Value} {f : Int64 → Value} (h : pm_l1 st f = some st') : ∃ x r, st = .long x :: r ∧ st' = f x :: r := by
  unfold pm_l1 at h; split at h
  · cases h; exact ⟨_, _, rfl, rfl⟩
  · cases h
theorem pm_c1 {v : Value} (h : pm_c2 v = false) : v.category = 1 := by cases v <;> first | rfl | cases h
theorem pm_dup_s {st st' : List Value} (h : pm_dup st = some st') : ∃ v r, st = v :: r ∧ v.category = 1 ∧ st' = v :: v :: r := by
  unfold pm_dup at h; split at h
  · split at h
    · cases h
    · rename_i h0; cases h; exact ⟨_, _, rfl, pm_c1 h0, rfl⟩
  · cases h
theorem pm_pop_s {st st' : List Value} (h : pm_pop st = some st') : ∃ v, st = v :: st' ∧ v.category = 1 := by
  unfold pm_pop at h; split at h
  · split at h
    · cases h
    · rename_i h0; cases h; exact ⟨_, rfl, pm_c1 h0⟩
  · cases h
theorem pm_dup2_s {st st' : List Value} (h : pm_dup2 st = some st') : ∃ v w r, st = v :: w :: r ∧ v.category = 1 ∧ w.category = 1 ∧ st' = v :: w :: v :: w :: r := by
  unfold pm_dup2 at h; split at h
  · split at h
    · rename_i h0 h1; cases h; exact ⟨_, _, _, rfl, pm_c1 h0, pm_c1 h1, rfl⟩
    · cases h
  · cases h
section PM1
variable {p : Program} {l : Launch} {e : Env} {R : Room} {s : State} {m : MethodId} {args : Array Value} {below : List Frame} {meth : Method} {c : Code} {H : Heap} {locs : List Loc} {cells slots : Nat} {Q : State → Prop}
variable {cc : ByteArray} {pc : Nat} {ls : Array Slot} {b base : Nat}
theorem pm_g0 {i : Instr} {cst : Int} {st st' : List Value} {own : String} (hx : p.tables.exec = Jvm.exec) (hb : c.code = cc) (hdg : decode cc pc = .ok (i, pm_aln i)) (hown : s.vm.findClass own = some m.cls)
    (hcI : ∀ x, i = .ldc x ∨ i = .ldc_w x → (Jvm.Cond.constant own x (Int32.ofInt cst)).before args s = true) (hcL : ∀ x, i = .ldc2_w x → (Jvm.Cond.constantLong own x (Int64.ofInt cst)).before args s = true)
    (h : pm_alu i cst st = some st') (kk : W p l e R s m args below meth c H locs cells slots Q (F0 m (pc + pm_aln i) ls (st'.map (pm_sh b base)))) : W p l e R s m args below meth c H locs cells slots Q (F0 m pc ls (st.map (pm_sh b base))) := by
  cases i
  case iconst n => cases h; exact lv_iconst hx hb hdg rfl kk
  case bipush n => cases h; exact lv_bipush hx hb hdg rfl kk
  case sipush n => cases h; exact lv_sipush hx hb hdg rfl kk
  case lconst n => cases h; exact lv_lconst hx hb hdg rfl kk
  case ldc n => cases h; exact lv_ldc hx hb hown (hcI n (Or.inl rfl)) hdg kk
  case ldc_w n => cases h; exact lv_ldcw hx hb hown (hcI n (Or.inr rfl)) hdg kk
  case ldc2_w n => cases h; exact lv_ldc2 hx hb hown (hcL n rfl) hdg kk
  case aconst_null => cases h; exact lv_null hx hb hdg kk
  case iadd => obtain ⟨x, y, r, rfl, rfl⟩ := pm_ii_s h; exact lv_iadd hx hb hdg kk
  case isub => obtain ⟨x, y, r, rfl, rfl⟩ := pm_ii_s h; exact lv_isub hx hb hdg kk
  case imul => obtain ⟨x, y, r, rfl, rfl⟩ := pm_ii_s h; exact lv_imul hx hb hdg kk
  case iand => obtain ⟨x, y, r, rfl, rfl⟩ := pm_ii_s h; exact lv_iand hx hb hdg kk
  case ior => obtain ⟨x, y, r, rfl, rfl⟩ := pm_ii_s h; exact lv_ior hx hb hdg kk
  case ishl => obtain ⟨x, y, r, rfl, rfl⟩ := pm_ii_s h; exact lv_ishl hx hb hdg kk
  case ishr => obtain ⟨x, y, r, rfl, rfl⟩ := pm_ii_s h; exact lv_ishr hx hb hdg kk
  case idiv => obtain ⟨x, y, r, rfl, h0, rfl⟩ := pm_iz_s h; exact lv_idiv hx hb hdg h0 kk
  case irem => obtain ⟨x, y, r, rfl, h0, rfl⟩ := pm_iz_s h; exact lv_irem hx hb hdg h0 kk
  case ineg => obtain ⟨x, r, rfl, rfl⟩ := pm_i1_s h; exact lv_ineg hx hb hdg kk
  case ladd => obtain ⟨x, y, r, rfl, rfl⟩ := pm_ll_s h; exact lv_ladd hx hb hdg kk
  case lsub => obtain ⟨x, y, r, rfl, rfl⟩ := pm_ll_s h; exact lv_lsub hx hb hdg kk
  case lmul => obtain ⟨x, y, r, rfl, rfl⟩ := pm_ll_s h; exact lv_lmul hx hb hdg kk
  case land => obtain ⟨x, y, r, rfl, rfl⟩ := pm_ll_s h; exact lv_land hx hb hdg kk
  case lor => obtain ⟨x, y, r, rfl, rfl⟩ := pm_ll_s h; exact lv_lor hx hb hdg kk
  case lxor => obtain ⟨x, y, r, rfl, rfl⟩ := pm_ll_s h; exact lv_lxor hx hb hdg kk
  case ldiv => obtain ⟨x, y, r, rfl, h0, rfl⟩ := pm_lz_s h; exact lv_ldiv hx hb hdg h0 kk
  case lrem => obtain ⟨x, y, r, rfl, h0, rfl⟩ := pm_lz_s h; exact lv_lrem hx hb hdg h0 kk
  case lcmp => obtain ⟨x, y, r, rfl, rfl⟩ := pm_ll_s h; exact W.lcmp hx hb hdg kk
  case lneg => obtain ⟨x, r, rfl, rfl⟩ := pm_l1_s h; exact lv_lneg hx hb hdg kk
  case lshl => obtain ⟨x, y, r, rfl, rfl⟩ := pm_li_s h; exact lv_lshl hx hb hdg rfl kk
  case lshr => obtain ⟨x, y, r, rfl, rfl⟩ := pm_li_s h; exact lv_lshr hx hb hdg rfl kk
  case i2l => obtain ⟨x, r, rfl, rfl⟩ := pm_i1_s h; exact lv_i2l hx hb hdg rfl kk
  case l2i => obtain ⟨x, r, rfl, rfl⟩ := pm_l1_s h; exact lv_l2i hx hb hdg rfl kk
  case i2b => obtain ⟨x, r, rfl, rfl⟩ := pm_i1_s h; exact lv_i2b hx hb hdg rfl kk
  case dup => obtain ⟨v, r, rfl, hc, rfl⟩ := pm_dup_s h; exact lv_dup hx hb hdg (by rw [pm_sh_c]; exact hc) kk
  case pop => obtain ⟨v, rfl, hc⟩ := pm_pop_s h; exact lv_pop hx hb hdg (by rw [pm_sh_c]; exact hc) kk
  case dup2 => obtain ⟨v, w, r, rfl, h1, h2, rfl⟩ := pm_dup2_s h; exact lv_dup2_11 hx hb hdg (by rw [pm_sh_c]; exact h1) (by rw [pm_sh_c]; exact h2) kk
  all_goals exact pm_no h
theorem pm_ldi_s {lv : pm_L} {i : Nat} {v : Value} (h : pm_ldi lv i = some v) : ∃ x, v = .int x ∧ pm_get lv i = some (.int x) := by
  unfold pm_ldi at h; split at h
  · rename_i e; cases h; exact ⟨_, rfl, e⟩
  · cases h
theorem pm_ldl_s {lv : pm_L} {i : Nat} {v : Value} (h : pm_ldl lv i = some v) : ∃ x, v = .long x ∧ pm_get lv i = some (.long x) := by
  unfold pm_ldl at h; split at h
  · rename_i e; cases h; exact ⟨_, rfl, e⟩
  · cases h
theorem pm_lda_s {lv : pm_L} {i : Nat} {v : Value} (h : pm_lda lv i = some v) : (∃ x, v = .ref x ∧ pm_get lv i = some (.ref x)) ∨ (v = .null ∧ pm_get lv i = some .null) := by
  unfold pm_lda at h; split at h
  · rename_i e; cases h; exact Or.inl ⟨_, rfl, e⟩
  · rename_i e; cases h; exact Or.inr ⟨rfl, e⟩
  · cases h
theorem pm_g1 {i : Instr} {st : List Value} {v : Value} {lv : pm_L} {nL : Nat} (hx : p.tables.exec = Jvm.exec) (hb : c.code = cc) (hdg : decode cc pc = .ok (i, pm_ldn i)) (hl : lv_has ls nL (pm_lv b base lv))
    (h : pm_ld i lv = some v) (kk : W p l e R s m args below meth c H locs cells slots Q (F0 m (pc + pm_ldn i) ls ((v :: st).map (pm_sh b base)))) : W p l e R s m args below meth c H locs cells slots Q (F0 m pc ls (st.map (pm_sh b base))) := by
  cases i
  case iload_n n => obtain ⟨x, rfl, hg⟩ := pm_ldi_s h; exact lv_iload_n hx hb hdg rfl (pm_lv_get hl hg) kk
  case iload n => obtain ⟨x, rfl, hg⟩ := pm_ldi_s h; exact lv_iload hx hb hdg (pm_lv_get hl hg) kk
  case lload_n n => obtain ⟨x, rfl, hg⟩ := pm_ldl_s h; exact lv_lload_n hx hb hdg rfl (pm_lv_get hl hg) kk
  case lload n => obtain ⟨x, rfl, hg⟩ := pm_ldl_s h; exact lv_lload hx hb hdg (pm_lv_get hl hg) kk
  case aload_n n =>
    rcases pm_lda_s h with ⟨x, rfl, hg⟩ | ⟨rfl, hg⟩
    · exact lv_aload_n hx hb hdg rfl (pm_lv_get hl hg) kk
    · exact lv_aload_nN hx hb hdg rfl (pm_lv_get hl hg) kk
  case aload n =>
    rcases pm_lda_s h with ⟨x, rfl, hg⟩ | ⟨rfl, hg⟩
    · exact lv_aload hx hb hdg (pm_lv_get hl hg) kk
    · exact lv_aloadN hx hb hdg (pm_lv_get hl hg) kk
  all_goals exact pm_no h
theorem pm_sti_s {nL i : Nat} {lv lv' : pm_L} {st st' : List Value} (h : pm_sti nL i lv st = some (lv', st')) : ∃ x, st = .int x :: st' ∧ i < nL ∧ lv' = (i, .int x) :: pm_st1 i lv := by
  unfold pm_sti at h; split at h
  · split at h
    · rename_i h0; cases h; exact ⟨_, rfl, Nat.le_of_ble_eq_true h0, rfl⟩
    · cases h
  · cases h
theorem pm_stl_s {nL i : Nat} {lv lv' : pm_L} {st st' : List Value} (h : pm_stl nL i lv st = some (lv', st')) : ∃ x, st = .long x :: st' ∧ i + 1 < nL ∧ lv' = (i, .long x) :: pm_st2 i lv := by
  unfold pm_stl at h; split at h
  · split at h
    · rename_i h0; cases h; exact ⟨_, rfl, Nat.le_of_ble_eq_true h0, rfl⟩
    · cases h
  · cases h
theorem pm_sta_s {nL i : Nat} {lv lv' : pm_L} {st st' : List Value} (h : pm_sta nL i lv st = some (lv', st')) : i < nL ∧ ((∃ x, st = .ref x :: st' ∧ lv' = (i, .ref x) :: pm_st1 i lv) ∨ (st = .null :: st' ∧ lv' = (i, .null) :: pm_st1 i lv)) := by
  unfold pm_sta at h; split at h
  · split at h
    · rename_i h0; cases h; exact ⟨Nat.le_of_ble_eq_true h0, Or.inl ⟨_, rfl, rfl⟩⟩
    · cases h
  · split at h
    · rename_i h0; cases h; exact ⟨Nat.le_of_ble_eq_true h0, Or.inr ⟨rfl, rfl⟩⟩
    · cases h
  · cases h
theorem pm_inc_s {nL i : Nat} {n : Int} {lv lv' : pm_L} {st st' : List Value} (h : pm_inc nL i n lv st = some (lv', st')) : ∃ x, pm_get lv i = some (.int x) ∧ st' = st ∧ i < nL ∧ lv' = (i, .int (x + Int32.ofInt n)) :: pm_st1 i lv := by
  unfold pm_inc at h; split at h
  · rename_i e
    split at h
    · rename_i h0; cases h; exact ⟨_, e, rfl, Nat.le_of_ble_eq_true h0, rfl⟩
    · cases h
  · cases h
theorem pm_g2 {i : Instr} {st st' : List Value} {lv lv' : pm_L} {nL : Nat} (hx : p.tables.exec = Jvm.exec) (hb : c.code = cc) (hdg : decode cc pc = .ok (i, pm_ston i)) (hl : lv_has ls nL (pm_lv b base lv))
    (h : pm_sto nL i lv st = some (lv', st')) (kk : ∀ ls' : Array Slot, lv_has ls' nL (pm_lv b base lv') → W p l e R s m args below meth c H locs cells slots Q (F0 m (pc + pm_ston i) ls' (st'.map (pm_sh b base)))) : W p l e R s m args below meth c H locs cells slots Q (F0 m pc ls (st.map (pm_sh b base))) := by
  cases i
  case istore_n n => obtain ⟨x, rfl, hn, rfl⟩ := pm_sti_s h; exact lv_istore_n hx hb hdg rfl hl hn rfl (fun ls' hl' => kk ls' (pm_has1 (v := .int x) hl'))
  case istore n => obtain ⟨x, rfl, hn, rfl⟩ := pm_sti_s h; exact lv_istore hx hb hdg hl hn rfl (fun ls' hl' => kk ls' (pm_has1 (v := .int x) hl'))
  case lstore_n n => obtain ⟨x, rfl, hn, rfl⟩ := pm_stl_s h; exact lv_lstore_n hx hb hdg rfl hl hn rfl (fun ls' hl' => kk ls' (pm_has2 (v := .long x) hl'))
  case lstore n => obtain ⟨x, rfl, hn, rfl⟩ := pm_stl_s h; exact lv_lstore hx hb hdg hl hn rfl (fun ls' hl' => kk ls' (pm_has2 (v := .long x) hl'))
  case astore_n n =>
    obtain ⟨hn, ⟨x, rfl, rfl⟩ | ⟨rfl, rfl⟩⟩ := pm_sta_s h
    · exact lv_astore_n hx hb hdg rfl hl hn rfl (fun ls' hl' => kk ls' (pm_has1 (v := .ref x) hl'))
    · exact lv_astore_nN hx hb hdg rfl hl hn rfl (fun ls' hl' => kk ls' (pm_has1 (v := .null) hl'))
  case astore n =>
    obtain ⟨hn, ⟨x, rfl, rfl⟩ | ⟨rfl, rfl⟩⟩ := pm_sta_s h
    · exact lv_astore hx hb hdg hl hn rfl (fun ls' hl' => kk ls' (pm_has1 (v := .ref x) hl'))
    · exact lv_astoreN hx hb hdg hl hn rfl (fun ls' hl' => kk ls' (pm_has1 (v := .null) hl'))
  case iinc n d =>
    obtain ⟨x, hg, rfl, hn, rfl⟩ := pm_inc_s h
    obtain ⟨k, hk⟩ := pm_lv_k (b := b) (base := base) hg
    exact lv_iinc hx hb hdg hl hk rfl hn rfl (fun ls' hl' => kk ls' (pm_has1 (v := .int (x + Int32.ofInt d)) hl'))
  all_goals exact pm_no h
theorem pm_if_s {P : Prop} {inst : Decidable P} {t pc0 pc' : Nat} {r st' : List Value} (h : pm_if (decide P) t pc0 r = some (pc', st')) : st' = r ∧ (P → pc' = t) ∧ (¬ P → pc' = pc0 + 3) := by
  unfold pm_if at h
  by_cases hP : P
  · rw [decide_eq_true hP] at h; cases h; exact ⟨rfl, fun _ => rfl, fun q => absurd hP q⟩
  · rw [decide_eq_false hP] at h; cases h; exact ⟨rfl, fun q => absurd q hP, fun _ => rfl⟩
theorem pm_sw_s {pc0 pc' : Nat} {off : Int} {r st' : List Value} (h : pm_sw pc0 off r = some (pc', st')) : st' = r ∧ (pc0 : Int) + off = (pc' : Int) := by
  unfold pm_sw at h; split at h
  · rename_i e; cases h; exact ⟨rfl, e⟩
  · cases h
def pm_tgt (i : Instr) (pc t : Nat) : Bool := match i with
  | .goto off => decide ((pc : Int) + off = (t : Int))
  | .ifCond _ off => decide ((pc : Int) + off = (t : Int))
  | .if_icmp _ off => decide ((pc : Int) + off = (t : Int))
  | .ifnull off => decide ((pc : Int) + off = (t : Int))
  | .ifnonnull off => decide ((pc : Int) + off = (t : Int))
  | _ => true
theorem pm_g3 {i : Instr} {n t pc' : Nat} {st st' : List Value} (hx : p.tables.exec = Jvm.exec) (hb : c.code = cc) (hdg : decode cc pc = .ok (i, n)) (hn : n = 3 ∨ ∃ a b c d, i = .tableswitch a b c d) (ht : pm_tgt i pc t = true)
    (h : pm_jmp i pc t st = some (pc', st')) (kk : W p l e R s m args below meth c H locs cells slots Q (F0 m pc' ls (st'.map (pm_sh b base)))) : W p l e R s m args below meth c H locs cells slots Q (F0 m pc ls (st.map (pm_sh b base))) := by
  cases i
  case goto off =>
    obtain rfl : n = 3 := by rcases hn with h | ⟨a, b, c, d, h⟩; exact h; cases h
    cases h; exact lv_goto hx hb hdg (of_decide_eq_true ht) kk
  case ifCond cd off =>
    obtain rfl : n = 3 := by rcases hn with h | ⟨a, b, c, d, h⟩; exact h; cases h
    have htt := of_decide_eq_true ht
    simp only [pm_jmp] at h
    split at h
    · cases cd
      · obtain ⟨rfl, h1, h2⟩ := pm_if_s h
        exact lv_if_eq hx hb hdg htt (fun q => by rw [← h1 q]; exact kk) (fun q => by rw [← h2 q]; exact kk)
      · obtain ⟨rfl, h1, h2⟩ := pm_if_s h
        exact lv_if_ne hx hb hdg htt (fun q => by rw [← h1 q]; exact kk) (fun q => by rw [← h2 (fun z => z q)]; exact kk)
      · obtain ⟨rfl, h1, h2⟩ := pm_if_s h
        exact lv_if_lt hx hb hdg htt (fun q => by rw [← h1 q]; exact kk) (fun q => by rw [← h2 q]; exact kk)
      · obtain ⟨rfl, h1, h2⟩ := pm_if_s h
        exact lv_if_ge hx hb hdg htt (fun q => by rw [← h1 q]; exact kk) (fun q => by rw [← h2 q]; exact kk)
      · obtain ⟨rfl, h1, h2⟩ := pm_if_s h
        exact lv_if_gt hx hb hdg htt (fun q => by rw [← h1 q]; exact kk) (fun q => by rw [← h2 q]; exact kk)
      · obtain ⟨rfl, h1, h2⟩ := pm_if_s h
        exact lv_if_le hx hb hdg htt (fun q => by rw [← h1 q]; exact kk) (fun q => by rw [← h2 q]; exact kk)
    · cases h
  case if_icmp cd off =>
    obtain rfl : n = 3 := by rcases hn with h | ⟨a, b, c, d, h⟩; exact h; cases h
    have htt := of_decide_eq_true ht
    simp only [pm_jmp] at h
    split at h
    · cases cd
      · obtain ⟨rfl, h1, h2⟩ := pm_if_s h
        exact lv_icmp_eq hx hb hdg htt (fun q => by rw [← h1 q]; exact kk) (fun q => by rw [← h2 q]; exact kk)
      · obtain ⟨rfl, h1, h2⟩ := pm_if_s h
        exact lv_icmp_ne hx hb hdg htt (fun q => by rw [← h1 q]; exact kk) (fun q => by rw [← h2 (fun z => z q)]; exact kk)
      · obtain ⟨rfl, h1, h2⟩ := pm_if_s h
        exact lv_icmp_lt hx hb hdg htt (fun q => by rw [← h1 q]; exact kk) (fun q => by rw [← h2 q]; exact kk)
      · obtain ⟨rfl, h1, h2⟩ := pm_if_s h
        exact lv_icmp_ge hx hb hdg htt (fun q => by rw [← h1 q]; exact kk) (fun q => by rw [← h2 q]; exact kk)
      · obtain ⟨rfl, h1, h2⟩ := pm_if_s h
        exact lv_icmp_gt hx hb hdg htt (fun q => by rw [← h1 q]; exact kk) (fun q => by rw [← h2 q]; exact kk)
      · obtain ⟨rfl, h1, h2⟩ := pm_if_s h
        exact lv_icmp_le hx hb hdg htt (fun q => by rw [← h1 q]; exact kk) (fun q => by rw [← h2 q]; exact kk)
    · cases h
  case ifnull off =>
    obtain rfl : n = 3 := by rcases hn with h | ⟨a, b, c, d, h⟩; exact h; cases h
    have htt := of_decide_eq_true ht
    simp only [pm_jmp] at h
    split at h
    · cases h; exact lv_ifnullN hx hb hdg htt kk
    · cases h; exact lv_ifnull hx hb hdg kk
    · cases h
  case ifnonnull off =>
    obtain rfl : n = 3 := by rcases hn with h | ⟨a, b, c, d, h⟩; exact h; cases h
    have htt := of_decide_eq_true ht
    simp only [pm_jmp] at h
    split at h
    · cases h; exact lv_ifnonnullN hx hb hdg kk
    · cases h; exact lv_ifnonnull hx hb hdg htt kk
    · cases h
  case tableswitch dflt lo hi offs =>
    simp only [pm_jmp] at h
    split at h
    · split at h
      · rename_i h0
        obtain ⟨rfl, h1⟩ := pm_sw_s h
        exact lv_tableOut hx hb hdg h0 h1 kk
      · rename_i h0
        rw [not_or] at h0
        split at h
        · rename_i h2
          obtain ⟨rfl, h1⟩ := pm_sw_s h
          exact lv_tableIn hx hb hdg h0.1 h0.2 h2 h1 kk
        · cases h
    · cases h
  all_goals exact pm_no h
end PM1
end
section
/-! the instructions that read and write cells, over the kit's rows -/
def pm_tyc (ty : FieldType) : Int := match ty with
  | .int => 0
  | .long => 1
  | .boolean => 2
  | .object _ => 3
  | .array _ => 3
  | _ => 9
theorem pm_fit_ok {ty : FieldType} {v : Value} {b base : Nat} (h : pm_fit (pm_tyc ty) v = true) : narrow ty (pm_sh b base v) = pm_sh b base v ∧ fits ty (pm_sh b base v) = true := by
  cases ty <;> cases v <;> first
    | exact ⟨rfl, rfl⟩
    | cases h
    | (rename_i x
       have h2 : (decide (x = 0) || decide (x = 1)) = true := h
       rw [Bool.or_eq_true, decide_eq_true_eq, decide_eq_true_eq] at h2
       rcases h2 with rfl | rfl <;> exact ⟨rfl, rfl⟩)
def pm_tys (RD : String) (cA : Nat → ClassId) : List (ClassId × FieldType) := [(cA 0, .int), (cA 1, .long), (cA 2, .byte), (cA 3, .boolean), (cA 4, .array .long), (cA 5, .array .int), (cA 6, .object RD)]
/-- what the tables say of the classes -/
def pm_clOk (cl : List vw_C) (TB : List Cond) (cs : Nat → List Value) : Prop := ∀ (ci : Nat) (C : String) (T : u_T) (N : Nat), cl[ci]? = some (C, T, N) →
  (∀ w ∈ u_ws C T N, w ∈ TB) ∧ (∀ a, a < N → ∀ b, b < N → a ≠ b → (T a).2.1 ≠ (T b).2.1) ∧ (∃ ty0 : Nat → FieldType, (∀ k, k < N → parseFieldDescriptor (T k).2.2.1 = some (ty0 k)) ∧ ∀ j, j < N → defaultValue (ty0 j) = vp_V (cs ci) j) ∧ (cs ci).length = N ∧ ∀ v ∈ cs ci, ∀ b base, pm_sh b base v = v
/-- what the tables say of an instruction that works on cells -/
def pm_okm (cl : List vw_C) (TB : List Cond) (RD own mname : String) (i : Instr) (r1 r2 : Nat) (cst : Int) : Prop := match i with
  | .getfield x => ∃ (C : String) (T : u_T) (N : Nat), cl[r1]? = some (C, T, N) ∧ r2 < N ∧ Jvm.Cond.fieldLink own x (T r2).1 (T r2).2.1 (T r2).2.2.1 ∈ TB
  | .putfield x => ∃ (C : String) (T : u_T) (N : Nat) (ty : FieldType), cl[r1]? = some (C, T, N) ∧ r2 < N ∧ Jvm.Cond.fieldLink own x (T r2).1 (T r2).2.1 (T r2).2.2.1 ∈ TB ∧ parseFieldDescriptor (T r2).2.2.1 = some ty ∧ pm_tyc ty = cst ∧ ((T r2).2.2.2 = true → mname = "<init>" ∧ (T r2).1 = own)
  | .newarray ty => Jvm.Cond.arrayClass (newarray.typeOf ty) ∈ TB
  | .anewarray x => Jvm.Cond.classLink own x RD ∈ TB ∧ Jvm.Cond.arrayOver (.object RD) ∈ TB
  | .multianewarray x d => d = 2 ∧ ((r1 = 4 ∧ r2 = 1 ∧ Jvm.Cond.classLink own x ("[" ++ (FieldType.array .long).toString) ∈ TB ∧ Jvm.Cond.arrayOver (.array .long) ∈ TB ∧ Jvm.Cond.arrayClass .long ∈ TB) ∨ (r1 = 5 ∧ r2 = 0 ∧ Jvm.Cond.classLink own x ("[" ++ (FieldType.array .int).toString) ∈ TB ∧ Jvm.Cond.arrayOver (.array .int) ∈ TB ∧ Jvm.Cond.arrayClass .int ∈ TB))
  | .new x => ∃ (C : String) (T : u_T) (N : Nat), cl[r1]? = some (C, T, N) ∧ Jvm.Cond.classLink own x C ∈ TB ∧ Jvm.Cond.instantiable C N ∈ TB ∧ Jvm.Cond.initialized C ∈ TB
  | .aastore => ∃ (T : u_T) (N : Nat), cl[r1]? = some (RD, T, N)
  | _ => True
theorem pm_ix_s {i : Int32} {n j : Nat} (h : pm_ix i n = some j) : vp_in i n ∧ j = i.toNatClampNeg := by
  unfold pm_ix at h; split at h
  · cases h
  · rename_i h0
    split at h
    · cases h
    · rename_i h1
      cases h
      refine ⟨fun q => ?_, rfl⟩
      rcases q with q | q
      · exact h0 q
      · rw [Nat.ble_eq_true_of_le q] at h1; cases h1
theorem pm_psh_s {h h' : pm_H} {r st' : List Value} {v : Option Value} (q : pm_psh h r v = some (st', h')) : ∃ x, v = some x ∧ st' = x :: r ∧ h' = h := by
  unfold pm_psh at q; split at q
  · cases q; exact ⟨_, rfl, rfl, rfl⟩
  · cases q
theorem pm_wrs_s {h h' : pm_H} {a : Nat} {r st' : List Value} {e : Option pm_E} (q : pm_wrs h a r e = some (st', h')) : ∃ x, e = some x ∧ st' = r ∧ h' = pm_wr h a x := by
  unfold pm_wrs at q; split at q
  · cases q; exact ⟨_, rfl, rfl, rfl⟩
  · cases q
theorem pm_wr_s (h : pm_H) (k : Nat) (x : pm_E) : pm_wr h (k + 1) x = h.set k x := pm_put_eq h x k
theorem pm_beq {a b : Nat} (h : Nat.beq a b = true) : a = b := Nat.eq_of_beq_eq_true h
/-- the heap is as long as our cells say -/
theorem pm_size {D : va_G} {cl : List vw_C} {g : pm_E → va_E} {base n0 cells : Nat} {h : pm_H} {H H0 : Heap} {A : Nat → Prop} {locs : List Loc} (hP : va_P D cl (pm_ws g base h) H) (hS : va_S A H0 H locs) (h0 : H0.size = base + n0) (hc : cells + n0 = h.length) (hX : H.size ≤ H0.size + cells) : H.size = base + h.length := by
  have h1 := hS.1
  by_cases e : h.length = 0
  · omega
  · have hlt : h.length - 1 < h.length := by omega
    have hk : (pm_ws g base h)[h.length - 1]? = some (base + (h.length - 1), g h[h.length - 1]) := by rw [pm_ws_get, List.getElem?_eq_getElem hlt]; rfl
    have := (hP _ _ hk).lt
    have h2 : base + (h.length - 1) < H.size := this
    omega
section PM2
variable {p : Program} {l : Launch} {e : Env} {R : Room} {s : State} {m : MethodId} {args : Array Value} {below : List Frame} {meth : Method} {c : Code} {H : Heap} {locs : List Loc} {cells slots : Nat} {Q : State → Prop}
theorem pm_bound {g : JFrame} (k : H.size ≤ s.heap.size + cells → W p l e R s m args below meth c H locs cells slots Q g) : W p l e R s m args below meth c H locs cells slots Q g := fun T hT X => k (by rw [← hT]; exact X.heapSize) T hT X
variable {cc : ByteArray} {pc : Nat} {ls : Array Slot} {b base : Nat} {D : va_G} {cl : List vw_C} {cA : Nat → ClassId} {RD own : String} {TB : List Cond} {cs : Nat → List Value} {h : pm_H} {r : List Value}
theorem pm_gf_s {r1 r2 : Nat} {o : Option pm_E} {v : Value} (q : pm_gf r1 r2 o = some v) : ∃ fs, o = some (.inr (r1, fs)) ∧ fs[r2]? = some v := by
  unfold pm_gf at q; split at q
  · split at q
    · rename_i e1; cases pm_beq e1; rw [pm_nth_eq] at q; exact ⟨_, rfl, q⟩
    · cases q
  · cases q
/-- getfield -/
theorem pm_getfield {r1 r2 x a : Nat} {v : Value} (hx : p.tables.exec = Jvm.exec) (hb : c.code = cc) (hts : ∀ w ∈ TB, w.before args s = true) (hcl : pm_clOk cl TB cs) (hown : s.vm.findClass own = some m.cls) (hK : va_K D cl (pm_tys RD cA) s) (hP : va_P D cl (pm_ws (pm_tr cA b base) base h) H)
    (hok : pm_okm cl TB RD own meth.name (.getfield x) r1 r2 0) (hdg : decode cc pc = .ok (.getfield x, 3)) (q : pm_gf r1 r2 (pm_cell h a) = some v)
    (kk : W p l e R s m args below meth c H locs cells slots Q (F0 m (pc + 3) ls (pm_sh b base v :: r))) : W p l e R s m args below meth c H locs cells slots Q (F0 m pc ls (.ref (pm_ad b base a) :: r)) := by
  obtain ⟨fs, q1, q2⟩ := pm_gf_s q
  obtain ⟨k, rfl, q3⟩ := pm_cell_s q1
  obtain ⟨C, T, N, o1, o2, o3⟩ := hok
  exact va_get hx hb hts (hcl _ _ _ _ o1).1 hown hK hP k (pm_at (D := D) (cl := cl) (H := H) q3) o1 r2 o2 (hts _ o3) (fun _ z => z) (by rw [List.getElem?_map, q2]; rfl) hdg kk
theorem pm_pf_s {r1 r2 : Nat} {ty : Int} {v : Value} {o : Option pm_E} {y : pm_E} (q : pm_pf r1 r2 ty v o = some y) : ∃ fs, o = some (.inr (r1, fs)) ∧ pm_fit ty v = true ∧ r2 < fs.length ∧ y = .inr (r1, fs.set r2 v) := by
  unfold pm_pf at q; split at q
  · split at q
    · rename_i e1 e2 e3; cases pm_beq e1; cases q; exact ⟨_, rfl, e2, Nat.le_of_ble_eq_true e3, by rw [pm_put_eq]⟩
    · cases q
  · cases q
/-- putfield -/
theorem pm_putfield {r1 r2 x a : Nat} {cst : Int} {v : Value} {y : pm_E} (hx : p.tables.exec = Jvm.exec) (hb : c.code = cc) (hts : ∀ w ∈ TB, w.before args s = true) (hcl : pm_clOk cl TB cs) (hown : s.vm.findClass own = some m.cls) (hK : va_K D cl (pm_tys RD cA) s) (hP : va_P D cl (pm_ws (pm_tr cA b base) base h) H) (hS : va_S (fun q => base ≤ q) s.heap H locs)
    (hok : pm_okm cl TB RD own meth.name (.putfield x) r1 r2 cst) (hdg : decode cc pc = .ok (.putfield x, 3)) (q : pm_pf r1 r2 cst v (pm_cell h a) = some y)
    (kk : ∀ (H1 : Heap) (locs1 : List Loc), va_P D cl (pm_ws (pm_tr cA b base) base (pm_wr h a y)) H1 → va_S (fun q => base ≤ q) s.heap H1 locs1 → W p l e R s m args below meth c H1 locs1 cells slots Q (F0 m (pc + 3) ls r)) : W p l e R s m args below meth c H locs cells slots Q (F0 m pc ls (pm_sh b base v :: .ref (pm_ad b base a) :: r)) := by
  obtain ⟨fs, q1, q2, q4, rfl⟩ := pm_pf_s q
  obtain ⟨k, rfl, q3⟩ := pm_cell_s q1
  obtain ⟨C, T, N, ty, o1, o2, o3, o4, rfl, o6⟩ := hok
  obtain ⟨c1, c2, ⟨ty0, c3, -⟩, -⟩ := hcl _ _ _ _ o1
  obtain ⟨f1, f2⟩ := pm_fit_ok (b := b) (base := base) q2
  have hD := pm_ws_D (pm_tr cA b base) base h
  have hk : ∀ (H1 : Heap) (locs1 : List Loc), va_P D cl ((pm_ws (pm_tr cA b base) base h).set k (base + k, .inr (r1, (fs.map (pm_sh b base)).set r2 (pm_sh b base v)))) H1 → va_D (fun q => base ≤ q) ((pm_ws (pm_tr cA b base) base h).set k (base + k, .inr (r1, (fs.map (pm_sh b base)).set r2 (pm_sh b base v)))) → va_S (fun q => base ≤ q) s.heap H1 locs1 → W p l e R s m args below meth c H1 locs1 cells slots Q (F0 m (pc + 3) ls r) := by
    intro H1 locs1 hP1 _ hS1
    refine kk H1 locs1 ?_ hS1
    rw [pm_wr_s, ← pm_ws_set]
    have e9 : pm_tr cA b base (.inr (r1, fs.set r2 v)) = .inr (r1, (fs.map (pm_sh b base)).set r2 (pm_sh b base v)) := by
      show Sum.inr (r1, (fs.set r2 v).map (pm_sh b base)) = _
      rw [List.map_set]
    rw [e9]
    exact hP1
  cases hfin : (T r2).2.2.2 with
  | false => exact va_put hx hb hts c1 ty0 c3 c2 hown hK hP hD hS k (pm_at (D := D) (cl := cl) (H := H) q3) o1 r2 o2 (hts _ o3) (fun _ z => z) hfin o4 f1 f2 (by rw [List.length_map]; exact q4) hdg hk
  | true => exact va_putF hx hb hts c1 ty0 c3 c2 hown hK hP hD hS k (pm_at (D := D) (cl := cl) (H := H) q3) o1 r2 o2 (hts _ o3) (fun _ z => z) hfin (o6 hfin).1 (o6 hfin).2 o4 f1 f2 (by rw [List.length_map]; exact q4) hdg hk
/-- array loads -/
theorem pm_iaload {a : Nat} {i : Int32} {v : Value} (hx : p.tables.exec = Jvm.exec) (hb : c.code = cc) (hK : va_K D cl (pm_tys RD cA) s) (hP : va_P D cl (pm_ws (pm_tr cA b base) base h) H) (hdg : decode cc pc = .ok (.iaload, 1)) (q : pm_rdi i (pm_cell h a) = some v)
    (kk : W p l e R s m args below meth c H locs cells slots Q (F0 m (pc + 1) ls (pm_sh b base v :: r))) : W p l e R s m args below meth c H locs cells slots Q (F0 m pc ls (.int i :: .ref (pm_ad b base a) :: r)) := by
  unfold pm_rdi at q
  split at q
  · rename_i e1
    split at q
    · rename_i e2
      split at q
      · rename_i e3
        cases q
        cases pm_beq e2
        obtain ⟨hin, rfl⟩ := pm_ix_s e3
        obtain ⟨k, rfl, q3⟩ := pm_cell_s e1
        exact va_iald hx hb hK hP k 0 (pm_at (D := D) (cl := cl) (H := H) q3) rfl hin hdg kk
      · cases q
    · cases q
  · cases q
theorem pm_laload {a : Nat} {i : Int32} {v : Value} (hx : p.tables.exec = Jvm.exec) (hb : c.code = cc) (hK : va_K D cl (pm_tys RD cA) s) (hP : va_P D cl (pm_ws (pm_tr cA b base) base h) H) (hdg : decode cc pc = .ok (.laload, 1)) (q : pm_rdl i (pm_cell h a) = some v)
    (kk : W p l e R s m args below meth c H locs cells slots Q (F0 m (pc + 1) ls (pm_sh b base v :: r))) : W p l e R s m args below meth c H locs cells slots Q (F0 m pc ls (.int i :: .ref (pm_ad b base a) :: r)) := by
  unfold pm_rdl at q
  split at q
  · rename_i e1
    split at q
    · rename_i e2
      split at q
      · rename_i e3
        cases q
        cases pm_beq e2
        obtain ⟨hin, rfl⟩ := pm_ix_s e3
        obtain ⟨k, rfl, q3⟩ := pm_cell_s e1
        exact va_lald hx hb hK hP k 1 (pm_at (D := D) (cl := cl) (H := H) q3) rfl hin hdg kk
      · cases q
    · cases q
  · cases q
theorem pm_baload {a : Nat} {i : Int32} {v : Value} (hx : p.tables.exec = Jvm.exec) (hb : c.code = cc) (hK : va_K D cl (pm_tys RD cA) s) (hP : va_P D cl (pm_ws (pm_tr cA b base) base h) H) (hdg : decode cc pc = .ok (.baload, 1)) (q : pm_rdb i (pm_cell h a) = some v)
    (kk : W p l e R s m args below meth c H locs cells slots Q (F0 m (pc + 1) ls (pm_sh b base v :: r))) : W p l e R s m args below meth c H locs cells slots Q (F0 m pc ls (.int i :: .ref (pm_ad b base a) :: r)) := by
  unfold pm_rdb at q
  split at q
  · rename_i kd n f e1
    split at q
    · cases q
    · rename_i e2
      split at q
      · rename_i e3
        cases q
        obtain ⟨hin, rfl⟩ := pm_ix_s e3
        obtain ⟨k, rfl, q3⟩ := pm_cell_s e1
        cases e4 : Nat.beq kd 2 with
        | true =>
          cases pm_beq e4
          exact va_bald hx hb hK hP k 2 (pm_at (D := D) (cl := cl) (H := H) q3) rfl hin hdg kk
        | false =>
          cases e5 : Nat.beq kd 3 with
          | true =>
            cases pm_beq e5
            exact va_zald hx hb hK hP k 3 (pm_at (D := D) (cl := cl) (H := H) q3) rfl hin hdg kk
          | false => exact (e2 e4 e5).elim
      · cases q
  · cases q
theorem pm_rf (o : Option Nat) : pm_sh b base (va_rf o) = va_rf (o.map (pm_ad b base)) := by cases o <;> rfl
theorem pm_aaload {a : Nat} {i : Int32} {v : Value} (hx : p.tables.exec = Jvm.exec) (hb : c.code = cc) (hK : va_K D cl (pm_tys RD cA) s) (hP : va_P D cl (pm_ws (pm_tr cA b base) base h) H) (hdg : decode cc pc = .ok (.aaload, 1)) (q : pm_rda i (pm_cell h a) = some v)
    (kk : W p l e R s m args below meth c H locs cells slots Q (F0 m (pc + 1) ls (pm_sh b base v :: r))) : W p l e R s m args below meth c H locs cells slots Q (F0 m pc ls (.int i :: .ref (pm_ad b base a) :: r)) := by
  unfold pm_rda at q
  split at q
  · rename_i kd n f e1
    split at q
    · cases q
    · rename_i e2
      split at q
      · rename_i e3
        cases q
        obtain ⟨hin, rfl⟩ := pm_ix_s e3
        obtain ⟨k, rfl, q3⟩ := pm_cell_s e1
        rw [pm_rf] at kk
        have hlt : i.toNatClampNeg < n := Nat.not_le.mp fun z => hin (Or.inr z)
        have key : ∀ (t0 : Nat) (ty : FieldType), (pm_tys RD cA)[t0]? = some (cA kd, ty) → ty.isReference = true → W p l e R s m args below meth c H locs cells slots Q (F0 m pc ls (.int i :: .ref (base + k) :: r)) := fun t0 ty ht hr =>
          W.aald (v := va_rf ((f i.toNatClampNeg).map (pm_ad b base))) (ty := ty) hx hb (hP k _ (pm_at (D := D) (cl := cl) (H := H) q3)) ((hK.2 t0 _ ht).1 n (fun j => va_rf ((f j).map (pm_ad b base)))) hr (fun z => by cases z) (by show ¬ (i < 0 ∨ (arrV _ _ _).slots.size ≤ _); rw [arrV_size]; exact hin) (by show (arrV _ _ _).slots[_]? = _; rw [arrV_read _ _ hlt]) rfl rfl hdg kk
        cases e4 : Nat.beq kd 4 with
        | true => cases pm_beq e4; exact key 4 _ rfl rfl
        | false =>
          cases e5 : Nat.beq kd 5 with
          | true => cases pm_beq e5; exact key 5 _ rfl rfl
          | false =>
            cases e6 : Nat.beq kd 6 with
            | true => cases pm_beq e6; exact key 6 _ rfl rfl
            | false => exact (e2 e4 e5 e6).elim
      · cases q
  · cases q
end PM2
end
section
/-! array stores, lengths, the script, new cells -/
section PM3
variable {p : Program} {l : Launch} {e : Env} {R : Room} {s : State} {m : MethodId} {args : Array Value} {below : List Frame} {meth : Method} {c : Code} {H : Heap} {locs : List Loc} {cells slots : Nat} {Q : State → Prop}
variable {cc : ByteArray} {pc : Nat} {ls : Array Slot} {b base : Nat} {D : va_G} {cl : List vw_C} {cA : Nat → ClassId} {RD own : String} {TB : List Cond} {cs : Nat → List Value} {h : pm_H} {r : List Value}
theorem pm_iastore {a : Nat} {i x : Int32} {y : pm_E} (hx : p.tables.exec = Jvm.exec) (hb : c.code = cc) (hK : va_K D cl (pm_tys RD cA) s) (hP : va_P D cl (pm_ws (pm_tr cA b base) base h) H) (hS : va_S (fun q => base ≤ q) s.heap H locs) (hdg : decode cc pc = .ok (.iastore, 1)) (q : pm_wri i x (pm_cell h a) = some y)
    (kk : ∀ (H1 : Heap) (locs1 : List Loc), va_P D cl (pm_ws (pm_tr cA b base) base (pm_wr h a y)) H1 → va_S (fun q => base ≤ q) s.heap H1 locs1 → W p l e R s m args below meth c H1 locs1 cells slots Q (F0 m (pc + 1) ls r)) : W p l e R s m args below meth c H locs cells slots Q (F0 m pc ls (.int x :: .int i :: .ref (pm_ad b base a) :: r)) := by
  unfold pm_wri at q
  split at q
  · rename_i e1
    split at q
    · rename_i e2
      split at q
      · rename_i e3
        cases q
        cases pm_beq e2
        obtain ⟨hin, rfl⟩ := pm_ix_s e3
        obtain ⟨k, rfl, q3⟩ := pm_cell_s e1
        refine va_iast hx hb hK hP (pm_ws_D _ base h) hS k 0 (pm_at (D := D) (cl := cl) (H := H) q3) rfl hin hdg (fun H1 locs1 hP1 _ hS1 => kk H1 locs1 ?_ hS1)
        rw [pm_wr_s, ← pm_ws_set]
        exact hP1
      · cases q
    · cases q
  · cases q
theorem pm_lastore {a : Nat} {i : Int32} {x : Int64} {y : pm_E} (hx : p.tables.exec = Jvm.exec) (hb : c.code = cc) (hK : va_K D cl (pm_tys RD cA) s) (hP : va_P D cl (pm_ws (pm_tr cA b base) base h) H) (hS : va_S (fun q => base ≤ q) s.heap H locs) (hdg : decode cc pc = .ok (.lastore, 1)) (q : pm_wrl i x (pm_cell h a) = some y)
    (kk : ∀ (H1 : Heap) (locs1 : List Loc), va_P D cl (pm_ws (pm_tr cA b base) base (pm_wr h a y)) H1 → va_S (fun q => base ≤ q) s.heap H1 locs1 → W p l e R s m args below meth c H1 locs1 cells slots Q (F0 m (pc + 1) ls r)) : W p l e R s m args below meth c H locs cells slots Q (F0 m pc ls (.long x :: .int i :: .ref (pm_ad b base a) :: r)) := by
  unfold pm_wrl at q
  split at q
  · rename_i e1
    split at q
    · rename_i e2
      split at q
      · rename_i e3
        cases q
        cases pm_beq e2
        obtain ⟨hin, rfl⟩ := pm_ix_s e3
        obtain ⟨k, rfl, q3⟩ := pm_cell_s e1
        refine va_last hx hb hK hP (pm_ws_D _ base h) hS k 1 (pm_at (D := D) (cl := cl) (H := H) q3) rfl hin hdg (fun H1 locs1 hP1 _ hS1 => kk H1 locs1 ?_ hS1)
        rw [pm_wr_s, ← pm_ws_set]
        exact hP1
      · cases q
    · cases q
  · cases q
theorem pm_bastore {a : Nat} {i x : Int32} {y : pm_E} (hx : p.tables.exec = Jvm.exec) (hb : c.code = cc) (hK : va_K D cl (pm_tys RD cA) s) (hP : va_P D cl (pm_ws (pm_tr cA b base) base h) H) (hS : va_S (fun q => base ≤ q) s.heap H locs) (hdg : decode cc pc = .ok (.bastore, 1)) (q : pm_wrb i x (pm_cell h a) = some y)
    (kk : ∀ (H1 : Heap) (locs1 : List Loc), va_P D cl (pm_ws (pm_tr cA b base) base (pm_wr h a y)) H1 → va_S (fun q => base ≤ q) s.heap H1 locs1 → W p l e R s m args below meth c H1 locs1 cells slots Q (F0 m (pc + 1) ls r)) : W p l e R s m args below meth c H locs cells slots Q (F0 m pc ls (.int x :: .int i :: .ref (pm_ad b base a) :: r)) := by
  unfold pm_wrb at q
  split at q
  · rename_i e1
    split at q
    · rename_i e2
      split at q
      · rename_i e3
        cases q
        cases pm_beq e2
        obtain ⟨hin, rfl⟩ := pm_ix_s e3
        obtain ⟨k, rfl, q3⟩ := pm_cell_s e1
        refine va_bast hx hb hK hP (pm_ws_D _ base h) hS k 2 (pm_at (D := D) (cl := cl) (H := H) q3) rfl hin hdg (fun H1 locs1 hP1 _ hS1 => kk H1 locs1 ?_ hS1)
        rw [pm_wr_s, ← pm_ws_set]
        exact hP1
      · cases q
    · rename_i e2 _
      split at q
      · rename_i e3
        cases q
        cases pm_beq e2
        obtain ⟨hin, rfl⟩ := pm_ix_s e3
        obtain ⟨k, rfl, q3⟩ := pm_cell_s e1
        refine va_zast hx hb hK hP (pm_ws_D _ base h) hS k 3 (pm_at (D := D) (cl := cl) (H := H) q3) rfl hin hdg (fun H1 locs1 hP1 _ hS1 => kk H1 locs1 ?_ hS1)
        rw [pm_wr_s, ← pm_ws_set]
        exact hP1
      · cases q
    · cases q
  · cases q
theorem pm_aastore {a x ci : Nat} {i : Int32} {y : pm_E} {T : u_T} {N : Nat} (hx : p.tables.exec = Jvm.exec) (hb : c.code = cc) (hK : va_K D cl (pm_tys RD cA) s) (hP : va_P D cl (pm_ws (pm_tr cA b base) base h) H) (hS : va_S (fun q => base ≤ q) s.heap H locs) (hci : cl[ci]? = some (RD, T, N)) (hdg : decode cc pc = .ok (.aastore, 1)) (q : pm_wra ci i x (pm_cell h x) (pm_cell h a) = some y)
    (kk : ∀ (H1 : Heap) (locs1 : List Loc), va_P D cl (pm_ws (pm_tr cA b base) base (pm_wr h a y)) H1 → va_S (fun q => base ≤ q) s.heap H1 locs1 → W p l e R s m args below meth c H1 locs1 cells slots Q (F0 m (pc + 1) ls r)) : W p l e R s m args below meth c H locs cells slots Q (F0 m pc ls (.ref (pm_ad b base x) :: .int i :: .ref (pm_ad b base a) :: r)) := by
  unfold pm_wra at q
  split at q
  · rename_i k9 n f c9 fs e1 e0
    split at q
    · rename_i e2 e4
      split at q
      · rename_i e3
        cases q
        cases pm_beq e2
        cases pm_beq e4
        obtain ⟨hin, rfl⟩ := pm_ix_s e3
        obtain ⟨k, rfl, q3⟩ := pm_cell_s e1
        obtain ⟨kx, rfl, q4⟩ := pm_cell_s e0
        refine va_astq (r := (RD, T, N)) hx hb hK hP (pm_ws_D _ base h) hS k 6 kx ci (pm_at (D := D) (cl := cl) (H := H) q3) rfl (pm_at (D := D) (cl := cl) (H := H) q4) hci hin hdg (fun H1 locs1 hP1 _ hS1 => kk H1 locs1 ?_ hS1)
        rw [pm_wr_s, ← pm_ws_set]
        have e9 : pm_tr cA b base (.inl (6, n, .inr (.inr (.inr (.inr (va_up f i.toNatClampNeg (some (kx + 1)))))))) = .inl (cA 6, n, .inr (.inr (.inr (.inr (va_up (fun j => (f j).map (pm_ad b base)) i.toNatClampNeg (some (base + kx))))))) := by
          show Sum.inl (cA 6, n, Sum.inr (Sum.inr (Sum.inr (Sum.inr (fun j => (va_up f i.toNatClampNeg (some (kx + 1)) j).map (pm_ad b base)))))) = _
          congr 7
          funext j
          unfold va_up
          split <;> rfl
        rw [e9]
        exact hP1
      · cases q
    · cases q
  · cases q
theorem pm_arraylength {a : Nat} {v : Value} (hx : p.tables.exec = Jvm.exec) (hb : c.code = cc) (hK : va_K D cl (pm_tys RD cA) s) (hP : va_P D cl (pm_ws (pm_tr cA b base) base h) H) (hdg : decode cc pc = .ok (.arraylength, 1)) (q : pm_len (pm_cell h a) = some v)
    (kk : W p l e R s m args below meth c H locs cells slots Q (F0 m (pc + 1) ls (pm_sh b base v :: r))) : W p l e R s m args below meth c H locs cells slots Q (F0 m pc ls (.ref (pm_ad b base a) :: r)) := by
  unfold pm_len at q
  split at q
  · rename_i kd n f e1
    split at q
    · rename_i e2
      cases q
      obtain ⟨k, rfl, q3⟩ := pm_cell_s e1
      have hle := Nat.le_of_ble_eq_true e2
      have key : ∀ ty : FieldType, (pm_tys RD cA)[kd]? = some (cA kd, ty) → W p l e R s m args below meth c H locs cells slots Q (F0 m pc ls (.ref (base + k) :: r)) := by
        intro ty ht
        obtain f | f | f | f | f := f
        · exact va_alen (x := (n, .inl f)) hx hb hK hP k kd (pm_at (D := D) (cl := cl) (H := H) q3) ht rfl hdg kk
        · exact va_alen (x := (n, .inr (.inl f))) hx hb hK hP k kd (pm_at (D := D) (cl := cl) (H := H) q3) ht rfl hdg kk
        · exact va_alen (x := (n, .inr (.inr (.inl f)))) hx hb hK hP k kd (pm_at (D := D) (cl := cl) (H := H) q3) ht rfl hdg kk
        · exact va_alen (x := (n, .inr (.inr (.inr (.inl f))))) hx hb hK hP k kd (pm_at (D := D) (cl := cl) (H := H) q3) ht rfl hdg kk
        · exact va_alen (x := (n, .inr (.inr (.inr (.inr (fun j => (f j).map (pm_ad b base))))))) hx hb hK hP k kd (pm_at (D := D) (cl := cl) (H := H) q3) ht rfl hdg kk
      rcases (show kd = 0 ∨ kd = 1 ∨ kd = 2 ∨ kd = 3 ∨ kd = 4 ∨ kd = 5 ∨ kd = 6 by omega) with rfl | rfl | rfl | rfl | rfl | rfl | rfl <;> exact key _ rfl
    · cases q
  · cases q
/-- a new cell at the end of the heap -/
theorem pm_grow {H1 : Heap} {x : pm_E} (hP : va_P D cl (pm_ws (pm_tr cA b base) base h) H) (hS : va_S (fun q => base ≤ q) s.heap H locs) (hz : H.size = base + h.length) (z1 : H1.size = H.size + 1) (o1 : ∀ q : Nat, q < H.size → H1[q]? = H[q]?) (hat : va_at D cl (base + h.length, pm_tr cA b base x) H1) :
    va_P D cl (pm_ws (pm_tr cA b base) base (h ++ [x])) H1 ∧ va_S (fun q => base ≤ q) s.heap H1 locs := by
  refine ⟨?_, Nat.le_trans hS.1 (by omega), fun q h1 h2 => (o1 q (Nat.lt_of_lt_of_le h1 hS.1)).trans (hS.2.1 q h1 h2), hS.2.2⟩
  rw [pm_ws_app]
  refine (hP.kept (fun k q hk => o1 q.1 ((hP k q hk).lt))).app (fun k q hk => ?_)
  have hk0 : k < 1 := (List.getElem?_eq_some_iff.mp hk).1
  rw [show k = 0 by omega] at hk
  cases hk
  exact hat
theorem pm_sz_s {n : Int32} {N : Nat} (q : pm_sz n = some N) : ¬ n < 0 ∧ n.toNatClampNeg = N ∧ N ≤ 67108864 := by
  unfold pm_sz at q; split at q
  · cases q
  · rename_i h0
    split at q
    · rename_i h1; cases q; exact ⟨h0, rfl, Nat.le_of_ble_eq_true h1⟩
    · cases q
theorem pm_nwa_s {h h' : pm_H} {r st' : List Value} {n : Int32} {f : Nat → pm_E} (q : pm_nwa h r n f = some (st', h')) : ∃ N, ¬ n < 0 ∧ n.toNatClampNeg = N ∧ N ≤ 67108864 ∧ st' = .ref (h.length + 1) :: r ∧ h' = h ++ [f N] := by
  unfold pm_nwa at q; split at q
  · rename_i e1
    obtain ⟨a1, a2, a3⟩ := pm_sz_s e1
    cases q
    exact ⟨_, a1, a2, a3, rfl, rfl⟩
  · cases q
theorem pm_newarray {aty : ArrayType} {ty : FieldType} {kd n0 : Nat} {n : Int32} {N : Nat} {x : pm_E} (hx : p.tables.exec = Jvm.exec) (hb : c.code = cc) (harr : (Jvm.Cond.arrayClass (newarray.typeOf aty)).before args s = true) (hty : newarray.typeOf aty = ty) (hprim : ∀ C, ty ≠ .object C) (hK : va_K D cl (pm_tys RD cA) s) (hP : va_P D cl (pm_ws (pm_tr cA b base) base h) H) (hS : va_S (fun q => base ≤ q) s.heap H locs) (h0 : s.heap.size = base + n0) (hc : cells + n0 = h.length)
    (hkd : (pm_tys RD cA)[kd]? = some (cA kd, ty)) (hcell : ∃ a0, pm_tr cA b base x = .inl (cA kd, a0) ∧ vp_cell (cA kd) a0 = arrV (cA kd) N (fun _ => defaultValue ty)) (hcb : componentBytes ty ≤ 8) (hn : ¬ n < 0) (hN : n.toNatClampNeg = N) (hN2 : N ≤ 67108864) (hcells : cells + 1 ≤ R.cells) (hslots : slots + N ≤ R.slots) (hdg : decode cc pc = .ok (.newarray aty, 2))
    (kk : ∀ H1 : Heap, va_P D cl (pm_ws (pm_tr cA b base) base (h ++ [x])) H1 → va_S (fun q => base ≤ q) s.heap H1 locs → W p l e R s m args below meth c H1 locs (cells + 1) (slots + N) Q (F0 m (pc + 2) ls (.ref (base + h.length) :: r))) : W p l e R s m args below meth c H locs cells slots Q (F0 m pc ls (.int n :: r)) := by
  refine pm_bound fun hbd => ?_
  have hz := pm_size hP hS h0 hc hbd
  subst hty
  refine va_newaK hx hb harr rfl hdg rfl hn hN (Nat.le_trans (Nat.mul_le_mul hN2 hcb) (Nat.le_refl _)) hcells hslots hz fun H1 cA1 e1 z1 o1 hAr hNm => ?_
  have hra := (hK.2 kd _ hkd).2
  have ec : cA1 = cA kd := by
    have h9 : s.vm.findClass ("[" ++ (newarray.typeOf aty).toString) = some (cA kd) := by
      cases aty <;> exact hra
    exact Option.some.inj (hNm.symm.trans h9)
  subst ec
  obtain ⟨a0, t1, t2⟩ := hcell
  obtain ⟨g1, g2⟩ := pm_grow (x := x) hP hS hz (by rw [z1, hz]) (fun q hq => o1 q (by rw [← hz]; exact hq)) (by
    rw [t1]
    show H1[base + h.length]? = some (vp_cell _ _)
    rw [t2]; exact e1)
  exact kk H1 g1 g2
theorem pm_anewarray {n0 x : Nat} {n : Int32} {N : Nat} (hx : p.tables.exec = Jvm.exec) (hb : c.code = cc) (hown : s.vm.findClass own = some m.cls) (hlink : (Jvm.Cond.classLink own x RD).before args s = true) (hover : (Jvm.Cond.arrayOver (.object RD)).before args s = true) (hK : va_K D cl (pm_tys RD cA) s) (hP : va_P D cl (pm_ws (pm_tr cA b base) base h) H) (hS : va_S (fun q => base ≤ q) s.heap H locs) (h0 : s.heap.size = base + n0) (hc : cells + n0 = h.length)
    (hn : ¬ n < 0) (hN : n.toNatClampNeg = N) (hN2 : N ≤ 67108864) (hcells : cells + 1 ≤ R.cells) (hslots : slots + N ≤ R.slots) (hdg : decode cc pc = .ok (.anewarray x, 3))
    (kk : ∀ H1 : Heap, va_P D cl (pm_ws (pm_tr cA b base) base (h ++ [.inl (6, N, .inr (.inr (.inr (.inr (fun _ => none)))))])) H1 → va_S (fun q => base ≤ q) s.heap H1 locs → W p l e R s m args below meth c H1 locs (cells + 1) (slots + N) Q (F0 m (pc + 3) ls (.ref (base + h.length) :: r))) : W p l e R s m args below meth c H locs cells slots Q (F0 m pc ls (.int n :: r)) := by
  refine pm_bound fun hbd => ?_
  have hz := pm_size hP hS h0 hc hbd
  subst hN
  refine W.anew hx hb hown hlink hover rfl hdg rfl hn (by omega) hcells hslots fun cA1 kA comp f1 f2 f3 f4 => ?_
  generalize hH1 : H.push ({ cls := cA1, slots := Array.replicate n.toNatClampNeg .null, vm := .none } : Cell) = H1
  have z1 : H1.size = H.size + 1 := by rw [← hH1, Array.size_push]
  have e1 : H1[H.size]? = some (arrV cA1 n.toNatClampNeg (fun _ => .null)) := by rw [← hH1, Array.getElem?_push_size, ← arrV_new]
  have o1 : ∀ q : Nat, q < H.size → H1[q]? = H[q]? := fun q hq => by rw [← hH1, Array.getElem?_push, if_neg (Nat.ne_of_lt hq)]
  obtain ⟨kA', comp', g1, g2, g3, g4⟩ := (hK.2 6 _ rfl).2
  have ec : cA1 = cA 6 := Option.some.inj (f1.symm.trans g4)
  subst ec
  obtain ⟨u1, u2⟩ := pm_grow (x := .inl (6, n.toNatClampNeg, .inr (.inr (.inr (.inr (fun _ => none)))))) hP hS hz z1 o1 (by
    show H1[base + h.length]? = some (vp_cell _ _)
    rw [← hz, e1]
    rfl)
  rw [hz]
  exact kk H1 u1 u2
theorem pm_newobj {n0 x ci : Nat} {C : String} {T : u_T} {N : Nat} (hx : p.tables.exec = Jvm.exec) (hb : c.code = cc) (hts : ∀ w ∈ TB, w.before args s = true) (hcl : pm_clOk cl TB cs) (hown : s.vm.findClass own = some m.cls) (hci : cl[ci]? = some (C, T, N)) (hlink : (Jvm.Cond.classLink own x C).before args s = true) (hinst : (Jvm.Cond.instantiable C N).before args s = true) (hini : (Jvm.Cond.initialized C).before args s = true)
    (hK : va_K D cl (pm_tys RD cA) s) (hP : va_P D cl (pm_ws (pm_tr cA b base) base h) H) (hS : va_S (fun q => base ≤ q) s.heap H locs) (h0 : s.heap.size = base + n0) (hc : cells + n0 = h.length) (hcells : cells + 1 ≤ R.cells) (hslots : slots + N ≤ R.slots) (hdg : decode cc pc = .ok (.new x, 3))
    (kk : ∀ H1 : Heap, va_P D cl (pm_ws (pm_tr cA b base) base (h ++ [.inr (ci, cs ci)])) H1 → va_S (fun q => base ≤ q) s.heap H1 locs → W p l e R s m args below meth c H1 locs (cells + 1) (slots + N) Q (F0 m (pc + 3) ls (.ref (base + h.length) :: r))) : W p l e R s m args below meth c H locs cells slots Q (F0 m pc ls r) := by
  refine pm_bound fun hbd => ?_
  have hz := pm_size hP hS h0 hc hbd
  obtain ⟨c1, c2, ⟨ty0, c3, c4⟩, c5, c6⟩ := hcl _ _ _ _ hci
  have hKn := hK.1 ci _ hci
  refine W.newcK hx hb hown hlink hinst hini rfl hdg hcells hslots hKn.2.1 hz fun H1 kC hkC e1 z1 o1 => ?_
  have es : (cs ci).map (pm_sh b base) = cs ci := by
    conv => rhs; rw [← List.map_id (cs ci)]
    exact List.map_congr_left (fun v hv => c6 v hv b base)
  obtain ⟨u1, u2⟩ := pm_grow (x := .inr (ci, cs ci)) hP hS hz (by rw [z1, hz]) (fun q hq => o1 q (by rw [← hz]; exact hq)) (by
    show va_at D cl (base + h.length, .inr (ci, (cs ci).map (pm_sh b base))) H1
    rw [es]
    exact ⟨_, hci, (u_born ty0 hts c1 hKn hkC e1 c3).to c4⟩)
  exact kk H1 u1 u2
end PM3
end
section
/-! new T[n][k]: the outer array, then its rows, one behind another -/
def pg_out (cA : ClassId) (N h0 i : Nat) : Cell := arrV cA N (fun j => if j < i then .ref (h0 + 1 + j) else .null)
def pg_row (cI : ClassId) (K : Nat) (dv : Value) : Cell := { cls := cI, slots := Array.replicate K dv, vm := .none }
/-- with i rows laid -/
def pg_st (T : State) (cA cI : ClassId) (N K : Nat) (dv : Value) : Nat → State
  | 0 => T.pushCell (pg_out cA N T.heap.size 0)
  | i + 1 => ((pg_st T cA cI N K dv i).pushCell (pg_row cI K dv)).setCell T.heap.size (pg_out cA N T.heap.size (i + 1))
theorem pg_out_new (cA : ClassId) (N h0 : Nat) : ({ cls := cA, slots := Array.replicate N .null, vm := .none } : Cell) = pg_out cA N h0 0 := by
  rw [arrV_new]
  unfold pg_out
  congr 1
theorem pg_out_set (cA : ClassId) (N h0 i : Nat) : (pg_out cA N h0 i).setSlot i (.ref (h0 + 1 + i)) = pg_out cA N h0 (i + 1) := by
  unfold pg_out
  rw [arrV_store]
  congr 1
  funext j
  unfold updV
  by_cases e : j = i
  · subst e
    rw [if_pos rfl, if_pos (Nat.lt_succ_self j)]
  · rw [if_neg e]
    dsimp only
    by_cases h : j < i
    · rw [if_pos h, if_pos (by omega)]
    · rw [if_neg h, if_neg (by omega)]
theorem pg_row_size (cI : ClassId) (K : Nat) (dv : Value) : (pg_row cI K dv).slots.size = K := by simp [pg_row]
theorem pg_facts (T : State) (cA cI : ClassId) (N K : Nat) (dv : Value) : ∀ i, (pg_st T cA cI N K dv i).heap.size = T.heap.size + 1 + i ∧ (pg_st T cA cI N K dv i).heap[T.heap.size]? = some (pg_out cA N T.heap.size i) ∧ (pg_st T cA cI N K dv i).vm = T.vm ∧ (pg_st T cA cI N K dv i).slotsUsed = T.slotsUsed + N + i * K := by
  intro i
  induction i with
  | zero =>
    refine ⟨by simp [pg_st], by simp [pg_st], rfl, ?_⟩
    show T.slotsUsed + (pg_out cA N T.heap.size 0).slots.size = _
    rw [show (pg_out cA N T.heap.size 0).slots.size = N from arrV_size _ _ _]
    omega
  | succ i ih =>
    obtain ⟨a1, a2, a3, a4⟩ := ih
    have hlt : T.heap.size < (pg_st T cA cI N K dv i).heap.size := by omega
    have hc : ((pg_st T cA cI N K dv i).pushCell (pg_row cI K dv)).heap[T.heap.size]? = some (pg_out cA N T.heap.size i) := (State.heap_pushCell_of_lt _ _ hlt).trans a2
    refine ⟨?_, State.heap_setCell_self hc, a3, ?_⟩
    · show (((pg_st T cA cI N K dv i).heap.push _).setIfInBounds _ _).size = _
      rw [Array.size_setIfInBounds, Array.size_push, a1]
      omega
    · show (pg_st T cA cI N K dv i).slotsUsed + (pg_row cI K dv).slots.size = _
      rw [pg_row_size, a4, Nat.succ_mul]
      omega
theorem pg_old (T : State) (cA cI : ClassId) (N K : Nat) (dv : Value) {a : Nat} (ha : a < T.heap.size) : ∀ i, (pg_st T cA cI N K dv i).heap[a]? = T.heap[a]? := by
  intro i
  induction i with
  | zero => exact State.heap_pushCell_of_lt _ _ ha
  | succ i ih =>
    have h1 := (pg_facts T cA cI N K dv i).1
    refine (State.heap_setCell_other (s := (pg_st T cA cI N K dv i).pushCell (pg_row cI K dv)) (Nat.ne_of_gt ha)).trans ?_
    exact (State.heap_pushCell_of_lt (pg_st T cA cI N K dv i) _ (show a < (pg_st T cA cI N K dv i).heap.size by omega)).trans ih
theorem pg_rows (T : State) (cA cI : ClassId) (N K : Nat) (dv : Value) : ∀ i j, j < i → (pg_st T cA cI N K dv i).heap[T.heap.size + 1 + j]? = some (pg_row cI K dv) := by
  intro i
  induction i with
  | zero => intro j h; omega
  | succ i ih =>
    intro j h
    have h1 := (pg_facts T cA cI N K dv i).1
    refine (State.heap_setCell_other (s := (pg_st T cA cI N K dv i).pushCell (pg_row cI K dv)) (show T.heap.size ≠ T.heap.size + 1 + j by omega)).trans ?_
    by_cases e : j = i
    · subst e
      show ((pg_st T cA cI N K dv j).heap.push _)[_]? = _
      rw [← h1, Array.getElem?_push_size]
    · exact (State.heap_pushCell_of_lt (pg_st T cA cI N K dv i) _ (show T.heap.size + 1 + j < (pg_st T cA cI N K dv i).heap.size by omega)).trans (ih j (by omega))
theorem pg_top (T : State) (f : JFrame) (cA cI : ClassId) (N K : Nat) (dv : Value) : ∀ i, pg_st (T.setTop f) cA cI N K dv i = (pg_st T cA cI N K dv i).setTop f := by
  intro i
  induction i with
  | zero => rfl
  | succ i ih =>
    show ((pg_st (T.setTop f) cA cI N K dv i).pushCell _).setCell _ _ = _
    rw [ih]
    rfl
section PMG
variable {p : Program} {l : Launch} {e : Env} {R : Room} {s : State} {m : MethodId} {args : Array Value} {below : List Frame} {meth : Method} {c : Code} {T : State} {locs : List Loc} {cells slots : Nat}
theorem pg_stand (X : Stand p l e R s m args below meth c T locs cells slots) (cA cI : ClassId) (N K : Nat) (dv : Value) : ∀ i, ∃ L, (∀ q ∈ L, q.base = T.heap.size) ∧ Stand p l e R s m args below meth c (pg_st T cA cI N K dv i) (locs ++ L) (cells + 1 + i) (slots + N + i * K) := by
  intro i
  induction i with
  | zero =>
    have h := X.pushed (pg_out cA N T.heap.size 0)
    rw [show (pg_out cA N T.heap.size 0).slots.size = N from arrV_size _ _ _] at h
    exact ⟨[], fun q h => absurd h List.not_mem_nil, by simpa [pg_st] using h⟩
  | succ i ih =>
    obtain ⟨L, hL, Xi⟩ := ih
    obtain ⟨a1, a2, a3, a4⟩ := pg_facts T cA cI N K dv i
    have hlt : T.heap.size < (pg_st T cA cI N K dv i).heap.size := by omega
    have hc : ((pg_st T cA cI N K dv i).pushCell (pg_row cI K dv)).heap[T.heap.size]? = some (pg_out cA N T.heap.size i) := (State.heap_pushCell_of_lt _ _ hlt).trans a2
    have h := (Xi.pushed (pg_row cI K dv)).stored hc i (.ref (T.heap.size + 1 + i))
    rw [pg_row_size, pg_out_set, List.append_assoc] at h
    refine ⟨L ++ [⟨T.heap.size, i⟩], fun q hq => ?_, ?_⟩
    · rcases List.mem_append.mp hq with h1 | h1
      · exact hL q h1
      · rw [List.mem_singleton.mp h1]
    · rw [show slots + N + (i + 1) * K = slots + N + i * K + K by rw [Nat.succ_mul]; omega]
      exact h
/-- the rows' own making -/
theorem pg_make {E : CtlPost} {d : Bool} {acts : List Action} {S : State} {cA cI cc : ClassId} {kA kI : Class} {t0 ty : FieldType} {n k : Int32} (hkA : S.vm.classes[cA]? = some kA) (hA : kA.kind = .array cI t0) (hr : t0.isReference = true) (hkI : S.vm.classes[cI]? = some kI) (hI : kI.kind = .array cc ty) (hn : ¬ n < 0) (hk : ¬ k < 0)
    (l1 : ¬ n.toNatClampNeg > e.platform.arrayLengthLimit) (b1 : ¬ n.toNatClampNeg * componentBytes t0 > e.platform.maxHeapBytes) (l2 : ¬ k.toNatClampNeg > e.platform.arrayLengthLimit) (b2 : ¬ k.toNatClampNeg * componentBytes ty > e.platform.maxHeapBytes) (hdf : fits ty (defaultValue ty) = true)
    (hc : S.heap.size + 1 + n.toNatClampNeg ≤ e.platform.maxCells) (hs : S.slotsUsed + n.toNatClampNeg + n.toNatClampNeg * k.toNatClampNeg ≤ e.platform.maxSlots)
    {Q : Addr → Pre} (hq : ∀ d' acts', Q S.heap.size d' acts' (pg_st S cA cI n.toNatClampNeg k.toNatClampNeg (defaultValue ty) n.toNatClampNeg)) : wp (multianewarray.make cA [n, k]) Q E e d acts S := by
  have fr : ∀ v : Value, (v = .null ∨ ∃ a, v = .ref a) → fits t0 v = true := by
    intro v hv
    rcases hv with rfl | ⟨a, rfl⟩ <;> cases t0 <;> first | rfl | cases hr
  have hno : ([k].find? (· < 0)) = none := by simp [hk]
  rw [multianewarray.make]
  simp only [wp_bind', W.ite, hn, if_false, wp_pure', W.theClass, hkA, hA, Option.some.injEq, exists_eq_left']
  refine W.newArray_of hkA hA l1 b1 (by omega) (by have := Nat.zero_le (n.toNatClampNeg * k.toNatClampNeg); omega) (fr _ (Or.inl rfl)) fun acts1 => ?_
  simp only [hno]
  rw [ite_self, wp_bind', Std.Legacy.Range.forIn_eq_forIn_range']
  have hsz : ([:n.toNatClampNeg] : Std.Legacy.Range).size = n.toNatClampNeg := by simp [Std.Legacy.Range.size]
  rw [hsz]
  show wp (forIn (List.range' 0 n.toNatClampNeg 1) PUnit.unit _) _ E e d acts1 _
  refine wp_forIn_inv (fun rest s' => ∃ i, i ≤ n.toNatClampNeg ∧ rest = List.range' i (n.toNatClampNeg - i) ∧ s' = pg_st S cA cI n.toNatClampNeg k.toNatClampNeg (defaultValue ty) i) _ _ ⟨0, Nat.zero_le _, rfl, ?_⟩ ?_ ?_
  · show S.pushCell _ = S.pushCell _
    rw [← pg_out_new]
  · rintro x rest s' d' acts' Q' ⟨i, hi, hl, rfl⟩ hnext
    have hlt : i < n.toNatClampNeg := by
      by_cases h9 : i < n.toNatClampNeg
      · exact h9
      · rw [show n.toNatClampNeg - i = 0 by omega] at hl; cases hl
    rw [show n.toNatClampNeg - i = (n.toNatClampNeg - (i + 1)) + 1 by omega, List.range'_succ] at hl
    obtain ⟨rfl, hrest⟩ := List.cons.inj hl
    obtain ⟨a1, a2, a3, a4⟩ := pg_facts S cA cI n.toNatClampNeg k.toNatClampNeg (defaultValue ty) x
    have hm : x * k.toNatClampNeg + k.toNatClampNeg ≤ n.toNatClampNeg * k.toNatClampNeg := by
      have := Nat.mul_le_mul_right k.toNatClampNeg (show x + 1 ≤ n.toNatClampNeg from hlt)
      rw [Nat.succ_mul] at this
      exact this
    simp only [wp_bind']
    rw [multianewarray.make]
    simp only [wp_bind', W.ite, hk, if_false, wp_pure', W.theClass, a3, hkI, hI, Option.some.injEq, exists_eq_left']
    refine W.newArray_of (by rw [a3]; exact hkI) hI l2 b2 (by rw [a1]; omega) (by rw [a4]; omega) hdf fun acts2 => ?_
    have hl0 : S.heap.size < (pg_st S cA cI n.toNatClampNeg k.toNatClampNeg (defaultValue ty) x).heap.size := by rw [a1]; omega
    simp only [wp_bind', W.writeLoc, wp_pure']
    refine ⟨pg_out cA n.toNatClampNeg S.heap.size x, (State.heap_pushCell_of_lt _ _ hl0).trans a2, (fun z => by cases z), by rw [show (pg_out cA n.toNatClampNeg S.heap.size x).slots.size = n.toNatClampNeg from arrV_size _ _ _]; exact hlt, ?_, hnext _ _ _ ⟨x + 1, hlt, hrest, ?_⟩⟩
    · show State.fitsSlot _ cA .none x _ = true
      simp [State.fitsSlot, State.slotType?, a3, hkA, hA, fr _ (Or.inr ⟨_, rfl⟩)]
    · rw [a1, pg_out_set]
      rfl
  · rintro s' d' acts' ⟨i, hi, hl, rfl⟩
    have hiN : i = n.toNatClampNeg := by
      by_cases h9 : i < n.toNatClampNeg
      · rw [show n.toNatClampNeg - i = (n.toNatClampNeg - (i + 1)) + 1 by omega, List.range'_succ] at hl; cases hl
      · omega
    subst hiN
    simp only [wp_pure']
    exact hq _ _
variable {H : Heap} {Q : State → Prop} {cc : ByteArray} {pc : Nat} {ls : Array Slot} {rest : List Value}
/-- the instruction -/
theorem pg_mna {own : String} {index : Nat} {ty : FieldType} (hexec : p.tables.exec = Jvm.exec) (hb : c.code = cc) (hown : s.vm.findClass own = some m.cls) (hclink : (Jvm.Cond.classLink own index ("[" ++ (FieldType.array ty).toString)).before args s = true) (hover : (Jvm.Cond.arrayOver (.array ty)).before args s = true) (harr : (Jvm.Cond.arrayClass ty).before args s = true)
    (hdg : decode cc pc = .ok (.multianewarray index 2, 4)) {n k : Int32} (hn : ¬ n < 0) (hk : ¬ k < 0) (hb1 : n.toNatClampNeg * 4 ≤ 536870912) (hb2 : k.toNatClampNeg * componentBytes ty ≤ 536870912) (hb3 : k.toNatClampNeg ≤ 536870912) (hdf : fits ty (defaultValue ty) = true)
    (hcells : cells + (1 + n.toNatClampNeg) ≤ R.cells) (hslots : slots + (n.toNatClampNeg + n.toNatClampNeg * k.toNatClampNeg) ≤ R.slots)
    (kk : ∀ (H1 : Heap) (cA cI : ClassId), s.vm.findClass ("[" ++ (FieldType.array ty).toString) = some cA → s.vm.findClass (FieldType.array ty).toString = some cI → H1.size = H.size + 1 + n.toNatClampNeg → (∀ q : Nat, q < H.size → H1[q]? = H[q]?) → H1[H.size]? = some (pg_out cA n.toNatClampNeg H.size n.toNatClampNeg) → (∀ j, j < n.toNatClampNeg → H1[H.size + 1 + j]? = some (pg_row cI k.toNatClampNeg (defaultValue ty))) →
      W p l e R s m args below meth c H1 locs (cells + 1 + n.toNatClampNeg) (slots + n.toNatClampNeg + n.toNatClampNeg * k.toNatClampNeg) Q (F0 m (pc + 4) ls (.ref H.size :: rest))) : W p l e R s m args below meth c H locs cells slots Q (F0 m pc ls (.int k :: .int n :: rest)) := by
  intro T hT X
  subst hb
  have hpl : e.platform.magicAccessors = ({} : Platform).magicAccessors := by rw [X.admits.platform]
  obtain ⟨cI, cA, kA, hcI, -, hkA, hA, hnA⟩ := arrayOverA_spec hover
  obtain ⟨cI', kI, cc, hcI', hkI, hI⟩ := Cond.arrayClass_spec harr
  have ei : cI' = cI := Option.some.inj (hcI'.symm.trans hcI)
  subst ei
  obtain ⟨c0, hc0, hcl⟩ := Cond.classLink_spec hown hclink e.platform hpl
  cases hnA.symm.trans hc0
  obtain ⟨hg1, hw1, hr1⟩ := State.classEntry (e := e) X.warmed hcl
  generalize T.vm.noted m.cls index (.cls cA) = vm1 at hg1 hw1 hr1
  have hal : s.vm.Alike vm1 := hw1.alike
  obtain ⟨kA1, hkA1, eA⟩ := hal.2.2 _ _ hkA
  obtain ⟨kI1, hkI1, eI⟩ := hal.2.2 _ _ hkI
  have hA1 : kA1.kind = .array cI' (.array ty) := by rw [eA]; exact hA
  have hI1 : kI1.kind = .array cc ty := by rw [eI]; exact hI
  have X1 := X.noted hw1
  obtain ⟨hr2, hr3⟩ := X.roomAbove hcells hslots
  obtain ⟨L, hL, XF⟩ := pg_stand X1 cA cI' n.toNatClampNeg k.toNatClampNeg (defaultValue ty) n.toNatClampNeg
  obtain ⟨a1, a2, a3, a4⟩ := pg_facts (T.setVm vm1) cA cI' n.toNatClampNeg k.toNatClampNeg (defaultValue ty) n.toNatClampNeg
  have eh : (T.setVm vm1).heap = H := hT
  have hgr : s.heap.size ≤ T.heap.size := X.heapGrown
  have XG := Stand.forget (locs := locs) (extra := L) XF (fun q hq => by rw [hL q hq]; exact hgr)
  generalize hF : pg_st (T.setVm vm1) cA cI' n.toNatClampNeg k.toNatClampNeg (defaultValue ty) n.toNatClampNeg = F at XG a1 a2 a3 a4
  rw [eh] at a1 a2
  obtain ⟨t, k1, k2⟩ := kk F.heap cA cI' hnA hcI a1 (fun q hq => by
      have := pg_old (T.setVm vm1) cA cI' n.toNatClampNeg k.toNatClampNeg (defaultValue ty) (a := q) (by rw [eh]; exact hq) n.toNatClampNeg
      rw [hF, eh] at this
      exact this) a2 (fun j hj => by
      have := pg_rows (T.setVm vm1) cA cI' n.toNatClampNeg k.toNatClampNeg (defaultValue ty) n.toNatClampNeg j hj
      rw [hF, eh] at this
      exact this) F rfl XG
  refine ⟨t, ?_, k2⟩
  have l1 : ¬ n.toNatClampNeg > e.platform.arrayLengthLimit := by rw [Launch.admits_arrayLengthLimit X.admits]; omega
  have b1 : ¬ n.toNatClampNeg * componentBytes (.array ty) > e.platform.maxHeapBytes := by
    rw [Launch.admits_maxHeapBytes X.admits]; show ¬ n.toNatClampNeg * 4 > 536870912; omega
  have l2 : ¬ k.toNatClampNeg > e.platform.arrayLengthLimit := by rw [Launch.admits_arrayLengthLimit X.admits]; omega
  have b2 : ¬ k.toNatClampNeg * componentBytes ty > e.platform.maxHeapBytes := by rw [Launch.admits_maxHeapBytes X.admits]; omega
  jvm_step X.here [hexec, hdg]
  simp only [multianewarray.sem, wp_bind', W.resolveClassAt_links (State.method?_setTop (F0 m pc ls (.int k :: .int n :: rest)) X.here.top) hg1]
  rw [W.popN, if_neg (by decide)]
  refine ⟨F0 m pc ls (.int k :: .int n :: rest), State.topJava?_setTop' (s := T.setVm vm1) (F0 m pc ls (.int k :: .int n :: rest)) X.here.top, [.int n, .int k], rest, rfl, rfl, ?_⟩
  simp only [List.mapM_cons, List.mapM_nil, wp_bind', wp_pure']
  refine pg_make (kA := kA1) (kI := kI1) (cI := cI') (cc := cc) (t0 := .array ty) (ty := ty) hkA1 hA1 rfl hkI1 hI1 hn hk l1 b1 l2 b2 hdf (by show T.heap.size + 1 + _ ≤ _; omega) (by show T.slotsUsed + _ + _ ≤ _; omega) (fun d' acts' => ?_)
  have eS : ((T.setTop (F0 m pc ls (.int k :: .int n :: rest))).setVm vm1).setTop (F0 m pc ls rest) = (T.setVm vm1).setTop (F0 m pc ls rest) := by
    show ((T.setVm vm1).setTop _).setTop _ = _
    rw [State.setTop_setTop]
  rw [eS, pg_top, hF]
  simp only [wp_bind', W.mark, W.pushRef, State.topJava?_setTop' _ XG.here.top, Option.some.injEq, exists_eq_left', State.setTop_setTop, State.heap_setTop]
  intro acts
  simp [jvm, XG.here.top]
  rw [hT]
  exact k1
end PMG
end
section
/-! the group of instructions that work on cells -/
section PM4
variable {p : Program} {l : Launch} {e : Env} {R : Room} {s : State} {m : MethodId} {args : Array Value} {below : List Frame} {meth : Method} {c : Code} {H : Heap} {locs : List Loc} {cells slots : Nat} {Q : State → Prop}
variable {cc : ByteArray} {pc : Nat} {ls : Array Slot} {b base : Nat} {D : va_G} {cl : List vw_C} {cA : Nat → ClassId} {RD own : String} {TB : List Cond} {cs : Nat → List Value} {h : pm_H} {r : List Value}
theorem pm_growL {H1 : Heap} {t : pm_H} (hP : va_P D cl (pm_ws (pm_tr cA b base) base h) H) (hS : va_S (fun q => base ≤ q) s.heap H locs) (hz : H.size = base + h.length) (z1 : H.size ≤ H1.size) (o1 : ∀ q : Nat, q < H.size → H1[q]? = H[q]?) (hat : ∀ (k : Nat) (x : pm_E), t[k]? = some x → va_at D cl (base + h.length + k, pm_tr cA b base x) H1) :
    va_P D cl (pm_ws (pm_tr cA b base) base (h ++ t)) H1 ∧ va_S (fun q => base ≤ q) s.heap H1 locs := by
  refine ⟨?_, Nat.le_trans hS.1 z1, fun q h1 h2 => (o1 q (Nat.lt_of_lt_of_le h1 hS.1)).trans (hS.2.1 q h1 h2), hS.2.2⟩
  rw [pm_ws_app]
  refine (hP.kept (fun k q hk => o1 q.1 ((hP k q hk).lt))).app (fun k q hk => ?_)
  rw [pm_ws_get] at hk
  cases e1 : t[k]? with
  | none => rw [e1] at hk; cases hk
  | some x =>
    rw [e1] at hk
    cases hk
    exact hat k x e1
theorem pm_nwm_s {h h' : pm_H} {r st' : List Value} {r1 r2 : Nat} {n k : Int32} (q : pm_nwm h r r1 r2 n k = some (st', h')) : ∃ N K, (¬ n < 0 ∧ n.toNatClampNeg = N ∧ N ≤ 67108864) ∧ (¬ k < 0 ∧ k.toNatClampNeg = K ∧ K ≤ 67108864) ∧ st' = .ref (h.length + 1) :: r ∧ h' = h ++ (.inl (r1, N, .inr (.inr (.inr (.inr (fun i => if i < N then some (h.length + 2 + i) else none))))) :: List.replicate N (pm_zero r2 K)) := by
  unfold pm_nwm at q; split at q
  · rename_i e1 e2
    cases q
    exact ⟨_, _, pm_sz_s e1, pm_sz_s e2, rfl, rfl⟩
  · cases q
theorem pm_multi {r1 r2 n0 x N K : Nat} {n k : Int32} {ty : FieldType} (hx : p.tables.exec = Jvm.exec) (hb : c.code = cc) (hown : s.vm.findClass own = some m.cls) (hlink : (Jvm.Cond.classLink own x ("[" ++ (FieldType.array ty).toString)).before args s = true) (hover : (Jvm.Cond.arrayOver (.array ty)).before args s = true) (harr : (Jvm.Cond.arrayClass ty).before args s = true)
    (hK : va_K D cl (pm_tys RD cA) s) (hP : va_P D cl (pm_ws (pm_tr cA b base) base h) H) (hS : va_S (fun q => base ≤ q) s.heap H locs) (h0 : s.heap.size = base + n0) (hc : cells + n0 = h.length)
    (hk1 : s.vm.findClass ("[" ++ (FieldType.array ty).toString) = some (cA r1)) (hk2 : s.vm.findClass (FieldType.array ty).toString = some (cA r2)) (hrow : ∃ a0, pm_tr cA b base (pm_zero r2 K) = .inl (cA r2, a0) ∧ vp_cell (cA r2) a0 = arrV (cA r2) K (fun _ => defaultValue ty)) (hcb : componentBytes ty ≤ 8) (hdf : fits ty (defaultValue ty) = true)
    (hn : ¬ n < 0 ∧ n.toNatClampNeg = N ∧ N ≤ 67108864) (hk : ¬ k < 0 ∧ k.toNatClampNeg = K ∧ K ≤ 67108864) (hcells : cells + (1 + N) ≤ R.cells) (hslots : slots + (N + N * K) ≤ R.slots) (hdg : decode cc pc = .ok (.multianewarray x 2, 4))
    (kk : ∀ H1 : Heap, va_P D cl (pm_ws (pm_tr cA b base) base (h ++ (.inl (r1, N, .inr (.inr (.inr (.inr (fun i => if i < N then some (h.length + 2 + i) else none))))) :: List.replicate N (pm_zero r2 K)))) H1 → va_S (fun q => base ≤ q) s.heap H1 locs → W p l e R s m args below meth c H1 locs (cells + 1 + N) (slots + N + N * K) Q (F0 m (pc + 4) ls (.ref (base + h.length) :: r))) : W p l e R s m args below meth c H locs cells slots Q (F0 m pc ls (.int k :: .int n :: r)) := by
  refine pm_bound fun hbd => ?_
  have hz := pm_size hP hS h0 hc hbd
  obtain ⟨n1, rfl, n2⟩ := hn
  obtain ⟨k1, rfl, k2⟩ := hk
  refine pg_mna hx hb hown hlink hover harr hdg n1 k1 (by omega) (Nat.le_trans (Nat.mul_le_mul k2 hcb) (Nat.le_refl _)) (by omega) hdf hcells hslots fun H1 c1 c2 f1 f2 z1 o1 e1 e2 => ?_
  have ec1 : c1 = cA r1 := Option.some.inj (f1.symm.trans hk1)
  have ec2 : c2 = cA r2 := Option.some.inj (f2.symm.trans hk2)
  subst ec1
  subst ec2
  obtain ⟨u1, u2⟩ := pm_growL (t := .inl (r1, n.toNatClampNeg, .inr (.inr (.inr (.inr (fun i => if i < n.toNatClampNeg then some (h.length + 2 + i) else none))))) :: List.replicate n.toNatClampNeg (pm_zero r2 k.toNatClampNeg)) hP hS hz (by omega) o1 (by
    intro j y hj
    cases j with
    | zero =>
      cases hj
      show H1[base + h.length + 0]? = some (vp_cell (cA r1) (n.toNatClampNeg, .inr (.inr (.inr (.inr (fun j => (if j < n.toNatClampNeg then some (h.length + 2 + j) else none).map (pm_ad b base)))))))
      rw [Nat.add_zero, ← hz, e1, vp_cell_q]
      unfold pg_out
      congr 2
      funext j
      by_cases hj : j < n.toNatClampNeg
      · rw [if_pos hj, if_pos hj]
        show Value.ref (H.size + 1 + j) = .ref (pm_ad b base (h.length + 2 + j))
        rw [show h.length + 2 + j = (h.length + 1 + j) + 1 by omega]
        show Value.ref (H.size + 1 + j) = .ref (base + (h.length + 1 + j))
        exact congrArg Value.ref (show H.size + 1 + j = base + (h.length + 1 + j) by omega)
      · rw [if_neg hj, if_neg hj]
        rfl
    | succ j =>
      have hj2 : (List.replicate n.toNatClampNeg (pm_zero r2 k.toNatClampNeg))[j]? = some y := hj
      rw [List.getElem?_replicate] at hj2
      split at hj2
      · rename_i hlt
        cases hj2
        obtain ⟨a0, t1, t2⟩ := hrow
        rw [t1]
        show H1[base + h.length + (j + 1)]? = some (vp_cell (cA r2) a0)
        rw [t2, show base + h.length + (j + 1) = H.size + 1 + j by omega, e2 j hlt]
        unfold pg_row
        rw [arrV_new]
      · cases hj2)
  rw [hz]
  exact kk H1 u1 u2
theorem pm_sls_rep (N K : Nat) (x : pm_E) (hx : pm_sl x = K) : pm_sls (List.replicate N x) = N * K := by
  induction N with
  | zero => simp [pm_sls]
  | succ N ih =>
    rw [List.replicate_succ]
    show pm_sl x + pm_sls (List.replicate N x) = _
    rw [ih, hx, Nat.succ_mul]
    omega
theorem pm_zero_sl (k N : Nat) : pm_sl (pm_zero k N) = N := by
  unfold pm_zero
  split <;> rfl
theorem pm_wr_sls {h : pm_H} {k : Nat} {x y : pm_E} (hk : h[k]? = some x) (hy : pm_sl y = pm_sl x) : (pm_wr h (k + 1) y).length = h.length ∧ pm_sls (pm_wr h (k + 1) y) = pm_sls h := by
  rw [pm_wr_s]
  exact ⟨List.length_set, pm_sls_set h k x y hk hy⟩
/-- a store changes neither how many cells there are nor their slots -/
theorem pm_wrs_n {h : pm_H} {a : Nat} {x : pm_E} (f : Option pm_E → Option pm_E) (hf : ∀ o y, f o = some y → ∃ z, o = some z ∧ pm_sl y = pm_sl z) (q : f (pm_cell h a) = some x) : (pm_wr h a x).length = h.length ∧ pm_sls (pm_wr h a x) = pm_sls h := by
  obtain ⟨z, q1, q2⟩ := hf _ _ q
  obtain ⟨k, rfl, q3⟩ := pm_cell_s q1
  exact pm_wr_sls q3 q2
theorem pm_n_pf {r1 r2 : Nat} {cst : Int} {v : Value} : ∀ o y, pm_pf r1 r2 cst v o = some y → ∃ z, o = some z ∧ pm_sl y = pm_sl z := by
  intro o y q
  obtain ⟨fs, rfl, -, -, rfl⟩ := pm_pf_s q
  exact ⟨_, rfl, List.length_set⟩
theorem pm_n_wri {i x : Int32} : ∀ o y, pm_wri i x o = some y → ∃ z, o = some z ∧ pm_sl y = pm_sl z := by
  intro o y q
  unfold pm_wri at q
  split at q
  · split at q
    · split at q
      · cases q; exact ⟨_, rfl, rfl⟩
      · cases q
    · cases q
  · cases q
theorem pm_n_wrl {i : Int32} {x : Int64} : ∀ o y, pm_wrl i x o = some y → ∃ z, o = some z ∧ pm_sl y = pm_sl z := by
  intro o y q
  unfold pm_wrl at q
  split at q
  · split at q
    · split at q
      · cases q; exact ⟨_, rfl, rfl⟩
      · cases q
    · cases q
  · cases q
theorem pm_n_wrb {i x : Int32} : ∀ o y, pm_wrb i x o = some y → ∃ z, o = some z ∧ pm_sl y = pm_sl z := by
  intro o y q
  unfold pm_wrb at q
  split at q
  · split at q
    · split at q
      · cases q; exact ⟨_, rfl, rfl⟩
      · cases q
    · split at q
      · cases q; exact ⟨_, rfl, rfl⟩
      · cases q
    · cases q
  · cases q
theorem pm_n_wra {ci x : Nat} {i : Int32} {w : Option pm_E} : ∀ o y, pm_wra ci i x w o = some y → ∃ z, o = some z ∧ pm_sl y = pm_sl z := by
  intro o y q
  unfold pm_wra at q
  split at q
  · split at q
    · split at q
      · cases q; exact ⟨_, rfl, rfl⟩
      · cases q
    · cases q
  · cases q
/-- cells only grow -/
def pm_le (h h' : pm_H) : Prop := h.length ≤ h'.length ∧ pm_sls h ≤ pm_sls h'
theorem pm_le_app (h t : pm_H) : pm_le h (h ++ t) := ⟨by rw [List.length_append]; omega, by rw [pm_sls_app]; omega⟩
theorem pm_le_rf (h : pm_H) : pm_le h h := ⟨Nat.le_refl _, Nat.le_refl _⟩
theorem pm_le_tr {a b c : pm_H} (h1 : pm_le a b) (h2 : pm_le b c) : pm_le a c := ⟨Nat.le_trans h1.1 h2.1, Nat.le_trans h1.2 h2.2⟩
theorem pm_le_eq {h h' : pm_H} (q : h'.length = h.length ∧ pm_sls h' = pm_sls h) : pm_le h h' := ⟨by rw [q.1]; exact Nat.le_refl _, by rw [q.2]; exact Nat.le_refl _⟩
set_option maxHeartbeats 1000000 in
theorem pm_mem_le {cs : Nat → List Value} {scr : pm_S} {i : Instr} {r1 r2 : Nat} {cst : Int} {st st' : List Value} {h h' : pm_H} (q : pm_mem cs scr i r1 r2 cst st h = some (st', h')) : pm_le h h' := by
  cases i <;> simp only [pm_mem] at q <;> try exact pm_no q
  case getfield =>
    split at q
    · obtain ⟨x, -, -, rfl⟩ := pm_psh_s q; exact pm_le_rf _
    · cases q
  case putfield =>
    split at q
    · obtain ⟨x, q1, -, rfl⟩ := pm_wrs_s q; exact pm_le_eq (pm_wrs_n _ pm_n_pf q1)
    · cases q
  case iaload =>
    split at q
    · split at q
      · obtain ⟨x, -, -, rfl⟩ := pm_psh_s q; exact pm_le_rf _
      · obtain ⟨x, -, -, rfl⟩ := pm_psh_s q; exact pm_le_rf _
    · cases q
  case baload =>
    split at q
    · obtain ⟨x, -, -, rfl⟩ := pm_psh_s q; exact pm_le_rf _
    · cases q
  case laload =>
    split at q
    · obtain ⟨x, -, -, rfl⟩ := pm_psh_s q; exact pm_le_rf _
    · cases q
  case aaload =>
    split at q
    · obtain ⟨x, -, -, rfl⟩ := pm_psh_s q; exact pm_le_rf _
    · cases q
  case iastore =>
    split at q
    · obtain ⟨x, q1, -, rfl⟩ := pm_wrs_s q; exact pm_le_eq (pm_wrs_n _ pm_n_wri q1)
    · cases q
  case bastore =>
    split at q
    · obtain ⟨x, q1, -, rfl⟩ := pm_wrs_s q; exact pm_le_eq (pm_wrs_n _ pm_n_wrb q1)
    · cases q
  case lastore =>
    split at q
    · obtain ⟨x, q1, -, rfl⟩ := pm_wrs_s q; exact pm_le_eq (pm_wrs_n _ pm_n_wrl q1)
    · cases q
  case aastore =>
    split at q
    · obtain ⟨x, q1, -, rfl⟩ := pm_wrs_s q; exact pm_le_eq (pm_wrs_n _ pm_n_wra q1)
    · cases q
  case arraylength =>
    split at q
    · split at q
      · split at q
        · cases q; exact pm_le_rf _
        · cases q
      · obtain ⟨x, -, -, rfl⟩ := pm_psh_s q; exact pm_le_rf _
    · cases q
  case newarray ty =>
    split at q
    · cases ty <;> first | (obtain ⟨N, -, -, -, -, rfl⟩ := pm_nwa_s q; exact pm_le_app _ _) | exact pm_no q
    · cases q
  case anewarray =>
    split at q
    · obtain ⟨N, -, -, -, -, rfl⟩ := pm_nwa_s q; exact pm_le_app _ _
    · cases q
  case multianewarray =>
    split at q
    · obtain ⟨N, K, -, -, -, rfl⟩ := pm_nwm_s q; exact pm_le_app _ _
    · cases q
  case new => cases q; exact pm_le_app _ _
theorem pm_zero_tr (kd N : Nat) (ty : FieldType) (hd : (kd = 0 ∧ ty = .int) ∨ (kd = 1 ∧ ty = .long) ∨ (kd = 2 ∧ ty = .byte) ∨ (kd = 3 ∧ ty = .boolean)) : ∃ a0, pm_tr cA b base (pm_zero kd N) = .inl (cA kd, a0) ∧ vp_cell (cA kd) a0 = arrV (cA kd) N (fun _ => defaultValue ty) := by
  rcases hd with ⟨rfl, rfl⟩ | ⟨rfl, rfl⟩ | ⟨rfl, rfl⟩ | ⟨rfl, rfl⟩
  · exact ⟨_, rfl, rfl⟩
  · exact ⟨_, rfl, rfl⟩
  · exact ⟨_, rfl, rfl⟩
  · exact ⟨_, rfl, rfl⟩
theorem pm_scr_s {i : Int32} {scr : pm_S} {v : Value} (q : pm_scr i scr = some v) : ∃ n xs, scr = some (n, xs) ∧ vp_in i n ∧ v = .int (xs i.toNatClampNeg) := by
  unfold pm_scr at q
  split at q
  · split at q
    · rename_i e1
      obtain ⟨h1, rfl⟩ := pm_ix_s e1
      cases q
      exact ⟨_, _, rfl, h1, rfl⟩
    · cases q
  · cases q
/-- where the script may be read, it lies at b -/
def pm_Sc (scr : pm_S) (b base : Nat) (s : State) : Prop := ∀ n xs, scr = some (n, xs) → va_X b n xs s s.heap ∧ b < s.heap.size ∧ b < base
set_option maxHeartbeats 4000000 in
theorem pm_g4 {i : Instr} {r1 r2 n0 z0 : Nat} {cst : Int} {st st' : List Value} {h' : pm_H} {scr : pm_S} (hx : p.tables.exec = Jvm.exec) (hb : c.code = cc) (hts : ∀ w ∈ TB, w.before args s = true) (hcl : pm_clOk cl TB cs) (hown : s.vm.findClass own = some m.cls) (hK : va_K D cl (pm_tys RD cA) s) (hSc : pm_Sc scr b base s)
    (hP : va_P D cl (pm_ws (pm_tr cA b base) base h) H) (hS : va_S (fun q => base ≤ q) s.heap H locs) (h0 : s.heap.size = base + n0) (hc : cells + n0 = h.length) (hs : slots + z0 = pm_sls h) (hr1 : h'.length ≤ n0 + R.cells) (hr2 : pm_sls h' ≤ z0 + R.slots)
    (hok : pm_okm cl TB RD own meth.name i r1 r2 cst) (hdg : decode cc pc = .ok (i, pm_memn i)) (q : pm_mem cs scr i r1 r2 cst st h = some (st', h'))
    (kk : ∀ (H1 : Heap) (locs1 : List Loc) (cells1 slots1 : Nat), va_P D cl (pm_ws (pm_tr cA b base) base h') H1 → va_S (fun q => base ≤ q) s.heap H1 locs1 → cells1 + n0 = h'.length → slots1 + z0 = pm_sls h' → W p l e R s m args below meth c H1 locs1 cells1 slots1 Q (F0 m (pc + pm_memn i) ls (st'.map (pm_sh b base)))) : W p l e R s m args below meth c H locs cells slots Q (F0 m pc ls (st.map (pm_sh b base))) := by
  cases i <;> simp only [pm_mem] at q <;> try exact pm_no q
  case getfield x =>
    split at q
    · obtain ⟨y, q1, rfl, rfl⟩ := pm_psh_s q
      exact pm_getfield hx hb hts hcl hown hK hP hok hdg q1 (kk H locs cells slots hP hS hc hs)
    · cases q
  case putfield x =>
    split at q
    · obtain ⟨y, q1, rfl, rfl⟩ := pm_wrs_s q
      obtain ⟨g1, g2⟩ := pm_wrs_n _ pm_n_pf q1
      exact pm_putfield hx hb hts hcl hown hK hP hS hok hdg q1 (fun H1 locs1 hP1 hS1 => kk H1 locs1 cells slots hP1 hS1 (by rw [g1]; exact hc) (by rw [g2]; exact hs))
    · cases q
  case iaload =>
    split at q
    · split at q
      · obtain ⟨y, q1, rfl, rfl⟩ := pm_psh_s q
        obtain ⟨n, xs, e1, e2, rfl⟩ := pm_scr_s q1
        obtain ⟨s1, s2, s3⟩ := hSc n xs e1
        exact va_sld hx hb s1 s2 (Nat.not_le.mpr s3) hS e2 hdg (kk H locs cells slots hP hS hc hs)
      · obtain ⟨y, q1, rfl, rfl⟩ := pm_psh_s q
        exact pm_iaload hx hb hK hP hdg q1 (kk H locs cells slots hP hS hc hs)
    · cases q
  case baload =>
    split at q
    · obtain ⟨y, q1, rfl, rfl⟩ := pm_psh_s q
      exact pm_baload hx hb hK hP hdg q1 (kk H locs cells slots hP hS hc hs)
    · cases q
  case laload =>
    split at q
    · obtain ⟨y, q1, rfl, rfl⟩ := pm_psh_s q
      exact pm_laload hx hb hK hP hdg q1 (kk H locs cells slots hP hS hc hs)
    · cases q
  case aaload =>
    split at q
    · obtain ⟨y, q1, rfl, rfl⟩ := pm_psh_s q
      exact pm_aaload hx hb hK hP hdg q1 (kk H locs cells slots hP hS hc hs)
    · cases q
  case iastore =>
    split at q
    · obtain ⟨y, q1, rfl, rfl⟩ := pm_wrs_s q
      obtain ⟨g1, g2⟩ := pm_wrs_n _ pm_n_wri q1
      exact pm_iastore hx hb hK hP hS hdg q1 (fun H1 locs1 hP1 hS1 => kk H1 locs1 cells slots hP1 hS1 (by rw [g1]; exact hc) (by rw [g2]; exact hs))
    · cases q
  case bastore =>
    split at q
    · obtain ⟨y, q1, rfl, rfl⟩ := pm_wrs_s q
      obtain ⟨g1, g2⟩ := pm_wrs_n _ pm_n_wrb q1
      exact pm_bastore hx hb hK hP hS hdg q1 (fun H1 locs1 hP1 hS1 => kk H1 locs1 cells slots hP1 hS1 (by rw [g1]; exact hc) (by rw [g2]; exact hs))
    · cases q
  case lastore =>
    split at q
    · obtain ⟨y, q1, rfl, rfl⟩ := pm_wrs_s q
      obtain ⟨g1, g2⟩ := pm_wrs_n _ pm_n_wrl q1
      exact pm_lastore hx hb hK hP hS hdg q1 (fun H1 locs1 hP1 hS1 => kk H1 locs1 cells slots hP1 hS1 (by rw [g1]; exact hc) (by rw [g2]; exact hs))
    · cases q
  case aastore =>
    split at q
    · obtain ⟨y, q1, rfl, rfl⟩ := pm_wrs_s q
      obtain ⟨g1, g2⟩ := pm_wrs_n _ pm_n_wra q1
      obtain ⟨T, N, o1⟩ := hok
      exact pm_aastore hx hb hK hP hS o1 hdg q1 (fun H1 locs1 hP1 hS1 => kk H1 locs1 cells slots hP1 hS1 (by rw [g1]; exact hc) (by rw [g2]; exact hs))
    · cases q
  case arraylength =>
    split at q
    · split at q
      · split at q
        · rename_i n xs
          cases q
          obtain ⟨s1, s2, s3⟩ := hSc n xs rfl
          exact va_slen hx hb s1 s2 (Nat.not_le.mpr s3) hS hdg (kk H locs cells slots hP hS hc hs)
        · cases q
      · obtain ⟨y, q1, rfl, rfl⟩ := pm_psh_s q
        exact pm_arraylength hx hb hK hP hdg q1 (kk H locs cells slots hP hS hc hs)
    · cases q
  case newarray aty =>
    split at q
    · have key : ∀ (kd : Nat) (ty : FieldType) (n : Int32) (r : List Value), newarray.typeOf aty = ty → ((kd = 0 ∧ ty = .int) ∨ (kd = 1 ∧ ty = .long) ∨ (kd = 2 ∧ ty = .byte) ∨ (kd = 3 ∧ ty = .boolean)) → (pm_tys RD cA)[kd]? = some (cA kd, ty) → componentBytes ty ≤ 8 → pm_nwa h r n (pm_zero kd) = some (st', h') → W p l e R s m args below meth c H locs cells slots Q (F0 m pc ls (.int n :: r.map (pm_sh b base))) := by
        intro kd ty n r hty hd hkd hcb q
        obtain ⟨N, n1, n2, n3, rfl, rfl⟩ := pm_nwa_s q
        rw [List.length_append] at hr1
        rw [pm_sls_app] at hr2
        have e1 : pm_sls [pm_zero kd N] = N := by show pm_sl _ + 0 = N; rw [pm_zero_sl]; rfl
        rw [e1] at hr2
        have hr1 : h.length + 1 ≤ n0 + R.cells := hr1
        exact pm_newarray (kd := kd) (x := pm_zero kd N) hx hb (hts _ hok) hty (by rcases hd with ⟨rfl, rfl⟩ | ⟨rfl, rfl⟩ | ⟨rfl, rfl⟩ | ⟨rfl, rfl⟩ <;> (intro C z; cases z)) hK hP hS h0 hc hkd (pm_zero_tr kd N ty hd) hcb n1 n2 n3 (by omega) (by omega) hdg (fun H1 hP1 hS1 => kk H1 locs _ _ hP1 hS1 (by rw [List.length_append]; show cells + 1 + n0 = h.length + 1; omega) (by rw [pm_sls_app, e1]; omega))
      cases aty <;> first | exact pm_no q | skip
      · exact key 3 .boolean _ _ rfl (by simp) rfl (by decide) q
      · exact key 2 .byte _ _ rfl (by simp) rfl (by decide) q
      · exact key 0 .int _ _ rfl (by simp) rfl (by decide) q
      · exact key 1 .long _ _ rfl (by simp) rfl (by decide) q
    · cases q
  case anewarray x =>
    split at q
    · obtain ⟨N, n1, n2, n3, rfl, rfl⟩ := pm_nwa_s q
      obtain ⟨o1, o2⟩ := hok
      rw [List.length_append] at hr1
      rw [pm_sls_app] at hr2
      have hr1 : h.length + 1 ≤ n0 + R.cells := hr1
      have hr2 : pm_sls h + (N + 0) ≤ z0 + R.slots := hr2
      exact pm_anewarray hx hb hown (hts _ o1) (hts _ o2) hK hP hS h0 hc n1 n2 n3 (by omega) (by omega) hdg (fun H1 hP1 hS1 => kk H1 locs _ _ hP1 hS1 (by rw [List.length_append]; show cells + 1 + n0 = h.length + 1; omega) (by rw [pm_sls_app]; show slots + N + z0 = pm_sls h + (N + 0); omega))
    · cases q
  case multianewarray x d =>
    split at q
    · obtain ⟨N, K, n1, k1, rfl, rfl⟩ := pm_nwm_s q
      have e1 : pm_sls ((.inl (r1, N, .inr (.inr (.inr (.inr (fun i => if i < N then some (h.length + 2 + i) else none))))) : pm_E) :: List.replicate N (pm_zero r2 K)) = N + N * K := by
        show N + pm_sls _ = _
        rw [pm_sls_rep N K _ (pm_zero_sl r2 K)]
      have e2 : ((.inl (r1, N, .inr (.inr (.inr (.inr (fun i => if i < N then some (h.length + 2 + i) else none))))) : pm_E) :: List.replicate N (pm_zero r2 K)).length = N + 1 := by
        rw [List.length_cons, List.length_replicate]
      rw [List.length_append, e2] at hr1
      rw [pm_sls_app, e1] at hr2
      obtain ⟨rfl, o⟩ := hok
      rcases o with ⟨rfl, rfl, o1, o2, o3⟩ | ⟨rfl, rfl, o1, o2, o3⟩
      · exact pm_multi (ty := .long) hx hb hown (hts _ o1) (hts _ o2) (hts _ o3) hK hP hS h0 hc (hK.2 4 _ rfl).2 (hK.2 1 _ rfl).2 (pm_zero_tr 1 K .long (by simp)) (by decide) rfl n1 k1 (by omega) (by omega) hdg (fun H1 hP1 hS1 => kk H1 locs _ _ hP1 hS1 (by rw [List.length_append, e2]; omega) (by rw [pm_sls_app, e1]; omega))
      · exact pm_multi (ty := .int) hx hb hown (hts _ o1) (hts _ o2) (hts _ o3) hK hP hS h0 hc (hK.2 5 _ rfl).2 (hK.2 0 _ rfl).2 (pm_zero_tr 0 K .int (by simp)) (by decide) rfl n1 k1 (by omega) (by omega) hdg (fun H1 hP1 hS1 => kk H1 locs _ _ hP1 hS1 (by rw [List.length_append, e2]; omega) (by rw [pm_sls_app, e1]; omega))
    · cases q
  case new x =>
    cases q
    obtain ⟨C, T, N, o1, o2, o3, o4⟩ := hok
    have eN : (cs r1).length = N := (hcl _ _ _ _ o1).2.2.2.1
    rw [List.length_append] at hr1
    rw [pm_sls_app] at hr2
    have hr1 : h.length + 1 ≤ n0 + R.cells := hr1
    have hr2 : pm_sls h + ((cs r1).length + 0) ≤ z0 + R.slots := hr2
    rw [eN] at hr2
    exact pm_newobj hx hb hts hcl hown o1 (hts _ o2) (hts _ o3) (hts _ o4) hK hP hS h0 hc (by omega) (by omega) hdg (fun H1 hP1 hS1 => kk H1 locs _ _ hP1 hS1 (by rw [List.length_append]; show cells + 1 + n0 = h.length + 1; omega) (by rw [pm_sls_app]; show slots + N + z0 = pm_sls h + ((cs r1).length + 0); rw [eN]; omega))
end PM4
end
section
/-! calls and ends -/
/-- words that stay as they are while the machine warms -/
def pm_stb (w : Cond) : Bool := match w with
  | .methodLinkNest _ _ _ _ => true
  | .arrayOver (.object _) => true
  | .arrayOver (.array _) => true
  | w => goodWord w
theorem pm_overA {t : FieldType} {u U : State} (hvm : u.vm.Alike U.vm) {A A' : Array Value} (h : (Jvm.Cond.arrayOver (.array t)).before A u = true) : (Jvm.Cond.arrayOver (.array t)).before A' U = true := by
  obtain ⟨comp, c, k, h1, h2, h3, h4, h5⟩ := arrayOverA_spec h
  obtain ⟨k', hk', he⟩ := hvm.2.2 _ _ h3
  have hi := (hvm.findIdx?_eqK _ (fun _ => rfl)).trans h2
  have hkind : k'.kind = .array comp (.array t) := by rw [he]; exact h4
  have f1 : U.vm.findClass (FieldType.array t).toString = some comp := by rw [hvm.findClass]; exact h1
  have f2 : U.vm.findClass ("[" ++ (FieldType.array t).toString) = some c := by rw [hvm.findClass]; exact h5
  unfold Cond.before Cond.holds
  simp only [Cond.value]
  rw [f1, Option.bind_some]
  refine (congrArg (fun o : Option Nat => (o.bind (fun c => (U.vm.classes[c]?).map fun (k : Class) => match k.kind with | .array _ ty => decide (ty = FieldType.array t) && decide (U.vm.findClass ("[" ++ (FieldType.array t).toString) = some c) | _ => false) == some true)) hi).trans ?_
  simp [hk', hkind, f2]
theorem pm_wd {w : Cond} (hs : pm_stb w = true) {s U : State} (hW : s.WarmedH U.vm) {A A' : Array Value} (h : w.before A s = true) : w.before A' U = true := by
  unfold pm_stb at hs
  split at hs
  · exact va_Nw.use rfl (va_Nw.warmM hW (va_Nw.of rfl h))
  · exact va_AO.use (va_AO.moved hW.alike (va_AO.of h))
  · exact pm_overA hW.alike h
  · exact word_at hW (good_of_word hs) h
def pm_T (TB : List Cond) (U : State) : Prop := ∀ w ∈ TB, w.before #[] U = true
/-- what the tables say of the methods -/
def pm_msOk (ms : Nat → Option pm_M) (TB : List Cond) : Prop := ∀ (k : Nat) (y : MethodName) (bytes : ByteArray) (nL : Nat) (rt : Option FieldType) (na ci : Nat), ms k = some (y, bytes, nL, rt, na, ci) →
  Jvm.Cond.code y bytes nL rt ∈ TB ∧ Jvm.Cond.initialized y.cls ∈ TB ∧ plainFor y = true ∧ (y.cls ≠ "java/lang/invoke/MethodHandle" ∧ y.cls ≠ "java/lang/invoke/VarHandle") ∧ (parseMethodDescriptor y.desc).map (fun d => d.parameters.length) = some na ∧ nL ≤ 13
def pm_lnk (TB : List Cond) (own : String) (x : Nat) (y : MethodName) : Prop := Jvm.Cond.methodLink own x y ∈ TB ∨ ∃ host, Jvm.Cond.methodLinkNest own x y host ∈ TB
/-- what the tables say of a call -/
def pm_okc (ms : Nat → Option pm_M) (cl : List vw_C) (TB : List Cond) (own : String) (i : Instr) (r1 : Nat) : Prop := match i with
  | .invokestatic x => ∃ (y : MethodName) (bytes : ByteArray) (nL : Nat) (rt : Option FieldType) (na ci : Nat), ms r1 = some (y, bytes, nL, rt, na, ci) ∧ pm_lnk TB own x y ∧ Jvm.Cond.static y ∈ TB
  | .invokevirtual x => ∃ (y : MethodName) (bytes : ByteArray) (nL : Nat) (rt : Option FieldType) (na ci : Nat), ms r1 = some (y, bytes, nL, rt, na, ci) ∧ pm_lnk TB own x y ∧ Jvm.Cond.instanceMethod y ∈ TB ∧ ∃ (T : u_T) (N : Nat), cl[ci]? = some (y.cls, T, N) ∧ Jvm.Cond.selects y.cls y y ∈ TB
  | .invokespecial x => (r1 = 0 ∧ Jvm.Cond.methodLink own x objectInit ∈ TB ∧ Jvm.Cond.instanceMethod objectInit ∈ TB ∧ Jvm.Cond.code objectInit ⟨#[0xb1]⟩ 1 none ∈ TB) ∨
      (r1 ≠ 0 ∧ ∃ (y : MethodName) (bytes : ByteArray) (nL na ci : Nat), ms r1 = some (y, bytes, nL, none, na, ci) ∧ y.name = "<init>" ∧ pm_lnk TB own x y ∧ Jvm.Cond.instanceMethod y ∈ TB)
  | _ => True
/-- behind a method -/
def pm_Qc (D : va_G) (cl : List vw_C) (cA : Nat → ClassId) (b base : Nat) (v : Option Value) (h' : pm_H) : Array Value → State → Outcome → State → Prop := fun _ st oc t => oc = .returned (v.map (pm_sh b base)) ∧ va_P D cl (pm_ws (pm_tr cA b base) base h') t.heap ∧ va_F (fun q => base ≤ q) st t
/-- ahead of a method -/
def pm_Wo (D : va_G) (cl : List vw_C) (cA : Nat → ClassId) (RD : String) (TB : List Cond) (b base : Nat) (h : pm_H) (U : State) : Prop := U.heap.size = base + h.length ∧ va_P D cl (pm_ws (pm_tr cA b base) base h) U.heap ∧ va_K D cl (pm_tys RD cA) U ∧ pm_T TB U
/-- a callee of depth d keeps what the small machine says of it -/
def pm_CallOk (l : Launch) (cl : List vw_C) (RD : String) (TB : List Cond) (ms : Nat → Option pm_M) (call : pm_C) (d : Nat) : Prop := ∀ (k : Nat) (as : List Value) (h h' : pm_H) (v : Option Value), call k as h = some (v, h') → pm_le h h' ∧
  ∀ (y : MethodName) (bytes : ByteArray) (nL : Nat) (rt : Option FieldType) (na ci : Nat), ms k = some (y, bytes, nL, rt, na, ci) → ∀ (D : va_G) (cA : Nat → ClassId) (b base : Nat),
    Met l y [Jvm.Cond.code y bytes nL rt] ({ frames := d, cells := h'.length - h.length, slots := pm_sls h' - pm_sls h, locals := 32 * d }) (va_Pc (as.map (pm_sh b base)) (pm_Wo D cl cA RD TB b base h)) (pm_Qc D cl cA b base v h') (h'.length - h.length) (pm_sls h' - pm_sls h) (fun q => base ≤ q)
theorem pm_popn : ∀ (n : Nat) (as st as' r : List Value), pm_pop_n n as st = some (as', r) → ∃ t, t.length = n ∧ as' = t ++ as ∧ st = t.reverse ++ r := by
  intro n
  induction n with
  | zero => intro as st as' r q; cases q; exact ⟨[], rfl, rfl, rfl⟩
  | succ n ih =>
    intro as st as' r q
    cases st with
    | nil => cases q
    | cons v st =>
      obtain ⟨t, h1, h2, h3⟩ := ih (v :: as) st as' r q
      refine ⟨t ++ [v], by rw [List.length_append, h1]; rfl, by rw [h2, List.append_assoc]; rfl, ?_⟩
      rw [List.reverse_append, h3]
      rfl
theorem pm_wt_sum (b base : Nat) (r : List Value) : ((r.map (pm_sh b base)).map fun v => v.category).sum = pm_wt r := by
  induction r with
  | nil => rfl
  | cons v r ih =>
    simp only [List.map_cons, List.sum_cons]
    rw [ih, pm_sh_c]
    cases v <;> rfl
theorem pm_wt_sl (vs : List Value) : (lg_sl vs).length = pm_wt vs := by
  induction vs with
  | nil => rfl
  | cons v r ih =>
    have e : lg_sl (v :: r) = (if v.category = 2 then [.val v, .second] else [.val v]) ++ lg_sl r := by simp [lg_sl]
    rw [e, List.length_append, ih]
    cases v <;> rfl
theorem pm_wt_map (b base : Nat) (vs : List Value) : pm_wt (vs.map (pm_sh b base)) = pm_wt vs := by
  induction vs with
  | nil => rfl
  | cons v r ih =>
    show pm_cat (pm_sh b base v) + _ = pm_cat v + _
    rw [ih]
    cases v <;> rfl
section PM5
variable {p : Program} {l : Launch} {e : Env} {R : Room} {s : State} {m : MethodId} {args : Array Value} {below : List Frame} {meth : Method} {c : Code} {H : Heap} {locs : List Loc} {cells slots : Nat} {Q : State → Prop}
variable {cc : ByteArray} {pc : Nat} {ls : Array Slot} {b base : Nat} {D : va_G} {cl : List vw_C} {cA : Nat → ClassId} {RD own : String} {TB : List Cond} {cs : Nat → List Value} {ms : Nat → Option pm_M} {h h' : pm_H} {r : List Value}
theorem pm_back {mc nc : Nat} {st0 rest : List Value} {v : Option Value} {a : Array Value} (hr : va_Run p l e R s m args below meth c H locs cells slots mc nc (F0 m pc ls st0) rest (pm_Qc D cl cA b base v h' a) (fun q => base ≤ q)) (hS : va_S (fun q => base ≤ q) s.heap H locs)
    (kk : ∀ (H1 : Heap) (locs1 : List Loc), va_P D cl (pm_ws (pm_tr cA b base) base h') H1 → va_S (fun q => base ≤ q) s.heap H1 locs1 → W p l e R s m args below meth c H1 locs1 (cells + mc) (slots + nc) Q (F0 m (pc + 3) ls ((v.map (pm_sh b base)).toList ++ rest))) : W p l e R s m args below meth c H locs cells slots Q (F0 m pc ls st0) := by
  intro T hT X
  obtain ⟨v', st0', t, T', L, g0, X', hL, e1, e2, ⟨hv, hp, hz, hk⟩, st⟩ := hr T hT X
  cases hv
  rw [g0] at hz hk
  obtain ⟨t2, a1, b1⟩ := kk T'.heap (locs ++ L) (by rw [e1]; exact hp)
    ⟨Nat.le_trans hS.1 (by rw [e1]; exact hz), fun q h1 h2 => by rw [e1, hk q (Nat.lt_of_lt_of_le h1 hS.1) h2]; exact hS.2.1 q h1 h2, fun q hq => by
      rcases List.mem_append.mp hq with h | h
      · exact hS.2.2 q h
      · exact hL q h⟩ T' rfl X'
  exact ⟨t2, st t2 a1, b1⟩
theorem pm_blind (hst : ∀ w ∈ TB, pm_stb w = true) {as : List Value} : FrameBlind (va_Pc as (pm_Wo D cl cA RD TB b base h)) := by
  intro a U g mk q
  obtain ⟨q0, q1, q2, q3, q4⟩ := q
  exact ⟨q0, q1, q2, va_K.moved (u := U) (U := U.calling g mk a) (Vm.Alike.refl U.vm) q3, fun w hw => pm_wd (s := U) (U := U.calling g mk a) (hst w hw) (State.WarmedH.refl U) (q4 w hw)⟩
theorem pm_pre (hst : ∀ w ∈ TB, pm_stb w = true) (hts : ∀ w ∈ TB, w.before args s = true) (hK : va_K D cl (pm_tys RD cA) s) (hP : va_P D cl (pm_ws (pm_tr cA b base) base h) H) (hz : H.size = base + h.length) {as : List Value} {av : Array Value} (hav : av = (as.map (pm_sh b base)).toArray) : ∀ U : State, U.heap = H → s.WarmedH U.vm → va_Pc (as.map (pm_sh b base)) (pm_Wo D cl cA RD TB b base h) av U := by
  intro U hU hW
  exact ⟨hav, by rw [hU]; exact hz, by rw [hU]; exact hP, va_K.moved hW.alike hK, fun w hw => pm_wd (hst w hw) hW (hts w hw)⟩
set_option maxHeartbeats 2000000 in
theorem pm_g5 {i : Instr} {r1 n0 z0 d : Nat} {st st' : List Value} {call : pm_C} (hx : p.tables.exec = Jvm.exec) (hb : c.code = cc) {nL : Nat} (hml : c.maxLocals = nL) (hst : ∀ w ∈ TB, pm_stb w = true) (hts : ∀ w ∈ TB, w.before args s = true) (hms : pm_msOk ms TB) (hown : s.vm.findClass own = some m.cls) (hK : va_K D cl (pm_tys RD cA) s)
    (hcall : pm_CallOk l cl RD TB ms call d) (hd : d + 1 ≤ R.frames) (hlo : 32 * (d + 1) ≤ R.locals)
    (hP : va_P D cl (pm_ws (pm_tr cA b base) base h) H) (hS : va_S (fun q => base ≤ q) s.heap H locs) (h0 : s.heap.size = base + n0) (hc : cells + n0 = h.length) (hs : slots + z0 = pm_sls h) (hr1 : h'.length ≤ n0 + R.cells) (hr2 : pm_sls h' ≤ z0 + R.slots) (hls : ls.size = nL)
    (hok : pm_okc ms cl TB own i r1) (hdg : decode cc pc = .ok (i, 3)) (q : pm_inv call i r1 (pm_na ms r1).1 (pm_na ms r1).2 st h = some (st', h'))
    (kk : ∀ (H1 : Heap) (locs1 : List Loc) (cells1 slots1 : Nat), va_P D cl (pm_ws (pm_tr cA b base) base h') H1 → va_S (fun q => base ≤ q) s.heap H1 locs1 → cells1 + n0 = h'.length → slots1 + z0 = pm_sls h' → W p l e R s m args below meth c H1 locs1 cells1 slots1 Q (F0 m (pc + 3) ls (st'.map (pm_sh b base)))) : W p l e R s m args below meth c H locs cells slots Q (F0 m pc ls (st.map (pm_sh b base))) := by
  refine pm_bound fun hbd => ?_
  have hz := pm_size hP hS h0 hc hbd
  have hwd : ∀ w ∈ TB, ∀ (a' : Array Value) (U : State), s.WarmedH U.vm → w.before a' U = true := fun w hw a' U hW => pm_wd (hst w hw) hW (hts w hw)
  -- what stands on the stack behind a call
  have hbk : ∀ (v : Option Value) (r : List Value), (v.map (pm_sh b base)).toList ++ r.map (pm_sh b base) = (v.toList ++ r).map (pm_sh b base) := by
    intro v r
    cases v <;> rfl
  cases i <;> simp only [pm_inv] at q <;> try exact pm_no q
  case invokestatic x =>
    obtain ⟨y, bytes, mL, rt, na, ci, o1, o2, o3⟩ := hok
    have e1 : pm_na ms r1 = (na, ci) := by unfold pm_na; rw [o1]
    rw [e1] at q
    split at q
    · rename_i as r ep
      split at q
      · rename_i v h2 ew ec
        cases q
        obtain ⟨m1, m2, m3, m4, m5, m6⟩ := hms _ _ _ _ _ _ _ o1
        obtain ⟨g1, g2⟩ := hcall _ _ _ _ _ ec
        obtain ⟨t, t1, t2, rfl⟩ := pm_popn _ _ _ _ _ ep
        rw [List.append_nil] at t2
        subst t2
        have hM := g2 _ _ _ _ _ _ o1 D cA b base
        have hfit : (∀ w ∈ [Jvm.Cond.code y bytes mL rt], ∀ (a' : Array Value) (U : State), s.WarmedH U.vm → w.before a' U = true) := fun w hw => by
          rw [List.mem_singleton.mp hw]
          exact hwd _ m1
        have hn : ∀ sig, parseMethodDescriptor y.desc = some sig → na = sig.parameters.length := fun sig hsig => by
          rw [hsig] at m5
          exact (Option.some.inj m5).symm
        have hmc : cells + (h'.length - h.length) ≤ R.cells ∧ slots + (pm_sls h' - pm_sls h) ≤ R.slots := ⟨by have := g1.1; omega, by have := g1.2; omega⟩
        have hpre : PreS s H (va_Pc (as.map (pm_sh b base)) (pm_Wo D cl cA RD TB b base h)) (as.map (pm_sh b base)) := ⟨pm_blind hst, pm_pre hst hts hK hP hz rfl⟩
        have hrun : va_Run p l e R s m args below meth c H locs cells slots (h'.length - h.length) (pm_sls h' - pm_sls h) (F0 m pc ls ((as.reverse ++ r).map (pm_sh b base))) (r.map (pm_sh b base)) (pm_Qc D cl cA b base v h' (as.map (pm_sh b base)).toArray) (fun q => base ≤ q) := by
          rcases o2 with o2 | ⟨host, o2⟩
          · exact va_runS ⟨hx, hb, hml, hown, hts⟩ hM ⟨⟨rfl, rfl, hd, (by show 8 + (mL + 11) + 32 * d ≤ R.locals; omega), hfit, List.mem_singleton.mpr rfl, hts _ m1, hts _ m2, m4, hn, hts _ o2⟩, hts _ o3⟩ hpre rfl (by rw [List.length_map]; exact t1) hls (by show (as.reverse ++ r).map _ = _; rw [List.map_append, List.map_reverse]) (lv_room (by rw [pm_wt_sum]; exact Nat.le_of_ble_eq_true ew)) hdg hmc
          · exact va_runSN ⟨hx, hb, hml, hown, hts⟩ hM ⟨⟨⟨rfl, rfl, hd, (by show 8 + (mL + 11) + 32 * d ≤ R.locals; omega), hfit, List.mem_singleton.mpr rfl⟩, hts _ m1, hts _ m2, m4, hn, hts _ o2⟩, hts _ o3, trivial⟩ hpre rfl (by rw [List.length_map]; exact t1) hls (by show (as.reverse ++ r).map _ = _; rw [List.map_append, List.map_reverse]) (lv_room (by rw [pm_wt_sum]; exact Nat.le_of_ble_eq_true ew)) hdg hmc
        refine pm_back hrun hS (fun H1 locs1 hP1 hS1 => ?_)
        rw [hbk]
        exact kk H1 locs1 _ _ hP1 hS1 (by have := g1.1; omega) (by have := g1.2; omega)
      · cases q
    · cases q
  case invokevirtual x =>
    obtain ⟨y, bytes, mL, rt, na, ci, o1, o2, o3, T9, N9, o4, o5⟩ := hok
    have e1 : pm_na ms r1 = (na, ci) := by unfold pm_na; rw [o1]
    rw [e1] at q
    split at q
    · rename_i as a r ep
      split at q
      · rename_i v h2 ew eo ec
        cases q
        obtain ⟨m1, m2, m3, m4, m5, m6⟩ := hms _ _ _ _ _ _ _ o1
        obtain ⟨g1, g2⟩ := hcall _ _ _ _ _ ec
        obtain ⟨t, t1, t2, rfl⟩ := pm_popn _ _ _ _ _ ep
        rw [List.append_nil] at t2
        subst t2
        have hM := g2 _ _ _ _ _ _ o1 D cA b base
        have hfit : (∀ w ∈ [Jvm.Cond.code y bytes mL rt], ∀ (a' : Array Value) (U : State), s.WarmedH U.vm → w.before a' U = true) := fun w hw => by
          rw [List.mem_singleton.mp hw]
          exact hwd _ m1
        have hn : ∀ sig, parseMethodDescriptor y.desc = some sig → na = sig.parameters.length := fun sig hsig => by
          rw [hsig] at m5
          exact (Option.some.inj m5).symm
        have hmc : cells + (h'.length - h.length) ≤ R.cells ∧ slots + (pm_sls h' - pm_sls h) ≤ R.slots := ⟨by have := g1.1; omega, by have := g1.2; omega⟩
        have hrc : ∃ cellB : Cell, H[pm_ad b base a]? = some cellB ∧ cellB.vm.isStatics = false ∧ s.vm.findClass y.cls = some cellB.cls := by
          unfold pm_clsOk at eo
          split at eo
          · rename_i c9 fs9 e9
            cases pm_beq eo
            obtain ⟨k, rfl, q3⟩ := pm_cell_s e9
            exact va_recv hK hP o4 (pm_at (D := D) (cl := cl) (H := H) q3)
          · cases eo
        have hpre : PreV s H y.cls (pm_ad b base a) (va_Pc ((Value.ref a :: as).map (pm_sh b base)) (pm_Wo D cl cA RD TB b base h)) (as.map (pm_sh b base)) := ⟨pm_blind hst, hrc, pm_pre hst hts hK hP hz rfl⟩
        have hrun : va_Run p l e R s m args below meth c H locs cells slots (h'.length - h.length) (pm_sls h' - pm_sls h) (F0 m pc ls ((as.reverse ++ .ref a :: r).map (pm_sh b base))) (r.map (pm_sh b base)) (pm_Qc D cl cA b base v h' (Value.ref (pm_ad b base a) :: as.map (pm_sh b base)).toArray) (fun q => base ≤ q) := by
          rcases o2 with o2 | ⟨host, o2⟩
          · exact va_runV ⟨hx, hb, hml, hown, hts⟩ hM ⟨⟨rfl, rfl, hd, (by show 8 + (mL + 11) + 32 * d ≤ R.locals; omega), hfit, List.mem_singleton.mpr rfl, hts _ m1, hts _ m2, m4, hn, hts _ o2⟩, hts _ o3, hts _ o5⟩ hpre rfl (by rw [List.length_map]; exact t1) hls (by show (as.reverse ++ .ref a :: r).map _ = _; rw [List.map_append, List.map_reverse]; rfl) (lv_room (by rw [pm_wt_sum]; exact Nat.le_of_ble_eq_true ew)) hdg hmc
          · exact va_runVN ⟨hx, hb, hml, hown, hts⟩ hM ⟨⟨⟨rfl, rfl, hd, (by show 8 + (mL + 11) + 32 * d ≤ R.locals; omega), hfit, List.mem_singleton.mpr rfl⟩, hts _ m1, hts _ m2, m4, hn, hts _ o2⟩, hts _ o3, hts _ o5⟩ hpre rfl (by rw [List.length_map]; exact t1) hls (by show (as.reverse ++ .ref a :: r).map _ = _; rw [List.map_append, List.map_reverse]; rfl) (lv_room (by rw [pm_wt_sum]; exact Nat.le_of_ble_eq_true ew)) hdg hmc
        refine pm_back hrun hS (fun H1 locs1 hP1 hS1 => ?_)
        rw [hbk]
        exact kk H1 locs1 _ _ hP1 hS1 (by have := g1.1; omega) (by have := g1.2; omega)
      · cases q
    · cases q
  case invokespecial x =>
    rcases hok with ⟨rfl, o1, o2, o3⟩ | ⟨hne, y, bytes, mL, na, ci, o1, o2, o3, o4⟩
    · simp only at q
      split at q
      · split at q
        · rename_i ew
          cases q
          refine W.objInit hx hb hown (hts _ o1) (hts _ o2) (hts _ o3) rfl (by rw [hml]; exact hls) rfl hdg (by omega) ?_ (kk H locs cells slots hP hS hc hs)
          have hwt := Nat.le_of_ble_eq_true ew
          have hw2 := lv_room (m := m) (pc := pc) (ls := ls) (rest := (Value.ref ‹Addr› :: st').map (pm_sh b base)) (st := st'.map (pm_sh b base)) (by rw [pm_wt_sum]; exact hwt)
          have := hlo
          exact Nat.le_trans (Nat.add_le_add_right hw2 12) (by omega)
        · cases q
      · cases q
    · obtain ⟨k1, rfl⟩ : ∃ k1, r1 = k1 + 1 := ⟨r1 - 1, by omega⟩
      simp only at q
      have e1 : pm_na ms (k1 + 1) = (na, ci) := by unfold pm_na; rw [o1]
      rw [e1] at q
      split at q
      · rename_i as a r ep
        split at q
        · rename_i v h2 ew ec
          cases q
          obtain ⟨m1, m2, m3, m4, m5, m6⟩ := hms _ _ _ _ _ _ _ o1
          obtain ⟨g1, g2⟩ := hcall _ _ _ _ _ ec
          obtain ⟨t, t1, t2, rfl⟩ := pm_popn _ _ _ _ _ ep
          rw [List.append_nil] at t2
          subst t2
          have hM := g2 _ _ _ _ _ _ o1 D cA b base
          have hfit : (∀ w ∈ [Jvm.Cond.code y bytes mL none], ∀ (a' : Array Value) (U : State), s.WarmedH U.vm → w.before a' U = true) := fun w hw => by
            rw [List.mem_singleton.mp hw]
            exact hwd _ m1
          have hn : ∀ sig, parseMethodDescriptor y.desc = some sig → na = sig.parameters.length := fun sig hsig => by
            rw [hsig] at m5
            exact (Option.some.inj m5).symm
          have hmc : cells + (h'.length - h.length) ≤ R.cells ∧ slots + (pm_sls h' - pm_sls h) ≤ R.slots := ⟨by have := g1.1; omega, by have := g1.2; omega⟩
          have hpre : PreS s H (va_Pc ((Value.ref a :: as).map (pm_sh b base)) (pm_Wo D cl cA RD TB b base h)) (.ref (pm_ad b base a) :: as.map (pm_sh b base)) := ⟨pm_blind hst, pm_pre hst hts hK hP hz rfl⟩
          have hrun : va_Run p l e R s m args below meth c H locs cells slots (h'.length - h.length) (pm_sls h' - pm_sls h) (F0 m pc ls ((as.reverse ++ .ref a :: r).map (pm_sh b base))) (r.map (pm_sh b base)) (pm_Qc D cl cA b base v h' (Value.ref (pm_ad b base a) :: as.map (pm_sh b base)).toArray) (fun q => base ≤ q) := by
            rcases o3 with o3 | ⟨host, o3⟩
            · exact va_runI ⟨hx, hb, hml, hown, hts⟩ hM ⟨⟨rfl, rfl, hd, (by show 8 + (mL + 11) + 32 * d ≤ R.locals; omega), hfit, List.mem_singleton.mpr rfl, hts _ m1, hts _ m2, m4, hn, hts _ o3⟩, o2, hts _ o4⟩ hpre rfl (by rw [List.length_map]; exact t1) hls (by show (as.reverse ++ .ref a :: r).map _ = _; rw [List.map_append, List.map_reverse]; rfl) (lv_room (by rw [pm_wt_sum]; exact Nat.le_of_ble_eq_true ew)) hdg hmc
            · exact va_runIN ⟨hx, hb, hml, hown, hts⟩ hM ⟨⟨⟨rfl, rfl, hd, (by show 8 + (mL + 11) + 32 * d ≤ R.locals; omega), hfit, List.mem_singleton.mpr rfl⟩, hts _ m1, hts _ m2, m4, hn, hts _ o3⟩, o2, hts _ o4⟩ hpre rfl (by rw [List.length_map]; exact t1) hls (by show (as.reverse ++ .ref a :: r).map _ = _; rw [List.map_append, List.map_reverse]; rfl) (lv_room (by rw [pm_wt_sum]; exact Nat.le_of_ble_eq_true ew)) hdg hmc
          refine pm_back hrun hS (fun H1 locs1 hP1 hS1 => ?_)
          rw [hbk]
          exact kk H1 locs1 _ _ hP1 hS1 (by have := g1.1; omega) (by have := g1.2; omega)
        · cases q
      · cases q
end PM5
end
section
/-! runs and calls: what the small machine says, the machine does -/
def pm_lenOk (i : Instr) (n : Nat) : Prop := match pm_grp i with
  | 0 => n = pm_aln i
  | 1 => n = pm_ldn i
  | 2 => n = pm_ston i
  | 3 => n = 3 ∨ ∃ a b c d, i = .tableswitch a b c d
  | 4 => n = pm_memn i
  | 5 => n = 3
  | _ => n = 1
/-- what the tables say of an instruction -/
def pm_okI (cl : List vw_C) (TB : List Cond) (RD : String) (ms : Nat → Option pm_M) (cc : ByteArray) (own mname : String) (pc : Nat) (q : pm_I) : Prop :=
  decode cc pc = .ok (q.1, q.2.1) ∧ pm_lenOk q.1 q.2.1 ∧ pm_tgt q.1 pc q.2.2.1 = true ∧ (∀ x, q.1 = .ldc x ∨ q.1 = .ldc_w x → Jvm.Cond.constant own x (Int32.ofInt q.2.2.2.2.1) ∈ TB) ∧ (∀ x, q.1 = .ldc2_w x → Jvm.Cond.constantLong own x (Int64.ofInt q.2.2.2.2.1) ∈ TB) ∧ pm_okm cl TB RD own mname q.1 q.2.2.1 q.2.2.2.1 q.2.2.2.2.1 ∧ pm_okc ms cl TB own q.1 q.2.2.1
theorem pm_o0_s {pc : Nat} {lv : pm_L} {h : pm_H} {o : Option (List Value)} {x : pm_F ⊕ pm_R} (q : pm_o0 pc lv h o = some x) : ∃ st, o = some st ∧ x = .inl (pc, lv, st, h) := by
  unfold pm_o0 at q; split at q
  · cases q; exact ⟨_, rfl, rfl⟩
  · cases q
theorem pm_o1_s {pc : Nat} {lv : pm_L} {st : List Value} {h : pm_H} {o : Option Value} {x : pm_F ⊕ pm_R} (q : pm_o1 pc lv st h o = some x) : ∃ v, o = some v ∧ x = .inl (pc, lv, v :: st, h) := by
  unfold pm_o1 at q; split at q
  · cases q; exact ⟨_, rfl, rfl⟩
  · cases q
theorem pm_o2_s {pc : Nat} {h : pm_H} {o : Option (pm_L × List Value)} {x : pm_F ⊕ pm_R} (q : pm_o2 pc h o = some x) : ∃ lv st, o = some (lv, st) ∧ x = .inl (pc, lv, st, h) := by
  unfold pm_o2 at q; split at q
  · cases q; exact ⟨_, _, rfl, rfl⟩
  · cases q
theorem pm_o3_s {lv : pm_L} {h : pm_H} {o : Option (Nat × List Value)} {x : pm_F ⊕ pm_R} (q : pm_o3 lv h o = some x) : ∃ pc st, o = some (pc, st) ∧ x = .inl (pc, lv, st, h) := by
  unfold pm_o3 at q; split at q
  · cases q; exact ⟨_, _, rfl, rfl⟩
  · cases q
theorem pm_o4_s {pc : Nat} {lv : pm_L} {o : Option (List Value × pm_H)} {x : pm_F ⊕ pm_R} (q : pm_o4 pc lv o = some x) : ∃ st h, o = some (st, h) ∧ x = .inl (pc, lv, st, h) := by
  unfold pm_o4 at q; split at q
  · cases q; exact ⟨_, _, rfl, rfl⟩
  · cases q
theorem pm_o6_s {h : pm_H} {o : Option (Option Value)} {x : pm_F ⊕ pm_R} (q : pm_o6 h o = some x) : ∃ v, o = some v ∧ x = .inr (v, h) := by
  unfold pm_o6 at q; split at q
  · cases q; exact ⟨_, rfl, rfl⟩
  · cases q
def pm_MonoC (call : pm_C) : Prop := ∀ (k : Nat) (as : List Value) (h h' : pm_H) (v : Option Value), call k as h = some (v, h') → pm_le h h'
theorem pm_inv_le {call : pm_C} (hc : pm_MonoC call) {i : Instr} {k na ci : Nat} {st st' : List Value} {h h' : pm_H} (q : pm_inv call i k na ci st h = some (st', h')) : pm_le h h' := by
  cases i <;> simp only [pm_inv] at q <;> try exact pm_no q
  case invokestatic =>
    split at q
    · split at q
      · rename_i ec; cases q; exact hc _ _ _ _ _ ec
      · cases q
    · cases q
  case invokevirtual =>
    split at q
    · split at q
      · rename_i ec; cases q; exact hc _ _ _ _ _ ec
      · cases q
    · cases q
  case invokespecial =>
    split at q
    · split at q
      · split at q
        · cases q; exact pm_le_rf _
        · cases q
      · cases q
    · split at q
      · split at q
        · rename_i ec; cases q; exact hc _ _ _ _ _ ec
        · cases q
      · cases q
theorem pm_step_le {cs : Nat → List Value} {ms : Nat → Option pm_M} {call : pm_C} (hc : pm_MonoC call) {scr : pm_S} {nL : Nat} {rt : Option FieldType} {q : pm_I} {F : pm_F} {x : pm_F ⊕ pm_R} (s : pm_step cs ms call scr nL rt q F = some x) : (∀ F', x = .inl F' → pm_le F.2.2.2 F'.2.2.2) ∧ (∀ v h', x = .inr (v, h') → h' = F.2.2.2) := by
  obtain ⟨i, n, r1, r2, cst, hh⟩ := q
  obtain ⟨pc, lv, st, h⟩ := F
  simp only [pm_step] at s
  split at s
  · obtain ⟨st', -, rfl⟩ := pm_o0_s s; exact ⟨fun F' e => by cases e; exact pm_le_rf _, fun v h' e => by cases e⟩
  · obtain ⟨st', -, rfl⟩ := pm_o1_s s; exact ⟨fun F' e => by cases e; exact pm_le_rf _, fun v h' e => by cases e⟩
  · obtain ⟨lv', st', -, rfl⟩ := pm_o2_s s; exact ⟨fun F' e => by cases e; exact pm_le_rf _, fun v h' e => by cases e⟩
  · obtain ⟨pc', st', -, rfl⟩ := pm_o3_s s; exact ⟨fun F' e => by cases e; exact pm_le_rf _, fun v h' e => by cases e⟩
  · obtain ⟨st', h', q1, rfl⟩ := pm_o4_s s; exact ⟨fun F' e => by cases e; exact pm_mem_le q1, fun v h' e => by cases e⟩
  · obtain ⟨st', h', q1, rfl⟩ := pm_o4_s s; exact ⟨fun F' e => by cases e; exact pm_inv_le hc q1, fun v h' e => by cases e⟩
  · obtain ⟨v', q1, rfl⟩ := pm_o6_s s; exact ⟨(fun F' e => by cases e), (fun v h' e => by cases e; rfl)⟩
theorem pm_run_le {cs : Nat → List Value} {ms : Nat → Option pm_M} {call : pm_C} (hc : pm_MonoC call) {scr : pm_S} {nL : Nat} {rt : Option FieldType} {ins : Nat → Option pm_I} : ∀ (n : Nat) (F : pm_F) (v : Option Value) (hE : pm_H), pm_run (pm_step cs ms call scr nL rt) ins n F = some (v, hE) → pm_le F.2.2.2 hE := by
  intro n
  induction n with
  | zero => intro F v hE q; cases q
  | succ n ih =>
    intro F v hE q
    rw [pm_run_succ] at q
    split at q
    · cases q
    · split at q
      · cases q
      · rename_i F' es
        exact pm_le_tr ((pm_step_le hc es).1 F' rfl) (ih F' v hE q)
      · rename_i r es
        cases q
        rw [(pm_step_le hc es).2 _ _ rfl]
        exact pm_le_rf _
section PM6
variable {p : Program} {l : Launch} {e : Env} {R : Room} {s : State} {m : MethodId} {args : Array Value} {below : List Frame} {meth : Method} {c : Code} {Q : State → Prop}
variable {cc : ByteArray} {b base : Nat} {D : va_G} {cl : List vw_C} {cA : Nat → ClassId} {RD own : String} {TB : List Cond} {cs : Nat → List Value} {ms : Nat → Option pm_M}
set_option maxHeartbeats 2000000 in
/-- a run in a frame -/
theorem pm_runOk {call : pm_C} {scr : pm_S} {nL d n0 z0 : Nat} {rt : Option FieldType} {ins : Nat → Option pm_I} {v : Option Value} {hE : pm_H} (hx : p.tables.exec = Jvm.exec) (hb : c.code = cc) (hml : c.maxLocals = nL) (hst : ∀ w ∈ TB, pm_stb w = true) (hts : ∀ w ∈ TB, w.before args s = true) (hcl : pm_clOk cl TB cs) (hms : pm_msOk ms TB) (hown : s.vm.findClass own = some m.cls) (hK : va_K D cl (pm_tys RD cA) s) (hSc : pm_Sc scr b base s)
    (hcall : pm_CallOk l cl RD TB ms call d) (hd : d + 1 ≤ R.frames) (hlo : 32 * (d + 1) ≤ R.locals) (hI : ∀ pc q, ins pc = some q → pm_okI cl TB RD ms cc own meth.name pc q) (h0 : s.heap.size = base + n0) (hr1 : hE.length ≤ n0 + R.cells) (hr2 : pm_sls hE ≤ z0 + R.slots)
    (hend : ∀ (i : Instr) (pc : Nat) (ls : Array Slot) (st : List Value) (H : Heap) (locs : List Loc) (cells slots : Nat), decode cc pc = .ok (i, 1) → pm_ret i rt st = some v → va_P D cl (pm_ws (pm_tr cA b base) base hE) H → va_S (fun q => base ≤ q) s.heap H locs → cells + n0 = hE.length → slots + z0 = pm_sls hE → W p l e R s m args below meth c H locs cells slots Q (F0 m pc ls (st.map (pm_sh b base)))) :
    ∀ (n : Nat) (F : pm_F), pm_run (pm_step cs ms call scr nL rt) ins n F = some (v, hE) → ∀ (ls : Array Slot) (H : Heap) (locs : List Loc) (cells slots : Nat), lv_has ls nL (pm_lv b base F.2.1) → va_P D cl (pm_ws (pm_tr cA b base) base F.2.2.2) H → va_S (fun q => base ≤ q) s.heap H locs → cells + n0 = F.2.2.2.length → slots + z0 = pm_sls F.2.2.2 →
      W p l e R s m args below meth c H locs cells slots Q (F0 m F.1 ls (F.2.2.1.map (pm_sh b base))) := by
  have hmono : pm_MonoC call := fun k as h h' v q => (hcall k as h h' v q).1
  intro n
  induction n with
  | zero => intro F q; cases q
  | succ n ih =>
    intro F q ls H locs cells slots hl hP hS hc hs
    have hle := pm_run_le hmono _ _ _ _ q
    rw [pm_run_succ] at q
    split at q
    · cases q
    · rename_i qi ei
      obtain ⟨k1, k2, k3, k4, k5, k6, k7⟩ := hI _ _ ei
      obtain ⟨i, len, r1, r2, cst, hh⟩ := qi
      obtain ⟨pc, lv, st, h⟩ := F
      dsimp only at k1 k2 k3 k4 k5 k6 k7 hl hP hc hs hle ei ⊢
      split at q
      · cases q
      · rename_i F' es
        have hleF := pm_run_le hmono _ _ _ _ q
        simp only [pm_step] at es
        unfold pm_lenOk at k2
        split at es
        · rename_i eg
          rw [eg] at k2
          have k2 := k2
          subst k2
          obtain ⟨st', q1, e9⟩ := pm_o0_s es
          cases e9
          exact pm_g0 hx hb k1 hown (fun x hx => hts _ (k4 x hx)) (fun x hx => hts _ (k5 x hx)) q1 (ih _ q ls H locs cells slots hl hP hS hc hs)
        · rename_i eg
          rw [eg] at k2
          have k2 := k2
          subst k2
          obtain ⟨v', q1, e9⟩ := pm_o1_s es
          cases e9
          exact pm_g1 hx hb k1 hl q1 (ih _ q ls H locs cells slots hl hP hS hc hs)
        · rename_i eg
          rw [eg] at k2
          have k2 := k2
          subst k2
          obtain ⟨lv', st', q1, e9⟩ := pm_o2_s es
          cases e9
          exact pm_g2 hx hb k1 hl q1 (fun ls' hl' => ih _ q ls' H locs cells slots hl' hP hS hc hs)
        · rename_i eg
          rw [eg] at k2
          obtain ⟨pc', st', q1, e9⟩ := pm_o3_s es
          cases e9
          exact pm_g3 hx hb k1 k2 k3 q1 (ih _ q ls H locs cells slots hl hP hS hc hs)
        · rename_i eg
          rw [eg] at k2
          have k2 := k2
          subst k2
          obtain ⟨st', h', q1, e9⟩ := pm_o4_s es
          cases e9
          exact pm_g4 hx hb hts hcl hown hK hSc hP hS h0 hc hs (Nat.le_trans hleF.1 hr1) (Nat.le_trans hleF.2 hr2) k6 k1 q1 (fun H1 locs1 cells1 slots1 hP1 hS1 hc1 hs1 => ih _ q ls H1 locs1 cells1 slots1 hl hP1 hS1 hc1 hs1)
        · rename_i eg
          rw [eg] at k2
          have k2 := k2
          subst k2
          obtain ⟨st', h', q1, e9⟩ := pm_o4_s es
          cases e9
          exact pm_g5 hx hb hml hst hts hms hown hK hcall hd hlo hP hS h0 hc hs (Nat.le_trans hleF.1 hr1) (Nat.le_trans hleF.2 hr2) hl.1 k7 k1 q1 (fun H1 locs1 cells1 slots1 hP1 hS1 hc1 hs1 => ih _ q ls H1 locs1 cells1 slots1 hl hP1 hS1 hc1 hs1)
        · obtain ⟨v', q1, e9⟩ := pm_o6_s es
          cases e9
      · rename_i r es
        cases q
        simp only [pm_step] at es
        unfold pm_lenOk at k2
        split at es
        · obtain ⟨st', q1, e9⟩ := pm_o0_s es; cases e9
        · obtain ⟨st', q1, e9⟩ := pm_o1_s es; cases e9
        · obtain ⟨lv', st', q1, e9⟩ := pm_o2_s es; cases e9
        · obtain ⟨pc', st', q1, e9⟩ := pm_o3_s es; cases e9
        · obtain ⟨st', h', q1, e9⟩ := pm_o4_s es; cases e9
        · obtain ⟨st', h', q1, e9⟩ := pm_o4_s es; cases e9
        · obtain ⟨v', q1, e9⟩ := pm_o6_s es
          cases e9
          have k9 : len = 1 := by
            split at k2 <;> first | exact k2 | (rename_i h9; simp_all; done) | contradiction
          subst k9
          exact hend i pc ls st H locs cells slots k1 q1 hP hS hc hs
end PM6
end
section
/-! every call of the small machine is a contract -/
section PM7
variable {p : Program} {l : Launch} {e : Env} {R : Room} {s : State} {m : MethodId} {args : Array Value} {below : List Frame} {meth : Method} {c : Code} {H : Heap} {locs : List Loc} {cells slots : Nat}
variable {cc : ByteArray} {pc : Nat} {ls : Array Slot} {b base : Nat}
theorem pm_end {Qc : Array Value → State → Outcome → State → Prop} {free : Addr → Prop} {i : Instr} {rt : Option FieldType} {st : List Value} {v : Option Value} (hx : p.tables.exec = Jvm.exec) (hb : c.code = cc) (hr : meth.sig.returnType = rt) (hlocks : meth.locks = false) (hdg : decode cc pc = .ok (i, 1)) (q : pm_ret i rt st = some v)
    (hq : ∀ t : State, t.heap = H → s.WarmedH t.vm → Qc args s (.returned (v.map (pm_sh b base))) t) (hf : ∀ q ∈ locs, free q.base) : W p l e R s m args below meth c H locs cells slots (MQ below Qc args s cells slots free) (F0 m pc ls (st.map (pm_sh b base))) := by
  cases i <;> simp only [pm_ret] at q <;> try exact pm_no q
  case return_ =>
    split at q
    · cases q; exact W.vret hx hb hr hq hf hdg
    · cases q
  case ireturn =>
    split at q
    · cases q; exact W.iret hx hb hr hq hf hdg
    · split at q
      · rename_i x h01
        cases q
        exact W.zret hx hb hr (by rcases h01 with rfl | rfl <;> rfl) hq hf hdg
      · cases q
    · cases q
  case lreturn =>
    split at q
    · cases q; exact W.lret hx hb hr hq hf hdg
    · cases q
  case areturn =>
    split at q
    · cases q; exact W.aret hx hb hr (Or.inl ⟨_, rfl⟩) (Or.inr ⟨_, rfl⟩) hq hf hdg
    · cases q; exact W.aret hx hb hr (Or.inl ⟨_, rfl⟩) (Or.inl rfl) hq hf hdg
    · cases q; exact W.aret hx hb hr (Or.inr ⟨_, rfl⟩) (Or.inr ⟨_, rfl⟩) hq hf hdg
    · cases q; exact W.aret hx hb hr (Or.inr ⟨_, rfl⟩) (Or.inl rfl) hq hf hdg
    · cases q
end PM7
/-- what the tables say of all instructions -/
def pm_insOk (cl : List vw_C) (TB : List Cond) (RD : String) (ms : Nat → Option pm_M) (ins : Nat → Nat → Option pm_I) : Prop := ∀ (k : Nat) (y : MethodName) (bytes : ByteArray) (nL : Nat) (rt : Option FieldType) (na ci : Nat), ms k = some (y, bytes, nL, rt, na, ci) → ∀ pc q, ins k pc = some q → pm_okI cl TB RD ms bytes y.cls y.name pc q
set_option maxHeartbeats 2000000 in
theorem pm_callOk {l : Launch} {cl : List vw_C} {RD : String} {TB : List Cond} {cs : Nat → List Value} {ms : Nat → Option pm_M} {ins : Nat → Nat → Option pm_I} {fuel : Nat} (hst : ∀ w ∈ TB, pm_stb w = true) (hcl : pm_clOk cl TB cs) (hms : pm_msOk ms TB) (hI : pm_insOk cl TB RD ms ins) : ∀ d, pm_CallOk l cl RD TB ms (pm_call cs ms ins fuel d) d := by
  intro d
  induction d with
  | zero => intro k as h h' v q; cases q
  | succ d ih =>
    intro k as h h' v q
    rw [pm_call_succ] at q
    split at q
    · rename_i y0 by0 nL0 rt0 na0 ci0 em
      split at q
      · rename_i ew
        have hmono : pm_MonoC (pm_call cs ms ins fuel d) := fun k as h h' v q => (ih k as h h' v q).1
        have hle := pm_run_le hmono _ _ _ _ q
        refine ⟨hle, ?_⟩
        intro y bytes nL rt na ci em2 D cA b base
        rw [em] at em2
        cases em2
        obtain ⟨m1, m2, m3, m4, m5, m6⟩ := hms _ _ _ _ _ _ _ em
        refine va_MetF (cc := by0) (maxL := nL0) (ret := rt0) m3 rfl ?_
        intro p e s m args below meth c s₁ B hml hv
        obtain ⟨rfl, hsz, hP, hK, hT⟩ := hv
        have hx := B.exec
        have hb := B.bytes
        have hr := B.returns
        have hlocks := B.notSynchronized
        have hown : s.vm.findClass y0.cls = some m.cls := findClass_of_methodNamed B.named
        have hnm : meth.name = y0.name := (name_of_methodNamed B.named B.method).1
        have hts : ∀ w ∈ TB, w.before (as.map (pm_sh b base)).toArray s = true := fun w hw => pm_wd (hst w hw) (State.WarmedH.refl s) (hT w hw)
        have hl := lv_entry (as.map (pm_sh b base)) (n := nL0) (by rw [pm_wt_sl, pm_wt_map]; exact Nat.le_of_ble_eq_true ew)
        rw [lg_entry_eq]
        generalize (lg_sl (as.map (pm_sh b base)) ++ List.replicate (nL0 - (lg_sl (as.map (pm_sh b base))).length) Slot.unset).toArray = ls at hl ⊢
        rw [pm_args] at hl
        have hS : va_S (fun q => base ≤ q) s.heap s.heap [] := va_S.rf
        refine pm_runOk (R := { frames := d + 1, cells := h'.length - h.length, slots := pm_sls h' - pm_sls h, locals := 32 * (d + 1) }) (scr := none) (n0 := h.length) (z0 := pm_sls h) (hE := h') (v := v) (cs := cs) hx hb hml hst hts hcl hms hown hK (fun n xs e9 => by cases e9) ih (Nat.le_refl _) (Nat.le_refl _) (fun pc q e9 => by rw [hnm]; exact hI _ _ _ _ _ _ _ em pc q e9) hsz (by have := hle.1; show h'.length ≤ h.length + (h'.length - h.length); omega) (by have := hle.2; show pm_sls h' ≤ pm_sls h + (pm_sls h' - pm_sls h); omega) ?_ fuel (0, lv_args 0 as, [], h) q ls s.heap [] 0 0 hl hP hS (Nat.zero_add _) (Nat.zero_add _)
        intro i pc ls st H locs cells slots hdg q1 hP1 hS1 hc1 hs1
        have e1 : h'.length - h.length = cells := by omega
        have e2 : pm_sls h' - pm_sls h = slots := by omega
        rw [e1, e2]
        exact pm_end hx hb hr hlocks hdg q1 (fun t ht hW => ⟨rfl, by rw [ht]; exact hP1, hS1.F ht⟩) hS1.2.2
      · cases q
    · cases q
end
section
-- ===== PART A: goes FIRST, ahead of the names: the tables' words, and 'selects' of the private methods out of them =====
/-- a private method of a class that the tables say can be made, by its rows of tables_1 -/
def lw_okq (q : MethodName × Nat) : Prop := (q.1.cls ≠ "java/lang/invoke/MethodHandle" ∧ q.1.cls ≠ "java/lang/invoke/VarHandle") ∧ Cond.instantiable q.1.cls q.2 ∈ tables_1 ∧ Cond.privateMethod q.1 ∈ tables_1 ∧ Cond.instanceMethod q.1 ∈ tables_1
theorem lw_p0 : lw_okq (⟨"LoopGround", "putBytes", "(I)V"⟩, 19) := ⟨⟨by decide +kernel, by decide +kernel⟩, List.mem_of_getElem? (i := 15) (by decide +kernel), List.mem_of_getElem? (i := 474) (by decide +kernel), List.mem_of_getElem? (i := 475) (by decide +kernel)⟩
theorem lw_p1 : lw_okq (⟨"LoopGround$Reader", "readToken", "()V"⟩, 11) := ⟨⟨by decide +kernel, by decide +kernel⟩, List.mem_of_getElem? (i := 23) (by decide +kernel), List.mem_of_getElem? (i := 497) (by decide +kernel), List.mem_of_getElem? (i := 498) (by decide +kernel)⟩
theorem lw_p2 : lw_okq (⟨"LoopGround$Reader", "byteAt", "(I)I"⟩, 11) := ⟨⟨by decide +kernel, by decide +kernel⟩, List.mem_of_getElem? (i := 23) (by decide +kernel), List.mem_of_getElem? (i := 501) (by decide +kernel), List.mem_of_getElem? (i := 502) (by decide +kernel)⟩
theorem lw_p3 : lw_okq (⟨"LoopGround$Reader", "readLetters", "()V"⟩, 11) := ⟨⟨by decide +kernel, by decide +kernel⟩, List.mem_of_getElem? (i := 23) (by decide +kernel), List.mem_of_getElem? (i := 508) (by decide +kernel), List.mem_of_getElem? (i := 509) (by decide +kernel)⟩
theorem lw_p4 : lw_okq (⟨"LoopGround$Reader", "kindOfWord", "()I"⟩, 11) := ⟨⟨by decide +kernel, by decide +kernel⟩, List.mem_of_getElem? (i := 23) (by decide +kernel), List.mem_of_getElem? (i := 514) (by decide +kernel), List.mem_of_getElem? (i := 515) (by decide +kernel)⟩
theorem lw_p5 : lw_okq (⟨"LoopGround$Reader", "readDigits", "()V"⟩, 11) := ⟨⟨by decide +kernel, by decide +kernel⟩, List.mem_of_getElem? (i := 23) (by decide +kernel), List.mem_of_getElem? (i := 526) (by decide +kernel), List.mem_of_getElem? (i := 527) (by decide +kernel)⟩
theorem lw_p6 : lw_okq (⟨"LoopGround$Reader", "readPiece", "()V"⟩, 11) := ⟨⟨by decide +kernel, by decide +kernel⟩, List.mem_of_getElem? (i := 23) (by decide +kernel), List.mem_of_getElem? (i := 530) (by decide +kernel), List.mem_of_getElem? (i := 531) (by decide +kernel)⟩
theorem lw_p7 : lw_okq (⟨"LoopGround$Reader", "refuseToken", "()Z"⟩, 11) := ⟨⟨by decide +kernel, by decide +kernel⟩, List.mem_of_getElem? (i := 23) (by decide +kernel), List.mem_of_getElem? (i := 534) (by decide +kernel), List.mem_of_getElem? (i := 535) (by decide +kernel)⟩
theorem lw_p8 : lw_okq (⟨"LoopGround$Reader", "refuse", "(II)V"⟩, 11) := ⟨⟨by decide +kernel, by decide +kernel⟩, List.mem_of_getElem? (i := 23) (by decide +kernel), List.mem_of_getElem? (i := 538) (by decide +kernel), List.mem_of_getElem? (i := 539) (by decide +kernel)⟩
theorem lw_p9 : lw_okq (⟨"LoopGround$Reader", "readEdge", "(I)Z"⟩, 11) := ⟨⟨by decide +kernel, by decide +kernel⟩, List.mem_of_getElem? (i := 23) (by decide +kernel), List.mem_of_getElem? (i := 542) (by decide +kernel), List.mem_of_getElem? (i := 543) (by decide +kernel)⟩
theorem lw_p10 : lw_okq (⟨"LoopGround$Reader", "pass", "(I)Z"⟩, 11) := ⟨⟨by decide +kernel, by decide +kernel⟩, List.mem_of_getElem? (i := 23) (by decide +kernel), List.mem_of_getElem? (i := 550) (by decide +kernel), List.mem_of_getElem? (i := 551) (by decide +kernel)⟩
theorem lw_p11 : lw_okq (⟨"LoopGround$Reader", "closePieces", "()Z"⟩, 11) := ⟨⟨by decide +kernel, by decide +kernel⟩, List.mem_of_getElem? (i := 23) (by decide +kernel), List.mem_of_getElem? (i := 554) (by decide +kernel), List.mem_of_getElem? (i := 555) (by decide +kernel)⟩
theorem lw_p12 : lw_okq (⟨"LoopGround$Told", "hangsTogether", "()Z"⟩, 17) := ⟨⟨by decide +kernel, by decide +kernel⟩, List.mem_of_getElem? (i := 313) (by decide +kernel), List.mem_of_getElem? (i := 562) (by decide +kernel), List.mem_of_getElem? (i := 563) (by decide +kernel)⟩
theorem lw_p13 : lw_okq (⟨"LoopGround$Told", "numberPoints", "()V"⟩, 17) := ⟨⟨by decide +kernel, by decide +kernel⟩, List.mem_of_getElem? (i := 313) (by decide +kernel), List.mem_of_getElem? (i := 566) (by decide +kernel), List.mem_of_getElem? (i := 567) (by decide +kernel)⟩
theorem lw_p14 : lw_okq (⟨"LoopGround$Reader", "readLoops", "()V"⟩, 11) := ⟨⟨by decide +kernel, by decide +kernel⟩, List.mem_of_getElem? (i := 23) (by decide +kernel), List.mem_of_getElem? (i := 573) (by decide +kernel), List.mem_of_getElem? (i := 574) (by decide +kernel)⟩
theorem lw_p15 : lw_okq (⟨"LoopGround$Reader", "passNewName", "(I)Z"⟩, 11) := ⟨⟨by decide +kernel, by decide +kernel⟩, List.mem_of_getElem? (i := 23) (by decide +kernel), List.mem_of_getElem? (i := 584) (by decide +kernel), List.mem_of_getElem? (i := 585) (by decide +kernel)⟩
def lw_privs_1 : List (MethodName × Nat) := [(⟨"LoopGround", "putBytes", "(I)V"⟩, 19), (⟨"LoopGround$Reader", "readToken", "()V"⟩, 11), (⟨"LoopGround$Reader", "byteAt", "(I)I"⟩, 11), (⟨"LoopGround$Reader", "readLetters", "()V"⟩, 11), (⟨"LoopGround$Reader", "kindOfWord", "()I"⟩, 11), (⟨"LoopGround$Reader", "readDigits", "()V"⟩, 11), (⟨"LoopGround$Reader", "readPiece", "()V"⟩, 11), (⟨"LoopGround$Reader", "refuseToken", "()Z"⟩, 11), (⟨"LoopGround$Reader", "refuse", "(II)V"⟩, 11), (⟨"LoopGround$Reader", "readEdge", "(I)Z"⟩, 11), (⟨"LoopGround$Reader", "pass", "(I)Z"⟩, 11), (⟨"LoopGround$Reader", "closePieces", "()Z"⟩, 11), (⟨"LoopGround$Told", "hangsTogether", "()Z"⟩, 17), (⟨"LoopGround$Told", "numberPoints", "()V"⟩, 17), (⟨"LoopGround$Reader", "readLoops", "()V"⟩, 11), (⟨"LoopGround$Reader", "passNewName", "(I)Z"⟩, 11)]
theorem lw_r1 : ∀ q ∈ lw_privs_1, lw_okq q := List.forall_mem_cons.mpr ⟨lw_p0, List.forall_mem_cons.mpr ⟨lw_p1, List.forall_mem_cons.mpr ⟨lw_p2, List.forall_mem_cons.mpr ⟨lw_p3, List.forall_mem_cons.mpr ⟨lw_p4, List.forall_mem_cons.mpr ⟨lw_p5, List.forall_mem_cons.mpr ⟨lw_p6, List.forall_mem_cons.mpr ⟨lw_p7, List.forall_mem_cons.mpr ⟨lw_p8, List.forall_mem_cons.mpr ⟨lw_p9, List.forall_mem_cons.mpr ⟨lw_p10, List.forall_mem_cons.mpr ⟨lw_p11, List.forall_mem_cons.mpr ⟨lw_p12, List.forall_mem_cons.mpr ⟨lw_p13, List.forall_mem_cons.mpr ⟨lw_p14, List.forall_mem_cons.mpr ⟨lw_p15, fun _ h => absurd h List.not_mem_nil⟩⟩⟩⟩⟩⟩⟩⟩⟩⟩⟩⟩⟩⟩⟩⟩
theorem lw_p16 : lw_okq (⟨"LoopGround$Reader", "readTwists", "()V"⟩, 11) := ⟨⟨by decide +kernel, by decide +kernel⟩, List.mem_of_getElem? (i := 23) (by decide +kernel), List.mem_of_getElem? (i := 597) (by decide +kernel), List.mem_of_getElem? (i := 598) (by decide +kernel)⟩
theorem lw_p17 : lw_okq (⟨"LoopGround$Reader", "readTwist", "(II)Z"⟩, 11) := ⟨⟨by decide +kernel, by decide +kernel⟩, List.mem_of_getElem? (i := 23) (by decide +kernel), List.mem_of_getElem? (i := 605) (by decide +kernel), List.mem_of_getElem? (i := 606) (by decide +kernel)⟩
theorem lw_p18 : lw_okq (⟨"LoopGround$Tracer", "isPassed", "(I)Z"⟩, 14) := ⟨⟨by decide +kernel, by decide +kernel⟩, List.mem_of_getElem? (i := 66) (by decide +kernel), List.mem_of_getElem? (i := 629) (by decide +kernel), List.mem_of_getElem? (i := 630) (by decide +kernel)⟩
theorem lw_p19 : lw_okq (⟨"LoopGround$Tracer", "begin", "(II)V"⟩, 14) := ⟨⟨by decide +kernel, by decide +kernel⟩, List.mem_of_getElem? (i := 66) (by decide +kernel), List.mem_of_getElem? (i := 633) (by decide +kernel), List.mem_of_getElem? (i := 634) (by decide +kernel)⟩
theorem lw_p20 : lw_okq (⟨"LoopGround$Tracer", "closeLoop", "()Z"⟩, 14) := ⟨⟨by decide +kernel, by decide +kernel⟩, List.mem_of_getElem? (i := 66) (by decide +kernel), List.mem_of_getElem? (i := 637) (by decide +kernel), List.mem_of_getElem? (i := 638) (by decide +kernel)⟩
theorem lw_p21 : lw_okq (⟨"LoopGround$Tracer", "strandNumber", "()I"⟩, 14) := ⟨⟨by decide +kernel, by decide +kernel⟩, List.mem_of_getElem? (i := 66) (by decide +kernel), List.mem_of_getElem? (i := 641) (by decide +kernel), List.mem_of_getElem? (i := 642) (by decide +kernel)⟩
theorem lw_p22 : lw_okq (⟨"LoopGround$Tracer", "step", "()V"⟩, 14) := ⟨⟨by decide +kernel, by decide +kernel⟩, List.mem_of_getElem? (i := 66) (by decide +kernel), List.mem_of_getElem? (i := 645) (by decide +kernel), List.mem_of_getElem? (i := 646) (by decide +kernel)⟩
theorem lw_p23 : lw_okq (⟨"LoopGround$Tracer", "countAt", "(I)I"⟩, 14) := ⟨⟨by decide +kernel, by decide +kernel⟩, List.mem_of_getElem? (i := 66) (by decide +kernel), List.mem_of_getElem? (i := 649) (by decide +kernel), List.mem_of_getElem? (i := 650) (by decide +kernel)⟩
theorem lw_p24 : lw_okq (⟨"LoopGround$Tracer", "isBack", "()Z"⟩, 14) := ⟨⟨by decide +kernel, by decide +kernel⟩, List.mem_of_getElem? (i := 66) (by decide +kernel), List.mem_of_getElem? (i := 657) (by decide +kernel), List.mem_of_getElem? (i := 658) (by decide +kernel)⟩
theorem lw_p25 : lw_okq (⟨"LoopGround$Shortener", "findSides", "()V"⟩, 11) := ⟨⟨by decide +kernel, by decide +kernel⟩, List.mem_of_getElem? (i := 125) (by decide +kernel), List.mem_of_getElem? (i := 668) (by decide +kernel), List.mem_of_getElem? (i := 669) (by decide +kernel)⟩
theorem lw_p26 : lw_okq (⟨"LoopGround$Shortener", "shorten", "(LLoopGround$Road;)V"⟩, 11) := ⟨⟨by decide +kernel, by decide +kernel⟩, List.mem_of_getElem? (i := 125) (by decide +kernel), List.mem_of_getElem? (i := 672) (by decide +kernel), List.mem_of_getElem? (i := 673) (by decide +kernel)⟩
theorem lw_p27 : lw_okq (⟨"LoopGround$Shortener", "isShort", "()Z"⟩, 11) := ⟨⟨by decide +kernel, by decide +kernel⟩, List.mem_of_getElem? (i := 125) (by decide +kernel), List.mem_of_getElem? (i := 676) (by decide +kernel), List.mem_of_getElem? (i := 677) (by decide +kernel)⟩
theorem lw_p28 : lw_okq (⟨"LoopGround$Shortener", "firstToFlip", "()I"⟩, 11) := ⟨⟨by decide +kernel, by decide +kernel⟩, List.mem_of_getElem? (i := 125) (by decide +kernel), List.mem_of_getElem? (i := 680) (by decide +kernel), List.mem_of_getElem? (i := 681) (by decide +kernel)⟩
theorem lw_p29 : lw_okq (⟨"LoopGround$Shortener", "lookRound", "(I)V"⟩, 11) := ⟨⟨by decide +kernel, by decide +kernel⟩, List.mem_of_getElem? (i := 125) (by decide +kernel), List.mem_of_getElem? (i := 684) (by decide +kernel), List.mem_of_getElem? (i := 685) (by decide +kernel)⟩
theorem lw_p30 : lw_okq (⟨"LoopGround$Shortener", "turnEdge", "(I)V"⟩, 11) := ⟨⟨by decide +kernel, by decide +kernel⟩, List.mem_of_getElem? (i := 125) (by decide +kernel), List.mem_of_getElem? (i := 693) (by decide +kernel), List.mem_of_getElem? (i := 694) (by decide +kernel)⟩
theorem lw_p31 : lw_okq (⟨"LoopGround$Shortener", "findNeighbours", "(LLoopGround$Road;)V"⟩, 11) := ⟨⟨by decide +kernel, by decide +kernel⟩, List.mem_of_getElem? (i := 125) (by decide +kernel), List.mem_of_getElem? (i := 697) (by decide +kernel), List.mem_of_getElem? (i := 698) (by decide +kernel)⟩
def lw_privs_2 : List (MethodName × Nat) := [(⟨"LoopGround$Reader", "readTwists", "()V"⟩, 11), (⟨"LoopGround$Reader", "readTwist", "(II)Z"⟩, 11), (⟨"LoopGround$Tracer", "isPassed", "(I)Z"⟩, 14), (⟨"LoopGround$Tracer", "begin", "(II)V"⟩, 14), (⟨"LoopGround$Tracer", "closeLoop", "()Z"⟩, 14), (⟨"LoopGround$Tracer", "strandNumber", "()I"⟩, 14), (⟨"LoopGround$Tracer", "step", "()V"⟩, 14), (⟨"LoopGround$Tracer", "countAt", "(I)I"⟩, 14), (⟨"LoopGround$Tracer", "isBack", "()Z"⟩, 14), (⟨"LoopGround$Shortener", "findSides", "()V"⟩, 11), (⟨"LoopGround$Shortener", "shorten", "(LLoopGround$Road;)V"⟩, 11), (⟨"LoopGround$Shortener", "isShort", "()Z"⟩, 11), (⟨"LoopGround$Shortener", "firstToFlip", "()I"⟩, 11), (⟨"LoopGround$Shortener", "lookRound", "(I)V"⟩, 11), (⟨"LoopGround$Shortener", "turnEdge", "(I)V"⟩, 11), (⟨"LoopGround$Shortener", "findNeighbours", "(LLoopGround$Road;)V"⟩, 11)]
theorem lw_r2 : ∀ q ∈ lw_privs_2, lw_okq q := List.forall_mem_cons.mpr ⟨lw_p16, List.forall_mem_cons.mpr ⟨lw_p17, List.forall_mem_cons.mpr ⟨lw_p18, List.forall_mem_cons.mpr ⟨lw_p19, List.forall_mem_cons.mpr ⟨lw_p20, List.forall_mem_cons.mpr ⟨lw_p21, List.forall_mem_cons.mpr ⟨lw_p22, List.forall_mem_cons.mpr ⟨lw_p23, List.forall_mem_cons.mpr ⟨lw_p24, List.forall_mem_cons.mpr ⟨lw_p25, List.forall_mem_cons.mpr ⟨lw_p26, List.forall_mem_cons.mpr ⟨lw_p27, List.forall_mem_cons.mpr ⟨lw_p28, List.forall_mem_cons.mpr ⟨lw_p29, List.forall_mem_cons.mpr ⟨lw_p30, List.forall_mem_cons.mpr ⟨lw_p31, fun _ h => absurd h List.not_mem_nil⟩⟩⟩⟩⟩⟩⟩⟩⟩⟩⟩⟩⟩⟩⟩⟩
theorem lw_p32 : lw_okq (⟨"LoopGround", "numbersOf", "(I)[J"⟩, 19) := ⟨⟨by decide +kernel, by decide +kernel⟩, List.mem_of_getElem? (i := 15) (by decide +kernel), List.mem_of_getElem? (i := 725) (by decide +kernel), List.mem_of_getElem? (i := 726) (by decide +kernel)⟩
theorem lw_p33 : lw_okq (⟨"LoopGround", "isLine", "(I)Z"⟩, 19) := ⟨⟨by decide +kernel, by decide +kernel⟩, List.mem_of_getElem? (i := 15) (by decide +kernel), List.mem_of_getElem? (i := 730) (by decide +kernel), List.mem_of_getElem? (i := 731) (by decide +kernel)⟩
theorem lw_p34 : lw_okq (⟨"LoopGround", "isEdge", "(I)Z"⟩, 19) := ⟨⟨by decide +kernel, by decide +kernel⟩, List.mem_of_getElem? (i := 15) (by decide +kernel), List.mem_of_getElem? (i := 734) (by decide +kernel), List.mem_of_getElem? (i := 735) (by decide +kernel)⟩
theorem lw_p35 : lw_okq (⟨"LoopGround$Tracer", "beginFirst", "()Z"⟩, 14) := ⟨⟨by decide +kernel, by decide +kernel⟩, List.mem_of_getElem? (i := 66) (by decide +kernel), List.mem_of_getElem? (i := 754) (by decide +kernel), List.mem_of_getElem? (i := 755) (by decide +kernel)⟩
theorem lw_p36 : lw_okq (⟨"LoopGround$Mover", "passFlips", "([JLLoopGround$Road;ZLLoopGround$Table;)Z"⟩, 3) := ⟨⟨by decide +kernel, by decide +kernel⟩, List.mem_of_getElem? (i := 119) (by decide +kernel), List.mem_of_getElem? (i := 789) (by decide +kernel), List.mem_of_getElem? (i := 790) (by decide +kernel)⟩
theorem lw_p37 : lw_okq (⟨"LoopGround$Mover", "change", "([JIIIIILLoopGround$Table;)Z"⟩, 3) := ⟨⟨by decide +kernel, by decide +kernel⟩, List.mem_of_getElem? (i := 119) (by decide +kernel), List.mem_of_getElem? (i := 793) (by decide +kernel), List.mem_of_getElem? (i := 794) (by decide +kernel)⟩
theorem lw_p38 : lw_okq (⟨"LoopGround$Tracer", "flowInto", "([I)V"⟩, 14) := ⟨⟨by decide +kernel, by decide +kernel⟩, List.mem_of_getElem? (i := 66) (by decide +kernel), List.mem_of_getElem? (i := 819) (by decide +kernel), List.mem_of_getElem? (i := 820) (by decide +kernel)⟩
theorem lw_p39 : lw_okq (⟨"LoopGround", "leavesAsItIs", "(I[J)Z"⟩, 19) := ⟨⟨by decide +kernel, by decide +kernel⟩, List.mem_of_getElem? (i := 15) (by decide +kernel), List.mem_of_getElem? (i := 832) (by decide +kernel), List.mem_of_getElem? (i := 833) (by decide +kernel)⟩
theorem lw_p40 : lw_okq (⟨"LoopGround$Mover", "exchange", "([JIILLoopGround$Table;)V"⟩, 3) := ⟨⟨by decide +kernel, by decide +kernel⟩, List.mem_of_getElem? (i := 119) (by decide +kernel), List.mem_of_getElem? (i := 847) (by decide +kernel), List.mem_of_getElem? (i := 848) (by decide +kernel)⟩
theorem lw_p41 : lw_okq (⟨"LoopGround", "canStretch", "(II)Z"⟩, 19) := ⟨⟨by decide +kernel, by decide +kernel⟩, List.mem_of_getElem? (i := 15) (by decide +kernel), List.mem_of_getElem? (i := 870) (by decide +kernel), List.mem_of_getElem? (i := 871) (by decide +kernel)⟩
theorem lw_p42 : lw_okq (⟨"LoopGround", "noteTable", "(II)Z"⟩, 19) := ⟨⟨by decide +kernel, by decide +kernel⟩, List.mem_of_getElem? (i := 15) (by decide +kernel), List.mem_of_getElem? (i := 880) (by decide +kernel), List.mem_of_getElem? (i := 881) (by decide +kernel)⟩
theorem lw_p43 : lw_okq (⟨"LoopGround$Table", "setOne", "([[J)V"⟩, 9) := ⟨⟨by decide +kernel, by decide +kernel⟩, List.mem_of_getElem? (i := 277) (by decide +kernel), List.mem_of_getElem? (i := 892) (by decide +kernel), List.mem_of_getElem? (i := 893) (by decide +kernel)⟩
theorem lw_p44 : lw_okq (⟨"LoopGround$Table", "expand", "()V"⟩, 9) := ⟨⟨by decide +kernel, by decide +kernel⟩, List.mem_of_getElem? (i := 277) (by decide +kernel), List.mem_of_getElem? (i := 908) (by decide +kernel), List.mem_of_getElem? (i := 909) (by decide +kernel)⟩
theorem lw_p45 : lw_okq (⟨"LoopGround$Table", "multiplyPower", "()V"⟩, 9) := ⟨⟨by decide +kernel, by decide +kernel⟩, List.mem_of_getElem? (i := 277) (by decide +kernel), List.mem_of_getElem? (i := 912) (by decide +kernel), List.mem_of_getElem? (i := 913) (by decide +kernel)⟩
theorem lw_p46 : lw_okq (⟨"LoopGround$Counter", "countUp", "(I)Z"⟩, 3) := ⟨⟨by decide +kernel, by decide +kernel⟩, List.mem_of_getElem? (i := 214) (by decide +kernel), List.mem_of_getElem? (i := 938) (by decide +kernel), List.mem_of_getElem? (i := 939) (by decide +kernel)⟩
theorem lw_p47 : lw_okq (⟨"LoopGround$Counter", "wrongEdge", "()I"⟩, 3) := ⟨⟨by decide +kernel, by decide +kernel⟩, List.mem_of_getElem? (i := 214) (by decide +kernel), List.mem_of_getElem? (i := 942) (by decide +kernel), List.mem_of_getElem? (i := 943) (by decide +kernel)⟩
def lw_privs_3 : List (MethodName × Nat) := [(⟨"LoopGround", "numbersOf", "(I)[J"⟩, 19), (⟨"LoopGround", "isLine", "(I)Z"⟩, 19), (⟨"LoopGround", "isEdge", "(I)Z"⟩, 19), (⟨"LoopGround$Tracer", "beginFirst", "()Z"⟩, 14), (⟨"LoopGround$Mover", "passFlips", "([JLLoopGround$Road;ZLLoopGround$Table;)Z"⟩, 3), (⟨"LoopGround$Mover", "change", "([JIIIIILLoopGround$Table;)Z"⟩, 3), (⟨"LoopGround$Tracer", "flowInto", "([I)V"⟩, 14), (⟨"LoopGround", "leavesAsItIs", "(I[J)Z"⟩, 19), (⟨"LoopGround$Mover", "exchange", "([JIILLoopGround$Table;)V"⟩, 3), (⟨"LoopGround", "canStretch", "(II)Z"⟩, 19), (⟨"LoopGround", "noteTable", "(II)Z"⟩, 19), (⟨"LoopGround$Table", "setOne", "([[J)V"⟩, 9), (⟨"LoopGround$Table", "expand", "()V"⟩, 9), (⟨"LoopGround$Table", "multiplyPower", "()V"⟩, 9), (⟨"LoopGround$Counter", "countUp", "(I)Z"⟩, 3), (⟨"LoopGround$Counter", "wrongEdge", "()I"⟩, 3)]
theorem lw_r3 : ∀ q ∈ lw_privs_3, lw_okq q := List.forall_mem_cons.mpr ⟨lw_p32, List.forall_mem_cons.mpr ⟨lw_p33, List.forall_mem_cons.mpr ⟨lw_p34, List.forall_mem_cons.mpr ⟨lw_p35, List.forall_mem_cons.mpr ⟨lw_p36, List.forall_mem_cons.mpr ⟨lw_p37, List.forall_mem_cons.mpr ⟨lw_p38, List.forall_mem_cons.mpr ⟨lw_p39, List.forall_mem_cons.mpr ⟨lw_p40, List.forall_mem_cons.mpr ⟨lw_p41, List.forall_mem_cons.mpr ⟨lw_p42, List.forall_mem_cons.mpr ⟨lw_p43, List.forall_mem_cons.mpr ⟨lw_p44, List.forall_mem_cons.mpr ⟨lw_p45, List.forall_mem_cons.mpr ⟨lw_p46, List.forall_mem_cons.mpr ⟨lw_p47, fun _ h => absurd h List.not_mem_nil⟩⟩⟩⟩⟩⟩⟩⟩⟩⟩⟩⟩⟩⟩⟩⟩
theorem lw_p48 : lw_okq (⟨"LoopGround", "hasLoop", "([J)Z"⟩, 19) := ⟨⟨by decide +kernel, by decide +kernel⟩, List.mem_of_getElem? (i := 15) (by decide +kernel), List.mem_of_getElem? (i := 954) (by decide +kernel), List.mem_of_getElem? (i := 955) (by decide +kernel)⟩
theorem lw_p49 : lw_okq (⟨"LoopGround", "act", "(Z)J"⟩, 19) := ⟨⟨by decide +kernel, by decide +kernel⟩, List.mem_of_getElem? (i := 15) (by decide +kernel), List.mem_of_getElem? (i := 976) (by decide +kernel), List.mem_of_getElem? (i := 977) (by decide +kernel)⟩
theorem lw_p50 : lw_okq (⟨"LoopGround$Drawing", "isRoundLine", "()Z"⟩, 5) := ⟨⟨by decide +kernel, by decide +kernel⟩, List.mem_of_getElem? (i := 231) (by decide +kernel), List.mem_of_getElem? (i := 1031) (by decide +kernel), List.mem_of_getElem? (i := 1032) (by decide +kernel)⟩
theorem lw_p51 : lw_okq (⟨"LoopGround$Drawing", "agrees", "(II)Z"⟩, 5) := ⟨⟨by decide +kernel, by decide +kernel⟩, List.mem_of_getElem? (i := 231) (by decide +kernel), List.mem_of_getElem? (i := 1035) (by decide +kernel), List.mem_of_getElem? (i := 1036) (by decide +kernel)⟩
theorem lw_p52 : lw_okq (⟨"LoopGroundModel", "points", "()V"⟩, 81) := ⟨⟨by decide +kernel, by decide +kernel⟩, List.mem_of_getElem? (i := 1052) (by decide +kernel), List.mem_of_getElem? (i := 1059) (by decide +kernel), List.mem_of_getElem? (i := 1060) (by decide +kernel)⟩
theorem lw_p53 : lw_okq (⟨"LoopGroundModel", "four", "(I)V"⟩, 81) := ⟨⟨by decide +kernel, by decide +kernel⟩, List.mem_of_getElem? (i := 1052) (by decide +kernel), List.mem_of_getElem? (i := 1314) (by decide +kernel), List.mem_of_getElem? (i := 1315) (by decide +kernel)⟩
theorem lw_p54 : lw_okq (⟨"LoopGroundModel", "readAll", "()V"⟩, 81) := ⟨⟨by decide +kernel, by decide +kernel⟩, List.mem_of_getElem? (i := 1052) (by decide +kernel), List.mem_of_getElem? (i := 1326) (by decide +kernel), List.mem_of_getElem? (i := 1327) (by decide +kernel)⟩
theorem lw_p55 : lw_okq (⟨"LoopGroundModel", "token", "()V"⟩, 81) := ⟨⟨by decide +kernel, by decide +kernel⟩, List.mem_of_getElem? (i := 1052) (by decide +kernel), List.mem_of_getElem? (i := 1330) (by decide +kernel), List.mem_of_getElem? (i := 1331) (by decide +kernel)⟩
theorem lw_p56 : lw_okq (⟨"LoopGroundModel", "here", "(I)I"⟩, 81) := ⟨⟨by decide +kernel, by decide +kernel⟩, List.mem_of_getElem? (i := 1052) (by decide +kernel), List.mem_of_getElem? (i := 1334) (by decide +kernel), List.mem_of_getElem? (i := 1335) (by decide +kernel)⟩
theorem lw_p57 : lw_okq (⟨"LoopGroundModel", "readLine", "()V"⟩, 81) := ⟨⟨by decide +kernel, by decide +kernel⟩, List.mem_of_getElem? (i := 1052) (by decide +kernel), List.mem_of_getElem? (i := 1344) (by decide +kernel), List.mem_of_getElem? (i := 1345) (by decide +kernel)⟩
theorem lw_p58 : lw_okq (⟨"LoopGroundModel", "isWord", "(J)Z"⟩, 81) := ⟨⟨by decide +kernel, by decide +kernel⟩, List.mem_of_getElem? (i := 1052) (by decide +kernel), List.mem_of_getElem? (i := 1349) (by decide +kernel), List.mem_of_getElem? (i := 1350) (by decide +kernel)⟩
theorem lw_p59 : lw_okq (⟨"LoopGroundModel", "wrong", "(I)V"⟩, 81) := ⟨⟨by decide +kernel, by decide +kernel⟩, List.mem_of_getElem? (i := 1052) (by decide +kernel), List.mem_of_getElem? (i := 1355) (by decide +kernel), List.mem_of_getElem? (i := 1356) (by decide +kernel)⟩
theorem lw_p60 : lw_okq (⟨"LoopGroundModel", "wrongAt", "(II)V"⟩, 81) := ⟨⟨by decide +kernel, by decide +kernel⟩, List.mem_of_getElem? (i := 1052) (by decide +kernel), List.mem_of_getElem? (i := 1359) (by decide +kernel), List.mem_of_getElem? (i := 1360) (by decide +kernel)⟩
theorem lw_p61 : lw_okq (⟨"LoopGroundModel", "isWhole", "()Z"⟩, 81) := ⟨⟨by decide +kernel, by decide +kernel⟩, List.mem_of_getElem? (i := 1052) (by decide +kernel), List.mem_of_getElem? (i := 1363) (by decide +kernel), List.mem_of_getElem? (i := 1364) (by decide +kernel)⟩
theorem lw_p62 : lw_okq (⟨"LoopGroundModel", "nEdges", "()I"⟩, 81) := ⟨⟨by decide +kernel, by decide +kernel⟩, List.mem_of_getElem? (i := 1052) (by decide +kernel), List.mem_of_getElem? (i := 1367) (by decide +kernel), List.mem_of_getElem? (i := 1368) (by decide +kernel)⟩
theorem lw_p63 : lw_okq (⟨"LoopGroundModel", "hangs", "(II)Z"⟩, 81) := ⟨⟨by decide +kernel, by decide +kernel⟩, List.mem_of_getElem? (i := 1052) (by decide +kernel), List.mem_of_getElem? (i := 1371) (by decide +kernel), List.mem_of_getElem? (i := 1372) (by decide +kernel)⟩
def lw_privs_4 : List (MethodName × Nat) := [(⟨"LoopGround", "hasLoop", "([J)Z"⟩, 19), (⟨"LoopGround", "act", "(Z)J"⟩, 19), (⟨"LoopGround$Drawing", "isRoundLine", "()Z"⟩, 5), (⟨"LoopGround$Drawing", "agrees", "(II)Z"⟩, 5), (⟨"LoopGroundModel", "points", "()V"⟩, 81), (⟨"LoopGroundModel", "four", "(I)V"⟩, 81), (⟨"LoopGroundModel", "readAll", "()V"⟩, 81), (⟨"LoopGroundModel", "token", "()V"⟩, 81), (⟨"LoopGroundModel", "here", "(I)I"⟩, 81), (⟨"LoopGroundModel", "readLine", "()V"⟩, 81), (⟨"LoopGroundModel", "isWord", "(J)Z"⟩, 81), (⟨"LoopGroundModel", "wrong", "(I)V"⟩, 81), (⟨"LoopGroundModel", "wrongAt", "(II)V"⟩, 81), (⟨"LoopGroundModel", "isWhole", "()Z"⟩, 81), (⟨"LoopGroundModel", "nEdges", "()I"⟩, 81), (⟨"LoopGroundModel", "hangs", "(II)Z"⟩, 81)]
theorem lw_r4 : ∀ q ∈ lw_privs_4, lw_okq q := List.forall_mem_cons.mpr ⟨lw_p48, List.forall_mem_cons.mpr ⟨lw_p49, List.forall_mem_cons.mpr ⟨lw_p50, List.forall_mem_cons.mpr ⟨lw_p51, List.forall_mem_cons.mpr ⟨lw_p52, List.forall_mem_cons.mpr ⟨lw_p53, List.forall_mem_cons.mpr ⟨lw_p54, List.forall_mem_cons.mpr ⟨lw_p55, List.forall_mem_cons.mpr ⟨lw_p56, List.forall_mem_cons.mpr ⟨lw_p57, List.forall_mem_cons.mpr ⟨lw_p58, List.forall_mem_cons.mpr ⟨lw_p59, List.forall_mem_cons.mpr ⟨lw_p60, List.forall_mem_cons.mpr ⟨lw_p61, List.forall_mem_cons.mpr ⟨lw_p62, List.forall_mem_cons.mpr ⟨lw_p63, fun _ h => absurd h List.not_mem_nil⟩⟩⟩⟩⟩⟩⟩⟩⟩⟩⟩⟩⟩⟩⟩⟩
theorem lw_p64 : lw_okq (⟨"LoopGroundModel", "readPiece", "()V"⟩, 81) := ⟨⟨by decide +kernel, by decide +kernel⟩, List.mem_of_getElem? (i := 1052) (by decide +kernel), List.mem_of_getElem? (i := 1375) (by decide +kernel), List.mem_of_getElem? (i := 1376) (by decide +kernel)⟩
theorem lw_p65 : lw_okq (⟨"LoopGroundModel", "toldNumber", "(II)I"⟩, 81) := ⟨⟨by decide +kernel, by decide +kernel⟩, List.mem_of_getElem? (i := 1052) (by decide +kernel), List.mem_of_getElem? (i := 1379) (by decide +kernel), List.mem_of_getElem? (i := 1380) (by decide +kernel)⟩
theorem lw_p66 : lw_okq (⟨"LoopGroundModel", "readLineOf", "()V"⟩, 81) := ⟨⟨by decide +kernel, by decide +kernel⟩, List.mem_of_getElem? (i := 1052) (by decide +kernel), List.mem_of_getElem? (i := 1383) (by decide +kernel), List.mem_of_getElem? (i := 1384) (by decide +kernel)⟩
theorem lw_p67 : lw_okq (⟨"LoopGroundModel", "isName", "()Z"⟩, 81) := ⟨⟨by decide +kernel, by decide +kernel⟩, List.mem_of_getElem? (i := 1052) (by decide +kernel), List.mem_of_getElem? (i := 1387) (by decide +kernel), List.mem_of_getElem? (i := 1388) (by decide +kernel)⟩
theorem lw_p68 : lw_okq (⟨"LoopGroundModel", "findLine", "()I"⟩, 81) := ⟨⟨by decide +kernel, by decide +kernel⟩, List.mem_of_getElem? (i := 1052) (by decide +kernel), List.mem_of_getElem? (i := 1393) (by decide +kernel), List.mem_of_getElem? (i := 1394) (by decide +kernel)⟩
theorem lw_p69 : lw_okq (⟨"LoopGroundModel", "want", "(J)V"⟩, 81) := ⟨⟨by decide +kernel, by decide +kernel⟩, List.mem_of_getElem? (i := 1052) (by decide +kernel), List.mem_of_getElem? (i := 1397) (by decide +kernel), List.mem_of_getElem? (i := 1398) (by decide +kernel)⟩
theorem lw_p70 : lw_okq (⟨"LoopGroundModel", "nFits", "(I)Z"⟩, 81) := ⟨⟨by decide +kernel, by decide +kernel⟩, List.mem_of_getElem? (i := 1052) (by decide +kernel), List.mem_of_getElem? (i := 1401) (by decide +kernel), List.mem_of_getElem? (i := 1402) (by decide +kernel)⟩
theorem lw_p71 : lw_okq (⟨"LoopGroundModel", "readWordOf", "()V"⟩, 81) := ⟨⟨by decide +kernel, by decide +kernel⟩, List.mem_of_getElem? (i := 1052) (by decide +kernel), List.mem_of_getElem? (i := 1405) (by decide +kernel), List.mem_of_getElem? (i := 1406) (by decide +kernel)⟩
theorem lw_p72 : lw_okq (⟨"LoopGroundModel", "times", "()I"⟩, 81) := ⟨⟨by decide +kernel, by decide +kernel⟩, List.mem_of_getElem? (i := 1052) (by decide +kernel), List.mem_of_getElem? (i := 1409) (by decide +kernel), List.mem_of_getElem? (i := 1410) (by decide +kernel)⟩
theorem lw_p73 : lw_okq (⟨"LoopGroundModel", "layOver", "()V"⟩, 81) := ⟨⟨by decide +kernel, by decide +kernel⟩, List.mem_of_getElem? (i := 1052) (by decide +kernel), List.mem_of_getElem? (i := 1413) (by decide +kernel), List.mem_of_getElem? (i := 1414) (by decide +kernel)⟩
theorem lw_p74 : lw_okq (⟨"LoopGroundModel", "layFlips", "(I)V"⟩, 81) := ⟨⟨by decide +kernel, by decide +kernel⟩, List.mem_of_getElem? (i := 1052) (by decide +kernel), List.mem_of_getElem? (i := 1417) (by decide +kernel), List.mem_of_getElem? (i := 1418) (by decide +kernel)⟩
theorem lw_p75 : lw_okq (⟨"LoopGroundModel", "isSingle", "(I)Z"⟩, 81) := ⟨⟨by decide +kernel, by decide +kernel⟩, List.mem_of_getElem? (i := 1052) (by decide +kernel), List.mem_of_getElem? (i := 1421) (by decide +kernel), List.mem_of_getElem? (i := 1422) (by decide +kernel)⟩
theorem lw_p76 : lw_okq (⟨"LoopGroundModel", "sumOf", "(I)J"⟩, 81) := ⟨⟨by decide +kernel, by decide +kernel⟩, List.mem_of_getElem? (i := 1052) (by decide +kernel), List.mem_of_getElem? (i := 1425) (by decide +kernel), List.mem_of_getElem? (i := 1426) (by decide +kernel)⟩
theorem lw_p77 : lw_okq (⟨"LoopGroundModel", "edges", "()I"⟩, 81) := ⟨⟨by decide +kernel, by decide +kernel⟩, List.mem_of_getElem? (i := 1052) (by decide +kernel), List.mem_of_getElem? (i := 1429) (by decide +kernel), List.mem_of_getElem? (i := 1430) (by decide +kernel)⟩
theorem lw_p78 : lw_okq (⟨"LoopGroundModel", "countLoops", "(I)V"⟩, 81) := ⟨⟨by decide +kernel, by decide +kernel⟩, List.mem_of_getElem? (i := 1052) (by decide +kernel), List.mem_of_getElem? (i := 1437) (by decide +kernel), List.mem_of_getElem? (i := 1438) (by decide +kernel)⟩
theorem lw_p79 : lw_okq (⟨"LoopGroundModel", "layRow", "(I)V"⟩, 81) := ⟨⟨by decide +kernel, by decide +kernel⟩, List.mem_of_getElem? (i := 1052) (by decide +kernel), List.mem_of_getElem? (i := 1441) (by decide +kernel), List.mem_of_getElem? (i := 1442) (by decide +kernel)⟩
def lw_privs_5 : List (MethodName × Nat) := [(⟨"LoopGroundModel", "readPiece", "()V"⟩, 81), (⟨"LoopGroundModel", "toldNumber", "(II)I"⟩, 81), (⟨"LoopGroundModel", "readLineOf", "()V"⟩, 81), (⟨"LoopGroundModel", "isName", "()Z"⟩, 81), (⟨"LoopGroundModel", "findLine", "()I"⟩, 81), (⟨"LoopGroundModel", "want", "(J)V"⟩, 81), (⟨"LoopGroundModel", "nFits", "(I)Z"⟩, 81), (⟨"LoopGroundModel", "readWordOf", "()V"⟩, 81), (⟨"LoopGroundModel", "times", "()I"⟩, 81), (⟨"LoopGroundModel", "layOver", "()V"⟩, 81), (⟨"LoopGroundModel", "layFlips", "(I)V"⟩, 81), (⟨"LoopGroundModel", "isSingle", "(I)Z"⟩, 81), (⟨"LoopGroundModel", "sumOf", "(I)J"⟩, 81), (⟨"LoopGroundModel", "edges", "()I"⟩, 81), (⟨"LoopGroundModel", "countLoops", "(I)V"⟩, 81), (⟨"LoopGroundModel", "layRow", "(I)V"⟩, 81)]
theorem lw_r5 : ∀ q ∈ lw_privs_5, lw_okq q := List.forall_mem_cons.mpr ⟨lw_p64, List.forall_mem_cons.mpr ⟨lw_p65, List.forall_mem_cons.mpr ⟨lw_p66, List.forall_mem_cons.mpr ⟨lw_p67, List.forall_mem_cons.mpr ⟨lw_p68, List.forall_mem_cons.mpr ⟨lw_p69, List.forall_mem_cons.mpr ⟨lw_p70, List.forall_mem_cons.mpr ⟨lw_p71, List.forall_mem_cons.mpr ⟨lw_p72, List.forall_mem_cons.mpr ⟨lw_p73, List.forall_mem_cons.mpr ⟨lw_p74, List.forall_mem_cons.mpr ⟨lw_p75, List.forall_mem_cons.mpr ⟨lw_p76, List.forall_mem_cons.mpr ⟨lw_p77, List.forall_mem_cons.mpr ⟨lw_p78, List.forall_mem_cons.mpr ⟨lw_p79, fun _ h => absurd h List.not_mem_nil⟩⟩⟩⟩⟩⟩⟩⟩⟩⟩⟩⟩⟩⟩⟩⟩
theorem lw_p80 : lw_okq (⟨"LoopGroundModel", "isRing", "(II)Z"⟩, 81) := ⟨⟨by decide +kernel, by decide +kernel⟩, List.mem_of_getElem? (i := 1052) (by decide +kernel), List.mem_of_getElem? (i := 1445) (by decide +kernel), List.mem_of_getElem? (i := 1446) (by decide +kernel)⟩
theorem lw_p81 : lw_okq (⟨"LoopGroundModel", "strand", "()I"⟩, 81) := ⟨⟨by decide +kernel, by decide +kernel⟩, List.mem_of_getElem? (i := 1052) (by decide +kernel), List.mem_of_getElem? (i := 1449) (by decide +kernel), List.mem_of_getElem? (i := 1450) (by decide +kernel)⟩
theorem lw_p82 : lw_okq (⟨"LoopGroundModel", "goOver", "()V"⟩, 81) := ⟨⟨by decide +kernel, by decide +kernel⟩, List.mem_of_getElem? (i := 1052) (by decide +kernel), List.mem_of_getElem? (i := 1453) (by decide +kernel), List.mem_of_getElem? (i := 1454) (by decide +kernel)⟩
theorem lw_p83 : lw_okq (⟨"LoopGroundModel", "on", "(I)I"⟩, 81) := ⟨⟨by decide +kernel, by decide +kernel⟩, List.mem_of_getElem? (i := 1052) (by decide +kernel), List.mem_of_getElem? (i := 1457) (by decide +kernel), List.mem_of_getElem? (i := 1458) (by decide +kernel)⟩
theorem lw_p84 : lw_okq (⟨"LoopGroundModel", "goThrough", "()V"⟩, 81) := ⟨⟨by decide +kernel, by decide +kernel⟩, List.mem_of_getElem? (i := 1052) (by decide +kernel), List.mem_of_getElem? (i := 1461) (by decide +kernel), List.mem_of_getElem? (i := 1462) (by decide +kernel)⟩
theorem lw_p85 : lw_okq (⟨"LoopGroundModel", "round", "(I)I"⟩, 81) := ⟨⟨by decide +kernel, by decide +kernel⟩, List.mem_of_getElem? (i := 1052) (by decide +kernel), List.mem_of_getElem? (i := 1465) (by decide +kernel), List.mem_of_getElem? (i := 1466) (by decide +kernel)⟩
theorem lw_p86 : lw_okq (⟨"LoopGroundModel", "isShort", "()Z"⟩, 81) := ⟨⟨by decide +kernel, by decide +kernel⟩, List.mem_of_getElem? (i := 1052) (by decide +kernel), List.mem_of_getElem? (i := 1469) (by decide +kernel), List.mem_of_getElem? (i := 1470) (by decide +kernel)⟩
theorem lw_p87 : lw_okq (⟨"LoopGroundModel", "shorter", "()I"⟩, 81) := ⟨⟨by decide +kernel, by decide +kernel⟩, List.mem_of_getElem? (i := 1052) (by decide +kernel), List.mem_of_getElem? (i := 1473) (by decide +kernel), List.mem_of_getElem? (i := 1474) (by decide +kernel)⟩
theorem lw_p88 : lw_okq (⟨"LoopGroundModel", "findSides", "(I)Z"⟩, 81) := ⟨⟨by decide +kernel, by decide +kernel⟩, List.mem_of_getElem? (i := 1052) (by decide +kernel), List.mem_of_getElem? (i := 1477) (by decide +kernel), List.mem_of_getElem? (i := 1478) (by decide +kernel)⟩
theorem lw_p89 : lw_okq (⟨"LoopGroundModel", "flipped", "(I)I"⟩, 81) := ⟨⟨by decide +kernel, by decide +kernel⟩, List.mem_of_getElem? (i := 1052) (by decide +kernel), List.mem_of_getElem? (i := 1481) (by decide +kernel), List.mem_of_getElem? (i := 1482) (by decide +kernel)⟩
theorem lw_p90 : lw_okq (⟨"LoopGroundModel", "doFlip", "(II)V"⟩, 81) := ⟨⟨by decide +kernel, by decide +kernel⟩, List.mem_of_getElem? (i := 1052) (by decide +kernel), List.mem_of_getElem? (i := 1485) (by decide +kernel), List.mem_of_getElem? (i := 1486) (by decide +kernel)⟩
theorem lw_p91 : lw_okq (⟨"LoopGroundModel", "layShort", "(I)V"⟩, 81) := ⟨⟨by decide +kernel, by decide +kernel⟩, List.mem_of_getElem? (i := 1052) (by decide +kernel), List.mem_of_getElem? (i := 1489) (by decide +kernel), List.mem_of_getElem? (i := 1490) (by decide +kernel)⟩
theorem lw_p92 : lw_okq (⟨"LoopGroundModel", "isLine", "(I)Z"⟩, 81) := ⟨⟨by decide +kernel, by decide +kernel⟩, List.mem_of_getElem? (i := 1052) (by decide +kernel), List.mem_of_getElem? (i := 1505) (by decide +kernel), List.mem_of_getElem? (i := 1506) (by decide +kernel)⟩
theorem lw_p93 : lw_okq (⟨"LoopGroundModel", "isEdge", "(I)Z"⟩, 81) := ⟨⟨by decide +kernel, by decide +kernel⟩, List.mem_of_getElem? (i := 1052) (by decide +kernel), List.mem_of_getElem? (i := 1509) (by decide +kernel), List.mem_of_getElem? (i := 1510) (by decide +kernel)⟩
theorem lw_p94 : lw_okq (⟨"LoopGroundModel", "trace", "(I)V"⟩, 81) := ⟨⟨by decide +kernel, by decide +kernel⟩, List.mem_of_getElem? (i := 1052) (by decide +kernel), List.mem_of_getElem? (i := 1522) (by decide +kernel), List.mem_of_getElem? (i := 1523) (by decide +kernel)⟩
theorem lw_p95 : lw_okq (⟨"LoopGroundModel", "begin", "(I)V"⟩, 81) := ⟨⟨by decide +kernel, by decide +kernel⟩, List.mem_of_getElem? (i := 1052) (by decide +kernel), List.mem_of_getElem? (i := 1539) (by decide +kernel), List.mem_of_getElem? (i := 1540) (by decide +kernel)⟩
def lw_privs_6 : List (MethodName × Nat) := [(⟨"LoopGroundModel", "isRing", "(II)Z"⟩, 81), (⟨"LoopGroundModel", "strand", "()I"⟩, 81), (⟨"LoopGroundModel", "goOver", "()V"⟩, 81), (⟨"LoopGroundModel", "on", "(I)I"⟩, 81), (⟨"LoopGroundModel", "goThrough", "()V"⟩, 81), (⟨"LoopGroundModel", "round", "(I)I"⟩, 81), (⟨"LoopGroundModel", "isShort", "()Z"⟩, 81), (⟨"LoopGroundModel", "shorter", "()I"⟩, 81), (⟨"LoopGroundModel", "findSides", "(I)Z"⟩, 81), (⟨"LoopGroundModel", "flipped", "(I)I"⟩, 81), (⟨"LoopGroundModel", "doFlip", "(II)V"⟩, 81), (⟨"LoopGroundModel", "layShort", "(I)V"⟩, 81), (⟨"LoopGroundModel", "isLine", "(I)Z"⟩, 81), (⟨"LoopGroundModel", "isEdge", "(I)Z"⟩, 81), (⟨"LoopGroundModel", "trace", "(I)V"⟩, 81), (⟨"LoopGroundModel", "begin", "(I)V"⟩, 81)]
theorem lw_r6 : ∀ q ∈ lw_privs_6, lw_okq q := List.forall_mem_cons.mpr ⟨lw_p80, List.forall_mem_cons.mpr ⟨lw_p81, List.forall_mem_cons.mpr ⟨lw_p82, List.forall_mem_cons.mpr ⟨lw_p83, List.forall_mem_cons.mpr ⟨lw_p84, List.forall_mem_cons.mpr ⟨lw_p85, List.forall_mem_cons.mpr ⟨lw_p86, List.forall_mem_cons.mpr ⟨lw_p87, List.forall_mem_cons.mpr ⟨lw_p88, List.forall_mem_cons.mpr ⟨lw_p89, List.forall_mem_cons.mpr ⟨lw_p90, List.forall_mem_cons.mpr ⟨lw_p91, List.forall_mem_cons.mpr ⟨lw_p92, List.forall_mem_cons.mpr ⟨lw_p93, List.forall_mem_cons.mpr ⟨lw_p94, List.forall_mem_cons.mpr ⟨lw_p95, fun _ h => absurd h List.not_mem_nil⟩⟩⟩⟩⟩⟩⟩⟩⟩⟩⟩⟩⟩⟩⟩⟩
theorem lw_p96 : lw_okq (⟨"LoopGroundModel", "goFlips", "(I)V"⟩, 81) := ⟨⟨by decide +kernel, by decide +kernel⟩, List.mem_of_getElem? (i := 1052) (by decide +kernel), List.mem_of_getElem? (i := 1543) (by decide +kernel), List.mem_of_getElem? (i := 1544) (by decide +kernel)⟩
theorem lw_p97 : lw_okq (⟨"LoopGroundModel", "goFlip", "(I)V"⟩, 81) := ⟨⟨by decide +kernel, by decide +kernel⟩, List.mem_of_getElem? (i := 1052) (by decide +kernel), List.mem_of_getElem? (i := 1547) (by decide +kernel), List.mem_of_getElem? (i := 1548) (by decide +kernel)⟩
theorem lw_p98 : lw_okq (⟨"LoopGroundModel", "greater", "(IIIIII)V"⟩, 81) := ⟨⟨by decide +kernel, by decide +kernel⟩, List.mem_of_getElem? (i := 1052) (by decide +kernel), List.mem_of_getElem? (i := 1551) (by decide +kernel), List.mem_of_getElem? (i := 1552) (by decide +kernel)⟩
theorem lw_p99 : lw_okq (⟨"LoopGroundModel", "take", "(IZIIIII)V"⟩, 81) := ⟨⟨by decide +kernel, by decide +kernel⟩, List.mem_of_getElem? (i := 1052) (by decide +kernel), List.mem_of_getElem? (i := 1555) (by decide +kernel), List.mem_of_getElem? (i := 1556) (by decide +kernel)⟩
theorem lw_p100 : lw_okq (⟨"LoopGroundModel", "layOuts", "(II)V"⟩, 81) := ⟨⟨by decide +kernel, by decide +kernel⟩, List.mem_of_getElem? (i := 1052) (by decide +kernel), List.mem_of_getElem? (i := 1569) (by decide +kernel), List.mem_of_getElem? (i := 1570) (by decide +kernel)⟩
theorem lw_p101 : lw_okq (⟨"LoopGroundModel", "isFairWord", "(I)Z"⟩, 81) := ⟨⟨by decide +kernel, by decide +kernel⟩, List.mem_of_getElem? (i := 1052) (by decide +kernel), List.mem_of_getElem? (i := 1577) (by decide +kernel), List.mem_of_getElem? (i := 1578) (by decide +kernel)⟩
theorem lw_p102 : lw_okq (⟨"LoopGroundModel", "isWordOf", "(I)Z"⟩, 81) := ⟨⟨by decide +kernel, by decide +kernel⟩, List.mem_of_getElem? (i := 1052) (by decide +kernel), List.mem_of_getElem? (i := 1581) (by decide +kernel), List.mem_of_getElem? (i := 1582) (by decide +kernel)⟩
theorem lw_p103 : lw_okq (⟨"LoopGroundModel", "goWord", "(I)V"⟩, 81) := ⟨⟨by decide +kernel, by decide +kernel⟩, List.mem_of_getElem? (i := 1052) (by decide +kernel), List.mem_of_getElem? (i := 1585) (by decide +kernel), List.mem_of_getElem? (i := 1586) (by decide +kernel)⟩
theorem lw_p104 : lw_okq (⟨"LoopGroundModel", "goTwist", "(II)V"⟩, 81) := ⟨⟨by decide +kernel, by decide +kernel⟩, List.mem_of_getElem? (i := 1052) (by decide +kernel), List.mem_of_getElem? (i := 1589) (by decide +kernel), List.mem_of_getElem? (i := 1590) (by decide +kernel)⟩
theorem lw_p105 : lw_okq (⟨"LoopGroundModel", "turnOnce", "(III)V"⟩, 81) := ⟨⟨by decide +kernel, by decide +kernel⟩, List.mem_of_getElem? (i := 1052) (by decide +kernel), List.mem_of_getElem? (i := 1593) (by decide +kernel), List.mem_of_getElem? (i := 1594) (by decide +kernel)⟩
theorem lw_p106 : lw_okq (⟨"LoopGroundModel", "goBack", "(I)V"⟩, 81) := ⟨⟨by decide +kernel, by decide +kernel⟩, List.mem_of_getElem? (i := 1052) (by decide +kernel), List.mem_of_getElem? (i := 1597) (by decide +kernel), List.mem_of_getElem? (i := 1598) (by decide +kernel)⟩
theorem lw_p107 : lw_okq (⟨"LoopGroundModel", "isAsWas", "(I)Z"⟩, 81) := ⟨⟨by decide +kernel, by decide +kernel⟩, List.mem_of_getElem? (i := 1052) (by decide +kernel), List.mem_of_getElem? (i := 1601) (by decide +kernel), List.mem_of_getElem? (i := 1602) (by decide +kernel)⟩
theorem lw_p108 : lw_okq (⟨"LoopGroundModel", "goOn", "(II)Z"⟩, 81) := ⟨⟨by decide +kernel, by decide +kernel⟩, List.mem_of_getElem? (i := 1052) (by decide +kernel), List.mem_of_getElem? (i := 1613) (by decide +kernel), List.mem_of_getElem? (i := 1614) (by decide +kernel)⟩
theorem lw_p109 : lw_okq (⟨"LoopGroundModel", "allOf", "()J"⟩, 81) := ⟨⟨by decide +kernel, by decide +kernel⟩, List.mem_of_getElem? (i := 1052) (by decide +kernel), List.mem_of_getElem? (i := 1621) (by decide +kernel), List.mem_of_getElem? (i := 1622) (by decide +kernel)⟩
theorem lw_p110 : lw_okq (⟨"LoopGroundModel", "layTable", "(II)Z"⟩, 81) := ⟨⟨by decide +kernel, by decide +kernel⟩, List.mem_of_getElem? (i := 1052) (by decide +kernel), List.mem_of_getElem? (i := 1630) (by decide +kernel), List.mem_of_getElem? (i := 1631) (by decide +kernel)⟩
theorem lw_p111 : lw_okq (⟨"LoopGroundModel", "layPolynomial", "()V"⟩, 81) := ⟨⟨by decide +kernel, by decide +kernel⟩, List.mem_of_getElem? (i := 1052) (by decide +kernel), List.mem_of_getElem? (i := 1638) (by decide +kernel), List.mem_of_getElem? (i := 1639) (by decide +kernel)⟩
def lw_privs_7 : List (MethodName × Nat) := [(⟨"LoopGroundModel", "goFlips", "(I)V"⟩, 81), (⟨"LoopGroundModel", "goFlip", "(I)V"⟩, 81), (⟨"LoopGroundModel", "greater", "(IIIIII)V"⟩, 81), (⟨"LoopGroundModel", "take", "(IZIIIII)V"⟩, 81), (⟨"LoopGroundModel", "layOuts", "(II)V"⟩, 81), (⟨"LoopGroundModel", "isFairWord", "(I)Z"⟩, 81), (⟨"LoopGroundModel", "isWordOf", "(I)Z"⟩, 81), (⟨"LoopGroundModel", "goWord", "(I)V"⟩, 81), (⟨"LoopGroundModel", "goTwist", "(II)V"⟩, 81), (⟨"LoopGroundModel", "turnOnce", "(III)V"⟩, 81), (⟨"LoopGroundModel", "goBack", "(I)V"⟩, 81), (⟨"LoopGroundModel", "isAsWas", "(I)Z"⟩, 81), (⟨"LoopGroundModel", "goOn", "(II)Z"⟩, 81), (⟨"LoopGroundModel", "allOf", "()J"⟩, 81), (⟨"LoopGroundModel", "layTable", "(II)Z"⟩, 81), (⟨"LoopGroundModel", "layPolynomial", "()V"⟩, 81)]
theorem lw_r7 : ∀ q ∈ lw_privs_7, lw_okq q := List.forall_mem_cons.mpr ⟨lw_p96, List.forall_mem_cons.mpr ⟨lw_p97, List.forall_mem_cons.mpr ⟨lw_p98, List.forall_mem_cons.mpr ⟨lw_p99, List.forall_mem_cons.mpr ⟨lw_p100, List.forall_mem_cons.mpr ⟨lw_p101, List.forall_mem_cons.mpr ⟨lw_p102, List.forall_mem_cons.mpr ⟨lw_p103, List.forall_mem_cons.mpr ⟨lw_p104, List.forall_mem_cons.mpr ⟨lw_p105, List.forall_mem_cons.mpr ⟨lw_p106, List.forall_mem_cons.mpr ⟨lw_p107, List.forall_mem_cons.mpr ⟨lw_p108, List.forall_mem_cons.mpr ⟨lw_p109, List.forall_mem_cons.mpr ⟨lw_p110, List.forall_mem_cons.mpr ⟨lw_p111, fun _ h => absurd h List.not_mem_nil⟩⟩⟩⟩⟩⟩⟩⟩⟩⟩⟩⟩⟩⟩⟩⟩
theorem lw_p112 : lw_okq (⟨"LoopGroundModel", "timesTable", "()V"⟩, 81) := ⟨⟨by decide +kernel, by decide +kernel⟩, List.mem_of_getElem? (i := 1052) (by decide +kernel), List.mem_of_getElem? (i := 1642) (by decide +kernel), List.mem_of_getElem? (i := 1643) (by decide +kernel)⟩
theorem lw_p113 : lw_okq (⟨"LoopGroundModel", "triedFits", "()Z"⟩, 81) := ⟨⟨by decide +kernel, by decide +kernel⟩, List.mem_of_getElem? (i := 1052) (by decide +kernel), List.mem_of_getElem? (i := 1655) (by decide +kernel), List.mem_of_getElem? (i := 1656) (by decide +kernel)⟩
theorem lw_p114 : lw_okq (⟨"LoopGroundModel", "hasLoop", "()Z"⟩, 81) := ⟨⟨by decide +kernel, by decide +kernel⟩, List.mem_of_getElem? (i := 1052) (by decide +kernel), List.mem_of_getElem? (i := 1659) (by decide +kernel), List.mem_of_getElem? (i := 1660) (by decide +kernel)⟩
theorem lw_p115 : lw_okq (⟨"LoopGroundModel", "isLeft", "(I)Z"⟩, 81) := ⟨⟨by decide +kernel, by decide +kernel⟩, List.mem_of_getElem? (i := 1052) (by decide +kernel), List.mem_of_getElem? (i := 1663) (by decide +kernel), List.mem_of_getElem? (i := 1664) (by decide +kernel)⟩
theorem lw_p116 : lw_okq (⟨"LoopGroundModel", "putDown", "()V"⟩, 81) := ⟨⟨by decide +kernel, by decide +kernel⟩, List.mem_of_getElem? (i := 1052) (by decide +kernel), List.mem_of_getElem? (i := 1667) (by decide +kernel), List.mem_of_getElem? (i := 1668) (by decide +kernel)⟩
theorem lw_p117 : lw_okq (⟨"LoopGroundModel", "lainAll", "()I"⟩, 81) := ⟨⟨by decide +kernel, by decide +kernel⟩, List.mem_of_getElem? (i := 1052) (by decide +kernel), List.mem_of_getElem? (i := 1671) (by decide +kernel), List.mem_of_getElem? (i := 1672) (by decide +kernel)⟩
theorem lw_p118 : lw_okq (⟨"LoopGroundModel", "nextTried", "(I)Z"⟩, 81) := ⟨⟨by decide +kernel, by decide +kernel⟩, List.mem_of_getElem? (i := 1052) (by decide +kernel), List.mem_of_getElem? (i := 1675) (by decide +kernel), List.mem_of_getElem? (i := 1676) (by decide +kernel)⟩
theorem lw_p119 : lw_okq (⟨"LoopGroundModel", "act", "()J"⟩, 81) := ⟨⟨by decide +kernel, by decide +kernel⟩, List.mem_of_getElem? (i := 1052) (by decide +kernel), List.mem_of_getElem? (i := 1687) (by decide +kernel), List.mem_of_getElem? (i := 1688) (by decide +kernel)⟩
theorem lw_p120 : lw_okq (⟨"LoopGroundModel", "shiftOut", "()V"⟩, 81) := ⟨⟨by decide +kernel, by decide +kernel⟩, List.mem_of_getElem? (i := 1052) (by decide +kernel), List.mem_of_getElem? (i := 1691) (by decide +kernel), List.mem_of_getElem? (i := 1692) (by decide +kernel)⟩
theorem lw_p121 : lw_okq (⟨"LoopGroundModel", "nowAll", "()J"⟩, 81) := ⟨⟨by decide +kernel, by decide +kernel⟩, List.mem_of_getElem? (i := 1052) (by decide +kernel), List.mem_of_getElem? (i := 1695) (by decide +kernel), List.mem_of_getElem? (i := 1696) (by decide +kernel)⟩
theorem lw_p122 : lw_okq (⟨"LoopGroundModel", "exchange", "(I)V"⟩, 81) := ⟨⟨by decide +kernel, by decide +kernel⟩, List.mem_of_getElem? (i := 1052) (by decide +kernel), List.mem_of_getElem? (i := 1711) (by decide +kernel), List.mem_of_getElem? (i := 1712) (by decide +kernel)⟩
theorem lw_p123 : lw_okq (⟨"LoopGroundModel", "readSketch", "(I)Z"⟩, 81) := ⟨⟨by decide +kernel, by decide +kernel⟩, List.mem_of_getElem? (i := 1052) (by decide +kernel), List.mem_of_getElem? (i := 1723) (by decide +kernel), List.mem_of_getElem? (i := 1724) (by decide +kernel)⟩
theorem lw_p124 : lw_okq (⟨"LoopGroundModel", "sideIn", "(II)I"⟩, 81) := ⟨⟨by decide +kernel, by decide +kernel⟩, List.mem_of_getElem? (i := 1052) (by decide +kernel), List.mem_of_getElem? (i := 1727) (by decide +kernel), List.mem_of_getElem? (i := 1728) (by decide +kernel)⟩
theorem lw_p125 : lw_okq (⟨"LoopGroundModel", "leaveOut", "()V"⟩, 81) := ⟨⟨by decide +kernel, by decide +kernel⟩, List.mem_of_getElem? (i := 1052) (by decide +kernel), List.mem_of_getElem? (i := 1731) (by decide +kernel), List.mem_of_getElem? (i := 1732) (by decide +kernel)⟩
theorem lw_p126 : lw_okq (⟨"LoopGroundModel", "isTrue", "()Z"⟩, 81) := ⟨⟨by decide +kernel, by decide +kernel⟩, List.mem_of_getElem? (i := 1052) (by decide +kernel), List.mem_of_getElem? (i := 1735) (by decide +kernel), List.mem_of_getElem? (i := 1736) (by decide +kernel)⟩
theorem lw_p127 : lw_okq (⟨"LoopGroundModel", "isPath", "(IZ)Z"⟩, 81) := ⟨⟨by decide +kernel, by decide +kernel⟩, List.mem_of_getElem? (i := 1052) (by decide +kernel), List.mem_of_getElem? (i := 1739) (by decide +kernel), List.mem_of_getElem? (i := 1740) (by decide +kernel)⟩
def lw_privs_8 : List (MethodName × Nat) := [(⟨"LoopGroundModel", "timesTable", "()V"⟩, 81), (⟨"LoopGroundModel", "triedFits", "()Z"⟩, 81), (⟨"LoopGroundModel", "hasLoop", "()Z"⟩, 81), (⟨"LoopGroundModel", "isLeft", "(I)Z"⟩, 81), (⟨"LoopGroundModel", "putDown", "()V"⟩, 81), (⟨"LoopGroundModel", "lainAll", "()I"⟩, 81), (⟨"LoopGroundModel", "nextTried", "(I)Z"⟩, 81), (⟨"LoopGroundModel", "act", "()J"⟩, 81), (⟨"LoopGroundModel", "shiftOut", "()V"⟩, 81), (⟨"LoopGroundModel", "nowAll", "()J"⟩, 81), (⟨"LoopGroundModel", "exchange", "(I)V"⟩, 81), (⟨"LoopGroundModel", "readSketch", "(I)Z"⟩, 81), (⟨"LoopGroundModel", "sideIn", "(II)I"⟩, 81), (⟨"LoopGroundModel", "leaveOut", "()V"⟩, 81), (⟨"LoopGroundModel", "isTrue", "()Z"⟩, 81), (⟨"LoopGroundModel", "isPath", "(IZ)Z"⟩, 81)]
theorem lw_r8 : ∀ q ∈ lw_privs_8, lw_okq q := List.forall_mem_cons.mpr ⟨lw_p112, List.forall_mem_cons.mpr ⟨lw_p113, List.forall_mem_cons.mpr ⟨lw_p114, List.forall_mem_cons.mpr ⟨lw_p115, List.forall_mem_cons.mpr ⟨lw_p116, List.forall_mem_cons.mpr ⟨lw_p117, List.forall_mem_cons.mpr ⟨lw_p118, List.forall_mem_cons.mpr ⟨lw_p119, List.forall_mem_cons.mpr ⟨lw_p120, List.forall_mem_cons.mpr ⟨lw_p121, List.forall_mem_cons.mpr ⟨lw_p122, List.forall_mem_cons.mpr ⟨lw_p123, List.forall_mem_cons.mpr ⟨lw_p124, List.forall_mem_cons.mpr ⟨lw_p125, List.forall_mem_cons.mpr ⟨lw_p126, List.forall_mem_cons.mpr ⟨lw_p127, fun _ h => absurd h List.not_mem_nil⟩⟩⟩⟩⟩⟩⟩⟩⟩⟩⟩⟩⟩⟩⟩⟩
def lw_privs : List (MethodName × Nat) := lw_privs_1 ++ (lw_privs_2 ++ (lw_privs_3 ++ (lw_privs_4 ++ (lw_privs_5 ++ (lw_privs_6 ++ (lw_privs_7 ++ (lw_privs_8)))))))
def lw_tbl : List Cond := k2_sels lw_privs ++ tables_1
theorem lw_privs_ok : ∀ q ∈ lw_privs, lw_okq q := by
  show ∀ q ∈ lw_privs_1 ++ (lw_privs_2 ++ (lw_privs_3 ++ (lw_privs_4 ++ (lw_privs_5 ++ (lw_privs_6 ++ (lw_privs_7 ++ (lw_privs_8))))))), lw_okq q
  exact List.forall_mem_append.mpr ⟨lw_r1, List.forall_mem_append.mpr ⟨lw_r2, List.forall_mem_append.mpr ⟨lw_r3, List.forall_mem_append.mpr ⟨lw_r4, List.forall_mem_append.mpr ⟨lw_r5, List.forall_mem_append.mpr ⟨lw_r6, List.forall_mem_append.mpr ⟨lw_r7, lw_r8⟩⟩⟩⟩⟩⟩⟩
end
section
/-! names of the program: classes, fields, methods (as the task's names have them), by program -/
def RX0 : String := "LoopGround$Acts"
def TX0 : u_T := fun k => match k with
  | 0 => ("LoopGround$Acts", "done", "I", false)
  | 1 => ("LoopGround$Acts", "ahead", "I", false)
  | 2 => ("LoopGround$Acts", "oldest", "I", false)
  | _ => ("LoopGround$Acts", "states", "[[J", true)
def tyX0 : Nat → FieldType := fun k => match k with
  | 0 => .int
  | 1 => .int
  | 2 => .int
  | _ => .array (.array .long)
theorem nmX0 : ∀ a, a < 4 → ∀ b, b < 4 → a ≠ b → (TX0 a).2.1 ≠ (TX0 b).2.1 := by decide +kernel
theorem tyX0_ok : ∀ k, k < 4 → parseFieldDescriptor (TX0 k).2.2.1 = some (tyX0 k) := by decide +kernel
abbrev cX0_init : ByteArray := prog_2_method_1_code
def yX0_init : MethodName := ⟨RX0, "<init>", "()V"⟩
abbrev cX0_now : ByteArray := prog_2_method_2_code
def yX0_now : MethodName := ⟨RX0, "now", "()[J"⟩
abbrev cX0_keep : ByteArray := prog_2_method_3_code
def yX0_keep : MethodName := ⟨RX0, "keep", "([J)V"⟩
abbrev cX0_clearTo : ByteArray := prog_2_method_4_code
def yX0_clearTo : MethodName := ⟨RX0, "clearTo", "([J)V"⟩
abbrev cX0_stepBack : ByteArray := prog_2_method_5_code
def yX0_stepBack : MethodName := ⟨RX0, "stepBack", "()Z"⟩
abbrev cX0_stepOn : ByteArray := prog_2_method_6_code
def yX0_stepOn : MethodName := ⟨RX0, "stepOn", "()Z"⟩
def RX1 : String := "LoopGround$Counter"
def TX1 : u_T := fun k => match k with
  | 0 => ("LoopGround$Counter", "numbers", "[J", true)
  | 1 => ("LoopGround$Counter", "told", "LLoopGround$Told;", false)
  | _ => ("LoopGround$Counter", "most", "I", false)
def tyX1 : Nat → FieldType := fun k => match k with
  | 0 => .array .long
  | 1 => .object "LoopGround$Told"
  | _ => .int
theorem nmX1 : ∀ a, a < 3 → ∀ b, b < 3 → a ≠ b → (TX1 a).2.1 ≠ (TX1 b).2.1 := by decide +kernel
theorem tyX1_ok : ∀ k, k < 3 → parseFieldDescriptor (TX1 k).2.2.1 = some (tyX1 k) := by decide +kernel
abbrev cX1_init : ByteArray := prog_3_method_1_code
def yX1_init : MethodName := ⟨RX1, "<init>", "()V"⟩
abbrev cX1_begin : ByteArray := prog_3_method_2_code
def yX1_begin : MethodName := ⟨RX1, "begin", "(LLoopGround$Told;I)Z"⟩
abbrev cX1_nextFit : ByteArray := prog_3_method_3_code
def yX1_nextFit : MethodName := ⟨RX1, "nextFit", "()Z"⟩
abbrev cX1_wrongEdge : ByteArray := prog_3_method_4_code
def yX1_wrongEdge : MethodName := ⟨RX1, "wrongEdge", "()I"⟩
abbrev cX1_countUp : ByteArray := prog_3_method_5_code
def yX1_countUp : MethodName := ⟨RX1, "countUp", "(I)Z"⟩
def RX2 : String := "LoopGround$Drawing"
def TX2 : u_T := fun k => match k with
  | 0 => ("LoopGround$Drawing", "numbers", "[J", true)
  | 1 => ("LoopGround$Drawing", "crossed", "[I", true)
  | 2 => ("LoopGround$Drawing", "line", "[I", true)
  | 3 => ("LoopGround$Drawing", "from", "I", false)
  | _ => ("LoopGround$Drawing", "to", "I", false)
def tyX2 : Nat → FieldType := fun k => match k with
  | 0 => .array .long
  | 1 => .array .int
  | 2 => .array .int
  | 3 => .int
  | _ => .int
theorem nmX2 : ∀ a, a < 5 → ∀ b, b < 5 → a ≠ b → (TX2 a).2.1 ≠ (TX2 b).2.1 := by decide +kernel
theorem tyX2_ok : ∀ k, k < 5 → parseFieldDescriptor (TX2 k).2.2.1 = some (tyX2 k) := by decide +kernel
abbrev cX2_init : ByteArray := prog_4_method_1_code
def yX2_init : MethodName := ⟨RX2, "<init>", "()V"⟩
abbrev cX2_walk : ByteArray := prog_4_method_2_code
def yX2_walk : MethodName := ⟨RX2, "walk", "(LLoopGround$Told;[BI)Z"⟩
abbrev cX2_slotOf : ByteArray := prog_4_method_3_code
def yX2_slotOf : MethodName := ⟨RX2, "slotOf", "(LLoopGround$Told;II)I"⟩
abbrev cX2_leaveOut : ByteArray := prog_4_method_4_code
def yX2_leaveOut : MethodName := ⟨RX2, "leaveOut", "(LLoopGround$Told;)V"⟩
abbrev cX2_left : ByteArray := prog_4_method_5_code
def yX2_left : MethodName := ⟨RX2, "left", "()I"⟩
abbrev cX2_isTrue : ByteArray := prog_4_method_6_code
def yX2_isTrue : MethodName := ⟨RX2, "isTrue", "(LLoopGround$Told;LLoopGround$Tracer;)Z"⟩
abbrev cX2_isRoundLine : ByteArray := prog_4_method_7_code
def yX2_isRoundLine : MethodName := ⟨RX2, "isRoundLine", "()Z"⟩
abbrev cX2_agrees : ByteArray := prog_4_method_8_code
def yX2_agrees : MethodName := ⟨RX2, "agrees", "(II)Z"⟩
def RX3 : String := "LoopGround$Mover"
def TX3 : u_T := fun k => match k with
  | 0 => ("LoopGround$Mover", "shortener", "LLoopGround$Shortener;", true)
  | 1 => ("LoopGround$Mover", "roads", "[LLoopGround$Road;", true)
  | _ => ("LoopGround$Mover", "told", "LLoopGround$Told;", false)
def tyX3 : Nat → FieldType := fun k => match k with
  | 0 => .object "LoopGround$Shortener"
  | 1 => .array (.object "LoopGround$Road")
  | _ => .object "LoopGround$Told"
theorem nmX3 : ∀ a, a < 3 → ∀ b, b < 3 → a ≠ b → (TX3 a).2.1 ≠ (TX3 b).2.1 := by decide +kernel
theorem tyX3_ok : ∀ k, k < 3 → parseFieldDescriptor (TX3 k).2.2.1 = some (tyX3 k) := by decide +kernel
abbrev cX3_init : ByteArray := prog_5_method_1_code
def yX3_init : MethodName := ⟨RX3, "<init>", "()V"⟩
abbrev cX3_settle : ByteArray := prog_5_method_2_code
def yX3_settle : MethodName := ⟨RX3, "settle", "(LLoopGround$Told;LLoopGround$Tracer;)V"⟩
abbrev cX3_roadOf : ByteArray := prog_5_method_3_code
def yX3_roadOf : MethodName := ⟨RX3, "roadOf", "(I)LLoopGround$Road;"⟩
abbrev cX3_isFairLine : ByteArray := prog_5_method_4_code
def yX3_isFairLine : MethodName := ⟨RX3, "isFairLine", "(I)Z"⟩
abbrev cX3_isFairWord : ByteArray := prog_5_method_5_code
def yX3_isFairWord : MethodName := ⟨RX3, "isFairWord", "(I)Z"⟩
abbrev cX3_leastCrossings : ByteArray := prog_5_method_6_code
def yX3_leastCrossings : MethodName := ⟨RX3, "leastCrossings", "([JI)J"⟩
abbrev cX3_goThrough : ByteArray := prog_5_method_7_code
def yX3_goThrough : MethodName := ⟨RX3, "goThrough", "([JILLoopGround$Table;)Z"⟩
abbrev cX3_twistAlong : ByteArray := prog_5_method_8_code
def yX3_twistAlong : MethodName := ⟨RX3, "twistAlong", "([JIILLoopGround$Table;)Z"⟩
abbrev cX3_passFlips : ByteArray := prog_5_method_9_code
def yX3_passFlips : MethodName := ⟨RX3, "passFlips", "([JLLoopGround$Road;ZLLoopGround$Table;)Z"⟩
abbrev cX3_change : ByteArray := prog_5_method_10_code
def yX3_change : MethodName := ⟨RX3, "change", "([JIIIIILLoopGround$Table;)Z"⟩
abbrev cX3_exchange : ByteArray := prog_5_method_11_code
def yX3_exchange : MethodName := ⟨RX3, "exchange", "([JIILLoopGround$Table;)V"⟩
def RX4 : String := "LoopGround$Reader"
def TX4 : u_T := fun k => match k with
  | 0 => ("LoopGround$Reader", "faultKind", "I", false)
  | 1 => ("LoopGround$Reader", "faultPlace", "I", false)
  | 2 => ("LoopGround$Reader", "text", "[B", false)
  | 3 => ("LoopGround$Reader", "length", "I", false)
  | 4 => ("LoopGround$Reader", "into", "LLoopGround$Told;", false)
  | 5 => ("LoopGround$Reader", "piecesClosed", "Z", false)
  | 6 => ("LoopGround$Reader", "at", "I", false)
  | 7 => ("LoopGround$Reader", "kind", "I", false)
  | 8 => ("LoopGround$Reader", "start", "I", false)
  | 9 => ("LoopGround$Reader", "number", "I", false)
  | _ => ("LoopGround$Reader", "letters", "J", false)
def tyX4 : Nat → FieldType := fun k => match k with
  | 0 => .int
  | 1 => .int
  | 2 => .array .byte
  | 3 => .int
  | 4 => .object "LoopGround$Told"
  | 5 => .boolean
  | 6 => .int
  | 7 => .int
  | 8 => .int
  | 9 => .int
  | _ => .long
theorem nmX4 : ∀ a, a < 11 → ∀ b, b < 11 → a ≠ b → (TX4 a).2.1 ≠ (TX4 b).2.1 := by decide +kernel
theorem tyX4_ok : ∀ k, k < 11 → parseFieldDescriptor (TX4 k).2.2.1 = some (tyX4 k) := by decide +kernel
abbrev cX4_init : ByteArray := prog_6_method_1_code
def yX4_init : MethodName := ⟨RX4, "<init>", "()V"⟩
abbrev cX4_readGround : ByteArray := prog_6_method_2_code
def yX4_readGround : MethodName := ⟨RX4, "readGround", "([BILLoopGround$Told;)Z"⟩
abbrev cX4_refuse : ByteArray := prog_6_method_3_code
def yX4_refuse : MethodName := ⟨RX4, "refuse", "(II)V"⟩
abbrev cX4_refuseToken : ByteArray := prog_6_method_4_code
def yX4_refuseToken : MethodName := ⟨RX4, "refuseToken", "()Z"⟩
abbrev cX4_closePieces : ByteArray := prog_6_method_5_code
def yX4_closePieces : MethodName := ⟨RX4, "closePieces", "()Z"⟩
abbrev cX4_readPiece : ByteArray := prog_6_method_6_code
def yX4_readPiece : MethodName := ⟨RX4, "readPiece", "()V"⟩
abbrev cX4_readEdge : ByteArray := prog_6_method_7_code
def yX4_readEdge : MethodName := ⟨RX4, "readEdge", "(I)Z"⟩
abbrev cX4_readLoops : ByteArray := prog_6_method_8_code
def yX4_readLoops : MethodName := ⟨RX4, "readLoops", "()V"⟩
abbrev cX4_readTwists : ByteArray := prog_6_method_9_code
def yX4_readTwists : MethodName := ⟨RX4, "readTwists", "()V"⟩
abbrev cX4_readTwist : ByteArray := prog_6_method_10_code
def yX4_readTwist : MethodName := ⟨RX4, "readTwist", "(II)Z"⟩
abbrev cX4_passNewName : ByteArray := prog_6_method_11_code
def yX4_passNewName : MethodName := ⟨RX4, "passNewName", "(I)Z"⟩
abbrev cX4_pass : ByteArray := prog_6_method_12_code
def yX4_pass : MethodName := ⟨RX4, "pass", "(I)Z"⟩
abbrev cX4_byteAt : ByteArray := prog_6_method_13_code
def yX4_byteAt : MethodName := ⟨RX4, "byteAt", "(I)I"⟩
abbrev cX4_isLetter : ByteArray := prog_6_method_14_code
def yX4_isLetter : MethodName := ⟨RX4, "isLetter", "(I)Z"⟩
abbrev cX4_isDigit : ByteArray := prog_6_method_15_code
def yX4_isDigit : MethodName := ⟨RX4, "isDigit", "(I)Z"⟩
abbrev cX4_readToken : ByteArray := prog_6_method_16_code
def yX4_readToken : MethodName := ⟨RX4, "readToken", "()V"⟩
abbrev cX4_readLetters : ByteArray := prog_6_method_17_code
def yX4_readLetters : MethodName := ⟨RX4, "readLetters", "()V"⟩
abbrev cX4_kindOfWord : ByteArray := prog_6_method_18_code
def yX4_kindOfWord : MethodName := ⟨RX4, "kindOfWord", "()I"⟩
abbrev cX4_readDigits : ByteArray := prog_6_method_19_code
def yX4_readDigits : MethodName := ⟨RX4, "readDigits", "()V"⟩
def RX5 : String := "LoopGround$Road"
def TX5 : u_T := fun k => match k with
  | 0 => ("LoopGround$Road", "kind", "I", false)
  | 1 => ("LoopGround$Road", "count", "I", false)
  | 2 => ("LoopGround$Road", "a", "I", false)
  | 3 => ("LoopGround$Road", "b", "I", false)
  | 4 => ("LoopGround$Road", "e", "I", false)
  | 5 => ("LoopGround$Road", "f", "I", false)
  | _ => ("LoopGround$Road", "flips", "[I", true)
def tyX5 : Nat → FieldType := fun k => match k with
  | 0 => .int
  | 1 => .int
  | 2 => .int
  | 3 => .int
  | 4 => .int
  | 5 => .int
  | _ => .array .int
theorem nmX5 : ∀ a, a < 7 → ∀ b, b < 7 → a ≠ b → (TX5 a).2.1 ≠ (TX5 b).2.1 := by decide +kernel
theorem tyX5_ok : ∀ k, k < 7 → parseFieldDescriptor (TX5 k).2.2.1 = some (tyX5 k) := by decide +kernel
abbrev cX5_init : ByteArray := prog_7_method_1_code
def yX5_init : MethodName := ⟨RX5, "<init>", "()V"⟩
abbrev cX5_edgeFlipped : ByteArray := prog_7_method_2_code
def yX5_edgeFlipped : MethodName := ⟨RX5, "edgeFlipped", "(I)I"⟩
def RX6 : String := "LoopGround$Shortener"
def TX6 : u_T := fun k => match k with
  | 0 => ("LoopGround$Shortener", "edgeAt", "[I", true)
  | 1 => ("LoopGround$Shortener", "lowSide", "[I", true)
  | 2 => ("LoopGround$Shortener", "highSide", "[I", true)
  | 3 => ("LoopGround$Shortener", "numbers", "[J", true)
  | 4 => ("LoopGround$Shortener", "slots", "I", false)
  | 5 => ("LoopGround$Shortener", "edges", "I", false)
  | 6 => ("LoopGround$Shortener", "x", "I", false)
  | 7 => ("LoopGround$Shortener", "y", "I", false)
  | 8 => ("LoopGround$Shortener", "z", "I", false)
  | 9 => ("LoopGround$Shortener", "w", "I", false)
  | _ => ("LoopGround$Shortener", "numberFlipped", "J", false)
def tyX6 : Nat → FieldType := fun k => match k with
  | 0 => .array .int
  | 1 => .array .int
  | 2 => .array .int
  | 3 => .array .long
  | 4 => .int
  | 5 => .int
  | 6 => .int
  | 7 => .int
  | 8 => .int
  | 9 => .int
  | _ => .long
theorem nmX6 : ∀ a, a < 11 → ∀ b, b < 11 → a ≠ b → (TX6 a).2.1 ≠ (TX6 b).2.1 := by decide +kernel
theorem tyX6_ok : ∀ k, k < 11 → parseFieldDescriptor (TX6 k).2.2.1 = some (tyX6 k) := by decide +kernel
abbrev cX6_init : ByteArray := prog_8_method_1_code
def yX6_init : MethodName := ⟨RX6, "<init>", "()V"⟩
abbrev cX6_pave : ByteArray := prog_8_method_2_code
def yX6_pave : MethodName := ⟨RX6, "pave", "(LLoopGround$Told;ILLoopGround$Tracer;LLoopGround$Road;)V"⟩
abbrev cX6_shorten : ByteArray := prog_8_method_3_code
def yX6_shorten : MethodName := ⟨RX6, "shorten", "(LLoopGround$Road;)V"⟩
abbrev cX6_findSides : ByteArray := prog_8_method_4_code
def yX6_findSides : MethodName := ⟨RX6, "findSides", "()V"⟩
abbrev cX6_isShort : ByteArray := prog_8_method_5_code
def yX6_isShort : MethodName := ⟨RX6, "isShort", "()Z"⟩
abbrev cX6_firstToFlip : ByteArray := prog_8_method_6_code
def yX6_firstToFlip : MethodName := ⟨RX6, "firstToFlip", "()I"⟩
abbrev cX6_lookRound : ByteArray := prog_8_method_7_code
def yX6_lookRound : MethodName := ⟨RX6, "lookRound", "(I)V"⟩
abbrev cX6_turnEdge : ByteArray := prog_8_method_8_code
def yX6_turnEdge : MethodName := ⟨RX6, "turnEdge", "(I)V"⟩
abbrev cX6_findNeighbours : ByteArray := prog_8_method_9_code
def yX6_findNeighbours : MethodName := ⟨RX6, "findNeighbours", "(LLoopGround$Road;)V"⟩
def RX7 : String := "LoopGround$Table"
def TX7 : u_T := fun k => match k with
  | 0 => ("LoopGround$Table", "right", "Z", false)
  | 1 => ("LoopGround$Table", "size", "I", false)
  | 2 => ("LoopGround$Table", "word", "I", false)
  | 3 => ("LoopGround$Table", "line", "I", false)
  | 4 => ("LoopGround$Table", "expanded", "Z", false)
  | 5 => ("LoopGround$Table", "rows", "[[J", true)
  | 6 => ("LoopGround$Table", "power", "[[J", true)
  | 7 => ("LoopGround$Table", "column", "[J", true)
  | _ => ("LoopGround$Table", "coefficients", "[J", true)
def tyX7 : Nat → FieldType := fun k => match k with
  | 0 => .boolean
  | 1 => .int
  | 2 => .int
  | 3 => .int
  | 4 => .boolean
  | 5 => .array (.array .long)
  | 6 => .array (.array .long)
  | 7 => .array .long
  | _ => .array .long
theorem nmX7 : ∀ a, a < 9 → ∀ b, b < 9 → a ≠ b → (TX7 a).2.1 ≠ (TX7 b).2.1 := by decide +kernel
theorem tyX7_ok : ∀ k, k < 9 → parseFieldDescriptor (TX7 k).2.2.1 = some (tyX7 k) := by decide +kernel
abbrev cX7_init : ByteArray := prog_9_method_1_code
def yX7_init : MethodName := ⟨RX7, "<init>", "()V"⟩
abbrev cX7_forget : ByteArray := prog_9_method_2_code
def yX7_forget : MethodName := ⟨RX7, "forget", "()V"⟩
abbrev cX7_isOf : ByteArray := prog_9_method_3_code
def yX7_isOf : MethodName := ⟨RX7, "isOf", "(II)Z"⟩
abbrev cX7_begin : ByteArray := prog_9_method_4_code
def yX7_begin : MethodName := ⟨RX7, "begin", "(III)V"⟩
abbrev cX7_setOne : ByteArray := prog_9_method_5_code
def yX7_setOne : MethodName := ⟨RX7, "setOne", "([[J)V"⟩
abbrev cX7_changeRow : ByteArray := prog_9_method_6_code
def yX7_changeRow : MethodName := ⟨RX7, "changeRow", "(III)V"⟩
abbrev cX7_exchangeRows : ByteArray := prog_9_method_7_code
def yX7_exchangeRows : MethodName := ⟨RX7, "exchangeRows", "(II)V"⟩
abbrev cX7_at : ByteArray := prog_9_method_8_code
def yX7_at : MethodName := ⟨RX7, "at", "(II)I"⟩
abbrev cX7_coefficient : ByteArray := prog_9_method_9_code
def yX7_coefficient : MethodName := ⟨RX7, "coefficient", "(I)I"⟩
abbrev cX7_expand : ByteArray := prog_9_method_10_code
def yX7_expand : MethodName := ⟨RX7, "expand", "()V"⟩
abbrev cX7_multiplyPower : ByteArray := prog_9_method_11_code
def yX7_multiplyPower : MethodName := ⟨RX7, "multiplyPower", "()V"⟩
abbrev cX7_inverse : ByteArray := prog_9_method_12_code
def yX7_inverse : MethodName := ⟨RX7, "inverse", "(I)J"⟩
def RX8 : String := "LoopGround$Told"
def TX8 : u_T := fun k => match k with
  | 0 => ("LoopGround$Told", "pieces", "I", false)
  | 1 => ("LoopGround$Told", "edges", "I", false)
  | 2 => ("LoopGround$Told", "points", "I", false)
  | 3 => ("LoopGround$Told", "lines", "I", false)
  | 4 => ("LoopGround$Told", "words", "I", false)
  | 5 => ("LoopGround$Told", "edgeAt", "[I", true)
  | 6 => ("LoopGround$Told", "otherSide", "[I", true)
  | 7 => ("LoopGround$Told", "pointAt", "[I", true)
  | 8 => ("LoopGround$Told", "timesTold", "[I", true)
  | 9 => ("LoopGround$Told", "firstSide", "[I", true)
  | 10 => ("LoopGround$Told", "secondSide", "[I", true)
  | 11 => ("LoopGround$Told", "rows", "[[J", true)
  | 12 => ("LoopGround$Told", "lineNames", "[J", true)
  | 13 => ("LoopGround$Told", "wordNames", "[J", true)
  | 14 => ("LoopGround$Told", "wordLength", "[I", true)
  | 15 => ("LoopGround$Told", "wordLines", "[[I", true)
  | _ => ("LoopGround$Told", "wordTimes", "[[I", true)
def tyX8 : Nat → FieldType := fun k => match k with
  | 0 => .int
  | 1 => .int
  | 2 => .int
  | 3 => .int
  | 4 => .int
  | 5 => .array .int
  | 6 => .array .int
  | 7 => .array .int
  | 8 => .array .int
  | 9 => .array .int
  | 10 => .array .int
  | 11 => .array (.array .long)
  | 12 => .array .long
  | 13 => .array .long
  | 14 => .array .int
  | 15 => .array (.array .int)
  | _ => .array (.array .int)
theorem nmX8 : ∀ a, a < 17 → ∀ b, b < 17 → a ≠ b → (TX8 a).2.1 ≠ (TX8 b).2.1 := by decide +kernel
theorem tyX8_ok : ∀ k, k < 17 → parseFieldDescriptor (TX8 k).2.2.1 = some (tyX8 k) := by decide +kernel
abbrev cX8_init : ByteArray := prog_10_method_1_code
def yX8_init : MethodName := ⟨RX8, "<init>", "()V"⟩
abbrev cX8_clear : ByteArray := prog_10_method_2_code
def yX8_clear : MethodName := ⟨RX8, "clear", "()V"⟩
abbrev cX8_tellEdge : ByteArray := prog_10_method_3_code
def yX8_tellEdge : MethodName := ⟨RX8, "tellEdge", "(II)V"⟩
abbrev cX8_glue : ByteArray := prog_10_method_4_code
def yX8_glue : MethodName := ⟨RX8, "glue", "()Z"⟩
abbrev cX8_hangsTogether : ByteArray := prog_10_method_5_code
def yX8_hangsTogether : MethodName := ⟨RX8, "hangsTogether", "()Z"⟩
abbrev cX8_numberPoints : ByteArray := prog_10_method_6_code
def yX8_numberPoints : MethodName := ⟨RX8, "numberPoints", "()V"⟩
abbrev cX8_fitsIn : ByteArray := prog_10_method_7_code
def yX8_fitsIn : MethodName := ⟨RX8, "fitsIn", "(I[J)Z"⟩
abbrev cX8_fits : ByteArray := prog_10_method_8_code
def yX8_fits : MethodName := ⟨RX8, "fits", "([J)Z"⟩
abbrev cX8_lastEdgeOf : ByteArray := prog_10_method_9_code
def yX8_lastEdgeOf : MethodName := ⟨RX8, "lastEdgeOf", "(I)I"⟩
abbrev cX8_lineNamed : ByteArray := prog_10_method_10_code
def yX8_lineNamed : MethodName := ⟨RX8, "lineNamed", "(J)I"⟩
abbrev cX8_wordNamed : ByteArray := prog_10_method_11_code
def yX8_wordNamed : MethodName := ⟨RX8, "wordNamed", "(J)I"⟩
abbrev cX8_placeOf : ByteArray := prog_10_method_12_code
def yX8_placeOf : MethodName := ⟨RX8, "placeOf", "(J[JI)I"⟩
def RX9 : String := "LoopGround$Tracer"
def TX9 : u_T := fun k => match k with
  | 0 => ("LoopGround$Tracer", "loopCount", "I", false)
  | 1 => ("LoopGround$Tracer", "ringCount", "I", false)
  | 2 => ("LoopGround$Tracer", "passed", "[J", true)
  | 3 => ("LoopGround$Tracer", "firstStrand", "[I", true)
  | 4 => ("LoopGround$Tracer", "counts", "[I", true)
  | 5 => ("LoopGround$Tracer", "flows", "[I", true)
  | 6 => ("LoopGround$Tracer", "flowsOfOther", "[I", true)
  | 7 => ("LoopGround$Tracer", "told", "LLoopGround$Told;", false)
  | 8 => ("LoopGround$Tracer", "strands", "I", false)
  | 9 => ("LoopGround$Tracer", "slot", "I", false)
  | 10 => ("LoopGround$Tracer", "strand", "I", false)
  | 11 => ("LoopGround$Tracer", "startSlot", "I", false)
  | 12 => ("LoopGround$Tracer", "startStrand", "I", false)
  | _ => ("LoopGround$Tracer", "turnedOn", "Z", false)
def tyX9 : Nat → FieldType := fun k => match k with
  | 0 => .int
  | 1 => .int
  | 2 => .array .long
  | 3 => .array .int
  | 4 => .array .int
  | 5 => .array .int
  | 6 => .array .int
  | 7 => .object "LoopGround$Told"
  | 8 => .int
  | 9 => .int
  | 10 => .int
  | 11 => .int
  | 12 => .int
  | _ => .boolean
theorem nmX9 : ∀ a, a < 14 → ∀ b, b < 14 → a ≠ b → (TX9 a).2.1 ≠ (TX9 b).2.1 := by decide +kernel
theorem tyX9_ok : ∀ k, k < 14 → parseFieldDescriptor (TX9 k).2.2.1 = some (tyX9 k) := by decide +kernel
abbrev cX9_init : ByteArray := prog_11_method_1_code
def yX9_init : MethodName := ⟨RX9, "<init>", "()V"⟩
abbrev cX9_load : ByteArray := prog_11_method_2_code
def yX9_load : MethodName := ⟨RX9, "load", "(LLoopGround$Told;[J)Z"⟩
abbrev cX9_begin : ByteArray := prog_11_method_3_code
def yX9_begin : MethodName := ⟨RX9, "begin", "(II)V"⟩
abbrev cX9_beginFirst : ByteArray := prog_11_method_4_code
def yX9_beginFirst : MethodName := ⟨RX9, "beginFirst", "()Z"⟩
abbrev cX9_isBack : ByteArray := prog_11_method_5_code
def yX9_isBack : MethodName := ⟨RX9, "isBack", "()Z"⟩
abbrev cX9_countAt : ByteArray := prog_11_method_6_code
def yX9_countAt : MethodName := ⟨RX9, "countAt", "(I)I"⟩
abbrev cX9_step : ByteArray := prog_11_method_7_code
def yX9_step : MethodName := ⟨RX9, "step", "()V"⟩
abbrev cX9_strandNumber : ByteArray := prog_11_method_8_code
def yX9_strandNumber : MethodName := ⟨RX9, "strandNumber", "()I"⟩
abbrev cX9_countLoops : ByteArray := prog_11_method_9_code
def yX9_countLoops : MethodName := ⟨RX9, "countLoops", "()V"⟩
abbrev cX9_isPassed : ByteArray := prog_11_method_10_code
def yX9_isPassed : MethodName := ⟨RX9, "isPassed", "(I)Z"⟩
abbrev cX9_closeLoop : ByteArray := prog_11_method_11_code
def yX9_closeLoop : MethodName := ⟨RX9, "closeLoop", "()Z"⟩
abbrev cX9_isSingle : ByteArray := prog_11_method_12_code
def yX9_isSingle : MethodName := ⟨RX9, "isSingle", "()Z"⟩
abbrev cX9_edgeAt : ByteArray := prog_11_method_13_code
def yX9_edgeAt : MethodName := ⟨RX9, "edgeAt", "(I)I"⟩
abbrev cX9_traceInto : ByteArray := prog_11_method_14_code
def yX9_traceInto : MethodName := ⟨RX9, "traceInto", "([I)I"⟩
abbrev cX9_turns : ByteArray := prog_11_method_15_code
def yX9_turns : MethodName := ⟨RX9, "turns", "(LLoopGround$Told;[J[J)I"⟩
abbrev cX9_flowInto : ByteArray := prog_11_method_16_code
def yX9_flowInto : MethodName := ⟨RX9, "flowInto", "([I)V"⟩
def RX10 : String := "LoopGround"
def TX10 : u_T := fun k => match k with
  | 0 => ("LoopGround", "tape", "[B", true)
  | 1 => ("LoopGround", "reader", "LLoopGround$Reader;", true)
  | 2 => ("LoopGround", "tracer", "LLoopGround$Tracer;", true)
  | 3 => ("LoopGround", "mover", "LLoopGround$Mover;", true)
  | 4 => ("LoopGround", "counter", "LLoopGround$Counter;", true)
  | 5 => ("LoopGround", "drawing", "LLoopGround$Drawing;", true)
  | 6 => ("LoopGround", "acts", "LLoopGround$Acts;", true)
  | 7 => ("LoopGround", "noted", "LLoopGround$Table;", true)
  | 8 => ("LoopGround", "boxes", "[[J", true)
  | 9 => ("LoopGround", "boxFull", "[Z", true)
  | 10 => ("LoopGround", "images", "[[J", true)
  | 11 => ("LoopGround", "work", "[J", true)
  | 12 => ("LoopGround", "row", "[J", true)
  | 13 => ("LoopGround", "told", "LLoopGround$Told;", false)
  | 14 => ("LoopGround", "spare", "LLoopGround$Told;", false)
  | 15 => ("LoopGround", "length", "I", false)
  | 16 => ("LoopGround", "faultKind", "I", false)
  | 17 => ("LoopGround", "faultPlace", "I", false)
  | _ => ("LoopGround", "rowLies", "Z", false)
def tyX10 : Nat → FieldType := fun k => match k with
  | 0 => .array .byte
  | 1 => .object "LoopGround$Reader"
  | 2 => .object "LoopGround$Tracer"
  | 3 => .object "LoopGround$Mover"
  | 4 => .object "LoopGround$Counter"
  | 5 => .object "LoopGround$Drawing"
  | 6 => .object "LoopGround$Acts"
  | 7 => .object "LoopGround$Table"
  | 8 => .array (.array .long)
  | 9 => .array .boolean
  | 10 => .array (.array .long)
  | 11 => .array .long
  | 12 => .array .long
  | 13 => .object "LoopGround$Told"
  | 14 => .object "LoopGround$Told"
  | 15 => .int
  | 16 => .int
  | 17 => .int
  | _ => .boolean
theorem nmX10 : ∀ a, a < 19 → ∀ b, b < 19 → a ≠ b → (TX10 a).2.1 ≠ (TX10 b).2.1 := by decide +kernel
theorem tyX10_ok : ∀ k, k < 19 → parseFieldDescriptor (TX10 k).2.2.1 = some (tyX10 k) := by decide +kernel
abbrev cX10_init : ByteArray := prog_1_method_1_code
def yX10_init : MethodName := ⟨RX10, "<init>", "()V"⟩
abbrev cX10_feed : ByteArray := prog_1_method_2_code
def yX10_feed : MethodName := ⟨RX10, "feed", "(IIIII)I"⟩
abbrev cX10_putBytes : ByteArray := prog_1_method_3_code
def yX10_putBytes : MethodName := ⟨RX10, "putBytes", "(I)V"⟩
abbrev cX10_end : ByteArray := prog_1_method_4_code
def yX10_end : MethodName := ⟨RX10, "end", "(I)I"⟩
abbrev cX10_ground : ByteArray := prog_1_method_5_code
def yX10_ground : MethodName := ⟨RX10, "ground", "()I"⟩
abbrev cX10_fault : ByteArray := prog_1_method_6_code
def yX10_fault : MethodName := ⟨RX10, "fault", "(I)I"⟩
abbrev cX10_point : ByteArray := prog_1_method_7_code
def yX10_point : MethodName := ⟨RX10, "point", "(II)I"⟩
abbrev cX10_number : ByteArray := prog_1_method_8_code
def yX10_number : MethodName := ⟨RX10, "number", "(II)J"⟩
abbrev cX10_loops : ByteArray := prog_1_method_9_code
def yX10_loops : MethodName := ⟨RX10, "loops", "(II)I"⟩
abbrev cX10_traced : ByteArray := prog_1_method_10_code
def yX10_traced : MethodName := ⟨RX10, "traced", "(II)I"⟩
abbrev cX10_flips : ByteArray := prog_1_method_11_code
def yX10_flips : MethodName := ⟨RX10, "flips", "(I)I"⟩
abbrev cX10_flip : ByteArray := prog_1_method_12_code
def yX10_flip : MethodName := ⟨RX10, "flip", "(II)I"⟩
abbrev cX10_cross : ByteArray := prog_1_method_13_code
def yX10_cross : MethodName := ⟨RX10, "cross", "(II)J"⟩
abbrev cX10_across : ByteArray := prog_1_method_14_code
def yX10_across : MethodName := ⟨RX10, "across", "(II)I"⟩
abbrev cX10_kept : ByteArray := prog_1_method_15_code
def yX10_kept : MethodName := ⟨RX10, "kept", "(I)I"⟩
abbrev cX10_alike : ByteArray := prog_1_method_16_code
def yX10_alike : MethodName := ⟨RX10, "alike", "(II)I"⟩
abbrev cX10_order : ByteArray := prog_1_method_17_code
def yX10_order : MethodName := ⟨RX10, "order", "(I)I"⟩
abbrev cX10_stretch : ByteArray := prog_1_method_18_code
def yX10_stretch : MethodName := ⟨RX10, "stretch", "(III)J"⟩
abbrev cX10_table : ByteArray := prog_1_method_19_code
def yX10_table : MethodName := ⟨RX10, "table", "(IIII)I"⟩
abbrev cX10_polynomial : ByteArray := prog_1_method_20_code
def yX10_polynomial : MethodName := ⟨RX10, "polynomial", "(III)I"⟩
abbrev cX10_least : ByteArray := prog_1_method_21_code
def yX10_least : MethodName := ⟨RX10, "least", "(II)I"⟩
abbrev cX10_lies : ByteArray := prog_1_method_22_code
def yX10_lies : MethodName := ⟨RX10, "lies", "(I)I"⟩
abbrev cX10_lay : ByteArray := prog_1_method_23_code
def yX10_lay : MethodName := ⟨RX10, "lay", "(I)J"⟩
abbrev cX10_twist : ByteArray := prog_1_method_24_code
def yX10_twist : MethodName := ⟨RX10, "twist", "(II)J"⟩
abbrev cX10_go : ByteArray := prog_1_method_25_code
def yX10_go : MethodName := ⟨RX10, "go", "(I)J"⟩
abbrev cX10_act : ByteArray := prog_1_method_26_code
def yX10_act : MethodName := ⟨RX10, "act", "(Z)J"⟩
abbrev cX10_undo : ByteArray := prog_1_method_27_code
def yX10_undo : MethodName := ⟨RX10, "undo", "()Z"⟩
abbrev cX10_redo : ByteArray := prog_1_method_28_code
def yX10_redo : MethodName := ⟨RX10, "redo", "()Z"⟩
abbrev cX10_sketch : ByteArray := prog_1_method_29_code
def yX10_sketch : MethodName := ⟨RX10, "sketch", "()I"⟩
abbrev cX10_image : ByteArray := prog_1_method_30_code
def yX10_image : MethodName := ⟨RX10, "image", "(I)J"⟩
abbrev cX10_back : ByteArray := prog_1_method_31_code
def yX10_back : MethodName := ⟨RX10, "back", "(I)J"⟩
abbrev cX10_about : ByteArray := prog_1_method_32_code
def yX10_about : MethodName := ⟨RX10, "about", "(I)I"⟩
abbrev cX10_isEdge : ByteArray := prog_1_method_33_code
def yX10_isEdge : MethodName := ⟨RX10, "isEdge", "(I)Z"⟩
abbrev cX10_isLine : ByteArray := prog_1_method_34_code
def yX10_isLine : MethodName := ⟨RX10, "isLine", "(I)Z"⟩
abbrev cX10_numbersOf : ByteArray := prog_1_method_35_code
def yX10_numbersOf : MethodName := ⟨RX10, "numbersOf", "(I)[J"⟩
abbrev cX10_leavesAsItIs : ByteArray := prog_1_method_36_code
def yX10_leavesAsItIs : MethodName := ⟨RX10, "leavesAsItIs", "(I[J)Z"⟩
abbrev cX10_hasLoop : ByteArray := prog_1_method_37_code
def yX10_hasLoop : MethodName := ⟨RX10, "hasLoop", "([J)Z"⟩
abbrev cX10_canStretch : ByteArray := prog_1_method_38_code
def yX10_canStretch : MethodName := ⟨RX10, "canStretch", "(II)Z"⟩
abbrev cX10_noteTable : ByteArray := prog_1_method_39_code
def yX10_noteTable : MethodName := ⟨RX10, "noteTable", "(II)Z"⟩
abbrev cX10_copyRow : ByteArray := prog_1_method_40_code
def yX10_copyRow : MethodName := ⟨RX10, "copyRow", "([J[J)V"⟩
abbrev cX10_sameRow : ByteArray := prog_1_method_41_code
def yX10_sameRow : MethodName := ⟨RX10, "sameRow", "([J[J)Z"⟩
abbrev cX10_total : ByteArray := prog_1_method_42_code
def yX10_total : MethodName := ⟨RX10, "total", "([J)J"⟩
abbrev cX10_behind : ByteArray := prog_1_method_43_code
def yX10_behind : MethodName := ⟨RX10, "behind", "(I)I"⟩
abbrev cX10_ahead : ByteArray := prog_1_method_44_code
def yX10_ahead : MethodName := ⟨RX10, "ahead", "(I)I"⟩
def RX11 : String := "LoopGroundModel"
def TX11 : u_T := fun k => match k with
  | 0 => ("LoopGroundModel", "tape", "[I", true)
  | 1 => ("LoopGroundModel", "taped", "I", false)
  | 2 => ("LoopGroundModel", "fault", "I", false)
  | 3 => ("LoopGroundModel", "faultPlace", "I", false)
  | 4 => ("LoopGroundModel", "at", "I", false)
  | 5 => ("LoopGroundModel", "size", "I", false)
  | 6 => ("LoopGroundModel", "sort", "I", false)
  | 7 => ("LoopGroundModel", "place", "I", false)
  | 8 => ("LoopGroundModel", "number", "I", false)
  | 9 => ("LoopGroundModel", "word", "J", false)
  | 10 => ("LoopGroundModel", "nLineName", "[J", true)
  | 11 => ("LoopGroundModel", "nWordName", "[J", true)
  | 12 => ("LoopGroundModel", "nPiece", "[I", true)
  | 13 => ("LoopGroundModel", "nOften", "[I", true)
  | 14 => ("LoopGroundModel", "nLine", "[I", true)
  | 15 => ("LoopGroundModel", "nAlong", "[I", true)
  | 16 => ("LoopGroundModel", "nTimes", "[I", true)
  | 17 => ("LoopGroundModel", "nTwists", "[I", true)
  | 18 => ("LoopGroundModel", "piece", "[I", true)
  | 19 => ("LoopGroundModel", "line", "[I", true)
  | 20 => ("LoopGroundModel", "along", "[I", true)
  | 21 => ("LoopGroundModel", "timesOf", "[I", true)
  | 22 => ("LoopGroundModel", "twists", "[I", true)
  | 23 => ("LoopGroundModel", "nPieces", "I", false)
  | 24 => ("LoopGroundModel", "nLines", "I", false)
  | 25 => ("LoopGroundModel", "nWords", "I", false)
  | 26 => ("LoopGroundModel", "pieces", "I", false)
  | 27 => ("LoopGroundModel", "lines", "I", false)
  | 28 => ("LoopGroundModel", "words", "I", false)
  | 29 => ("LoopGroundModel", "over", "[I", true)
  | 30 => ("LoopGroundModel", "first", "[I", true)
  | 31 => ("LoopGroundModel", "pointOf", "[I", true)
  | 32 => ("LoopGroundModel", "pointMany", "I", false)
  | 33 => ("LoopGroundModel", "row", "[I", true)
  | 34 => ("LoopGroundModel", "begins", "[I", true)
  | 35 => ("LoopGroundModel", "went", "[Z", true)
  | 36 => ("LoopGroundModel", "loopMany", "I", false)
  | 37 => ("LoopGroundModel", "ringMany", "I", false)
  | 38 => ("LoopGroundModel", "strandSide", "I", false)
  | 39 => ("LoopGroundModel", "strandAt", "I", false)
  | 40 => ("LoopGroundModel", "hand", "I", false)
  | 41 => ("LoopGroundModel", "path", "[I", true)
  | 42 => ("LoopGroundModel", "pathMany", "I", false)
  | 43 => ("LoopGroundModel", "flipOf", "[I", true)
  | 44 => ("LoopGroundModel", "flipMany", "[I", true)
  | 45 => ("LoopGroundModel", "shortE", "[I", true)
  | 46 => ("LoopGroundModel", "shortF", "[I", true)
  | 47 => ("LoopGroundModel", "shortA", "[I", true)
  | 48 => ("LoopGroundModel", "shortB", "[I", true)
  | 49 => ("LoopGroundModel", "isSingleLine", "[Z", true)
  | 50 => ("LoopGroundModel", "isFairLine", "[Z", true)
  | 51 => ("LoopGroundModel", "work", "[I", true)
  | 52 => ("LoopGroundModel", "small", "[I", true)
  | 53 => ("LoopGroundModel", "sideOne", "I", false)
  | 54 => ("LoopGroundModel", "sideTwo", "I", false)
  | 55 => ("LoopGroundModel", "goes", "[J", true)
  | 56 => ("LoopGroundModel", "table", "[J", true)
  | 57 => ("LoopGroundModel", "spare", "[J", true)
  | 58 => ("LoopGroundModel", "isSpent", "Z", false)
  | 59 => ("LoopGroundModel", "hasTable", "Z", false)
  | 60 => ("LoopGroundModel", "kept", "[J", true)
  | 61 => ("LoopGroundModel", "outs", "[I", true)
  | 62 => ("LoopGroundModel", "behind", "[J", true)
  | 63 => ("LoopGroundModel", "states", "[J", true)
  | 64 => ("LoopGroundModel", "spentState", "[Z", true)
  | 65 => ("LoopGroundModel", "power", "[J", true)
  | 66 => ("LoopGroundModel", "next", "[J", true)
  | 67 => ("LoopGroundModel", "poly", "[J", true)
  | 68 => ("LoopGroundModel", "lain", "[I", true)
  | 69 => ("LoopGroundModel", "tried", "[I", true)
  | 70 => ("LoopGroundModel", "lies", "Z", false)
  | 71 => ("LoopGroundModel", "now", "[J", true)
  | 72 => ("LoopGroundModel", "were", "[J", true)
  | 73 => ("LoopGroundModel", "acts", "I", false)
  | 74 => ("LoopGroundModel", "undone", "I", false)
  | 75 => ("LoopGroundModel", "sketched", "[I", true)
  | 76 => ("LoopGroundModel", "sketchMany", "I", false)
  | 77 => ("LoopGroundModel", "sketchFrom", "I", false)
  | 78 => ("LoopGroundModel", "spareLine", "[J", true)
  | 79 => ("LoopGroundModel", "hasBox", "[Z", true)
  | _ => ("LoopGroundModel", "boxes", "[J", true)
def tyX11 : Nat → FieldType := fun k => match k with
  | 0 => .array .int
  | 1 => .int
  | 2 => .int
  | 3 => .int
  | 4 => .int
  | 5 => .int
  | 6 => .int
  | 7 => .int
  | 8 => .int
  | 9 => .long
  | 10 => .array .long
  | 11 => .array .long
  | 12 => .array .int
  | 13 => .array .int
  | 14 => .array .int
  | 15 => .array .int
  | 16 => .array .int
  | 17 => .array .int
  | 18 => .array .int
  | 19 => .array .int
  | 20 => .array .int
  | 21 => .array .int
  | 22 => .array .int
  | 23 => .int
  | 24 => .int
  | 25 => .int
  | 26 => .int
  | 27 => .int
  | 28 => .int
  | 29 => .array .int
  | 30 => .array .int
  | 31 => .array .int
  | 32 => .int
  | 33 => .array .int
  | 34 => .array .int
  | 35 => .array .boolean
  | 36 => .int
  | 37 => .int
  | 38 => .int
  | 39 => .int
  | 40 => .int
  | 41 => .array .int
  | 42 => .int
  | 43 => .array .int
  | 44 => .array .int
  | 45 => .array .int
  | 46 => .array .int
  | 47 => .array .int
  | 48 => .array .int
  | 49 => .array .boolean
  | 50 => .array .boolean
  | 51 => .array .int
  | 52 => .array .int
  | 53 => .int
  | 54 => .int
  | 55 => .array .long
  | 56 => .array .long
  | 57 => .array .long
  | 58 => .boolean
  | 59 => .boolean
  | 60 => .array .long
  | 61 => .array .int
  | 62 => .array .long
  | 63 => .array .long
  | 64 => .array .boolean
  | 65 => .array .long
  | 66 => .array .long
  | 67 => .array .long
  | 68 => .array .int
  | 69 => .array .int
  | 70 => .boolean
  | 71 => .array .long
  | 72 => .array .long
  | 73 => .int
  | 74 => .int
  | 75 => .array .int
  | 76 => .int
  | 77 => .int
  | 78 => .array .long
  | 79 => .array .boolean
  | _ => .array .long
theorem nmX11 : ∀ a, a < 81 → ∀ b, b < 81 → a ≠ b → (TX11 a).2.1 ≠ (TX11 b).2.1 := by decide +kernel
theorem tyX11_ok : ∀ k, k < 81 → parseFieldDescriptor (TX11 k).2.2.1 = some (tyX11 k) := by decide +kernel
abbrev cX11_init : ByteArray := prog_13_method_1_code
def yX11_init : MethodName := ⟨RX11, "<init>", "()V"⟩
abbrev cX11_feed : ByteArray := prog_13_method_2_code
def yX11_feed : MethodName := ⟨RX11, "feed", "(IIIII)I"⟩
abbrev cX11_four : ByteArray := prog_13_method_3_code
def yX11_four : MethodName := ⟨RX11, "four", "(I)V"⟩
abbrev cX11_end : ByteArray := prog_13_method_4_code
def yX11_end : MethodName := ⟨RX11, "end", "(I)I"⟩
abbrev cX11_here : ByteArray := prog_13_method_5_code
def yX11_here : MethodName := ⟨RX11, "here", "(I)I"⟩
abbrev cX11_isLetter : ByteArray := prog_13_method_6_code
def yX11_isLetter : MethodName := ⟨RX11, "isLetter", "(I)Z"⟩
abbrev cX11_isDigit : ByteArray := prog_13_method_7_code
def yX11_isDigit : MethodName := ⟨RX11, "isDigit", "(I)Z"⟩
abbrev cX11_token : ByteArray := prog_13_method_8_code
def yX11_token : MethodName := ⟨RX11, "token", "()V"⟩
abbrev cX11_wrongAt : ByteArray := prog_13_method_9_code
def yX11_wrongAt : MethodName := ⟨RX11, "wrongAt", "(II)V"⟩
abbrev cX11_wrong : ByteArray := prog_13_method_10_code
def yX11_wrong : MethodName := ⟨RX11, "wrong", "(I)V"⟩
abbrev cX11_isWord : ByteArray := prog_13_method_11_code
def yX11_isWord : MethodName := ⟨RX11, "isWord", "(J)Z"⟩
abbrev cX11_isName : ByteArray := prog_13_method_12_code
def yX11_isName : MethodName := ⟨RX11, "isName", "()Z"⟩
abbrev cX11_want : ByteArray := prog_13_method_13_code
def yX11_want : MethodName := ⟨RX11, "want", "(J)V"⟩
abbrev cX11_toldNumber : ByteArray := prog_13_method_14_code
def yX11_toldNumber : MethodName := ⟨RX11, "toldNumber", "(II)I"⟩
abbrev cX11_times : ByteArray := prog_13_method_15_code
def yX11_times : MethodName := ⟨RX11, "times", "()I"⟩
abbrev cX11_nEdges : ByteArray := prog_13_method_16_code
def yX11_nEdges : MethodName := ⟨RX11, "nEdges", "()I"⟩
abbrev cX11_edges : ByteArray := prog_13_method_17_code
def yX11_edges : MethodName := ⟨RX11, "edges", "()I"⟩
abbrev cX11_readPiece : ByteArray := prog_13_method_18_code
def yX11_readPiece : MethodName := ⟨RX11, "readPiece", "()V"⟩
abbrev cX11_isWhole : ByteArray := prog_13_method_19_code
def yX11_isWhole : MethodName := ⟨RX11, "isWhole", "()Z"⟩
abbrev cX11_hangs : ByteArray := prog_13_method_20_code
def yX11_hangs : MethodName := ⟨RX11, "hangs", "(II)Z"⟩
abbrev cX11_findLine : ByteArray := prog_13_method_21_code
def yX11_findLine : MethodName := ⟨RX11, "findLine", "()I"⟩
abbrev cX11_nFits : ByteArray := prog_13_method_22_code
def yX11_nFits : MethodName := ⟨RX11, "nFits", "(I)Z"⟩
abbrev cX11_readLineOf : ByteArray := prog_13_method_23_code
def yX11_readLineOf : MethodName := ⟨RX11, "readLineOf", "()V"⟩
abbrev cX11_readWordOf : ByteArray := prog_13_method_24_code
def yX11_readWordOf : MethodName := ⟨RX11, "readWordOf", "()V"⟩
abbrev cX11_readLine : ByteArray := prog_13_method_25_code
def yX11_readLine : MethodName := ⟨RX11, "readLine", "()V"⟩
abbrev cX11_readAll : ByteArray := prog_13_method_26_code
def yX11_readAll : MethodName := ⟨RX11, "readAll", "()V"⟩
abbrev cX11_ground : ByteArray := prog_13_method_27_code
def yX11_ground : MethodName := ⟨RX11, "ground", "()I"⟩
abbrev cX11_fault : ByteArray := prog_13_method_28_code
def yX11_fault : MethodName := ⟨RX11, "fault", "(I)I"⟩
abbrev cX11_isLine : ByteArray := prog_13_method_29_code
def yX11_isLine : MethodName := ⟨RX11, "isLine", "(I)Z"⟩
abbrev cX11_isWordOf : ByteArray := prog_13_method_30_code
def yX11_isWordOf : MethodName := ⟨RX11, "isWordOf", "(I)Z"⟩
abbrev cX11_isEdge : ByteArray := prog_13_method_31_code
def yX11_isEdge : MethodName := ⟨RX11, "isEdge", "(I)Z"⟩
abbrev cX11_layOver : ByteArray := prog_13_method_32_code
def yX11_layOver : MethodName := ⟨RX11, "layOver", "()V"⟩
abbrev cX11_turned : ByteArray := prog_13_method_33_code
def yX11_turned : MethodName := ⟨RX11, "turned", "(II)I"⟩
abbrev cX11_points : ByteArray := prog_13_method_34_code
def yX11_points : MethodName := ⟨RX11, "points", "()V"⟩
abbrev cX11_point : ByteArray := prog_13_method_35_code
def yX11_point : MethodName := ⟨RX11, "point", "(II)I"⟩
abbrev cX11_layRow : ByteArray := prog_13_method_36_code
def yX11_layRow : MethodName := ⟨RX11, "layRow", "(I)V"⟩
abbrev cX11_sumOf : ByteArray := prog_13_method_37_code
def yX11_sumOf : MethodName := ⟨RX11, "sumOf", "(I)J"⟩
abbrev cX11_on : ByteArray := prog_13_method_38_code
def yX11_on : MethodName := ⟨RX11, "on", "(I)I"⟩
abbrev cX11_round : ByteArray := prog_13_method_39_code
def yX11_round : MethodName := ⟨RX11, "round", "(I)I"⟩
abbrev cX11_goThrough : ByteArray := prog_13_method_40_code
def yX11_goThrough : MethodName := ⟨RX11, "goThrough", "()V"⟩
abbrev cX11_goOver : ByteArray := prog_13_method_41_code
def yX11_goOver : MethodName := ⟨RX11, "goOver", "()V"⟩
abbrev cX11_strand : ByteArray := prog_13_method_42_code
def yX11_strand : MethodName := ⟨RX11, "strand", "()I"⟩
abbrev cX11_countLoops : ByteArray := prog_13_method_43_code
def yX11_countLoops : MethodName := ⟨RX11, "countLoops", "(I)V"⟩
abbrev cX11_isRing : ByteArray := prog_13_method_44_code
def yX11_isRing : MethodName := ⟨RX11, "isRing", "(II)Z"⟩
abbrev cX11_isSum : ByteArray := prog_13_method_45_code
def yX11_isSum : MethodName := ⟨RX11, "isSum", "(J)Z"⟩
abbrev cX11_isSingle : ByteArray := prog_13_method_46_code
def yX11_isSingle : MethodName := ⟨RX11, "isSingle", "(I)Z"⟩
abbrev cX11_number : ByteArray := prog_13_method_47_code
def yX11_number : MethodName := ⟨RX11, "number", "(II)J"⟩
abbrev cX11_loops : ByteArray := prog_13_method_48_code
def yX11_loops : MethodName := ⟨RX11, "loops", "(II)I"⟩
abbrev cX11_trace : ByteArray := prog_13_method_49_code
def yX11_trace : MethodName := ⟨RX11, "trace", "(I)V"⟩
abbrev cX11_traced : ByteArray := prog_13_method_50_code
def yX11_traced : MethodName := ⟨RX11, "traced", "(II)I"⟩
abbrev cX11_findSides : ByteArray := prog_13_method_51_code
def yX11_findSides : MethodName := ⟨RX11, "findSides", "(I)Z"⟩
abbrev cX11_flipped : ByteArray := prog_13_method_52_code
def yX11_flipped : MethodName := ⟨RX11, "flipped", "(I)I"⟩
abbrev cX11_isShort : ByteArray := prog_13_method_53_code
def yX11_isShort : MethodName := ⟨RX11, "isShort", "()Z"⟩
abbrev cX11_doFlip : ByteArray := prog_13_method_54_code
def yX11_doFlip : MethodName := ⟨RX11, "doFlip", "(II)V"⟩
abbrev cX11_shorter : ByteArray := prog_13_method_55_code
def yX11_shorter : MethodName := ⟨RX11, "shorter", "()I"⟩
abbrev cX11_layFlips : ByteArray := prog_13_method_56_code
def yX11_layFlips : MethodName := ⟨RX11, "layFlips", "(I)V"⟩
abbrev cX11_layShort : ByteArray := prog_13_method_57_code
def yX11_layShort : MethodName := ⟨RX11, "layShort", "(I)V"⟩
abbrev cX11_flips : ByteArray := prog_13_method_58_code
def yX11_flips : MethodName := ⟨RX11, "flips", "(I)I"⟩
abbrev cX11_flip : ByteArray := prog_13_method_59_code
def yX11_flip : MethodName := ⟨RX11, "flip", "(II)I"⟩
abbrev cX11_take : ByteArray := prog_13_method_60_code
def yX11_take : MethodName := ⟨RX11, "take", "(IZIIIII)V"⟩
abbrev cX11_greater : ByteArray := prog_13_method_61_code
def yX11_greater : MethodName := ⟨RX11, "greater", "(IIIIII)V"⟩
abbrev cX11_goFlips : ByteArray := prog_13_method_62_code
def yX11_goFlips : MethodName := ⟨RX11, "goFlips", "(I)V"⟩
abbrev cX11_goFlip : ByteArray := prog_13_method_63_code
def yX11_goFlip : MethodName := ⟨RX11, "goFlip", "(I)V"⟩
abbrev cX11_goBack : ByteArray := prog_13_method_64_code
def yX11_goBack : MethodName := ⟨RX11, "goBack", "(I)V"⟩
abbrev cX11_turnOnce : ByteArray := prog_13_method_65_code
def yX11_turnOnce : MethodName := ⟨RX11, "turnOnce", "(III)V"⟩
abbrev cX11_goTwist : ByteArray := prog_13_method_66_code
def yX11_goTwist : MethodName := ⟨RX11, "goTwist", "(II)V"⟩
abbrev cX11_goWord : ByteArray := prog_13_method_67_code
def yX11_goWord : MethodName := ⟨RX11, "goWord", "(I)V"⟩
abbrev cX11_begin : ByteArray := prog_13_method_68_code
def yX11_begin : MethodName := ⟨RX11, "begin", "(I)V"⟩
abbrev cX11_allOf : ByteArray := prog_13_method_69_code
def yX11_allOf : MethodName := ⟨RX11, "allOf", "()J"⟩
abbrev cX11_far : ByteArray := prog_13_method_70_code
def yX11_far : MethodName := ⟨RX11, "far", "(J)J"⟩
abbrev cX11_cross : ByteArray := prog_13_method_71_code
def yX11_cross : MethodName := ⟨RX11, "cross", "(II)J"⟩
abbrev cX11_layOuts : ByteArray := prog_13_method_72_code
def yX11_layOuts : MethodName := ⟨RX11, "layOuts", "(II)V"⟩
abbrev cX11_across : ByteArray := prog_13_method_73_code
def yX11_across : MethodName := ⟨RX11, "across", "(II)I"⟩
abbrev cX11_isFairWord : ByteArray := prog_13_method_74_code
def yX11_isFairWord : MethodName := ⟨RX11, "isFairWord", "(I)Z"⟩
abbrev cX11_isAsWas : ByteArray := prog_13_method_75_code
def yX11_isAsWas : MethodName := ⟨RX11, "isAsWas", "(I)Z"⟩
abbrev cX11_kept : ByteArray := prog_13_method_76_code
def yX11_kept : MethodName := ⟨RX11, "kept", "(I)I"⟩
abbrev cX11_alike : ByteArray := prog_13_method_77_code
def yX11_alike : MethodName := ⟨RX11, "alike", "(II)I"⟩
abbrev cX11_goOn : ByteArray := prog_13_method_78_code
def yX11_goOn : MethodName := ⟨RX11, "goOn", "(II)Z"⟩
abbrev cX11_order : ByteArray := prog_13_method_79_code
def yX11_order : MethodName := ⟨RX11, "order", "(I)I"⟩
abbrev cX11_stretch : ByteArray := prog_13_method_80_code
def yX11_stretch : MethodName := ⟨RX11, "stretch", "(III)J"⟩
abbrev cX11_layTable : ByteArray := prog_13_method_81_code
def yX11_layTable : MethodName := ⟨RX11, "layTable", "(II)Z"⟩
abbrev cX11_table : ByteArray := prog_13_method_82_code
def yX11_table : MethodName := ⟨RX11, "table", "(IIII)I"⟩
abbrev cX11_raised : ByteArray := prog_13_method_83_code
def yX11_raised : MethodName := ⟨RX11, "raised", "(JJ)J"⟩
abbrev cX11_timesTable : ByteArray := prog_13_method_84_code
def yX11_timesTable : MethodName := ⟨RX11, "timesTable", "()V"⟩
abbrev cX11_layPolynomial : ByteArray := prog_13_method_85_code
def yX11_layPolynomial : MethodName := ⟨RX11, "layPolynomial", "()V"⟩
abbrev cX11_polynomial : ByteArray := prog_13_method_86_code
def yX11_polynomial : MethodName := ⟨RX11, "polynomial", "(III)I"⟩
abbrev cX11_triedFits : ByteArray := prog_13_method_87_code
def yX11_triedFits : MethodName := ⟨RX11, "triedFits", "()Z"⟩
abbrev cX11_hasLoop : ByteArray := prog_13_method_88_code
def yX11_hasLoop : MethodName := ⟨RX11, "hasLoop", "()Z"⟩
abbrev cX11_isLeft : ByteArray := prog_13_method_89_code
def yX11_isLeft : MethodName := ⟨RX11, "isLeft", "(I)Z"⟩
abbrev cX11_nextTried : ByteArray := prog_13_method_90_code
def yX11_nextTried : MethodName := ⟨RX11, "nextTried", "(I)Z"⟩
abbrev cX11_least : ByteArray := prog_13_method_91_code
def yX11_least : MethodName := ⟨RX11, "least", "(II)I"⟩
abbrev cX11_putDown : ByteArray := prog_13_method_92_code
def yX11_putDown : MethodName := ⟨RX11, "putDown", "()V"⟩
abbrev cX11_lainAll : ByteArray := prog_13_method_93_code
def yX11_lainAll : MethodName := ⟨RX11, "lainAll", "()I"⟩
abbrev cX11_lies : ByteArray := prog_13_method_94_code
def yX11_lies : MethodName := ⟨RX11, "lies", "(I)I"⟩
abbrev cX11_nowAll : ByteArray := prog_13_method_95_code
def yX11_nowAll : MethodName := ⟨RX11, "nowAll", "()J"⟩
abbrev cX11_shiftOut : ByteArray := prog_13_method_96_code
def yX11_shiftOut : MethodName := ⟨RX11, "shiftOut", "()V"⟩
abbrev cX11_act : ByteArray := prog_13_method_97_code
def yX11_act : MethodName := ⟨RX11, "act", "()J"⟩
abbrev cX11_lay : ByteArray := prog_13_method_98_code
def yX11_lay : MethodName := ⟨RX11, "lay", "(I)J"⟩
abbrev cX11_twist : ByteArray := prog_13_method_99_code
def yX11_twist : MethodName := ⟨RX11, "twist", "(II)J"⟩
abbrev cX11_go : ByteArray := prog_13_method_100_code
def yX11_go : MethodName := ⟨RX11, "go", "(I)J"⟩
abbrev cX11_exchange : ByteArray := prog_13_method_101_code
def yX11_exchange : MethodName := ⟨RX11, "exchange", "(I)V"⟩
abbrev cX11_undo : ByteArray := prog_13_method_102_code
def yX11_undo : MethodName := ⟨RX11, "undo", "()Z"⟩
abbrev cX11_redo : ByteArray := prog_13_method_103_code
def yX11_redo : MethodName := ⟨RX11, "redo", "()Z"⟩
abbrev cX11_sideIn : ByteArray := prog_13_method_104_code
def yX11_sideIn : MethodName := ⟨RX11, "sideIn", "(II)I"⟩
abbrev cX11_readSketch : ByteArray := prog_13_method_105_code
def yX11_readSketch : MethodName := ⟨RX11, "readSketch", "(I)Z"⟩
abbrev cX11_leaveOut : ByteArray := prog_13_method_106_code
def yX11_leaveOut : MethodName := ⟨RX11, "leaveOut", "()V"⟩
abbrev cX11_isPath : ByteArray := prog_13_method_107_code
def yX11_isPath : MethodName := ⟨RX11, "isPath", "(IZ)Z"⟩
abbrev cX11_isTrue : ByteArray := prog_13_method_108_code
def yX11_isTrue : MethodName := ⟨RX11, "isTrue", "()Z"⟩
abbrev cX11_sketch : ByteArray := prog_13_method_109_code
def yX11_sketch : MethodName := ⟨RX11, "sketch", "()I"⟩
abbrev cX11_isBox : ByteArray := prog_13_method_110_code
def yX11_isBox : MethodName := ⟨RX11, "isBox", "(I)Z"⟩
abbrev cX11_image : ByteArray := prog_13_method_111_code
def yX11_image : MethodName := ⟨RX11, "image", "(I)J"⟩
abbrev cX11_back : ByteArray := prog_13_method_112_code
def yX11_back : MethodName := ⟨RX11, "back", "(I)J"⟩
abbrev cX11_about : ByteArray := prog_13_method_113_code
def yX11_about : MethodName := ⟨RX11, "about", "(I)I"⟩
def RJ9 : String := "java/lang/Math"
abbrev cJ9_floorMod_f86c9 : ByteArray := prog_14_method_52_code
def yJ9_floorMod_f86c9 : MethodName := ⟨RJ9, "floorMod", "(JJ)J"⟩
abbrev cJ9_abs_0f7a4 : ByteArray := prog_14_method_59_code
def yJ9_abs_0f7a4 : MethodName := ⟨RJ9, "abs", "(I)I"⟩
abbrev cJ9_abs_067f4 : ByteArray := prog_14_method_61_code
def yJ9_abs_067f4 : MethodName := ⟨RJ9, "abs", "(J)J"⟩
abbrev cJ9_max_7cf53 : ByteArray := prog_14_method_65_code
def yJ9_max_7cf53 : MethodName := ⟨RJ9, "max", "(II)I"⟩
abbrev cJ9_max_f86c9 : ByteArray := prog_14_method_66_code
def yJ9_max_f86c9 : MethodName := ⟨RJ9, "max", "(JJ)J"⟩
abbrev cJ9_min_7cf53 : ByteArray := prog_14_method_69_code
def yJ9_min_7cf53 : MethodName := ⟨RJ9, "min", "(II)I"⟩
def RL : String := "LoopGroundLaw"
abbrev cL_law : ByteArray := code
def yL_law : MethodName := ⟨RL, "law", "([I)Z"⟩
abbrev vwCl : List vw_C := [(RX0, TX0, 4), (RX1, TX1, 3), (RX2, TX2, 5), (RX3, TX3, 3), (RX4, TX4, 11), (RX5, TX5, 7), (RX6, TX6, 11), (RX7, TX7, 9), (RX8, TX8, 17), (RX9, TX9, 14), (RX10, TX10, 19), (RX11, TX11, 81)]
end
section
/-! what a program decides of the tables, and that it is enough -/
def pm_RD : String := RX5
def pm_TB : List Cond := lw_tbl.filter pm_stb
def pm_chunk (j : Nat) : List Cond := match j with
  | 0 => k2_sels lw_privs
  | 1 => tables_1_1
  | 2 => tables_1_2
  | 3 => tables_1_3
  | 4 => tables_1_4
  | 5 => tables_1_5
  | 6 => tables_1_6
  | 7 => tables_1_7
  | 8 => tables_1_8
  | _ => []
theorem pm_chunk_in {j : Nat} {w : Cond} (h : w ∈ pm_chunk j) : w ∈ lw_tbl := by
  have ht : ∀ w, w ∈ tables_1 → w ∈ lw_tbl := fun w hw => List.mem_append_right _ hw
  unfold pm_chunk at h
  split at h
  · exact List.mem_append_left _ h
  · exact ht w (List.mem_append_left _ h)
  · exact ht w (List.mem_append_right _ (List.mem_append_left _ h))
  · exact ht w (List.mem_append_right _ (List.mem_append_right _ (List.mem_append_left _ h)))
  · exact ht w (List.mem_append_right _ (List.mem_append_right _ (List.mem_append_right _ (List.mem_append_left _ h))))
  · exact ht w (List.mem_append_right _ (List.mem_append_right _ (List.mem_append_right _ (List.mem_append_right _ (List.mem_append_left _ h)))))
  · exact ht w (List.mem_append_right _ (List.mem_append_right _ (List.mem_append_right _ (List.mem_append_right _ (List.mem_append_right _ (List.mem_append_left _ h))))))
  · exact ht w (List.mem_append_right _ (List.mem_append_right _ (List.mem_append_right _ (List.mem_append_right _ (List.mem_append_right _ (List.mem_append_right _ (List.mem_append_left _ h)))))))
  · exact ht w (List.mem_append_right _ (List.mem_append_right _ (List.mem_append_right _ (List.mem_append_right _ (List.mem_append_right _ (List.mem_append_right _ (List.mem_append_right _ h)))))))
  · cases h
noncomputable def pm_hasW (a : Nat × Nat) (w : Cond) : Bool := decide (pm_nth (pm_chunk a.1) a.2 = some w) && pm_stb w
theorem pm_hasW_in {a : Nat × Nat} {w : Cond} (h : pm_hasW a w = true) : w ∈ pm_TB := by
  unfold pm_hasW at h
  rw [Bool.and_eq_true, decide_eq_true_eq, pm_nth_eq] at h
  exact List.mem_filter.mpr ⟨pm_chunk_in (List.mem_of_getElem? h.1), h.2⟩
noncomputable def pm_hs : List (Nat × Nat) → List Cond → Bool
  | [], [] => true
  | a :: as, w :: ws => pm_hasW a w && pm_hs as ws
  | _, _ => false
theorem pm_hs_in : ∀ (as : List (Nat × Nat)) (ws : List Cond), pm_hs as ws = true → ∀ w ∈ ws, w ∈ pm_TB := by
  intro as
  induction as with
  | nil =>
    intro ws h w hw
    cases ws with
    | nil => cases hw
    | cons x r => cases h
  | cons a as ih =>
    intro ws h w hw
    cases ws with
    | nil => cases hw
    | cons x r =>
      have h2 : (pm_hasW a x && pm_hs as r) = true := h
      rw [Bool.and_eq_true] at h2
      rcases List.mem_cons.mp hw with rfl | hw
      · exact pm_hasW_in h2.1
      · exact ih r h2.2 w hw
noncomputable def pm_ckm (own mname : String) (i : Instr) (r1 r2 : Nat) (cst : Int) (hs : List (Nat × Nat)) : Bool := match i with
  | .getfield x => match vwCl[r1]? with
    | some (_, T, N) => Nat.ble (r2 + 1) N && pm_hs hs [.fieldLink own x (T r2).1 (T r2).2.1 (T r2).2.2.1]
    | none => false
  | .putfield x => match vwCl[r1]? with
    | some (_, T, N) => match parseFieldDescriptor (T r2).2.2.1 with
      | some ty => (Nat.ble (r2 + 1) N && pm_hs hs [.fieldLink own x (T r2).1 (T r2).2.1 (T r2).2.2.1]) && (decide (pm_tyc ty = cst) && (!(T r2).2.2.2 || (decide (mname = "<init>") && decide ((T r2).1 = own))))
      | none => false
    | none => false
  | .newarray ty => pm_hs hs [.arrayClass (newarray.typeOf ty)]
  | .anewarray x => pm_hs hs [.classLink own x pm_RD, .arrayOver (.object pm_RD)]
  | .multianewarray x d => decide (d = 2) && ((decide (r1 = 4) && (decide (r2 = 1) && pm_hs hs [.classLink own x ("[" ++ (FieldType.array .long).toString), .arrayOver (.array .long), .arrayClass .long])) || (decide (r1 = 5) && (decide (r2 = 0) && pm_hs hs [.classLink own x ("[" ++ (FieldType.array .int).toString), .arrayOver (.array .int), .arrayClass .int])))
  | .new x => match vwCl[r1]? with
    | some (C, _, N) => pm_hs hs [.classLink own x C, .instantiable C N, .initialized C]
    | none => false
  | .aastore => match vwCl[r1]? with
    | some (C, _, _) => decide (C = pm_RD)
    | none => false
  | _ => true
theorem pm_ckm_ok {own mname : String} {i : Instr} {r1 r2 : Nat} {cst : Int} {hs : List (Nat × Nat)} (h : pm_ckm own mname i r1 r2 cst hs = true) : pm_okm vwCl pm_TB pm_RD own mname i r1 r2 cst := by
  cases i <;> simp only [pm_ckm] at h <;> try exact trivial
  case getfield x =>
    split at h
    · rename_i C T N e1
      rw [Bool.and_eq_true] at h
      exact ⟨C, T, N, e1, Nat.le_of_ble_eq_true h.1, pm_hs_in _ _ h.2 _ List.mem_cons_self⟩
    · cases h
  case putfield x =>
    split at h
    · rename_i C T N e1
      split at h
      · rename_i ty e2
        simp only [Bool.and_eq_true, decide_eq_true_eq, Bool.or_eq_true, Bool.not_eq_true'] at h
        obtain ⟨⟨h1, h2⟩, h3, h4⟩ := h
        refine ⟨C, T, N, ty, e1, Nat.le_of_ble_eq_true h1, pm_hs_in _ _ h2 _ List.mem_cons_self, e2, h3, fun hf => ?_⟩
        rcases h4 with h4 | h4
        · rw [hf] at h4; cases h4
        · exact h4
      · cases h
    · cases h
  case newarray ty => exact pm_hs_in _ _ h _ List.mem_cons_self
  case anewarray x => exact ⟨pm_hs_in _ _ h _ List.mem_cons_self, pm_hs_in _ _ h _ (List.mem_cons_of_mem _ List.mem_cons_self)⟩
  case multianewarray x d =>
    simp only [Bool.and_eq_true, decide_eq_true_eq, Bool.or_eq_true] at h
    obtain ⟨h1, h2⟩ := h
    refine ⟨h1, ?_⟩
    rcases h2 with ⟨a, b, h3⟩ | ⟨a, b, h3⟩
    · exact Or.inl ⟨a, b, pm_hs_in _ _ h3 _ List.mem_cons_self, pm_hs_in _ _ h3 _ (List.mem_cons_of_mem _ List.mem_cons_self), pm_hs_in _ _ h3 _ (List.mem_cons_of_mem _ (List.mem_cons_of_mem _ List.mem_cons_self))⟩
    · exact Or.inr ⟨a, b, pm_hs_in _ _ h3 _ List.mem_cons_self, pm_hs_in _ _ h3 _ (List.mem_cons_of_mem _ List.mem_cons_self), pm_hs_in _ _ h3 _ (List.mem_cons_of_mem _ (List.mem_cons_of_mem _ List.mem_cons_self))⟩
  case new x =>
    split at h
    · rename_i C T N e1
      exact ⟨C, T, N, e1, pm_hs_in _ _ h _ List.mem_cons_self, pm_hs_in _ _ h _ (List.mem_cons_of_mem _ List.mem_cons_self), pm_hs_in _ _ h _ (List.mem_cons_of_mem _ (List.mem_cons_of_mem _ List.mem_cons_self))⟩
    · cases h
  case aastore =>
    split at h
    · rename_i C T N e1
      rw [decide_eq_true_eq] at h
      subst h
      exact ⟨T, N, e1⟩
    · cases h
/-- the word that links a call: a nest mate's where r2 is 1 -/
def pm_lkw (own : String) (x r2 : Nat) (y : MethodName) : Cond := match r2 with
  | 0 => .methodLink own x y
  | _ => .methodLinkNest own x y "LoopGround"
theorem pm_lkw_ok {own : String} {x r2 : Nat} {y : MethodName} (h : pm_lkw own x r2 y ∈ pm_TB) : pm_lnk pm_TB own x y := by
  cases r2 with
  | zero => exact Or.inl h
  | succ n => exact Or.inr ⟨_, h⟩
noncomputable def pm_ckc (ms : Nat → Option pm_M) (own : String) (i : Instr) (r1 r2 : Nat) (hs : List (Nat × Nat)) : Bool := match i with
  | .invokestatic x => match ms r1 with
    | some (y, _, _, _, _, _) => pm_hs hs [pm_lkw own x r2 y, .static y]
    | none => false
  | .invokevirtual x => match ms r1 with
    | some (y, _, _, _, _, ci) => match vwCl[ci]? with
      | some (C, _, _) => decide (C = y.cls) && pm_hs hs [pm_lkw own x r2 y, .instanceMethod y, .selects y.cls y y]
      | none => false
    | none => false
  | .invokespecial x => match r1 with
    | 0 => pm_hs hs [.methodLink own x objectInit, .instanceMethod objectInit, .code objectInit ⟨#[0xb1]⟩ 1 none]
    | r1 + 1 => match ms (r1 + 1) with
      | some (y, _, _, none, _, _) => decide (y.name = "<init>") && pm_hs hs [pm_lkw own x r2 y, .instanceMethod y]
      | _ => false
  | _ => true
theorem pm_ckc_ok {ms : Nat → Option pm_M} {own : String} {i : Instr} {r1 r2 : Nat} {hs : List (Nat × Nat)} (h : pm_ckc ms own i r1 r2 hs = true) : pm_okc ms vwCl pm_TB own i r1 := by
  cases i <;> simp only [pm_ckc] at h <;> try exact trivial
  case invokestatic x =>
    split at h
    · rename_i y bytes nL rt na ci e1
      exact ⟨y, bytes, nL, rt, na, ci, e1, pm_lkw_ok (pm_hs_in _ _ h _ List.mem_cons_self), pm_hs_in _ _ h _ (List.mem_cons_of_mem _ List.mem_cons_self)⟩
    · cases h
  case invokevirtual x =>
    split at h
    · rename_i y bytes nL rt na ci e1
      split at h
      · rename_i C T N e2
        rw [Bool.and_eq_true, decide_eq_true_eq] at h
        obtain ⟨rfl, h⟩ := h
        exact ⟨y, bytes, nL, rt, na, ci, e1, pm_lkw_ok (pm_hs_in _ _ h _ List.mem_cons_self), pm_hs_in _ _ h _ (List.mem_cons_of_mem _ List.mem_cons_self), T, N, e2, pm_hs_in _ _ h _ (List.mem_cons_of_mem _ (List.mem_cons_of_mem _ List.mem_cons_self))⟩
      · cases h
    · cases h
  case invokespecial x =>
    split at h
    · exact Or.inl ⟨rfl, pm_hs_in _ _ h _ List.mem_cons_self, pm_hs_in _ _ h _ (List.mem_cons_of_mem _ List.mem_cons_self), pm_hs_in _ _ h _ (List.mem_cons_of_mem _ (List.mem_cons_of_mem _ List.mem_cons_self))⟩
    · split at h
      · rename_i y bytes nL na ci e1
        rw [Bool.and_eq_true, decide_eq_true_eq] at h
        exact Or.inr ⟨by omega, y, bytes, nL, na, ci, e1, h.1, pm_lkw_ok (pm_hs_in _ _ h.2 _ List.mem_cons_self), pm_hs_in _ _ h.2 _ (List.mem_cons_of_mem _ List.mem_cons_self)⟩
      · cases h
noncomputable def pm_ckk (own : String) (i : Instr) (cst : Int) (hs : List (Nat × Nat)) : Bool := match i with
  | .ldc x => pm_hs hs [.constant own x (Int32.ofInt cst)]
  | .ldc_w x => pm_hs hs [.constant own x (Int32.ofInt cst)]
  | .ldc2_w x => pm_hs hs [.constantLong own x (Int64.ofInt cst)]
  | _ => true
def pm_ckl (i : Instr) (n : Nat) : Bool := match pm_grp i with
  | 0 => Nat.beq n (pm_aln i)
  | 1 => Nat.beq n (pm_ldn i)
  | 2 => Nat.beq n (pm_ston i)
  | 3 => Nat.beq n 3 || (match i with | .tableswitch _ _ _ _ => true | _ => false)
  | 4 => Nat.beq n (pm_memn i)
  | 5 => Nat.beq n 3
  | _ => Nat.beq n 1
theorem pm_ckl_ok {i : Instr} {n : Nat} (h : pm_ckl i n = true) : pm_lenOk i n := by
  cases i <;> first
    | exact pm_beq h
    | exact Or.inr ⟨_, _, _, _, rfl⟩
    | exact Or.inl (pm_beq ((Bool.or_false _).symm.trans h))
noncomputable def pm_ck (ms : Nat → Option pm_M) (cc : ByteArray) (own mname : String) (pc : Nat) (q : pm_I) : Bool := match q with
  | (i, n, r1, r2, cst, hs) => decide (decode cc pc = .ok (i, n)) && (pm_ckl i n && (pm_tgt i pc r1 && (pm_ckk own i cst hs && (pm_ckm own mname i r1 r2 cst hs && pm_ckc ms own i r1 r2 hs))))
theorem pm_ck_ok {ms : Nat → Option pm_M} {cc : ByteArray} {own mname : String} {pc : Nat} {q : pm_I} (h : pm_ck ms cc own mname pc q = true) : pm_okI vwCl pm_TB pm_RD ms cc own mname pc q := by
  obtain ⟨i, n, r1, r2, cst, hs⟩ := q
  simp only [pm_ck, Bool.and_eq_true, decide_eq_true_eq] at h
  obtain ⟨h1, h2, h3, h4, h5, h6⟩ := h
  refine ⟨h1, pm_ckl_ok h2, h3, ?_, ?_, pm_ckm_ok h5, pm_ckc_ok h6⟩
  · intro x hx
    rcases hx with hx | hx
    · have hx : i = .ldc x := hx
      subst hx
      exact pm_hs_in _ _ h4 _ List.mem_cons_self
    · have hx : i = .ldc_w x := hx
      subst hx
      exact pm_hs_in _ _ h4 _ List.mem_cons_self
  · intro x hx
    have hx : i = .ldc2_w x := hx
    subst hx
    exact pm_hs_in _ _ h4 _ List.mem_cons_self
/-- a method's table: itself, the places of its words, its instructions in rows of eight bytes -/
abbrev pm_D : Type := pm_M × List (Nat × Nat) × List (List (Nat × pm_I))
def pm_find : List (Nat × pm_I) → Nat → Option pm_I
  | [], _ => none
  | q :: r, pc => match Nat.beq q.1 pc with
    | true => some q.2
    | false => pm_find r pc
theorem pm_find_in {l : List (Nat × pm_I)} {pc : Nat} {q : pm_I} (h : pm_find l pc = some q) : (pc, q) ∈ l := by
  induction l with
  | nil => cases h
  | cons x r ih =>
    unfold pm_find at h
    split at h
    · rename_i e1
      cases h
      rw [← pm_beq e1]
      exact List.mem_cons_self
    · exact List.mem_cons_of_mem _ (ih h)
noncomputable def pm_at_pc (bs : List (List (Nat × pm_I))) (pc : Nat) : Option pm_I := match pm_nth bs (pc / 8) with
  | some l => pm_find l pc
  | none => none
noncomputable def pm_ckb (ms : Nat → Option pm_M) (cc : ByteArray) (own mname : String) (bs : List (List (Nat × pm_I))) : Bool := bs.all (fun l => l.all (fun x => pm_ck ms cc own mname x.1 x.2))
theorem pm_ckb_ok {ms : Nat → Option pm_M} {cc : ByteArray} {own mname : String} {bs : List (List (Nat × pm_I))} (h : pm_ckb ms cc own mname bs = true) {pc : Nat} {q : pm_I} (hq : pm_at_pc bs pc = some q) : pm_okI vwCl pm_TB pm_RD ms cc own mname pc q := by
  unfold pm_at_pc at hq
  split at hq
  · rename_i l e1
    rw [pm_nth_eq] at e1
    have h1 := List.all_eq_true.mp h l (List.mem_of_getElem? e1)
    exact pm_ck_ok (List.all_eq_true.mp h1 (pc, q) (pm_find_in hq))
  · cases hq
noncomputable def pm_ckM (x : pm_M) (hs : List (Nat × Nat)) : Bool := match x with
  | (y, bytes, nL, rt, na, _) => pm_hs hs [.code y bytes nL rt, .initialized y.cls] && (plainFor y && (decide (y.cls ≠ "java/lang/invoke/MethodHandle") && (decide (y.cls ≠ "java/lang/invoke/VarHandle") && (decide ((parseMethodDescriptor y.desc).map (fun d => d.parameters.length) = some na) && Nat.ble nL 13))))
/-- the methods, sixteen to a row -/
noncomputable def pm_tk (tab : List (List pm_D)) (k : Nat) : Option pm_D := match k with
  | 0 => none
  | k + 1 => match pm_nth tab (k / 16) with
    | some r => pm_nth r (k % 16)
    | none => none
theorem pm_tk_in {tab : List (List pm_D)} {k : Nat} {x : pm_D} (h : pm_tk tab k = some x) : ∃ r ∈ tab, x ∈ r := by
  unfold pm_tk at h
  split at h
  · cases h
  · split at h
    · rename_i r e1
      rw [pm_nth_eq] at e1 h
      exact ⟨r, List.mem_of_getElem? e1, List.mem_of_getElem? h⟩
    · cases h
noncomputable def pm_msT (tab : List (List pm_D)) (k : Nat) : Option pm_M := match pm_tk tab k with
  | some (x, _, _) => some x
  | none => none
noncomputable def pm_inT (tab : List (List pm_D)) (k pc : Nat) : Option pm_I := match pm_tk tab k with
  | some (_, _, bs) => pm_at_pc bs pc
  | none => none
/-- all is well with a method's table -/
def pm_dOk (ms : Nat → Option pm_M) (x : pm_D) : Prop := pm_ckM x.1 x.2.1 = true ∧ pm_ckb ms x.1.2.1 x.1.1.cls x.1.1.name x.2.2 = true
theorem pm_tab_ms {tab : List (List pm_D)} (h : ∀ r ∈ tab, ∀ x ∈ r, pm_dOk (pm_msT tab) x) : pm_msOk (pm_msT tab) pm_TB := by
  intro k y bytes nL rt na ci e1
  unfold pm_msT at e1
  split at e1
  · rename_i x hs bs e2
    cases e1
    obtain ⟨r, h1, h2⟩ := pm_tk_in e2
    have h3 := (h r h1 _ h2).1
    simp only [pm_ckM, Bool.and_eq_true, decide_eq_true_eq] at h3
    obtain ⟨a1, a2, a3, a4, a5, a6⟩ := h3
    exact ⟨pm_hs_in _ _ a1 _ List.mem_cons_self, pm_hs_in _ _ a1 _ (List.mem_cons_of_mem _ List.mem_cons_self), a2, ⟨a3, a4⟩, a5, Nat.le_of_ble_eq_true a6⟩
  · cases e1
theorem pm_tab_ins {tab : List (List pm_D)} (h : ∀ r ∈ tab, ∀ x ∈ r, pm_dOk (pm_msT tab) x) : pm_insOk vwCl pm_TB pm_RD (pm_msT tab) (pm_inT tab) := by
  intro k y bytes nL rt na ci e1 pc q e3
  unfold pm_msT at e1
  split at e1
  · rename_i x hs bs e2
    cases e1
    obtain ⟨r, h1, h2⟩ := pm_tk_in e2
    have h3 := (h r h1 _ h2).2
    unfold pm_inT at e3
    rw [e2] at e3
    exact pm_ckb_ok h3 e3
  · cases e1
end
section
/-! the methods, their instructions resolved, by program -/
/-- X0 init -/
def pd_1 : pm_D := ((yX0_init, cX0_init, 1, none, 0, 0), [(2, 17), (1, 9)], [[(0, (.aload_n 0, 1, 0, 0, 0, [])), (1, (.invokespecial 5, 3, 0, 0, 0, [(2, 18), (1, 20), (1, 21)])), (4, (.aload_n 0, 1, 0, 0, 0, [])), (5, (.bipush 61, 2, 0, 0, 0, [])), (7, (.bipush 18, 2, 0, 0, 0, []))], [(9, (.multianewarray 11 2, 4, 4, 1, 0, [(2, 19), (2, 20), (1, 116)])), (13, (.putfield 13, 3, 0, 3, 3, [(2, 26)]))], [(16, (.return_, 1, 0, 0, 0, []))]])
/-- X0 now -/
def pd_2 : pm_D := ((yX0_now, cX0_now, 1, (some (.array .long)), 0, 0), [(3, 227), (1, 9)], [[(0, (.aload_n 0, 1, 0, 0, 0, [])), (1, (.getfield 13, 3, 0, 3, 3, [(2, 26)])), (4, (.aload_n 0, 1, 0, 0, 0, [])), (5, (.getfield 16, 3, 0, 2, 0, [(2, 25)]))], [(8, (.aload_n 0, 1, 0, 0, 0, [])), (9, (.getfield 20, 3, 0, 0, 0, [(2, 21)])), (12, (.iadd, 1, 0, 0, 0, [])), (13, (.bipush 61, 2, 0, 0, 0, [])), (15, (.irem, 1, 0, 0, 0, []))], [(16, (.aaload, 1, 0, 0, 0, [])), (17, (.areturn, 1, 0, 0, 0, []))]])
/-- X0 keep -/
def pd_3 : pm_D := ((yX0_keep, cX0_keep, 2, none, 1, 0), [(5, 8), (1, 9)], [[(0, (.aload_n 0, 1, 0, 0, 0, [])), (1, (.iconst 0, 1, 0, 0, 0, [])), (2, (.putfield 23, 3, 0, 1, 0, [(2, 23)])), (5, (.aload_n 0, 1, 0, 0, 0, [])), (6, (.getfield 20, 3, 0, 0, 0, [(2, 21)]))], [(9, (.bipush 60, 2, 0, 0, 0, [])), (11, (.if_icmp .ge 16, 3, 27, 0, 0, [])), (14, (.aload_n 0, 1, 0, 0, 0, [])), (15, (.dup, 1, 0, 0, 0, []))], [(16, (.getfield 20, 3, 0, 0, 0, [(2, 21)])), (19, (.iconst 1, 1, 0, 0, 0, [])), (20, (.iadd, 1, 0, 0, 0, [])), (21, (.putfield 20, 3, 0, 0, 0, [(2, 21)]))], [(24, (.goto 16, 3, 40, 0, 0, [])), (27, (.aload_n 0, 1, 0, 0, 0, [])), (28, (.aload_n 0, 1, 0, 0, 0, [])), (29, (.getfield 16, 3, 0, 2, 0, [(2, 25)]))], [(32, (.iconst 1, 1, 0, 0, 0, [])), (33, (.iadd, 1, 0, 0, 0, [])), (34, (.bipush 61, 2, 0, 0, 0, [])), (36, (.irem, 1, 0, 0, 0, [])), (37, (.putfield 16, 3, 0, 2, 0, [(2, 25)]))], [(40, (.aload_n 1, 1, 0, 0, 0, [])), (41, (.aload_n 0, 1, 0, 0, 0, [])), (42, (.invokevirtual 26, 3, 2, 0, 0, [(3, 224), (3, 225), (3, 226)])), (45, (.invokestatic 30, 3, 140, 1, 0, [(5, 9), (3, 185)]))], [(48, (.return_, 1, 0, 0, 0, []))]])
/-- X0 clearTo -/
def pd_4 : pm_D := ((yX0_clearTo, cX0_clearTo, 4, none, 1, 0), [(3, 223), (1, 9)], [[(0, (.aload_n 0, 1, 0, 0, 0, [])), (1, (.iconst 0, 1, 0, 0, 0, [])), (2, (.putfield 20, 3, 0, 0, 0, [(2, 21)])), (5, (.aload_n 0, 1, 0, 0, 0, [])), (6, (.iconst 0, 1, 0, 0, 0, [])), (7, (.putfield 23, 3, 0, 1, 0, [(2, 23)]))], [(10, (.aload_n 0, 1, 0, 0, 0, [])), (11, (.invokevirtual 26, 3, 2, 0, 0, [(3, 224), (3, 225), (3, 226)])), (14, (.astore_n 2, 1, 0, 0, 0, [])), (15, (.iconst 0, 1, 0, 0, 0, []))], [(16, (.istore_n 3, 1, 0, 0, 0, [])), (17, (.iload_n 3, 1, 0, 0, 0, [])), (18, (.bipush 18, 2, 0, 0, 0, [])), (20, (.if_icmp .ge 23, 3, 43, 0, 0, [])), (23, (.aload_n 2, 1, 0, 0, 0, []))], [(24, (.iload_n 3, 1, 0, 0, 0, [])), (25, (.aload_n 1, 1, 0, 0, 0, [])), (26, (.ifnonnull 7, 3, 33, 0, 0, [])), (29, (.lconst 0, 1, 0, 0, 0, [])), (30, (.goto 6, 3, 36, 0, 0, []))], [(33, (.aload_n 1, 1, 0, 0, 0, [])), (34, (.iload_n 3, 1, 0, 0, 0, [])), (35, (.laload, 1, 0, 0, 0, [])), (36, (.lastore, 1, 0, 0, 0, [])), (37, (.iinc 3 1, 3, 0, 0, 0, []))], [(40, (.goto (-23), 3, 17, 0, 0, [])), (43, (.return_, 1, 0, 0, 0, []))]])
/-- X0 stepBack -/
def pd_5 : pm_D := ((yX0_stepBack, cX0_stepBack, 1, (some .boolean), 0, 0), [(5, 30), (1, 9)], [[(0, (.aload_n 0, 1, 0, 0, 0, [])), (1, (.getfield 20, 3, 0, 0, 0, [(2, 21)])), (4, (.ifCond .ne 5, 3, 9, 0, 0, [])), (7, (.iconst 0, 1, 0, 0, 0, []))], [(8, (.ireturn, 1, 0, 0, 0, [])), (9, (.aload_n 0, 1, 0, 0, 0, [])), (10, (.dup, 1, 0, 0, 0, [])), (11, (.getfield 20, 3, 0, 0, 0, [(2, 21)])), (14, (.iconst 1, 1, 0, 0, 0, [])), (15, (.isub, 1, 0, 0, 0, []))], [(16, (.putfield 20, 3, 0, 0, 0, [(2, 21)])), (19, (.aload_n 0, 1, 0, 0, 0, [])), (20, (.dup, 1, 0, 0, 0, [])), (21, (.getfield 23, 3, 0, 1, 0, [(2, 23)]))], [(24, (.iconst 1, 1, 0, 0, 0, [])), (25, (.iadd, 1, 0, 0, 0, [])), (26, (.putfield 23, 3, 0, 1, 0, [(2, 23)])), (29, (.iconst 1, 1, 0, 0, 0, [])), (30, (.ireturn, 1, 0, 0, 0, []))]])
/-- X0 stepOn -/
def pd_6 : pm_D := ((yX0_stepOn, cX0_stepOn, 1, (some .boolean), 0, 0), [(5, 38), (1, 9)], [[(0, (.aload_n 0, 1, 0, 0, 0, [])), (1, (.getfield 23, 3, 0, 1, 0, [(2, 23)])), (4, (.ifCond .ne 5, 3, 9, 0, 0, [])), (7, (.iconst 0, 1, 0, 0, 0, []))], [(8, (.ireturn, 1, 0, 0, 0, [])), (9, (.aload_n 0, 1, 0, 0, 0, [])), (10, (.dup, 1, 0, 0, 0, [])), (11, (.getfield 23, 3, 0, 1, 0, [(2, 23)])), (14, (.iconst 1, 1, 0, 0, 0, [])), (15, (.isub, 1, 0, 0, 0, []))], [(16, (.putfield 23, 3, 0, 1, 0, [(2, 23)])), (19, (.aload_n 0, 1, 0, 0, 0, [])), (20, (.dup, 1, 0, 0, 0, [])), (21, (.getfield 20, 3, 0, 0, 0, [(2, 21)]))], [(24, (.iconst 1, 1, 0, 0, 0, [])), (25, (.iadd, 1, 0, 0, 0, [])), (26, (.putfield 20, 3, 0, 0, 0, [(2, 21)])), (29, (.iconst 1, 1, 0, 0, 0, [])), (30, (.ireturn, 1, 0, 0, 0, []))]])
/-- X1 init -/
def pd_7 : pm_D := ((yX1_init, cX1_init, 1, none, 0, 1), [(1, 217), (1, 7)], [[(0, (.aload_n 0, 1, 0, 0, 0, [])), (1, (.invokespecial 3, 3, 0, 0, 0, [(1, 218), (1, 20), (1, 21)])), (4, (.aload_n 0, 1, 0, 0, 0, [])), (5, (.bipush 18, 2, 0, 0, 0, [])), (7, (.newarray .long, 2, 0, 0, 0, [(1, 116)]))], [(9, (.putfield 9, 3, 1, 0, 3, [(1, 219)])), (12, (.return_, 1, 0, 0, 0, []))]])
/-- X1 begin -/
def pd_8 : pm_D := ((yX1_begin, cX1_begin, 6, (some .boolean), 2, 1), [(4, 209), (1, 7)], [[(0, (.aload_n 0, 1, 0, 0, 0, [])), (1, (.aload_n 1, 1, 0, 0, 0, [])), (2, (.putfield 15, 3, 1, 1, 3, [(1, 221)])), (5, (.aload_n 0, 1, 0, 0, 0, [])), (6, (.iload_n 2, 1, 0, 0, 0, [])), (7, (.putfield 19, 3, 1, 2, 0, [(1, 222)]))], [(10, (.lconst 1, 1, 0, 0, 0, [])), (11, (.lstore_n 3, 1, 0, 0, 0, [])), (12, (.iconst 0, 1, 0, 0, 0, [])), (13, (.istore 5, 2, 0, 0, 0, [])), (15, (.iload 5, 2, 0, 0, 0, []))], [(17, (.bipush 18, 2, 0, 0, 0, [])), (19, (.if_icmp .ge 37, 3, 56, 0, 0, [])), (22, (.aload_n 0, 1, 0, 0, 0, [])), (23, (.getfield 9, 3, 1, 0, 3, [(1, 219)]))], [(26, (.iload 5, 2, 0, 0, 0, [])), (28, (.lconst 0, 1, 0, 0, 0, [])), (29, (.lastore, 1, 0, 0, 0, [])), (30, (.lload_n 3, 1, 0, 0, 0, [])), (31, (.iload 5, 2, 0, 0, 0, []))], [(33, (.aload_n 1, 1, 0, 0, 0, [])), (34, (.getfield 23, 3, 8, 1, 0, [(2, 89)])), (37, (.if_icmp .ge 10, 3, 47, 0, 0, []))], [(40, (.iload_n 2, 1, 0, 0, 0, [])), (41, (.iconst 1, 1, 0, 0, 0, [])), (42, (.iadd, 1, 0, 0, 0, [])), (43, (.i2l, 1, 0, 0, 0, [])), (44, (.goto 4, 3, 48, 0, 0, [])), (47, (.lconst 1, 1, 0, 0, 0, []))], [(48, (.lmul, 1, 0, 0, 0, [])), (49, (.lstore_n 3, 1, 0, 0, 0, [])), (50, (.iinc 5 1, 3, 0, 0, 0, [])), (53, (.goto (-38), 3, 15, 0, 0, []))], [(56, (.lload_n 3, 1, 0, 0, 0, [])), (57, (.ldc2_w 28, 3, 0, 0, 60000, [(4, 210)])), (60, (.lcmp, 1, 0, 0, 0, [])), (61, (.ifCond .gt 7, 3, 68, 0, 0, []))], [(64, (.iconst 1, 1, 0, 0, 0, [])), (65, (.goto 4, 3, 69, 0, 0, [])), (68, (.iconst 0, 1, 0, 0, 0, [])), (69, (.ireturn, 1, 0, 0, 0, []))]])
/-- X1 nextFit -/
def pd_9 : pm_D := ((yX1_nextFit, cX1_nextFit, 4, (some .boolean), 0, 1), [(4, 215), (1, 7)], [[(0, (.aload_n 0, 1, 0, 0, 0, [])), (1, (.getfield 15, 3, 1, 1, 3, [(1, 221)])), (4, (.getfield 23, 3, 8, 1, 0, [(2, 89)])), (7, (.iconst 1, 1, 0, 0, 0, []))], [(8, (.isub, 1, 0, 0, 0, [])), (9, (.istore_n 1, 1, 0, 0, 0, [])), (10, (.iconst 0, 1, 0, 0, 0, [])), (11, (.istore_n 2, 1, 0, 0, 0, [])), (12, (.iload_n 2, 1, 0, 0, 0, [])), (13, (.ldc 30, 2, 0, 0, 60000, [(4, 216)])), (15, (.if_icmp .ge 31, 3, 46, 0, 0, []))], [(18, (.aload_n 0, 1, 0, 0, 0, [])), (19, (.iload_n 1, 1, 0, 0, 0, [])), (20, (.invokevirtual 31, 3, 11, 0, 0, [(4, 217), (4, 219), (0, 46)])), (23, (.ifCond .eq 23, 3, 46, 0, 0, []))], [(26, (.aload_n 0, 1, 0, 0, 0, [])), (27, (.invokevirtual 35, 3, 10, 0, 0, [(4, 221), (4, 223), (0, 47)])), (30, (.istore_n 3, 1, 0, 0, 0, [])), (31, (.iload_n 3, 1, 0, 0, 0, []))], [(32, (.iconst (-1), 1, 0, 0, 0, [])), (33, (.if_icmp .ne 5, 3, 38, 0, 0, [])), (36, (.iconst 1, 1, 0, 0, 0, [])), (37, (.ireturn, 1, 0, 0, 0, [])), (38, (.iload_n 3, 1, 0, 0, 0, [])), (39, (.istore_n 1, 1, 0, 0, 0, []))], [(40, (.iinc 2 1, 3, 0, 0, 0, [])), (43, (.goto (-31), 3, 12, 0, 0, [])), (46, (.iconst 0, 1, 0, 0, 0, [])), (47, (.ireturn, 1, 0, 0, 0, []))]])
/-- X1 wrongEdge -/
def pd_10 : pm_D := ((yX1_wrongEdge, cX1_wrongEdge, 4, (some .int), 0, 1), [(4, 224), (1, 7)], [[(0, (.iconst (-1), 1, 0, 0, 0, [])), (1, (.istore_n 1, 1, 0, 0, 0, [])), (2, (.iconst 0, 1, 0, 0, 0, [])), (3, (.istore_n 2, 1, 0, 0, 0, [])), (4, (.iload_n 2, 1, 0, 0, 0, [])), (5, (.aload_n 0, 1, 0, 0, 0, [])), (6, (.getfield 15, 3, 1, 1, 3, [(1, 221)]))], [(9, (.getfield 39, 3, 8, 0, 0, [(2, 84)])), (12, (.if_icmp .ge 49, 3, 61, 0, 0, [])), (15, (.aload_n 0, 1, 0, 0, 0, []))], [(16, (.getfield 15, 3, 1, 1, 3, [(1, 221)])), (19, (.iload_n 2, 1, 0, 0, 0, [])), (20, (.aload_n 0, 1, 0, 0, 0, [])), (21, (.getfield 9, 3, 1, 0, 3, [(1, 219)]))], [(24, (.invokevirtual 42, 3, 79, 0, 0, [(4, 225), (3, 112), (3, 113)])), (27, (.ifCond .ne 28, 3, 55, 0, 0, [])), (30, (.aload_n 0, 1, 0, 0, 0, [])), (31, (.getfield 15, 3, 1, 1, 3, [(1, 221)]))], [(34, (.iload_n 2, 1, 0, 0, 0, [])), (35, (.invokevirtual 46, 3, 81, 0, 0, [(4, 226), (4, 227), (4, 228)])), (38, (.istore_n 3, 1, 0, 0, 0, [])), (39, (.iload_n 1, 1, 0, 0, 0, []))], [(40, (.iconst (-1), 1, 0, 0, 0, [])), (41, (.if_icmp .eq 8, 3, 49, 0, 0, [])), (44, (.iload_n 3, 1, 0, 0, 0, [])), (45, (.iload_n 1, 1, 0, 0, 0, [])), (46, (.if_icmp .ge 7, 3, 53, 0, 0, []))], [(49, (.iload_n 3, 1, 0, 0, 0, [])), (50, (.goto 4, 3, 54, 0, 0, [])), (53, (.iload_n 1, 1, 0, 0, 0, [])), (54, (.istore_n 1, 1, 0, 0, 0, [])), (55, (.iinc 2 1, 3, 0, 0, 0, []))], [(58, (.goto (-54), 3, 4, 0, 0, [])), (61, (.iload_n 1, 1, 0, 0, 0, [])), (62, (.ireturn, 1, 0, 0, 0, []))]])
/-- X1 countUp -/
def pd_11 : pm_D := ((yX1_countUp, cX1_countUp, 3, (some .boolean), 1, 1), [(4, 220), (1, 7)], [[(0, (.iload_n 1, 1, 0, 0, 0, [])), (1, (.iconst 1, 1, 0, 0, 0, [])), (2, (.iadd, 1, 0, 0, 0, [])), (3, (.istore_n 2, 1, 0, 0, 0, [])), (4, (.iload_n 2, 1, 0, 0, 0, [])), (5, (.aload_n 0, 1, 0, 0, 0, [])), (6, (.getfield 15, 3, 1, 1, 3, [(1, 221)]))], [(9, (.getfield 23, 3, 8, 1, 0, [(2, 89)])), (12, (.if_icmp .ge 16, 3, 28, 0, 0, [])), (15, (.aload_n 0, 1, 0, 0, 0, []))], [(16, (.getfield 9, 3, 1, 0, 3, [(1, 219)])), (19, (.iload_n 2, 1, 0, 0, 0, [])), (20, (.lconst 0, 1, 0, 0, 0, [])), (21, (.lastore, 1, 0, 0, 0, [])), (22, (.iinc 2 1, 3, 0, 0, 0, []))], [(25, (.goto (-21), 3, 4, 0, 0, [])), (28, (.iload_n 1, 1, 0, 0, 0, [])), (29, (.istore_n 2, 1, 0, 0, 0, [])), (30, (.iload_n 2, 1, 0, 0, 0, [])), (31, (.ifCond .lt 43, 3, 74, 0, 0, []))], [(34, (.aload_n 0, 1, 0, 0, 0, [])), (35, (.getfield 9, 3, 1, 0, 3, [(1, 219)])), (38, (.iload_n 2, 1, 0, 0, 0, [])), (39, (.laload, 1, 0, 0, 0, []))], [(40, (.aload_n 0, 1, 0, 0, 0, [])), (41, (.getfield 19, 3, 1, 2, 0, [(1, 222)])), (44, (.i2l, 1, 0, 0, 0, [])), (45, (.lcmp, 1, 0, 0, 0, [])), (46, (.ifCond .ge 15, 3, 61, 0, 0, []))], [(49, (.aload_n 0, 1, 0, 0, 0, [])), (50, (.getfield 9, 3, 1, 0, 3, [(1, 219)])), (53, (.iload_n 2, 1, 0, 0, 0, [])), (54, (.dup2, 1, 0, 0, 0, [])), (55, (.laload, 1, 0, 0, 0, []))], [(56, (.lconst 1, 1, 0, 0, 0, [])), (57, (.ladd, 1, 0, 0, 0, [])), (58, (.lastore, 1, 0, 0, 0, [])), (59, (.iconst 1, 1, 0, 0, 0, [])), (60, (.ireturn, 1, 0, 0, 0, [])), (61, (.aload_n 0, 1, 0, 0, 0, [])), (62, (.getfield 9, 3, 1, 0, 3, [(1, 219)]))], [(65, (.iload_n 2, 1, 0, 0, 0, [])), (66, (.lconst 0, 1, 0, 0, 0, [])), (67, (.lastore, 1, 0, 0, 0, [])), (68, (.iinc 2 (-1), 3, 0, 0, 0, [])), (71, (.goto (-41), 3, 30, 0, 0, []))], [(74, (.iconst 0, 1, 0, 0, 0, [])), (75, (.ireturn, 1, 0, 0, 0, []))]])
/-- X2 init -/
def pd_12 : pm_D := ((yX2_init, cX2_init, 1, none, 0, 2), [(1, 234), (1, 8)], [[(0, (.aload_n 0, 1, 0, 0, 0, [])), (1, (.invokespecial 3, 3, 0, 0, 0, [(1, 235), (1, 20), (1, 21)])), (4, (.aload_n 0, 1, 0, 0, 0, [])), (5, (.bipush 18, 2, 0, 0, 0, [])), (7, (.newarray .long, 2, 0, 0, 0, [(1, 116)]))], [(9, (.putfield 9, 3, 2, 0, 3, [(1, 236)])), (12, (.aload_n 0, 1, 0, 0, 0, [])), (13, (.sipush 1600, 3, 0, 0, 0, []))], [(16, (.newarray .int, 2, 0, 0, 0, [(1, 117)])), (18, (.putfield 15, 3, 2, 1, 3, [(1, 238)])), (21, (.aload_n 0, 1, 0, 0, 0, [])), (22, (.sipush 1600, 3, 0, 0, 0, []))], [(25, (.newarray .int, 2, 0, 0, 0, [(1, 117)])), (27, (.putfield 19, 3, 2, 2, 3, [(1, 239)])), (30, (.return_, 1, 0, 0, 0, []))]])
/-- X2 walk -/
def pd_13 : pm_D := ((yX2_walk, cX2_walk, 8, (some .boolean), 3, 2), [(5, 46), (1, 8)], [[(0, (.aload_n 0, 1, 0, 0, 0, [])), (1, (.iconst 0, 1, 0, 0, 0, [])), (2, (.putfield 22, 3, 2, 3, 0, [(2, 0)])), (5, (.aload_n 0, 1, 0, 0, 0, [])), (6, (.iconst 0, 1, 0, 0, 0, [])), (7, (.putfield 26, 3, 2, 4, 0, [(2, 1)]))], [(10, (.iload_n 3, 1, 0, 0, 0, [])), (11, (.iconst 1, 1, 0, 0, 0, [])), (12, (.if_icmp .lt 9, 3, 21, 0, 0, [])), (15, (.iload_n 3, 1, 0, 0, 0, []))], [(16, (.aload_n 2, 1, 0, 0, 0, [])), (17, (.arraylength, 1, 0, 0, 0, [])), (18, (.if_icmp .le 5, 3, 23, 0, 0, [])), (21, (.iconst 0, 1, 0, 0, 0, [])), (22, (.ireturn, 1, 0, 0, 0, [])), (23, (.aload_n 2, 1, 0, 0, 0, []))], [(24, (.iconst 0, 1, 0, 0, 0, [])), (25, (.baload, 1, 0, 0, 0, [])), (26, (.bipush 48, 2, 0, 0, 0, [])), (28, (.isub, 1, 0, 0, 0, [])), (29, (.istore 4, 2, 0, 0, 0, [])), (31, (.iload 4, 2, 0, 0, 0, []))], [(33, (.ifCond .lt 12, 3, 45, 0, 0, [])), (36, (.iload 4, 2, 0, 0, 0, [])), (38, (.aload_n 1, 1, 0, 0, 0, [])), (39, (.getfield 29, 3, 8, 0, 0, [(2, 82)]))], [(42, (.if_icmp .lt 5, 3, 47, 0, 0, [])), (45, (.iconst 0, 1, 0, 0, 0, [])), (46, (.ireturn, 1, 0, 0, 0, [])), (47, (.iload 4, 2, 0, 0, 0, []))], [(49, (.istore 5, 2, 0, 0, 0, [])), (51, (.iconst 1, 1, 0, 0, 0, [])), (52, (.istore 6, 2, 0, 0, 0, [])), (54, (.iload 6, 2, 0, 0, 0, []))], [(56, (.iload_n 3, 1, 0, 0, 0, [])), (57, (.if_icmp .ge 64, 3, 121, 0, 0, [])), (60, (.aload_n 1, 1, 0, 0, 0, [])), (61, (.iload 5, 2, 0, 0, 0, [])), (63, (.aload_n 2, 1, 0, 0, 0, []))], [(64, (.iload 6, 2, 0, 0, 0, [])), (66, (.baload, 1, 0, 0, 0, [])), (67, (.bipush 97, 2, 0, 0, 0, [])), (69, (.isub, 1, 0, 0, 0, [])), (70, (.invokestatic 34, 3, 14, 0, 0, [(5, 47), (5, 48)]))], [(73, (.istore 7, 2, 0, 0, 0, [])), (75, (.iload 7, 2, 0, 0, 0, [])), (77, (.iconst (-1), 1, 0, 0, 0, [])), (78, (.if_icmp .ne 5, 3, 83, 0, 0, []))], [(81, (.iconst 0, 1, 0, 0, 0, [])), (82, (.ireturn, 1, 0, 0, 0, [])), (83, (.aload_n 0, 1, 0, 0, 0, [])), (84, (.getfield 15, 3, 2, 1, 3, [(1, 238)])), (87, (.aload_n 0, 1, 0, 0, 0, []))], [(88, (.getfield 26, 3, 2, 4, 0, [(2, 1)])), (91, (.iload 7, 2, 0, 0, 0, [])), (93, (.iastore, 1, 0, 0, 0, [])), (94, (.aload_n 0, 1, 0, 0, 0, [])), (95, (.dup, 1, 0, 0, 0, []))], [(96, (.getfield 26, 3, 2, 4, 0, [(2, 1)])), (99, (.iconst 1, 1, 0, 0, 0, [])), (100, (.iadd, 1, 0, 0, 0, [])), (101, (.putfield 26, 3, 2, 4, 0, [(2, 1)]))], [(104, (.aload_n 1, 1, 0, 0, 0, [])), (105, (.getfield 38, 3, 8, 6, 3, [(2, 109)])), (108, (.iload 7, 2, 0, 0, 0, [])), (110, (.iaload, 1, 0, 0, 0, [])), (111, (.iconst 3, 1, 0, 0, 0, []))], [(112, (.idiv, 1, 0, 0, 0, [])), (113, (.istore 5, 2, 0, 0, 0, [])), (115, (.iinc 6 1, 3, 0, 0, 0, [])), (118, (.goto (-64), 3, 54, 0, 0, []))], [(121, (.iload 5, 2, 0, 0, 0, [])), (123, (.iload 4, 2, 0, 0, 0, [])), (125, (.if_icmp .ne 7, 3, 132, 0, 0, []))], [(128, (.iconst 1, 1, 0, 0, 0, [])), (129, (.goto 4, 3, 133, 0, 0, [])), (132, (.iconst 0, 1, 0, 0, 0, [])), (133, (.ireturn, 1, 0, 0, 0, []))]])
/-- X2 slotOf -/
def pd_14 : pm_D := ((yX2_slotOf, cX2_slotOf, 4, (some .int), 3, 2), [(5, 49), (1, 8)], [[(0, (.iconst 3, 1, 0, 0, 0, [])), (1, (.iload_n 1, 1, 0, 0, 0, [])), (2, (.imul, 1, 0, 0, 0, [])), (3, (.istore_n 3, 1, 0, 0, 0, [])), (4, (.iload_n 3, 1, 0, 0, 0, [])), (5, (.iconst 3, 1, 0, 0, 0, [])), (6, (.iload_n 1, 1, 0, 0, 0, [])), (7, (.imul, 1, 0, 0, 0, []))], [(8, (.iconst 3, 1, 0, 0, 0, [])), (9, (.iadd, 1, 0, 0, 0, [])), (10, (.if_icmp .ge 21, 3, 31, 0, 0, [])), (13, (.aload_n 0, 1, 0, 0, 0, [])), (14, (.getfield 41, 3, 8, 5, 3, [(2, 106)]))], [(17, (.iload_n 3, 1, 0, 0, 0, [])), (18, (.iaload, 1, 0, 0, 0, [])), (19, (.iload_n 2, 1, 0, 0, 0, [])), (20, (.if_icmp .ne 5, 3, 25, 0, 0, [])), (23, (.iload_n 3, 1, 0, 0, 0, []))], [(24, (.ireturn, 1, 0, 0, 0, [])), (25, (.iinc 3 1, 3, 0, 0, 0, [])), (28, (.goto (-24), 3, 4, 0, 0, [])), (31, (.iconst (-1), 1, 0, 0, 0, []))], [(32, (.ireturn, 1, 0, 0, 0, []))]])
/-- X2 leaveOut -/
def pd_15 : pm_D := ((yX2_leaveOut, cX2_leaveOut, 4, none, 1, 2), [(5, 53), (1, 8)], [[(0, (.iconst 0, 1, 0, 0, 0, [])), (1, (.istore_n 2, 1, 0, 0, 0, [])), (2, (.aload_n 0, 1, 0, 0, 0, [])), (3, (.getfield 22, 3, 2, 3, 0, [(2, 0)])), (6, (.istore_n 3, 1, 0, 0, 0, [])), (7, (.iload_n 3, 1, 0, 0, 0, []))], [(8, (.aload_n 0, 1, 0, 0, 0, [])), (9, (.getfield 26, 3, 2, 4, 0, [(2, 1)])), (12, (.if_icmp .ge 56, 3, 68, 0, 0, [])), (15, (.iload_n 2, 1, 0, 0, 0, []))], [(16, (.ifCond .le 31, 3, 47, 0, 0, [])), (19, (.aload_n 1, 1, 0, 0, 0, [])), (20, (.getfield 38, 3, 8, 6, 3, [(2, 109)])), (23, (.aload_n 0, 1, 0, 0, 0, []))], [(24, (.getfield 15, 3, 2, 1, 3, [(1, 238)])), (27, (.iload_n 2, 1, 0, 0, 0, [])), (28, (.iconst 1, 1, 0, 0, 0, [])), (29, (.isub, 1, 0, 0, 0, [])), (30, (.iaload, 1, 0, 0, 0, [])), (31, (.iaload, 1, 0, 0, 0, []))], [(32, (.aload_n 0, 1, 0, 0, 0, [])), (33, (.getfield 15, 3, 2, 1, 3, [(1, 238)])), (36, (.iload_n 3, 1, 0, 0, 0, [])), (37, (.iaload, 1, 0, 0, 0, [])), (38, (.if_icmp .ne 9, 3, 47, 0, 0, []))], [(41, (.iinc 2 (-1), 3, 0, 0, 0, [])), (44, (.goto 18, 3, 62, 0, 0, [])), (47, (.aload_n 0, 1, 0, 0, 0, []))], [(48, (.getfield 15, 3, 2, 1, 3, [(1, 238)])), (51, (.iload_n 2, 1, 0, 0, 0, [])), (52, (.aload_n 0, 1, 0, 0, 0, [])), (53, (.getfield 15, 3, 2, 1, 3, [(1, 238)]))], [(56, (.iload_n 3, 1, 0, 0, 0, [])), (57, (.iaload, 1, 0, 0, 0, [])), (58, (.iastore, 1, 0, 0, 0, [])), (59, (.iinc 2 1, 3, 0, 0, 0, [])), (62, (.iinc 3 1, 3, 0, 0, 0, []))], [(65, (.goto (-58), 3, 7, 0, 0, [])), (68, (.aload_n 0, 1, 0, 0, 0, [])), (69, (.iload_n 2, 1, 0, 0, 0, [])), (70, (.putfield 26, 3, 2, 4, 0, [(2, 1)]))], [(73, (.iconst 0, 1, 0, 0, 0, [])), (74, (.istore_n 3, 1, 0, 0, 0, [])), (75, (.iload_n 3, 1, 0, 0, 0, [])), (76, (.sipush 1600, 3, 0, 0, 0, [])), (79, (.if_icmp .ge 71, 3, 150, 0, 0, []))], [(82, (.aload_n 0, 1, 0, 0, 0, [])), (83, (.getfield 26, 3, 2, 4, 0, [(2, 1)])), (86, (.aload_n 0, 1, 0, 0, 0, [])), (87, (.getfield 22, 3, 2, 3, 0, [(2, 0)]))], [(90, (.isub, 1, 0, 0, 0, [])), (91, (.iconst 2, 1, 0, 0, 0, [])), (92, (.if_icmp .lt 58, 3, 150, 0, 0, [])), (95, (.aload_n 1, 1, 0, 0, 0, []))], [(96, (.getfield 38, 3, 8, 6, 3, [(2, 109)])), (99, (.aload_n 0, 1, 0, 0, 0, [])), (100, (.getfield 15, 3, 2, 1, 3, [(1, 238)])), (103, (.aload_n 0, 1, 0, 0, 0, []))], [(104, (.getfield 26, 3, 2, 4, 0, [(2, 1)])), (107, (.iconst 1, 1, 0, 0, 0, [])), (108, (.isub, 1, 0, 0, 0, [])), (109, (.iaload, 1, 0, 0, 0, [])), (110, (.iaload, 1, 0, 0, 0, [])), (111, (.aload_n 0, 1, 0, 0, 0, []))], [(112, (.getfield 15, 3, 2, 1, 3, [(1, 238)])), (115, (.aload_n 0, 1, 0, 0, 0, [])), (116, (.getfield 22, 3, 2, 3, 0, [(2, 0)])), (119, (.iaload, 1, 0, 0, 0, []))], [(120, (.if_icmp .eq 4, 3, 124, 0, 0, [])), (123, (.return_, 1, 0, 0, 0, [])), (124, (.aload_n 0, 1, 0, 0, 0, [])), (125, (.dup, 1, 0, 0, 0, [])), (126, (.getfield 22, 3, 2, 3, 0, [(2, 0)]))], [(129, (.iconst 1, 1, 0, 0, 0, [])), (130, (.iadd, 1, 0, 0, 0, [])), (131, (.putfield 22, 3, 2, 3, 0, [(2, 0)])), (134, (.aload_n 0, 1, 0, 0, 0, [])), (135, (.dup, 1, 0, 0, 0, []))], [(136, (.getfield 26, 3, 2, 4, 0, [(2, 1)])), (139, (.iconst 1, 1, 0, 0, 0, [])), (140, (.isub, 1, 0, 0, 0, [])), (141, (.putfield 26, 3, 2, 4, 0, [(2, 1)]))], [(144, (.iinc 3 1, 3, 0, 0, 0, [])), (147, (.goto (-72), 3, 75, 0, 0, [])), (150, (.return_, 1, 0, 0, 0, []))]])
/-- X2 left -/
def pd_16 : pm_D := ((yX2_left, cX2_left, 1, (some .int), 0, 2), [(5, 69), (1, 8)], [[(0, (.aload_n 0, 1, 0, 0, 0, [])), (1, (.getfield 26, 3, 2, 4, 0, [(2, 1)])), (4, (.aload_n 0, 1, 0, 0, 0, [])), (5, (.getfield 22, 3, 2, 3, 0, [(2, 0)]))], [(8, (.isub, 1, 0, 0, 0, [])), (9, (.ireturn, 1, 0, 0, 0, []))]])
/-- X2 isTrue -/
def pd_17 : pm_D := ((yX2_isTrue, cX2_isTrue, 4, (some .boolean), 2, 2), [(5, 57), (1, 8)], [[(0, (.iconst 0, 1, 0, 0, 0, [])), (1, (.istore_n 3, 1, 0, 0, 0, [])), (2, (.iload_n 3, 1, 0, 0, 0, [])), (3, (.bipush 18, 2, 0, 0, 0, [])), (5, (.if_icmp .ge 16, 3, 21, 0, 0, []))], [(8, (.aload_n 0, 1, 0, 0, 0, [])), (9, (.getfield 9, 3, 2, 0, 3, [(1, 236)])), (12, (.iload_n 3, 1, 0, 0, 0, [])), (13, (.lconst 0, 1, 0, 0, 0, [])), (14, (.lastore, 1, 0, 0, 0, [])), (15, (.iinc 3 1, 3, 0, 0, 0, []))], [(18, (.goto (-16), 3, 2, 0, 0, [])), (21, (.aload_n 0, 1, 0, 0, 0, [])), (22, (.getfield 22, 3, 2, 3, 0, [(2, 0)]))], [(25, (.istore_n 3, 1, 0, 0, 0, [])), (26, (.iload_n 3, 1, 0, 0, 0, [])), (27, (.aload_n 0, 1, 0, 0, 0, [])), (28, (.getfield 26, 3, 2, 4, 0, [(2, 1)])), (31, (.if_icmp .ge 41, 3, 72, 0, 0, []))], [(34, (.aload_n 0, 1, 0, 0, 0, [])), (35, (.getfield 15, 3, 2, 1, 3, [(1, 238)])), (38, (.iload_n 3, 1, 0, 0, 0, [])), (39, (.aload_n 1, 1, 0, 0, 0, []))], [(40, (.getfield 41, 3, 8, 5, 3, [(2, 106)])), (43, (.aload_n 0, 1, 0, 0, 0, [])), (44, (.getfield 15, 3, 2, 1, 3, [(1, 238)])), (47, (.iload_n 3, 1, 0, 0, 0, []))], [(48, (.iaload, 1, 0, 0, 0, [])), (49, (.iaload, 1, 0, 0, 0, [])), (50, (.iastore, 1, 0, 0, 0, [])), (51, (.aload_n 0, 1, 0, 0, 0, [])), (52, (.getfield 9, 3, 2, 0, 3, [(1, 236)])), (55, (.aload_n 0, 1, 0, 0, 0, []))], [(56, (.getfield 15, 3, 2, 1, 3, [(1, 238)])), (59, (.iload_n 3, 1, 0, 0, 0, [])), (60, (.iaload, 1, 0, 0, 0, [])), (61, (.dup2, 1, 0, 0, 0, [])), (62, (.laload, 1, 0, 0, 0, [])), (63, (.lconst 1, 1, 0, 0, 0, []))], [(64, (.ladd, 1, 0, 0, 0, [])), (65, (.lastore, 1, 0, 0, 0, [])), (66, (.iinc 3 1, 3, 0, 0, 0, [])), (69, (.goto (-43), 3, 26, 0, 0, []))], [(72, (.aload_n 1, 1, 0, 0, 0, [])), (73, (.aload_n 0, 1, 0, 0, 0, [])), (74, (.getfield 9, 3, 2, 0, 3, [(1, 236)])), (77, (.invokevirtual 44, 3, 80, 0, 0, [(5, 58), (3, 108), (3, 109)]))], [(80, (.ifCond .eq 15, 3, 95, 0, 0, [])), (83, (.aload_n 2, 1, 0, 0, 0, [])), (84, (.aload_n 1, 1, 0, 0, 0, [])), (85, (.aload_n 0, 1, 0, 0, 0, [])), (86, (.getfield 9, 3, 2, 0, 3, [(1, 236)]))], [(89, (.invokevirtual 48, 3, 86, 0, 0, [(5, 59), (3, 137), (3, 138)])), (92, (.ifCond .ne 5, 3, 97, 0, 0, [])), (95, (.iconst 0, 1, 0, 0, 0, []))], [(96, (.ireturn, 1, 0, 0, 0, [])), (97, (.aload_n 2, 1, 0, 0, 0, [])), (98, (.invokevirtual 54, 3, 93, 0, 0, [(5, 60), (3, 145), (3, 146)])), (101, (.aload_n 2, 1, 0, 0, 0, [])), (102, (.invokevirtual 57, 3, 96, 0, 0, [(5, 61), (3, 181), (3, 182)]))], [(105, (.ifCond .eq 29, 3, 134, 0, 0, [])), (108, (.aload_n 2, 1, 0, 0, 0, [])), (109, (.aload_n 0, 1, 0, 0, 0, [])), (110, (.getfield 19, 3, 2, 2, 3, [(1, 239)]))], [(113, (.invokevirtual 61, 3, 98, 0, 0, [(5, 62), (5, 63), (5, 64)])), (116, (.aload_n 0, 1, 0, 0, 0, [])), (117, (.invokevirtual 65, 3, 16, 0, 0, [(5, 66), (5, 67), (5, 68)]))], [(120, (.if_icmp .ne 14, 3, 134, 0, 0, [])), (123, (.aload_n 0, 1, 0, 0, 0, [])), (124, (.invokevirtual 69, 3, 18, 0, 0, [(5, 70), (5, 72), (0, 50)])), (127, (.ifCond .eq 7, 3, 134, 0, 0, []))], [(130, (.iconst 1, 1, 0, 0, 0, [])), (131, (.goto 4, 3, 135, 0, 0, [])), (134, (.iconst 0, 1, 0, 0, 0, [])), (135, (.ireturn, 1, 0, 0, 0, []))]])
/-- X2 isRoundLine -/
def pd_18 : pm_D := ((yX2_isRoundLine, cX2_isRoundLine, 2, (some .boolean), 0, 2), [(5, 73), (1, 8)], [[(0, (.iconst 0, 1, 0, 0, 0, [])), (1, (.istore_n 1, 1, 0, 0, 0, [])), (2, (.iload_n 1, 1, 0, 0, 0, [])), (3, (.aload_n 0, 1, 0, 0, 0, [])), (4, (.invokevirtual 65, 3, 16, 0, 0, [(5, 66), (5, 67), (5, 68)])), (7, (.if_icmp .ge 29, 3, 36, 0, 0, []))], [(10, (.aload_n 0, 1, 0, 0, 0, [])), (11, (.iload_n 1, 1, 0, 0, 0, [])), (12, (.iconst 1, 1, 0, 0, 0, [])), (13, (.invokevirtual 72, 3, 19, 0, 0, [(5, 74), (5, 76), (0, 51)]))], [(16, (.ifCond .ne 12, 3, 28, 0, 0, [])), (19, (.aload_n 0, 1, 0, 0, 0, [])), (20, (.iload_n 1, 1, 0, 0, 0, [])), (21, (.iconst (-1), 1, 0, 0, 0, [])), (22, (.invokevirtual 72, 3, 19, 0, 0, [(5, 74), (5, 76), (0, 51)]))], [(25, (.ifCond .eq 5, 3, 30, 0, 0, [])), (28, (.iconst 1, 1, 0, 0, 0, [])), (29, (.ireturn, 1, 0, 0, 0, [])), (30, (.iinc 1 1, 3, 0, 0, 0, []))], [(33, (.goto (-31), 3, 2, 0, 0, [])), (36, (.iconst 0, 1, 0, 0, 0, [])), (37, (.ireturn, 1, 0, 0, 0, []))]])
/-- X2 agrees -/
def pd_19 : pm_D := ((yX2_agrees, cX2_agrees, 6, (some .boolean), 2, 2), [(5, 77), (1, 8)], [[(0, (.aload_n 0, 1, 0, 0, 0, [])), (1, (.invokevirtual 65, 3, 16, 0, 0, [(5, 66), (5, 67), (5, 68)])), (4, (.istore_n 3, 1, 0, 0, 0, [])), (5, (.iload_n 1, 1, 0, 0, 0, [])), (6, (.istore 4, 2, 0, 0, 0, []))], [(8, (.iconst 0, 1, 0, 0, 0, [])), (9, (.istore 5, 2, 0, 0, 0, [])), (11, (.iload 5, 2, 0, 0, 0, [])), (13, (.iload_n 3, 1, 0, 0, 0, [])), (14, (.if_icmp .ge 61, 3, 75, 0, 0, []))], [(17, (.aload_n 0, 1, 0, 0, 0, [])), (18, (.getfield 19, 3, 2, 2, 3, [(1, 239)])), (21, (.iload 4, 2, 0, 0, 0, [])), (23, (.iaload, 1, 0, 0, 0, []))], [(24, (.aload_n 0, 1, 0, 0, 0, [])), (25, (.getfield 15, 3, 2, 1, 3, [(1, 238)])), (28, (.aload_n 0, 1, 0, 0, 0, [])), (29, (.getfield 22, 3, 2, 3, 0, [(2, 0)]))], [(32, (.iload 5, 2, 0, 0, 0, [])), (34, (.iadd, 1, 0, 0, 0, [])), (35, (.iaload, 1, 0, 0, 0, [])), (36, (.if_icmp .eq 5, 3, 41, 0, 0, [])), (39, (.iconst 0, 1, 0, 0, 0, []))], [(40, (.ireturn, 1, 0, 0, 0, [])), (41, (.iload 4, 2, 0, 0, 0, [])), (43, (.iload_n 2, 1, 0, 0, 0, [])), (44, (.iadd, 1, 0, 0, 0, [])), (45, (.istore 4, 2, 0, 0, 0, [])), (47, (.iload 4, 2, 0, 0, 0, []))], [(49, (.iload_n 3, 1, 0, 0, 0, [])), (50, (.if_icmp .ne 9, 3, 59, 0, 0, [])), (53, (.iconst 0, 1, 0, 0, 0, [])), (54, (.istore 4, 2, 0, 0, 0, []))], [(56, (.goto 13, 3, 69, 0, 0, [])), (59, (.iload 4, 2, 0, 0, 0, [])), (61, (.ifCond .ge 8, 3, 69, 0, 0, []))], [(64, (.iload_n 3, 1, 0, 0, 0, [])), (65, (.iconst 1, 1, 0, 0, 0, [])), (66, (.isub, 1, 0, 0, 0, [])), (67, (.istore 4, 2, 0, 0, 0, [])), (69, (.iinc 5 1, 3, 0, 0, 0, []))], [(72, (.goto (-61), 3, 11, 0, 0, [])), (75, (.iconst 1, 1, 0, 0, 0, [])), (76, (.ireturn, 1, 0, 0, 0, []))]])
/-- X3 init -/
def pd_20 : pm_D := ((yX3_init, cX3_init, 2, none, 0, 3), [(1, 122), (1, 4)], [[(0, (.aload_n 0, 1, 0, 0, 0, [])), (1, (.invokespecial 3, 3, 0, 0, 0, [(1, 123), (1, 20), (1, 21)])), (4, (.aload_n 0, 1, 0, 0, 0, [])), (5, (.new 9, 3, 6, 0, 0, [(1, 124), (1, 125), (1, 5)]))], [(8, (.dup, 1, 0, 0, 0, [])), (9, (.invokespecial 11, 3, 52, 1, 0, [(1, 126), (1, 127)])), (12, (.putfield 12, 3, 3, 0, 3, [(1, 203)])), (15, (.aload_n 0, 1, 0, 0, 0, []))], [(16, (.bipush 8, 2, 0, 0, 0, [])), (18, (.anewarray 18, 3, 6, 0, 0, [(1, 164), (1, 165)])), (21, (.putfield 20, 3, 3, 1, 3, [(1, 204)]))], [(24, (.iconst 0, 1, 0, 0, 0, [])), (25, (.istore_n 1, 1, 0, 0, 0, [])), (26, (.iload_n 1, 1, 0, 0, 0, [])), (27, (.bipush 8, 2, 0, 0, 0, [])), (29, (.if_icmp .ge 22, 3, 51, 0, 0, []))], [(32, (.aload_n 0, 1, 0, 0, 0, [])), (33, (.getfield 20, 3, 3, 1, 3, [(1, 204)])), (36, (.iload_n 1, 1, 0, 0, 0, [])), (37, (.new 18, 3, 5, 0, 0, [(1, 164), (1, 166), (1, 6)]))], [(40, (.dup, 1, 0, 0, 0, [])), (41, (.invokespecial 24, 3, 50, 1, 0, [(1, 167), (1, 168)])), (44, (.aastore, 1, 5, 0, 0, [])), (45, (.iinc 1 1, 3, 0, 0, 0, []))], [(48, (.goto (-22), 3, 26, 0, 0, [])), (51, (.return_, 1, 0, 0, 0, []))]])
/-- X3 settle -/
def pd_21 : pm_D := ((yX3_settle, cX3_settle, 4, none, 2, 3), [(3, 131), (1, 4)], [[(0, (.aload_n 0, 1, 0, 0, 0, [])), (1, (.aload_n 1, 1, 0, 0, 0, [])), (2, (.putfield 25, 3, 3, 2, 3, [(1, 205)])), (5, (.iconst 0, 1, 0, 0, 0, [])), (6, (.istore_n 3, 1, 0, 0, 0, [])), (7, (.iload_n 3, 1, 0, 0, 0, []))], [(8, (.aload_n 1, 1, 0, 0, 0, [])), (9, (.getfield 29, 3, 8, 3, 0, [(2, 96)])), (12, (.if_icmp .ge 25, 3, 37, 0, 0, [])), (15, (.aload_n 0, 1, 0, 0, 0, []))], [(16, (.getfield 12, 3, 3, 0, 3, [(1, 203)])), (19, (.aload_n 1, 1, 0, 0, 0, [])), (20, (.iload_n 3, 1, 0, 0, 0, [])), (21, (.aload_n 2, 1, 0, 0, 0, [])), (22, (.aload_n 0, 1, 0, 0, 0, [])), (23, (.getfield 20, 3, 3, 1, 3, [(1, 204)]))], [(26, (.iload_n 3, 1, 0, 0, 0, [])), (27, (.aaload, 1, 0, 0, 0, [])), (28, (.invokevirtual 35, 3, 53, 0, 0, [(3, 132), (3, 133), (3, 134)])), (31, (.iinc 3 1, 3, 0, 0, 0, []))], [(34, (.goto (-27), 3, 7, 0, 0, [])), (37, (.return_, 1, 0, 0, 0, []))]])
/-- X3 roadOf -/
def pd_22 : pm_D := ((yX3_roadOf, cX3_roadOf, 2, (some (.object "LoopGround$Road")), 1, 3), [(4, 44), (1, 4)], [[(0, (.aload_n 0, 1, 0, 0, 0, [])), (1, (.getfield 25, 3, 3, 2, 3, [(1, 205)])), (4, (.ifnull 27, 3, 31, 0, 0, [])), (7, (.iload_n 1, 1, 0, 0, 0, []))], [(8, (.ifCond .lt 23, 3, 31, 0, 0, [])), (11, (.iload_n 1, 1, 0, 0, 0, [])), (12, (.aload_n 0, 1, 0, 0, 0, [])), (13, (.getfield 25, 3, 3, 2, 3, [(1, 205)]))], [(16, (.getfield 29, 3, 8, 3, 0, [(2, 96)])), (19, (.if_icmp .ge 12, 3, 31, 0, 0, [])), (22, (.aload_n 0, 1, 0, 0, 0, [])), (23, (.getfield 20, 3, 3, 1, 3, [(1, 204)]))], [(26, (.iload_n 1, 1, 0, 0, 0, [])), (27, (.aaload, 1, 0, 0, 0, [])), (28, (.goto 4, 3, 32, 0, 0, [])), (31, (.aconst_null, 1, 0, 0, 0, []))], [(32, (.areturn, 1, 0, 0, 0, []))]])
/-- X3 isFairLine -/
def pd_23 : pm_D := ((yX3_isFairLine, cX3_isFairLine, 3, (some .boolean), 1, 3), [(4, 60), (1, 4)], [[(0, (.aload_n 0, 1, 0, 0, 0, [])), (1, (.iload_n 1, 1, 0, 0, 0, [])), (2, (.invokevirtual 39, 3, 22, 0, 0, [(4, 61), (4, 42), (4, 43)])), (5, (.astore_n 2, 1, 0, 0, 0, [])), (6, (.aload_n 2, 1, 0, 0, 0, [])), (7, (.ifnull 15, 3, 22, 0, 0, []))], [(10, (.aload_n 2, 1, 0, 0, 0, [])), (11, (.getfield 43, 3, 5, 0, 0, [(1, 172)])), (14, (.iconst 2, 1, 0, 0, 0, [])), (15, (.if_icmp .ne 7, 3, 22, 0, 0, []))], [(18, (.iconst 1, 1, 0, 0, 0, [])), (19, (.goto 4, 3, 23, 0, 0, [])), (22, (.iconst 0, 1, 0, 0, 0, [])), (23, (.ireturn, 1, 0, 0, 0, []))]])
/-- X3 isFairWord -/
def pd_24 : pm_D := ((yX3_isFairWord, cX3_isFairWord, 3, (some .boolean), 1, 3), [(4, 109), (1, 4)], [[(0, (.aload_n 0, 1, 0, 0, 0, [])), (1, (.getfield 25, 3, 3, 2, 3, [(1, 205)])), (4, (.ifnull 18, 3, 22, 0, 0, [])), (7, (.iload_n 1, 1, 0, 0, 0, []))], [(8, (.ifCond .lt 14, 3, 22, 0, 0, [])), (11, (.iload_n 1, 1, 0, 0, 0, [])), (12, (.aload_n 0, 1, 0, 0, 0, [])), (13, (.getfield 25, 3, 3, 2, 3, [(1, 205)]))], [(16, (.getfield 46, 3, 8, 4, 0, [(2, 101)])), (19, (.if_icmp .lt 5, 3, 24, 0, 0, [])), (22, (.iconst 0, 1, 0, 0, 0, [])), (23, (.ireturn, 1, 0, 0, 0, []))], [(24, (.iconst 0, 1, 0, 0, 0, [])), (25, (.istore_n 2, 1, 0, 0, 0, [])), (26, (.iload_n 2, 1, 0, 0, 0, [])), (27, (.aload_n 0, 1, 0, 0, 0, [])), (28, (.getfield 25, 3, 3, 2, 3, [(1, 205)])), (31, (.getfield 49, 3, 8, 14, 3, [(2, 127)]))], [(34, (.iload_n 1, 1, 0, 0, 0, [])), (35, (.iaload, 1, 0, 0, 0, [])), (36, (.if_icmp .ge 29, 3, 65, 0, 0, [])), (39, (.aload_n 0, 1, 0, 0, 0, []))], [(40, (.aload_n 0, 1, 0, 0, 0, [])), (41, (.getfield 25, 3, 3, 2, 3, [(1, 205)])), (44, (.getfield 53, 3, 8, 15, 3, [(2, 130)])), (47, (.iload_n 1, 1, 0, 0, 0, []))], [(48, (.aaload, 1, 0, 0, 0, [])), (49, (.iload_n 2, 1, 0, 0, 0, [])), (50, (.iaload, 1, 0, 0, 0, [])), (51, (.invokevirtual 57, 3, 23, 0, 0, [(4, 110), (4, 58), (4, 59)])), (54, (.ifCond .ne 5, 3, 59, 0, 0, []))], [(57, (.iconst 0, 1, 0, 0, 0, [])), (58, (.ireturn, 1, 0, 0, 0, [])), (59, (.iinc 2 1, 3, 0, 0, 0, [])), (62, (.goto (-36), 3, 26, 0, 0, []))], [(65, (.iconst 1, 1, 0, 0, 0, [])), (66, (.ireturn, 1, 0, 0, 0, []))]])
/-- X3 leastCrossings -/
def pd_25 : pm_D := ((yX3_leastCrossings, cX3_leastCrossings, 8, (some .long), 2, 3), [(4, 67), (1, 4)], [[(0, (.aload_n 0, 1, 0, 0, 0, [])), (1, (.getfield 20, 3, 3, 1, 3, [(1, 204)])), (4, (.iload_n 2, 1, 0, 0, 0, [])), (5, (.aaload, 1, 0, 0, 0, [])), (6, (.astore_n 3, 1, 0, 0, 0, [])), (7, (.aload_n 0, 1, 0, 0, 0, []))], [(8, (.aload_n 1, 1, 0, 0, 0, [])), (9, (.aload_n 3, 1, 0, 0, 0, [])), (10, (.iconst 0, 1, 0, 0, 0, [])), (11, (.aconst_null, 1, 0, 0, 0, [])), (12, (.invokevirtual 61, 3, 28, 0, 0, [(4, 68), (4, 70), (0, 36)])), (15, (.ifCond .ne 7, 3, 22, 0, 0, []))], [(18, (.ldc2_w 65, 3, 0, 0, (-2), [(4, 83)])), (21, (.lreturn, 1, 0, 0, 0, [])), (22, (.aload_n 1, 1, 0, 0, 0, [])), (23, (.aload_n 3, 1, 0, 0, 0, []))], [(24, (.getfield 67, 3, 5, 4, 0, [(1, 181)])), (27, (.laload, 1, 0, 0, 0, [])), (28, (.lstore 4, 2, 0, 0, 0, [])), (30, (.aload_n 1, 1, 0, 0, 0, [])), (31, (.aload_n 3, 1, 0, 0, 0, []))], [(32, (.getfield 70, 3, 5, 5, 0, [(1, 183)])), (35, (.laload, 1, 0, 0, 0, [])), (36, (.lstore 6, 2, 0, 0, 0, [])), (38, (.lload 6, 2, 0, 0, 0, []))], [(40, (.lload 4, 2, 0, 0, 0, [])), (42, (.lsub, 1, 0, 0, 0, [])), (43, (.invokestatic 73, 3, 260, 0, 0, [(4, 84), (4, 85)])), (46, (.aload_n 1, 1, 0, 0, 0, [])), (47, (.aload_n 3, 1, 0, 0, 0, []))], [(48, (.getfield 79, 3, 5, 2, 0, [(1, 177)])), (51, (.laload, 1, 0, 0, 0, [])), (52, (.aload_n 1, 1, 0, 0, 0, [])), (53, (.aload_n 3, 1, 0, 0, 0, [])), (54, (.getfield 82, 3, 5, 3, 0, [(1, 179)]))], [(57, (.laload, 1, 0, 0, 0, [])), (58, (.ladd, 1, 0, 0, 0, [])), (59, (.lload 4, 2, 0, 0, 0, [])), (61, (.lsub, 1, 0, 0, 0, [])), (62, (.lload 6, 2, 0, 0, 0, []))], [(64, (.lsub, 1, 0, 0, 0, [])), (65, (.invokestatic 85, 3, 262, 0, 0, [(4, 76), (3, 210)])), (68, (.lreturn, 1, 0, 0, 0, []))]])
/-- X3 goThrough -/
def pd_26 : pm_D := ((yX3_goThrough, cX3_goThrough, 5, (some .boolean), 3, 3), [(4, 118), (1, 4)], [[(0, (.iconst 0, 1, 0, 0, 0, [])), (1, (.istore 4, 2, 0, 0, 0, [])), (3, (.iload 4, 2, 0, 0, 0, [])), (5, (.aload_n 0, 1, 0, 0, 0, [])), (6, (.getfield 25, 3, 3, 2, 3, [(1, 205)]))], [(9, (.getfield 49, 3, 8, 14, 3, [(2, 127)])), (12, (.iload_n 2, 1, 0, 0, 0, [])), (13, (.iaload, 1, 0, 0, 0, [])), (14, (.if_icmp .ge 44, 3, 58, 0, 0, []))], [(17, (.aload_n 0, 1, 0, 0, 0, [])), (18, (.aload_n 1, 1, 0, 0, 0, [])), (19, (.aload_n 0, 1, 0, 0, 0, [])), (20, (.getfield 25, 3, 3, 2, 3, [(1, 205)])), (23, (.getfield 53, 3, 8, 15, 3, [(2, 130)]))], [(26, (.iload_n 2, 1, 0, 0, 0, [])), (27, (.aaload, 1, 0, 0, 0, [])), (28, (.iload 4, 2, 0, 0, 0, [])), (30, (.iaload, 1, 0, 0, 0, [])), (31, (.aload_n 0, 1, 0, 0, 0, []))], [(32, (.getfield 25, 3, 3, 2, 3, [(1, 205)])), (35, (.getfield 89, 3, 8, 16, 3, [(2, 133)])), (38, (.iload_n 2, 1, 0, 0, 0, [])), (39, (.aaload, 1, 0, 0, 0, []))], [(40, (.iload 4, 2, 0, 0, 0, [])), (42, (.iaload, 1, 0, 0, 0, [])), (43, (.aload_n 3, 1, 0, 0, 0, [])), (44, (.invokevirtual 92, 3, 27, 0, 0, [(4, 119), (4, 120), (4, 121)])), (47, (.ifCond .ne 5, 3, 52, 0, 0, []))], [(50, (.iconst 0, 1, 0, 0, 0, [])), (51, (.ireturn, 1, 0, 0, 0, [])), (52, (.iinc 4 1, 3, 0, 0, 0, [])), (55, (.goto (-52), 3, 3, 0, 0, []))], [(58, (.iconst 1, 1, 0, 0, 0, [])), (59, (.ireturn, 1, 0, 0, 0, []))]])
/-- X3 twistAlong -/
def pd_27 : pm_D := ((yX3_twistAlong, cX3_twistAlong, 9, (some .boolean), 4, 3), [(4, 122), (1, 4)], [[(0, (.aload_n 0, 1, 0, 0, 0, [])), (1, (.getfield 20, 3, 3, 1, 3, [(1, 204)])), (4, (.iload_n 2, 1, 0, 0, 0, [])), (5, (.aaload, 1, 0, 0, 0, [])), (6, (.astore 5, 2, 0, 0, 0, []))], [(8, (.aload_n 0, 1, 0, 0, 0, [])), (9, (.aload_n 1, 1, 0, 0, 0, [])), (10, (.aload 5, 2, 0, 0, 0, [])), (12, (.iconst 0, 1, 0, 0, 0, [])), (13, (.aload 4, 2, 0, 0, 0, [])), (15, (.invokevirtual 61, 3, 28, 0, 0, [(4, 68), (4, 70), (0, 36)]))], [(18, (.ifCond .ne 5, 3, 23, 0, 0, [])), (21, (.iconst 0, 1, 0, 0, 0, [])), (22, (.ireturn, 1, 0, 0, 0, [])), (23, (.iload_n 3, 1, 0, 0, 0, []))], [(24, (.ifCond .le 11, 3, 35, 0, 0, [])), (27, (.aload 5, 2, 0, 0, 0, [])), (29, (.getfield 70, 3, 5, 5, 0, [(1, 183)]))], [(32, (.goto 8, 3, 40, 0, 0, [])), (35, (.aload 5, 2, 0, 0, 0, [])), (37, (.getfield 67, 3, 5, 4, 0, [(1, 181)]))], [(40, (.istore 6, 2, 0, 0, 0, [])), (42, (.iload_n 3, 1, 0, 0, 0, [])), (43, (.ifCond .le 11, 3, 54, 0, 0, [])), (46, (.aload 5, 2, 0, 0, 0, []))], [(48, (.getfield 67, 3, 5, 4, 0, [(1, 181)])), (51, (.goto 8, 3, 59, 0, 0, [])), (54, (.aload 5, 2, 0, 0, 0, []))], [(56, (.getfield 70, 3, 5, 5, 0, [(1, 183)])), (59, (.istore 7, 2, 0, 0, 0, [])), (61, (.iconst 0, 1, 0, 0, 0, [])), (62, (.istore 8, 2, 0, 0, 0, []))], [(64, (.iload 8, 2, 0, 0, 0, [])), (66, (.iload_n 3, 1, 0, 0, 0, [])), (67, (.invokestatic 96, 3, 259, 0, 0, [(4, 123), (4, 124)])), (70, (.if_icmp .ge 48, 3, 118, 0, 0, []))], [(73, (.aload_n 0, 1, 0, 0, 0, [])), (74, (.aload_n 1, 1, 0, 0, 0, [])), (75, (.iload 7, 2, 0, 0, 0, [])), (77, (.aload 5, 2, 0, 0, 0, [])), (79, (.getfield 79, 3, 5, 2, 0, [(1, 177)]))], [(82, (.aload 5, 2, 0, 0, 0, [])), (84, (.getfield 82, 3, 5, 3, 0, [(1, 179)])), (87, (.iload 6, 2, 0, 0, 0, []))], [(89, (.iload 6, 2, 0, 0, 0, [])), (91, (.aload 4, 2, 0, 0, 0, [])), (93, (.invokevirtual 99, 3, 29, 0, 0, [(4, 72), (4, 74), (0, 37)]))], [(96, (.ifCond .ne 5, 3, 101, 0, 0, [])), (99, (.iconst 0, 1, 0, 0, 0, [])), (100, (.ireturn, 1, 0, 0, 0, [])), (101, (.aload_n 0, 1, 0, 0, 0, [])), (102, (.aload_n 1, 1, 0, 0, 0, [])), (103, (.iload 6, 2, 0, 0, 0, []))], [(105, (.iload 7, 2, 0, 0, 0, [])), (107, (.aload 4, 2, 0, 0, 0, [])), (109, (.invokevirtual 103, 3, 30, 0, 0, [(4, 126), (4, 128), (0, 40)]))], [(112, (.iinc 8 1, 3, 0, 0, 0, [])), (115, (.goto (-51), 3, 64, 0, 0, [])), (118, (.aload_n 0, 1, 0, 0, 0, [])), (119, (.aload_n 1, 1, 0, 0, 0, []))], [(120, (.aload 5, 2, 0, 0, 0, [])), (122, (.iconst 1, 1, 0, 0, 0, [])), (123, (.aload 4, 2, 0, 0, 0, [])), (125, (.invokevirtual 61, 3, 28, 0, 0, [(4, 68), (4, 70), (0, 36)]))], [(128, (.ireturn, 1, 0, 0, 0, []))]])
/-- X3 passFlips -/
def pd_28 : pm_D := ((yX3_passFlips, cX3_passFlips, 11, (some .boolean), 4, 3), [(4, 71), (1, 4)], [[(0, (.iconst 0, 1, 0, 0, 0, [])), (1, (.istore 5, 2, 0, 0, 0, [])), (3, (.iload 5, 2, 0, 0, 0, [])), (5, (.aload_n 2, 1, 0, 0, 0, [])), (6, (.getfield 107, 3, 5, 1, 0, [(1, 175)]))], [(9, (.if_icmp .ge 98, 3, 107, 0, 0, [])), (12, (.aload_n 2, 1, 0, 0, 0, [])), (13, (.getfield 110, 3, 5, 6, 3, [(1, 187)]))], [(16, (.iload_n 3, 1, 0, 0, 0, [])), (17, (.ifCond .eq 15, 3, 32, 0, 0, [])), (20, (.aload_n 2, 1, 0, 0, 0, [])), (21, (.getfield 107, 3, 5, 1, 0, [(1, 175)]))], [(24, (.iconst 1, 1, 0, 0, 0, [])), (25, (.isub, 1, 0, 0, 0, [])), (26, (.iload 5, 2, 0, 0, 0, [])), (28, (.isub, 1, 0, 0, 0, [])), (29, (.goto 5, 3, 34, 0, 0, []))], [(32, (.iload 5, 2, 0, 0, 0, [])), (34, (.iaload, 1, 0, 0, 0, [])), (35, (.istore 6, 2, 0, 0, 0, [])), (37, (.iload 6, 2, 0, 0, 0, [])), (39, (.iconst 5, 1, 0, 0, 0, []))], [(40, (.ishr, 1, 0, 0, 0, [])), (41, (.bipush 31, 2, 0, 0, 0, [])), (43, (.iand, 1, 0, 0, 0, [])), (44, (.istore 7, 2, 0, 0, 0, [])), (46, (.iload 6, 2, 0, 0, 0, []))], [(48, (.bipush 10, 2, 0, 0, 0, [])), (50, (.ishr, 1, 0, 0, 0, [])), (51, (.bipush 31, 2, 0, 0, 0, [])), (53, (.iand, 1, 0, 0, 0, [])), (54, (.istore 8, 2, 0, 0, 0, []))], [(56, (.iload 6, 2, 0, 0, 0, [])), (58, (.bipush 15, 2, 0, 0, 0, [])), (60, (.ishr, 1, 0, 0, 0, [])), (61, (.bipush 31, 2, 0, 0, 0, [])), (63, (.iand, 1, 0, 0, 0, []))], [(64, (.istore 9, 2, 0, 0, 0, [])), (66, (.iload 6, 2, 0, 0, 0, [])), (68, (.bipush 20, 2, 0, 0, 0, [])), (70, (.ishr, 1, 0, 0, 0, [])), (71, (.bipush 31, 2, 0, 0, 0, []))], [(73, (.iand, 1, 0, 0, 0, [])), (74, (.istore 10, 2, 0, 0, 0, [])), (76, (.aload_n 0, 1, 0, 0, 0, [])), (77, (.aload_n 1, 1, 0, 0, 0, [])), (78, (.iload 6, 2, 0, 0, 0, []))], [(80, (.bipush 31, 2, 0, 0, 0, [])), (82, (.iand, 1, 0, 0, 0, [])), (83, (.iload 7, 2, 0, 0, 0, [])), (85, (.iload 9, 2, 0, 0, 0, [])), (87, (.iload 8, 2, 0, 0, 0, []))], [(89, (.iload 10, 2, 0, 0, 0, [])), (91, (.aload 4, 2, 0, 0, 0, [])), (93, (.invokevirtual 99, 3, 29, 0, 0, [(4, 72), (4, 74), (0, 37)]))], [(96, (.ifCond .ne 5, 3, 101, 0, 0, [])), (99, (.iconst 0, 1, 0, 0, 0, [])), (100, (.ireturn, 1, 0, 0, 0, [])), (101, (.iinc 5 1, 3, 0, 0, 0, []))], [(104, (.goto (-101), 3, 3, 0, 0, [])), (107, (.iconst 1, 1, 0, 0, 0, [])), (108, (.ireturn, 1, 0, 0, 0, []))]])
/-- X3 change -/
def pd_29 : pm_D := ((yX3_change, cX3_change, 12, (some .boolean), 7, 3), [(4, 75), (1, 4)], [[(0, (.aload_n 1, 1, 0, 0, 0, [])), (1, (.iload_n 3, 1, 0, 0, 0, [])), (2, (.laload, 1, 0, 0, 0, [])), (3, (.aload_n 1, 1, 0, 0, 0, [])), (4, (.iload 4, 2, 0, 0, 0, [])), (6, (.laload, 1, 0, 0, 0, [])), (7, (.ladd, 1, 0, 0, 0, []))], [(8, (.lstore 8, 2, 0, 0, 0, [])), (10, (.aload_n 1, 1, 0, 0, 0, [])), (11, (.iload 5, 2, 0, 0, 0, [])), (13, (.laload, 1, 0, 0, 0, [])), (14, (.aload_n 1, 1, 0, 0, 0, [])), (15, (.iload 6, 2, 0, 0, 0, []))], [(17, (.laload, 1, 0, 0, 0, [])), (18, (.ladd, 1, 0, 0, 0, [])), (19, (.lstore 10, 2, 0, 0, 0, [])), (21, (.aload_n 1, 1, 0, 0, 0, [])), (22, (.iload_n 2, 1, 0, 0, 0, [])), (23, (.lload 8, 2, 0, 0, 0, []))], [(25, (.lload 10, 2, 0, 0, 0, [])), (27, (.invokestatic 85, 3, 262, 0, 0, [(4, 76), (3, 210)])), (30, (.aload_n 1, 1, 0, 0, 0, [])), (31, (.iload_n 2, 1, 0, 0, 0, []))], [(32, (.laload, 1, 0, 0, 0, [])), (33, (.lsub, 1, 0, 0, 0, [])), (34, (.lastore, 1, 0, 0, 0, [])), (35, (.aload 7, 2, 0, 0, 0, [])), (37, (.ifnull 38, 3, 75, 0, 0, []))], [(40, (.aload 7, 2, 0, 0, 0, [])), (42, (.iload_n 2, 1, 0, 0, 0, [])), (43, (.lload 8, 2, 0, 0, 0, [])), (45, (.lload 10, 2, 0, 0, 0, [])), (47, (.lcmp, 1, 0, 0, 0, []))], [(48, (.ifCond .lt 7, 3, 55, 0, 0, [])), (51, (.iload_n 3, 1, 0, 0, 0, [])), (52, (.goto 5, 3, 57, 0, 0, [])), (55, (.iload 5, 2, 0, 0, 0, []))], [(57, (.lload 8, 2, 0, 0, 0, [])), (59, (.lload 10, 2, 0, 0, 0, [])), (61, (.lcmp, 1, 0, 0, 0, [])), (62, (.ifCond .lt 8, 3, 70, 0, 0, []))], [(65, (.iload 4, 2, 0, 0, 0, [])), (67, (.goto 5, 3, 72, 0, 0, [])), (70, (.iload 6, 2, 0, 0, 0, []))], [(72, (.invokevirtual 113, 3, 66, 0, 0, [(4, 77), (4, 78), (4, 79)])), (75, (.aload_n 1, 1, 0, 0, 0, [])), (76, (.iload_n 2, 1, 0, 0, 0, [])), (77, (.laload, 1, 0, 0, 0, [])), (78, (.ldc2_w 119, 3, 0, 0, 100000000000000, [(4, 82)]))], [(81, (.lcmp, 1, 0, 0, 0, [])), (82, (.ifCond .gt 7, 3, 89, 0, 0, [])), (85, (.iconst 1, 1, 0, 0, 0, [])), (86, (.goto 4, 3, 90, 0, 0, []))], [(89, (.iconst 0, 1, 0, 0, 0, [])), (90, (.ireturn, 1, 0, 0, 0, []))]])
/-- X3 exchange -/
def pd_30 : pm_D := ((yX3_exchange, cX3_exchange, 7, none, 4, 3), [(4, 129), (1, 4)], [[(0, (.aload_n 1, 1, 0, 0, 0, [])), (1, (.iload_n 2, 1, 0, 0, 0, [])), (2, (.laload, 1, 0, 0, 0, [])), (3, (.lstore 5, 2, 0, 0, 0, [])), (5, (.aload_n 1, 1, 0, 0, 0, [])), (6, (.iload_n 2, 1, 0, 0, 0, [])), (7, (.aload_n 1, 1, 0, 0, 0, []))], [(8, (.iload_n 3, 1, 0, 0, 0, [])), (9, (.laload, 1, 0, 0, 0, [])), (10, (.lastore, 1, 0, 0, 0, [])), (11, (.aload_n 1, 1, 0, 0, 0, [])), (12, (.iload_n 3, 1, 0, 0, 0, [])), (13, (.lload 5, 2, 0, 0, 0, [])), (15, (.lastore, 1, 0, 0, 0, []))], [(16, (.aload 4, 2, 0, 0, 0, [])), (18, (.ifnull 10, 3, 28, 0, 0, [])), (21, (.aload 4, 2, 0, 0, 0, [])), (23, (.iload_n 2, 1, 0, 0, 0, []))], [(24, (.iload_n 3, 1, 0, 0, 0, [])), (25, (.invokevirtual 121, 3, 67, 0, 0, [(4, 130), (4, 131), (4, 132)])), (28, (.return_, 1, 0, 0, 0, []))]])
/-- X4 init -/
def pd_31 : pm_D := ((yX4_init, cX4_init, 1, none, 0, 4), [(1, 26), (1, 2)], [[(0, (.aload_n 0, 1, 0, 0, 0, [])), (1, (.invokespecial 3, 3, 0, 0, 0, [(1, 27), (1, 20), (1, 21)])), (4, (.return_, 1, 0, 0, 0, []))]])
/-- X4 readGround -/
def pd_32 : pm_D := ((yX4_readGround, cX4_readGround, 5, (some .boolean), 3, 4), [(3, 8), (1, 2)], [[(0, (.aload_n 0, 1, 0, 0, 0, [])), (1, (.aload_n 1, 1, 0, 0, 0, [])), (2, (.putfield 9, 3, 4, 2, 3, [(1, 32)])), (5, (.aload_n 0, 1, 0, 0, 0, [])), (6, (.iload_n 2, 1, 0, 0, 0, [])), (7, (.aload_n 1, 1, 0, 0, 0, []))], [(8, (.arraylength, 1, 0, 0, 0, [])), (9, (.invokestatic 15, 3, 263, 0, 0, [(3, 9), (3, 10)])), (12, (.putfield 21, 3, 4, 3, 0, [(1, 33)])), (15, (.aload_n 0, 1, 0, 0, 0, []))], [(16, (.aload_n 3, 1, 0, 0, 0, [])), (17, (.putfield 25, 3, 4, 4, 3, [(1, 34)])), (20, (.aload_n 0, 1, 0, 0, 0, [])), (21, (.getfield 25, 3, 4, 4, 3, [(1, 34)]))], [(24, (.invokevirtual 29, 3, 74, 0, 0, [(3, 12), (3, 13), (3, 14)])), (27, (.aload_n 0, 1, 0, 0, 0, [])), (28, (.iconst 0, 1, 0, 0, 0, [])), (29, (.putfield 34, 3, 4, 0, 0, [(1, 28)]))], [(32, (.aload_n 0, 1, 0, 0, 0, [])), (33, (.iconst (-1), 1, 0, 0, 0, [])), (34, (.putfield 37, 3, 4, 1, 0, [(1, 30)])), (37, (.aload_n 0, 1, 0, 0, 0, [])), (38, (.iconst 0, 1, 0, 0, 0, [])), (39, (.putfield 40, 3, 4, 5, 2, [(1, 35)]))], [(42, (.aload_n 0, 1, 0, 0, 0, [])), (43, (.iconst 0, 1, 0, 0, 0, [])), (44, (.putfield 44, 3, 4, 6, 0, [(1, 36)])), (47, (.aload_n 0, 1, 0, 0, 0, []))], [(48, (.invokevirtual 47, 3, 46, 0, 0, [(3, 16), (3, 18), (0, 1)])), (51, (.iconst 0, 1, 0, 0, 0, [])), (52, (.istore 4, 2, 0, 0, 0, [])), (54, (.iload 4, 2, 0, 0, 0, []))], [(56, (.sipush 1600, 3, 0, 0, 0, [])), (59, (.if_icmp .ge 101, 3, 160, 0, 0, [])), (62, (.aload_n 0, 1, 0, 0, 0, [])), (63, (.getfield 34, 3, 4, 0, 0, [(1, 28)]))], [(66, (.ifCond .ne 94, 3, 160, 0, 0, [])), (69, (.aload_n 0, 1, 0, 0, 0, [])), (70, (.getfield 50, 3, 4, 7, 0, [(1, 37)]))], [(73, (.ifCond .eq 87, 3, 160, 0, 0, [])), (76, (.aload_n 0, 1, 0, 0, 0, [])), (77, (.getfield 50, 3, 4, 7, 0, [(1, 37)]))], [(80, (.bipush 6, 2, 0, 0, 0, [])), (82, (.if_icmp .ne 10, 3, 92, 0, 0, [])), (85, (.aload_n 0, 1, 0, 0, 0, [])), (86, (.invokevirtual 53, 3, 36, 0, 0, [(3, 49), (3, 51), (0, 6)]))], [(89, (.goto 65, 3, 154, 0, 0, [])), (92, (.aload_n 0, 1, 0, 0, 0, [])), (93, (.getfield 50, 3, 4, 7, 0, [(1, 37)]))], [(96, (.bipush 7, 2, 0, 0, 0, [])), (98, (.if_icmp .eq 20, 3, 118, 0, 0, [])), (101, (.aload_n 0, 1, 0, 0, 0, [])), (102, (.getfield 50, 3, 4, 7, 0, [(1, 37)]))], [(105, (.bipush 9, 2, 0, 0, 0, [])), (107, (.if_icmp .eq 11, 3, 118, 0, 0, [])), (110, (.aload_n 0, 1, 0, 0, 0, [])), (111, (.invokevirtual 56, 3, 34, 0, 0, [(3, 53), (3, 55), (0, 7)]))], [(114, (.pop, 1, 0, 0, 0, [])), (115, (.goto 39, 3, 154, 0, 0, [])), (118, (.aload_n 0, 1, 0, 0, 0, [])), (119, (.getfield 40, 3, 4, 5, 2, [(1, 35)]))], [(122, (.ifCond .ne 12, 3, 134, 0, 0, [])), (125, (.aload_n 0, 1, 0, 0, 0, [])), (126, (.invokevirtual 60, 3, 35, 0, 0, [(3, 73), (3, 75), (0, 11)]))], [(129, (.ifCond .ne 5, 3, 134, 0, 0, [])), (132, (.iconst 0, 1, 0, 0, 0, [])), (133, (.ireturn, 1, 0, 0, 0, [])), (134, (.aload_n 0, 1, 0, 0, 0, [])), (135, (.getfield 50, 3, 4, 7, 0, [(1, 37)]))], [(138, (.bipush 7, 2, 0, 0, 0, [])), (140, (.if_icmp .ne 10, 3, 150, 0, 0, [])), (143, (.aload_n 0, 1, 0, 0, 0, []))], [(144, (.invokevirtual 63, 3, 38, 0, 0, [(3, 92), (3, 94), (0, 14)])), (147, (.goto 7, 3, 154, 0, 0, [])), (150, (.aload_n 0, 1, 0, 0, 0, [])), (151, (.invokevirtual 66, 3, 39, 0, 0, [(3, 116), (3, 118), (0, 16)]))], [(154, (.iinc 4 1, 3, 0, 0, 0, [])), (157, (.goto (-103), 3, 54, 0, 0, []))], [(160, (.aload_n 0, 1, 0, 0, 0, [])), (161, (.getfield 34, 3, 4, 0, 0, [(1, 28)])), (164, (.ifCond .ne 21, 3, 185, 0, 0, [])), (167, (.aload_n 0, 1, 0, 0, 0, []))], [(168, (.getfield 40, 3, 4, 5, 2, [(1, 35)])), (171, (.ifCond .ne 10, 3, 181, 0, 0, [])), (174, (.aload_n 0, 1, 0, 0, 0, [])), (175, (.invokevirtual 60, 3, 35, 0, 0, [(3, 73), (3, 75), (0, 11)]))], [(178, (.ifCond .eq 7, 3, 185, 0, 0, [])), (181, (.iconst 1, 1, 0, 0, 0, [])), (182, (.goto 4, 3, 186, 0, 0, []))], [(185, (.iconst 0, 1, 0, 0, 0, [])), (186, (.ireturn, 1, 0, 0, 0, []))]])
/-- X4 refuse -/
def pd_33 : pm_D := ((yX4_refuse, cX4_refuse, 3, none, 2, 4), [(3, 60), (1, 2)], [[(0, (.aload_n 0, 1, 0, 0, 0, [])), (1, (.iload_n 1, 1, 0, 0, 0, [])), (2, (.putfield 34, 3, 4, 0, 0, [(1, 28)])), (5, (.aload_n 0, 1, 0, 0, 0, [])), (6, (.iload_n 2, 1, 0, 0, 0, [])), (7, (.putfield 37, 3, 4, 1, 0, [(1, 30)]))], [(10, (.return_, 1, 0, 0, 0, []))]])
/-- X4 refuseToken -/
def pd_34 : pm_D := ((yX4_refuseToken, cX4_refuseToken, 1, (some .boolean), 0, 4), [(3, 56), (1, 2)], [[(0, (.aload_n 0, 1, 0, 0, 0, [])), (1, (.aload_n 0, 1, 0, 0, 0, [])), (2, (.getfield 50, 3, 4, 7, 0, [(1, 37)])), (5, (.iconst 5, 1, 0, 0, 0, [])), (6, (.if_icmp .ne 7, 3, 13, 0, 0, []))], [(9, (.iconst 1, 1, 0, 0, 0, [])), (10, (.goto 4, 3, 14, 0, 0, [])), (13, (.iconst 2, 1, 0, 0, 0, [])), (14, (.aload_n 0, 1, 0, 0, 0, [])), (15, (.getfield 69, 3, 4, 8, 0, [(1, 38)]))], [(18, (.invokevirtual 72, 3, 33, 0, 0, [(3, 57), (3, 59), (0, 8)])), (21, (.iconst 0, 1, 0, 0, 0, [])), (22, (.ireturn, 1, 0, 0, 0, []))]])
/-- X4 closePieces -/
def pd_35 : pm_D := ((yX4_closePieces, cX4_closePieces, 1, (some .boolean), 0, 4), [(3, 76), (1, 2)], [[(0, (.aload_n 0, 1, 0, 0, 0, [])), (1, (.iconst 1, 1, 0, 0, 0, [])), (2, (.putfield 40, 3, 4, 5, 2, [(1, 35)])), (5, (.aload_n 0, 1, 0, 0, 0, [])), (6, (.getfield 25, 3, 4, 4, 3, [(1, 34)]))], [(9, (.invokevirtual 76, 3, 76, 0, 0, [(3, 77), (3, 78), (3, 79)])), (12, (.ifCond .ne 15, 3, 27, 0, 0, [])), (15, (.aload_n 0, 1, 0, 0, 0, []))], [(16, (.bipush 6, 2, 0, 0, 0, [])), (18, (.aload_n 0, 1, 0, 0, 0, [])), (19, (.getfield 69, 3, 4, 8, 0, [(1, 38)])), (22, (.invokevirtual 72, 3, 33, 0, 0, [(3, 57), (3, 59), (0, 8)]))], [(25, (.iconst 0, 1, 0, 0, 0, [])), (26, (.ireturn, 1, 0, 0, 0, [])), (27, (.iconst 1, 1, 0, 0, 0, [])), (28, (.ireturn, 1, 0, 0, 0, []))]])
/-- X4 readPiece -/
def pd_36 : pm_D := ((yX4_readPiece, cX4_readPiece, 3, none, 0, 4), [(3, 52), (1, 2)], [[(0, (.aload_n 0, 1, 0, 0, 0, [])), (1, (.getfield 25, 3, 4, 4, 3, [(1, 34)])), (4, (.getfield 79, 3, 8, 0, 0, [(2, 85)])), (7, (.istore_n 1, 1, 0, 0, 0, []))], [(8, (.aload_n 0, 1, 0, 0, 0, [])), (9, (.getfield 40, 3, 4, 5, 2, [(1, 35)])), (12, (.ifCond .ne 9, 3, 21, 0, 0, [])), (15, (.iload_n 1, 1, 0, 0, 0, []))], [(16, (.bipush 12, 2, 0, 0, 0, [])), (18, (.if_icmp .lt 9, 3, 27, 0, 0, [])), (21, (.aload_n 0, 1, 0, 0, 0, [])), (22, (.invokevirtual 56, 3, 34, 0, 0, [(3, 53), (3, 55), (0, 7)]))], [(25, (.pop, 1, 0, 0, 0, [])), (26, (.return_, 1, 0, 0, 0, [])), (27, (.aload_n 0, 1, 0, 0, 0, [])), (28, (.invokevirtual 47, 3, 46, 0, 0, [(3, 16), (3, 18), (0, 1)])), (31, (.iconst 0, 1, 0, 0, 0, []))], [(32, (.istore_n 2, 1, 0, 0, 0, [])), (33, (.iload_n 2, 1, 0, 0, 0, [])), (34, (.iconst 3, 1, 0, 0, 0, [])), (35, (.if_icmp .ge 22, 3, 57, 0, 0, [])), (38, (.aload_n 0, 1, 0, 0, 0, [])), (39, (.iconst 3, 1, 0, 0, 0, []))], [(40, (.iload_n 1, 1, 0, 0, 0, [])), (41, (.imul, 1, 0, 0, 0, [])), (42, (.iload_n 2, 1, 0, 0, 0, [])), (43, (.iadd, 1, 0, 0, 0, [])), (44, (.invokevirtual 82, 3, 37, 0, 0, [(3, 61), (3, 63), (0, 9)])), (47, (.ifCond .ne 4, 3, 51, 0, 0, []))], [(50, (.return_, 1, 0, 0, 0, [])), (51, (.iinc 2 1, 3, 0, 0, 0, [])), (54, (.goto (-21), 3, 33, 0, 0, []))], [(57, (.aload_n 0, 1, 0, 0, 0, [])), (58, (.iconst 3, 1, 0, 0, 0, [])), (59, (.invokevirtual 86, 3, 42, 0, 0, [(3, 69), (3, 71), (0, 10)])), (62, (.ifCond .eq 16, 3, 78, 0, 0, []))], [(65, (.aload_n 0, 1, 0, 0, 0, [])), (66, (.getfield 25, 3, 4, 4, 3, [(1, 34)])), (69, (.dup, 1, 0, 0, 0, [])), (70, (.getfield 79, 3, 8, 0, 0, [(2, 85)]))], [(73, (.iconst 1, 1, 0, 0, 0, [])), (74, (.iadd, 1, 0, 0, 0, [])), (75, (.putfield 79, 3, 8, 0, 0, [(2, 85)])), (78, (.return_, 1, 0, 0, 0, []))]])
/-- X4 readEdge -/
def pd_37 : pm_D := ((yX4_readEdge, cX4_readEdge, 2, (some .boolean), 1, 4), [(3, 64), (1, 2)], [[(0, (.aload_n 0, 1, 0, 0, 0, [])), (1, (.getfield 50, 3, 4, 7, 0, [(1, 37)])), (4, (.iconst 2, 1, 0, 0, 0, [])), (5, (.if_icmp .eq 8, 3, 13, 0, 0, []))], [(8, (.aload_n 0, 1, 0, 0, 0, [])), (9, (.invokevirtual 56, 3, 34, 0, 0, [(3, 53), (3, 55), (0, 7)])), (12, (.ireturn, 1, 0, 0, 0, [])), (13, (.aload_n 0, 1, 0, 0, 0, [])), (14, (.getfield 89, 3, 4, 9, 0, [(1, 39)]))], [(17, (.bipush 18, 2, 0, 0, 0, [])), (19, (.if_icmp .lt 14, 3, 33, 0, 0, [])), (22, (.aload_n 0, 1, 0, 0, 0, [])), (23, (.iconst 4, 1, 0, 0, 0, []))], [(24, (.aload_n 0, 1, 0, 0, 0, [])), (25, (.getfield 69, 3, 4, 8, 0, [(1, 38)])), (28, (.invokevirtual 72, 3, 33, 0, 0, [(3, 57), (3, 59), (0, 8)])), (31, (.iconst 0, 1, 0, 0, 0, []))], [(32, (.ireturn, 1, 0, 0, 0, [])), (33, (.aload_n 0, 1, 0, 0, 0, [])), (34, (.getfield 25, 3, 4, 4, 3, [(1, 34)])), (37, (.getfield 92, 3, 8, 8, 3, [(2, 114)]))], [(40, (.aload_n 0, 1, 0, 0, 0, [])), (41, (.getfield 89, 3, 4, 9, 0, [(1, 39)])), (44, (.iaload, 1, 0, 0, 0, [])), (45, (.iconst 2, 1, 0, 0, 0, [])), (46, (.if_icmp .lt 14, 3, 60, 0, 0, []))], [(49, (.aload_n 0, 1, 0, 0, 0, [])), (50, (.iconst 3, 1, 0, 0, 0, [])), (51, (.aload_n 0, 1, 0, 0, 0, [])), (52, (.getfield 69, 3, 4, 8, 0, [(1, 38)])), (55, (.invokevirtual 72, 3, 33, 0, 0, [(3, 57), (3, 59), (0, 8)]))], [(58, (.iconst 0, 1, 0, 0, 0, [])), (59, (.ireturn, 1, 0, 0, 0, [])), (60, (.aload_n 0, 1, 0, 0, 0, [])), (61, (.getfield 25, 3, 4, 4, 3, [(1, 34)]))], [(64, (.iload_n 1, 1, 0, 0, 0, [])), (65, (.aload_n 0, 1, 0, 0, 0, [])), (66, (.getfield 89, 3, 4, 9, 0, [(1, 39)])), (69, (.invokevirtual 96, 3, 75, 0, 0, [(3, 65), (3, 66), (3, 67)]))], [(72, (.aload_n 0, 1, 0, 0, 0, [])), (73, (.invokevirtual 47, 3, 46, 0, 0, [(3, 16), (3, 18), (0, 1)])), (76, (.iconst 1, 1, 0, 0, 0, [])), (77, (.ireturn, 1, 0, 0, 0, []))]])
/-- X4 readLoops -/
def pd_38 : pm_D := ((yX4_readLoops, cX4_readLoops, 7, none, 0, 4), [(3, 95), (1, 2)], [[(0, (.aload_n 0, 1, 0, 0, 0, [])), (1, (.getfield 25, 3, 4, 4, 3, [(1, 34)])), (4, (.getfield 99, 3, 8, 3, 0, [(2, 99)])), (7, (.istore_n 1, 1, 0, 0, 0, []))], [(8, (.iload_n 1, 1, 0, 0, 0, [])), (9, (.bipush 8, 2, 0, 0, 0, [])), (11, (.if_icmp .lt 9, 3, 20, 0, 0, [])), (14, (.aload_n 0, 1, 0, 0, 0, [])), (15, (.invokevirtual 56, 3, 34, 0, 0, [(3, 53), (3, 55), (0, 7)]))], [(18, (.pop, 1, 0, 0, 0, [])), (19, (.return_, 1, 0, 0, 0, [])), (20, (.aload_n 0, 1, 0, 0, 0, [])), (21, (.invokevirtual 47, 3, 46, 0, 0, [(3, 16), (3, 18), (0, 1)]))], [(24, (.aload_n 0, 1, 0, 0, 0, [])), (25, (.getfield 102, 3, 4, 10, 1, [(1, 40)])), (28, (.lstore_n 2, 1, 0, 0, 0, [])), (29, (.aload_n 0, 1, 0, 0, 0, [])), (30, (.aload_n 0, 1, 0, 0, 0, [])), (31, (.getfield 25, 3, 4, 4, 3, [(1, 34)]))], [(34, (.lload_n 2, 1, 0, 0, 0, [])), (35, (.invokevirtual 106, 3, 82, 0, 0, [(3, 96), (3, 97), (3, 98)])), (38, (.invokevirtual 110, 3, 41, 0, 0, [(3, 103), (3, 105), (0, 15)]))], [(41, (.ifCond .eq 12, 3, 53, 0, 0, [])), (44, (.aload_n 0, 1, 0, 0, 0, [])), (45, (.bipush 8, 2, 0, 0, 0, [])), (47, (.invokevirtual 86, 3, 42, 0, 0, [(3, 69), (3, 71), (0, 10)]))], [(50, (.ifCond .ne 4, 3, 54, 0, 0, [])), (53, (.return_, 1, 0, 0, 0, [])), (54, (.aload_n 0, 1, 0, 0, 0, [])), (55, (.getfield 25, 3, 4, 4, 3, [(1, 34)]))], [(58, (.getfield 113, 3, 8, 11, 3, [(2, 120)])), (61, (.iload_n 1, 1, 0, 0, 0, [])), (62, (.aaload, 1, 0, 0, 0, [])), (63, (.astore 4, 2, 0, 0, 0, []))], [(65, (.iconst 0, 1, 0, 0, 0, [])), (66, (.istore 5, 2, 0, 0, 0, [])), (68, (.iconst 0, 1, 0, 0, 0, [])), (69, (.istore 6, 2, 0, 0, 0, [])), (71, (.iload 6, 2, 0, 0, 0, []))], [(73, (.bipush 18, 2, 0, 0, 0, [])), (75, (.if_icmp .gt 71, 3, 146, 0, 0, [])), (78, (.aload_n 0, 1, 0, 0, 0, [])), (79, (.getfield 50, 3, 4, 7, 0, [(1, 37)]))], [(82, (.iconst 2, 1, 0, 0, 0, [])), (83, (.if_icmp .ne 63, 3, 146, 0, 0, [])), (86, (.iload 5, 2, 0, 0, 0, []))], [(88, (.aload_n 0, 1, 0, 0, 0, [])), (89, (.getfield 25, 3, 4, 4, 3, [(1, 34)])), (92, (.getfield 117, 3, 8, 1, 0, [(2, 92)])), (95, (.if_icmp .lt 9, 3, 104, 0, 0, []))], [(98, (.aload_n 0, 1, 0, 0, 0, [])), (99, (.invokevirtual 56, 3, 34, 0, 0, [(3, 53), (3, 55), (0, 7)])), (102, (.pop, 1, 0, 0, 0, [])), (103, (.return_, 1, 0, 0, 0, []))], [(104, (.aload_n 0, 1, 0, 0, 0, [])), (105, (.getfield 89, 3, 4, 9, 0, [(1, 39)])), (108, (.bipush 99, 2, 0, 0, 0, [])), (110, (.if_icmp .le 13, 3, 123, 0, 0, []))], [(113, (.aload_n 0, 1, 0, 0, 0, [])), (114, (.iconst 4, 1, 0, 0, 0, [])), (115, (.aload_n 0, 1, 0, 0, 0, [])), (116, (.getfield 69, 3, 4, 8, 0, [(1, 38)])), (119, (.invokevirtual 72, 3, 33, 0, 0, [(3, 57), (3, 59), (0, 8)]))], [(122, (.return_, 1, 0, 0, 0, [])), (123, (.aload 4, 2, 0, 0, 0, [])), (125, (.iload 5, 2, 0, 0, 0, [])), (127, (.aload_n 0, 1, 0, 0, 0, []))], [(128, (.getfield 89, 3, 4, 9, 0, [(1, 39)])), (131, (.i2l, 1, 0, 0, 0, [])), (132, (.lastore, 1, 0, 0, 0, [])), (133, (.iinc 5 1, 3, 0, 0, 0, []))], [(136, (.aload_n 0, 1, 0, 0, 0, [])), (137, (.invokevirtual 47, 3, 46, 0, 0, [(3, 16), (3, 18), (0, 1)])), (140, (.iinc 6 1, 3, 0, 0, 0, [])), (143, (.goto (-72), 3, 71, 0, 0, []))], [(146, (.aload_n 0, 1, 0, 0, 0, [])), (147, (.getfield 50, 3, 4, 7, 0, [(1, 37)])), (150, (.iconst 3, 1, 0, 0, 0, [])), (151, (.if_icmp .ne 20, 3, 171, 0, 0, []))], [(154, (.iload 5, 2, 0, 0, 0, [])), (156, (.ifCond .eq 15, 3, 171, 0, 0, [])), (159, (.iload 5, 2, 0, 0, 0, []))], [(161, (.aload_n 0, 1, 0, 0, 0, [])), (162, (.getfield 25, 3, 4, 4, 3, [(1, 34)])), (165, (.getfield 117, 3, 8, 1, 0, [(2, 92)]))], [(168, (.if_icmp .ge 9, 3, 177, 0, 0, [])), (171, (.aload_n 0, 1, 0, 0, 0, [])), (172, (.invokevirtual 56, 3, 34, 0, 0, [(3, 53), (3, 55), (0, 7)])), (175, (.pop, 1, 0, 0, 0, []))], [(176, (.return_, 1, 0, 0, 0, [])), (177, (.aload_n 0, 1, 0, 0, 0, [])), (178, (.getfield 25, 3, 4, 4, 3, [(1, 34)])), (181, (.aload 4, 2, 0, 0, 0, [])), (183, (.invokevirtual 120, 3, 80, 0, 0, [(3, 107), (3, 108), (3, 109)]))], [(186, (.ifCond .ne 14, 3, 200, 0, 0, [])), (189, (.aload_n 0, 1, 0, 0, 0, [])), (190, (.bipush 6, 2, 0, 0, 0, []))], [(192, (.aload_n 0, 1, 0, 0, 0, [])), (193, (.getfield 69, 3, 4, 8, 0, [(1, 38)])), (196, (.invokevirtual 72, 3, 33, 0, 0, [(3, 57), (3, 59), (0, 8)])), (199, (.return_, 1, 0, 0, 0, []))], [(200, (.aload_n 0, 1, 0, 0, 0, [])), (201, (.getfield 25, 3, 4, 4, 3, [(1, 34)])), (204, (.getfield 124, 3, 8, 12, 3, [(2, 123)])), (207, (.iload_n 1, 1, 0, 0, 0, []))], [(208, (.lload_n 2, 1, 0, 0, 0, [])), (209, (.lastore, 1, 0, 0, 0, [])), (210, (.aload_n 0, 1, 0, 0, 0, [])), (211, (.getfield 25, 3, 4, 4, 3, [(1, 34)])), (214, (.dup, 1, 0, 0, 0, [])), (215, (.getfield 99, 3, 8, 3, 0, [(2, 99)]))], [(218, (.iconst 1, 1, 0, 0, 0, [])), (219, (.iadd, 1, 0, 0, 0, [])), (220, (.putfield 99, 3, 8, 3, 0, [(2, 99)])), (223, (.aload_n 0, 1, 0, 0, 0, []))], [(224, (.invokevirtual 47, 3, 46, 0, 0, [(3, 16), (3, 18), (0, 1)])), (227, (.return_, 1, 0, 0, 0, []))]])
/-- X4 readTwists -/
def pd_39 : pm_D := ((yX4_readTwists, cX4_readTwists, 6, none, 0, 4), [(3, 119), (1, 2)], [[(0, (.aload_n 0, 1, 0, 0, 0, [])), (1, (.getfield 25, 3, 4, 4, 3, [(1, 34)])), (4, (.getfield 128, 3, 8, 4, 0, [(2, 102)])), (7, (.istore_n 1, 1, 0, 0, 0, []))], [(8, (.iload_n 1, 1, 0, 0, 0, [])), (9, (.bipush 6, 2, 0, 0, 0, [])), (11, (.if_icmp .lt 9, 3, 20, 0, 0, [])), (14, (.aload_n 0, 1, 0, 0, 0, [])), (15, (.invokevirtual 56, 3, 34, 0, 0, [(3, 53), (3, 55), (0, 7)]))], [(18, (.pop, 1, 0, 0, 0, [])), (19, (.return_, 1, 0, 0, 0, [])), (20, (.aload_n 0, 1, 0, 0, 0, [])), (21, (.invokevirtual 47, 3, 46, 0, 0, [(3, 16), (3, 18), (0, 1)]))], [(24, (.aload_n 0, 1, 0, 0, 0, [])), (25, (.getfield 102, 3, 4, 10, 1, [(1, 40)])), (28, (.lstore_n 2, 1, 0, 0, 0, [])), (29, (.aload_n 0, 1, 0, 0, 0, [])), (30, (.aload_n 0, 1, 0, 0, 0, [])), (31, (.getfield 25, 3, 4, 4, 3, [(1, 34)]))], [(34, (.lload_n 2, 1, 0, 0, 0, [])), (35, (.invokevirtual 131, 3, 83, 0, 0, [(3, 120), (3, 121), (3, 122)])), (38, (.invokevirtual 110, 3, 41, 0, 0, [(3, 103), (3, 105), (0, 15)]))], [(41, (.ifCond .eq 12, 3, 53, 0, 0, [])), (44, (.aload_n 0, 1, 0, 0, 0, [])), (45, (.bipush 10, 2, 0, 0, 0, [])), (47, (.invokevirtual 86, 3, 42, 0, 0, [(3, 69), (3, 71), (0, 10)]))], [(50, (.ifCond .ne 4, 3, 54, 0, 0, [])), (53, (.return_, 1, 0, 0, 0, [])), (54, (.iconst 0, 1, 0, 0, 0, [])), (55, (.istore 4, 2, 0, 0, 0, []))], [(57, (.iconst 0, 1, 0, 0, 0, [])), (58, (.istore 5, 2, 0, 0, 0, [])), (60, (.iload 5, 2, 0, 0, 0, [])), (62, (.bipush 8, 2, 0, 0, 0, []))], [(64, (.if_icmp .gt 36, 3, 100, 0, 0, [])), (67, (.iload 4, 2, 0, 0, 0, [])), (69, (.ifCond .eq 11, 3, 80, 0, 0, []))], [(72, (.aload_n 0, 1, 0, 0, 0, [])), (73, (.getfield 50, 3, 4, 7, 0, [(1, 37)])), (76, (.iconst 3, 1, 0, 0, 0, [])), (77, (.if_icmp .eq 23, 3, 100, 0, 0, []))], [(80, (.aload_n 0, 1, 0, 0, 0, [])), (81, (.iload_n 1, 1, 0, 0, 0, [])), (82, (.iload 4, 2, 0, 0, 0, [])), (84, (.invokevirtual 134, 3, 40, 0, 0, [(3, 124), (3, 126), (0, 17)])), (87, (.ifCond .ne 4, 3, 91, 0, 0, []))], [(90, (.return_, 1, 0, 0, 0, [])), (91, (.iinc 4 1, 3, 0, 0, 0, [])), (94, (.iinc 5 1, 3, 0, 0, 0, []))], [(97, (.goto (-37), 3, 60, 0, 0, [])), (100, (.aload_n 0, 1, 0, 0, 0, [])), (101, (.iconst 3, 1, 0, 0, 0, [])), (102, (.invokevirtual 86, 3, 42, 0, 0, [(3, 69), (3, 71), (0, 10)]))], [(105, (.ifCond .eq 37, 3, 142, 0, 0, [])), (108, (.aload_n 0, 1, 0, 0, 0, [])), (109, (.getfield 25, 3, 4, 4, 3, [(1, 34)]))], [(112, (.getfield 138, 3, 8, 13, 3, [(2, 125)])), (115, (.iload_n 1, 1, 0, 0, 0, [])), (116, (.lload_n 2, 1, 0, 0, 0, [])), (117, (.lastore, 1, 0, 0, 0, [])), (118, (.aload_n 0, 1, 0, 0, 0, [])), (119, (.getfield 25, 3, 4, 4, 3, [(1, 34)]))], [(122, (.getfield 141, 3, 8, 14, 3, [(2, 128)])), (125, (.iload_n 1, 1, 0, 0, 0, [])), (126, (.iload 4, 2, 0, 0, 0, []))], [(128, (.iastore, 1, 0, 0, 0, [])), (129, (.aload_n 0, 1, 0, 0, 0, [])), (130, (.getfield 25, 3, 4, 4, 3, [(1, 34)])), (133, (.dup, 1, 0, 0, 0, [])), (134, (.getfield 128, 3, 8, 4, 0, [(2, 102)]))], [(137, (.iconst 1, 1, 0, 0, 0, [])), (138, (.iadd, 1, 0, 0, 0, [])), (139, (.putfield 128, 3, 8, 4, 0, [(2, 102)])), (142, (.return_, 1, 0, 0, 0, []))]])
/-- X4 readTwist -/
def pd_40 : pm_D := ((yX4_readTwist, cX4_readTwist, 6, (some .boolean), 2, 4), [(3, 127), (1, 2)], [[(0, (.aload_n 0, 1, 0, 0, 0, [])), (1, (.getfield 50, 3, 4, 7, 0, [(1, 37)])), (4, (.iconst 1, 1, 0, 0, 0, [])), (5, (.if_icmp .ne 9, 3, 14, 0, 0, []))], [(8, (.iload_n 2, 1, 0, 0, 0, [])), (9, (.bipush 8, 2, 0, 0, 0, [])), (11, (.if_icmp .lt 8, 3, 19, 0, 0, [])), (14, (.aload_n 0, 1, 0, 0, 0, [])), (15, (.invokevirtual 56, 3, 34, 0, 0, [(3, 53), (3, 55), (0, 7)]))], [(18, (.ireturn, 1, 0, 0, 0, [])), (19, (.aload_n 0, 1, 0, 0, 0, [])), (20, (.getfield 25, 3, 4, 4, 3, [(1, 34)])), (23, (.aload_n 0, 1, 0, 0, 0, []))], [(24, (.getfield 102, 3, 4, 10, 1, [(1, 40)])), (27, (.invokevirtual 106, 3, 82, 0, 0, [(3, 96), (3, 97), (3, 98)])), (30, (.istore_n 3, 1, 0, 0, 0, [])), (31, (.iload_n 3, 1, 0, 0, 0, []))], [(32, (.iconst (-1), 1, 0, 0, 0, [])), (33, (.if_icmp .ne 14, 3, 47, 0, 0, [])), (36, (.aload_n 0, 1, 0, 0, 0, [])), (37, (.iconst 5, 1, 0, 0, 0, [])), (38, (.aload_n 0, 1, 0, 0, 0, [])), (39, (.getfield 69, 3, 4, 8, 0, [(1, 38)]))], [(42, (.invokevirtual 72, 3, 33, 0, 0, [(3, 57), (3, 59), (0, 8)])), (45, (.iconst 0, 1, 0, 0, 0, [])), (46, (.ireturn, 1, 0, 0, 0, [])), (47, (.aload_n 0, 1, 0, 0, 0, []))], [(48, (.invokevirtual 47, 3, 46, 0, 0, [(3, 16), (3, 18), (0, 1)])), (51, (.aload_n 0, 1, 0, 0, 0, [])), (52, (.getfield 69, 3, 4, 8, 0, [(1, 38)])), (55, (.istore 4, 2, 0, 0, 0, []))], [(57, (.aload_n 0, 1, 0, 0, 0, [])), (58, (.getfield 50, 3, 4, 7, 0, [(1, 37)])), (61, (.iconst 4, 1, 0, 0, 0, [])), (62, (.if_icmp .ne 7, 3, 69, 0, 0, []))], [(65, (.iconst 1, 1, 0, 0, 0, [])), (66, (.goto 4, 3, 70, 0, 0, [])), (69, (.iconst 0, 1, 0, 0, 0, [])), (70, (.istore 5, 2, 0, 0, 0, []))], [(72, (.iload 5, 2, 0, 0, 0, [])), (74, (.ifCond .eq 7, 3, 81, 0, 0, [])), (77, (.aload_n 0, 1, 0, 0, 0, [])), (78, (.invokevirtual 47, 3, 46, 0, 0, [(3, 16), (3, 18), (0, 1)]))], [(81, (.aload_n 0, 1, 0, 0, 0, [])), (82, (.getfield 50, 3, 4, 7, 0, [(1, 37)])), (85, (.iconst 2, 1, 0, 0, 0, [])), (86, (.if_icmp .eq 8, 3, 94, 0, 0, []))], [(89, (.aload_n 0, 1, 0, 0, 0, [])), (90, (.invokevirtual 56, 3, 34, 0, 0, [(3, 53), (3, 55), (0, 7)])), (93, (.ireturn, 1, 0, 0, 0, [])), (94, (.aload_n 0, 1, 0, 0, 0, [])), (95, (.getfield 89, 3, 4, 9, 0, [(1, 39)]))], [(98, (.ifCond .eq 12, 3, 110, 0, 0, [])), (101, (.aload_n 0, 1, 0, 0, 0, [])), (102, (.getfield 89, 3, 4, 9, 0, [(1, 39)]))], [(105, (.bipush 9, 2, 0, 0, 0, [])), (107, (.if_icmp .le 12, 3, 119, 0, 0, [])), (110, (.aload_n 0, 1, 0, 0, 0, [])), (111, (.iconst 4, 1, 0, 0, 0, []))], [(112, (.iload 4, 2, 0, 0, 0, [])), (114, (.invokevirtual 72, 3, 33, 0, 0, [(3, 57), (3, 59), (0, 8)])), (117, (.iconst 0, 1, 0, 0, 0, [])), (118, (.ireturn, 1, 0, 0, 0, [])), (119, (.aload_n 0, 1, 0, 0, 0, []))], [(120, (.getfield 25, 3, 4, 4, 3, [(1, 34)])), (123, (.getfield 144, 3, 8, 15, 3, [(2, 131)])), (126, (.iload_n 1, 1, 0, 0, 0, [])), (127, (.aaload, 1, 0, 0, 0, []))], [(128, (.iload_n 2, 1, 0, 0, 0, [])), (129, (.iload_n 3, 1, 0, 0, 0, [])), (130, (.iastore, 1, 0, 0, 0, [])), (131, (.aload_n 0, 1, 0, 0, 0, [])), (132, (.getfield 25, 3, 4, 4, 3, [(1, 34)])), (135, (.getfield 148, 3, 8, 16, 3, [(2, 134)]))], [(138, (.iload_n 1, 1, 0, 0, 0, [])), (139, (.aaload, 1, 0, 0, 0, [])), (140, (.iload_n 2, 1, 0, 0, 0, [])), (141, (.iload 5, 2, 0, 0, 0, [])), (143, (.ifCond .eq 11, 3, 154, 0, 0, []))], [(146, (.aload_n 0, 1, 0, 0, 0, [])), (147, (.getfield 89, 3, 4, 9, 0, [(1, 39)])), (150, (.ineg, 1, 0, 0, 0, [])), (151, (.goto 7, 3, 158, 0, 0, []))], [(154, (.aload_n 0, 1, 0, 0, 0, [])), (155, (.getfield 89, 3, 4, 9, 0, [(1, 39)])), (158, (.iastore, 1, 0, 0, 0, [])), (159, (.aload_n 0, 1, 0, 0, 0, []))], [(160, (.invokevirtual 47, 3, 46, 0, 0, [(3, 16), (3, 18), (0, 1)])), (163, (.iconst 1, 1, 0, 0, 0, [])), (164, (.ireturn, 1, 0, 0, 0, []))]])
/-- X4 passNewName -/
def pd_41 : pm_D := ((yX4_passNewName, cX4_passNewName, 2, (some .boolean), 1, 4), [(3, 106), (1, 2)], [[(0, (.aload_n 0, 1, 0, 0, 0, [])), (1, (.getfield 50, 3, 4, 7, 0, [(1, 37)])), (4, (.iconst 1, 1, 0, 0, 0, [])), (5, (.if_icmp .eq 8, 3, 13, 0, 0, []))], [(8, (.aload_n 0, 1, 0, 0, 0, [])), (9, (.invokevirtual 56, 3, 34, 0, 0, [(3, 53), (3, 55), (0, 7)])), (12, (.ireturn, 1, 0, 0, 0, [])), (13, (.iload_n 1, 1, 0, 0, 0, [])), (14, (.iconst (-1), 1, 0, 0, 0, [])), (15, (.if_icmp .eq 14, 3, 29, 0, 0, []))], [(18, (.aload_n 0, 1, 0, 0, 0, [])), (19, (.iconst 3, 1, 0, 0, 0, [])), (20, (.aload_n 0, 1, 0, 0, 0, [])), (21, (.getfield 69, 3, 4, 8, 0, [(1, 38)]))], [(24, (.invokevirtual 72, 3, 33, 0, 0, [(3, 57), (3, 59), (0, 8)])), (27, (.iconst 0, 1, 0, 0, 0, [])), (28, (.ireturn, 1, 0, 0, 0, [])), (29, (.aload_n 0, 1, 0, 0, 0, [])), (30, (.invokevirtual 47, 3, 46, 0, 0, [(3, 16), (3, 18), (0, 1)]))], [(33, (.iconst 1, 1, 0, 0, 0, [])), (34, (.ireturn, 1, 0, 0, 0, []))]])
/-- X4 pass -/
def pd_42 : pm_D := ((yX4_pass, cX4_pass, 2, (some .boolean), 1, 4), [(3, 72), (1, 2)], [[(0, (.aload_n 0, 1, 0, 0, 0, [])), (1, (.getfield 50, 3, 4, 7, 0, [(1, 37)])), (4, (.iload_n 1, 1, 0, 0, 0, [])), (5, (.if_icmp .eq 8, 3, 13, 0, 0, []))], [(8, (.aload_n 0, 1, 0, 0, 0, [])), (9, (.invokevirtual 56, 3, 34, 0, 0, [(3, 53), (3, 55), (0, 7)])), (12, (.ireturn, 1, 0, 0, 0, [])), (13, (.aload_n 0, 1, 0, 0, 0, [])), (14, (.invokevirtual 47, 3, 46, 0, 0, [(3, 16), (3, 18), (0, 1)]))], [(17, (.iconst 1, 1, 0, 0, 0, [])), (18, (.ireturn, 1, 0, 0, 0, []))]])
/-- X4 byteAt -/
def pd_43 : pm_D := ((yX4_byteAt, cX4_byteAt, 2, (some .int), 1, 4), [(3, 23), (1, 2)], [[(0, (.iload_n 1, 1, 0, 0, 0, [])), (1, (.ifCond .lt 20, 3, 21, 0, 0, [])), (4, (.iload_n 1, 1, 0, 0, 0, [])), (5, (.aload_n 0, 1, 0, 0, 0, [])), (6, (.getfield 21, 3, 4, 3, 0, [(1, 33)]))], [(9, (.if_icmp .ge 12, 3, 21, 0, 0, [])), (12, (.aload_n 0, 1, 0, 0, 0, [])), (13, (.getfield 9, 3, 4, 2, 3, [(1, 32)]))], [(16, (.iload_n 1, 1, 0, 0, 0, [])), (17, (.baload, 1, 0, 0, 0, [])), (18, (.goto 4, 3, 22, 0, 0, [])), (21, (.iconst 0, 1, 0, 0, 0, [])), (22, (.ireturn, 1, 0, 0, 0, []))]])
/-- X4 isLetter -/
def pd_44 : pm_D := ((yX4_isLetter, cX4_isLetter, 1, (some .boolean), 1, 4), [(3, 26), (1, 2)], [[(0, (.iload_n 0, 1, 0, 0, 0, [])), (1, (.bipush 97, 2, 0, 0, 0, [])), (3, (.if_icmp .lt 13, 3, 16, 0, 0, [])), (6, (.iload_n 0, 1, 0, 0, 0, [])), (7, (.bipush 122, 2, 0, 0, 0, []))], [(9, (.if_icmp .gt 7, 3, 16, 0, 0, [])), (12, (.iconst 1, 1, 0, 0, 0, [])), (13, (.goto 4, 3, 17, 0, 0, []))], [(16, (.iconst 0, 1, 0, 0, 0, [])), (17, (.ireturn, 1, 0, 0, 0, []))]])
/-- X4 isDigit -/
def pd_45 : pm_D := ((yX4_isDigit, cX4_isDigit, 1, (some .boolean), 1, 4), [(3, 44), (1, 2)], [[(0, (.iload_n 0, 1, 0, 0, 0, [])), (1, (.bipush 48, 2, 0, 0, 0, [])), (3, (.if_icmp .lt 13, 3, 16, 0, 0, [])), (6, (.iload_n 0, 1, 0, 0, 0, [])), (7, (.bipush 57, 2, 0, 0, 0, []))], [(9, (.if_icmp .gt 7, 3, 16, 0, 0, [])), (12, (.iconst 1, 1, 0, 0, 0, [])), (13, (.goto 4, 3, 17, 0, 0, []))], [(16, (.iconst 0, 1, 0, 0, 0, [])), (17, (.ireturn, 1, 0, 0, 0, []))]])
/-- X4 readToken -/
def pd_46 : pm_D := ((yX4_readToken, cX4_readToken, 2, none, 0, 4), [(3, 19), (1, 2)], [[(0, (.iconst 0, 1, 0, 0, 0, [])), (1, (.istore_n 1, 1, 0, 0, 0, [])), (2, (.iload_n 1, 1, 0, 0, 0, [])), (3, (.sipush 1600, 3, 0, 0, 0, [])), (6, (.if_icmp .ge 45, 3, 51, 0, 0, []))], [(9, (.aload_n 0, 1, 0, 0, 0, [])), (10, (.aload_n 0, 1, 0, 0, 0, [])), (11, (.getfield 44, 3, 4, 6, 0, [(1, 36)])), (14, (.invokevirtual 151, 3, 43, 0, 0, [(3, 20), (3, 22), (0, 2)]))], [(17, (.bipush 32, 2, 0, 0, 0, [])), (19, (.if_icmp .eq 16, 3, 35, 0, 0, [])), (22, (.aload_n 0, 1, 0, 0, 0, [])), (23, (.aload_n 0, 1, 0, 0, 0, []))], [(24, (.getfield 44, 3, 4, 6, 0, [(1, 36)])), (27, (.invokevirtual 151, 3, 43, 0, 0, [(3, 20), (3, 22), (0, 2)])), (30, (.bipush 10, 2, 0, 0, 0, []))], [(32, (.if_icmp .ne 19, 3, 51, 0, 0, [])), (35, (.aload_n 0, 1, 0, 0, 0, [])), (36, (.dup, 1, 0, 0, 0, [])), (37, (.getfield 44, 3, 4, 6, 0, [(1, 36)]))], [(40, (.iconst 1, 1, 0, 0, 0, [])), (41, (.iadd, 1, 0, 0, 0, [])), (42, (.putfield 44, 3, 4, 6, 0, [(1, 36)])), (45, (.iinc 1 1, 3, 0, 0, 0, []))], [(48, (.goto (-46), 3, 2, 0, 0, [])), (51, (.aload_n 0, 1, 0, 0, 0, [])), (52, (.aload_n 0, 1, 0, 0, 0, [])), (53, (.getfield 44, 3, 4, 6, 0, [(1, 36)]))], [(56, (.putfield 69, 3, 4, 8, 0, [(1, 38)])), (59, (.aload_n 0, 1, 0, 0, 0, [])), (60, (.aload_n 0, 1, 0, 0, 0, [])), (61, (.getfield 44, 3, 4, 6, 0, [(1, 36)]))], [(64, (.invokevirtual 151, 3, 43, 0, 0, [(3, 20), (3, 22), (0, 2)])), (67, (.istore_n 1, 1, 0, 0, 0, [])), (68, (.aload_n 0, 1, 0, 0, 0, [])), (69, (.getfield 44, 3, 4, 6, 0, [(1, 36)]))], [(72, (.aload_n 0, 1, 0, 0, 0, [])), (73, (.getfield 21, 3, 4, 3, 0, [(1, 33)])), (76, (.if_icmp .lt 11, 3, 87, 0, 0, [])), (79, (.aload_n 0, 1, 0, 0, 0, []))], [(80, (.iconst 0, 1, 0, 0, 0, [])), (81, (.putfield 50, 3, 4, 7, 0, [(1, 37)])), (84, (.goto 66, 3, 150, 0, 0, [])), (87, (.iload_n 1, 1, 0, 0, 0, []))], [(88, (.invokestatic 155, 3, 44, 0, 0, [(3, 24), (3, 25)])), (91, (.ifCond .eq 10, 3, 101, 0, 0, [])), (94, (.aload_n 0, 1, 0, 0, 0, [])), (95, (.invokevirtual 158, 3, 47, 0, 0, [(3, 27), (3, 29), (0, 3)]))], [(98, (.goto 52, 3, 150, 0, 0, [])), (101, (.iload_n 1, 1, 0, 0, 0, [])), (102, (.invokestatic 161, 3, 45, 0, 0, [(3, 42), (3, 43)]))], [(105, (.ifCond .eq 10, 3, 115, 0, 0, [])), (108, (.aload_n 0, 1, 0, 0, 0, [])), (109, (.invokevirtual 164, 3, 49, 0, 0, [(3, 45), (3, 47), (0, 5)]))], [(112, (.goto 38, 3, 150, 0, 0, [])), (115, (.aload_n 0, 1, 0, 0, 0, [])), (116, (.dup, 1, 0, 0, 0, [])), (117, (.getfield 44, 3, 4, 6, 0, [(1, 36)]))], [(120, (.iconst 1, 1, 0, 0, 0, [])), (121, (.iadd, 1, 0, 0, 0, [])), (122, (.putfield 44, 3, 4, 6, 0, [(1, 36)])), (125, (.aload_n 0, 1, 0, 0, 0, [])), (126, (.iload_n 1, 1, 0, 0, 0, [])), (127, (.bipush 59, 2, 0, 0, 0, []))], [(129, (.if_icmp .ne 7, 3, 136, 0, 0, [])), (132, (.iconst 3, 1, 0, 0, 0, [])), (133, (.goto 14, 3, 147, 0, 0, []))], [(136, (.iload_n 1, 1, 0, 0, 0, [])), (137, (.bipush 45, 2, 0, 0, 0, [])), (139, (.if_icmp .ne 7, 3, 146, 0, 0, [])), (142, (.iconst 4, 1, 0, 0, 0, [])), (143, (.goto 4, 3, 147, 0, 0, []))], [(146, (.iconst 5, 1, 0, 0, 0, [])), (147, (.putfield 50, 3, 4, 7, 0, [(1, 37)])), (150, (.return_, 1, 0, 0, 0, []))]])
/-- X4 readLetters -/
def pd_47 : pm_D := ((yX4_readLetters, cX4_readLetters, 2, none, 0, 4), [(3, 30), (1, 2)], [[(0, (.aload_n 0, 1, 0, 0, 0, [])), (1, (.lconst 0, 1, 0, 0, 0, [])), (2, (.putfield 102, 3, 4, 10, 1, [(1, 40)])), (5, (.iconst 0, 1, 0, 0, 0, [])), (6, (.istore_n 1, 1, 0, 0, 0, [])), (7, (.iload_n 1, 1, 0, 0, 0, []))], [(8, (.sipush 1600, 3, 0, 0, 0, [])), (11, (.if_icmp .ge 61, 3, 72, 0, 0, [])), (14, (.aload_n 0, 1, 0, 0, 0, [])), (15, (.aload_n 0, 1, 0, 0, 0, []))], [(16, (.getfield 44, 3, 4, 6, 0, [(1, 36)])), (19, (.invokevirtual 151, 3, 43, 0, 0, [(3, 20), (3, 22), (0, 2)])), (22, (.invokestatic 155, 3, 44, 0, 0, [(3, 24), (3, 25)]))], [(25, (.ifCond .eq 47, 3, 72, 0, 0, [])), (28, (.aload_n 0, 1, 0, 0, 0, [])), (29, (.aload_n 0, 1, 0, 0, 0, [])), (30, (.getfield 102, 3, 4, 10, 1, [(1, 40)]))], [(33, (.ldc2_w 167, 3, 0, 0, 32, [(3, 31)])), (36, (.lmul, 1, 0, 0, 0, [])), (37, (.aload_n 0, 1, 0, 0, 0, [])), (38, (.aload_n 0, 1, 0, 0, 0, [])), (39, (.getfield 44, 3, 4, 6, 0, [(1, 36)]))], [(42, (.invokevirtual 151, 3, 43, 0, 0, [(3, 20), (3, 22), (0, 2)])), (45, (.i2l, 1, 0, 0, 0, [])), (46, (.ladd, 1, 0, 0, 0, [])), (47, (.ldc2_w 169, 3, 0, 0, 97, [(3, 32)]))], [(50, (.lsub, 1, 0, 0, 0, [])), (51, (.lconst 1, 1, 0, 0, 0, [])), (52, (.ladd, 1, 0, 0, 0, [])), (53, (.putfield 102, 3, 4, 10, 1, [(1, 40)]))], [(56, (.aload_n 0, 1, 0, 0, 0, [])), (57, (.dup, 1, 0, 0, 0, [])), (58, (.getfield 44, 3, 4, 6, 0, [(1, 36)])), (61, (.iconst 1, 1, 0, 0, 0, [])), (62, (.iadd, 1, 0, 0, 0, [])), (63, (.putfield 44, 3, 4, 6, 0, [(1, 36)]))], [(66, (.iinc 1 1, 3, 0, 0, 0, [])), (69, (.goto (-62), 3, 7, 0, 0, []))], [(72, (.aload_n 0, 1, 0, 0, 0, [])), (73, (.aload_n 0, 1, 0, 0, 0, [])), (74, (.getfield 44, 3, 4, 6, 0, [(1, 36)])), (77, (.aload_n 0, 1, 0, 0, 0, [])), (78, (.getfield 69, 3, 4, 8, 0, [(1, 38)]))], [(81, (.isub, 1, 0, 0, 0, [])), (82, (.bipush 8, 2, 0, 0, 0, [])), (84, (.if_icmp .le 7, 3, 91, 0, 0, [])), (87, (.iconst 5, 1, 0, 0, 0, []))], [(88, (.goto 7, 3, 95, 0, 0, [])), (91, (.aload_n 0, 1, 0, 0, 0, [])), (92, (.invokevirtual 171, 3, 48, 0, 0, [(3, 33), (3, 35), (0, 4)])), (95, (.putfield 50, 3, 4, 7, 0, [(1, 37)]))], [(98, (.return_, 1, 0, 0, 0, []))]])
/-- X4 kindOfWord -/
def pd_48 : pm_D := ((yX4_kindOfWord, cX4_kindOfWord, 1, (some .int), 0, 4), [(3, 36), (1, 2)], [[(0, (.aload_n 0, 1, 0, 0, 0, [])), (1, (.getfield 102, 3, 4, 10, 1, [(1, 40)])), (4, (.ldc2_w 175, 3, 0, 0, 17077349, [(3, 37)])), (7, (.lcmp, 1, 0, 0, 0, []))], [(8, (.ifCond .ne 6, 3, 14, 0, 0, [])), (11, (.bipush 6, 2, 0, 0, 0, [])), (13, (.ireturn, 1, 0, 0, 0, [])), (14, (.aload_n 0, 1, 0, 0, 0, [])), (15, (.getfield 102, 3, 4, 10, 1, [(1, 40)]))], [(18, (.ldc2_w 177, 3, 0, 0, 402885, [(3, 38)])), (21, (.lcmp, 1, 0, 0, 0, [])), (22, (.ifCond .ne 6, 3, 28, 0, 0, []))], [(25, (.bipush 7, 2, 0, 0, 0, [])), (27, (.ireturn, 1, 0, 0, 0, [])), (28, (.aload_n 0, 1, 0, 0, 0, [])), (29, (.getfield 102, 3, 4, 10, 1, [(1, 40)]))], [(32, (.ldc2_w 179, 3, 0, 0, 486, [(3, 39)])), (35, (.lcmp, 1, 0, 0, 0, [])), (36, (.ifCond .ne 6, 3, 42, 0, 0, [])), (39, (.bipush 8, 2, 0, 0, 0, []))], [(41, (.ireturn, 1, 0, 0, 0, [])), (42, (.aload_n 0, 1, 0, 0, 0, [])), (43, (.getfield 102, 3, 4, 10, 1, [(1, 40)])), (46, (.ldc2_w 181, 3, 0, 0, 769604, [(3, 40)]))], [(49, (.lcmp, 1, 0, 0, 0, [])), (50, (.ifCond .ne 6, 3, 56, 0, 0, [])), (53, (.bipush 9, 2, 0, 0, 0, [])), (55, (.ireturn, 1, 0, 0, 0, []))], [(56, (.aload_n 0, 1, 0, 0, 0, [])), (57, (.getfield 102, 3, 4, 10, 1, [(1, 40)])), (60, (.ldc2_w 183, 3, 0, 0, 307, [(3, 41)])), (63, (.lcmp, 1, 0, 0, 0, []))], [(64, (.ifCond .ne 8, 3, 72, 0, 0, [])), (67, (.bipush 10, 2, 0, 0, 0, [])), (69, (.goto 4, 3, 73, 0, 0, []))], [(72, (.iconst 1, 1, 0, 0, 0, [])), (73, (.ireturn, 1, 0, 0, 0, []))]])
/-- X4 readDigits -/
def pd_49 : pm_D := ((yX4_readDigits, cX4_readDigits, 2, none, 0, 4), [(3, 48), (1, 2)], [[(0, (.aload_n 0, 1, 0, 0, 0, [])), (1, (.iconst 0, 1, 0, 0, 0, [])), (2, (.putfield 89, 3, 4, 9, 0, [(1, 39)])), (5, (.iconst 0, 1, 0, 0, 0, [])), (6, (.istore_n 1, 1, 0, 0, 0, [])), (7, (.iload_n 1, 1, 0, 0, 0, []))], [(8, (.sipush 1600, 3, 0, 0, 0, [])), (11, (.if_icmp .ge 56, 3, 67, 0, 0, [])), (14, (.aload_n 0, 1, 0, 0, 0, [])), (15, (.aload_n 0, 1, 0, 0, 0, []))], [(16, (.getfield 44, 3, 4, 6, 0, [(1, 36)])), (19, (.invokevirtual 151, 3, 43, 0, 0, [(3, 20), (3, 22), (0, 2)])), (22, (.invokestatic 161, 3, 45, 0, 0, [(3, 42), (3, 43)]))], [(25, (.ifCond .eq 42, 3, 67, 0, 0, [])), (28, (.aload_n 0, 1, 0, 0, 0, [])), (29, (.aload_n 0, 1, 0, 0, 0, [])), (30, (.getfield 89, 3, 4, 9, 0, [(1, 39)]))], [(33, (.bipush 10, 2, 0, 0, 0, [])), (35, (.imul, 1, 0, 0, 0, [])), (36, (.aload_n 0, 1, 0, 0, 0, [])), (37, (.aload_n 0, 1, 0, 0, 0, [])), (38, (.getfield 44, 3, 4, 6, 0, [(1, 36)]))], [(41, (.invokevirtual 151, 3, 43, 0, 0, [(3, 20), (3, 22), (0, 2)])), (44, (.iadd, 1, 0, 0, 0, [])), (45, (.bipush 48, 2, 0, 0, 0, [])), (47, (.isub, 1, 0, 0, 0, []))], [(48, (.putfield 89, 3, 4, 9, 0, [(1, 39)])), (51, (.aload_n 0, 1, 0, 0, 0, [])), (52, (.dup, 1, 0, 0, 0, [])), (53, (.getfield 44, 3, 4, 6, 0, [(1, 36)]))], [(56, (.iconst 1, 1, 0, 0, 0, [])), (57, (.iadd, 1, 0, 0, 0, [])), (58, (.putfield 44, 3, 4, 6, 0, [(1, 36)])), (61, (.iinc 1 1, 3, 0, 0, 0, []))], [(64, (.goto (-57), 3, 7, 0, 0, [])), (67, (.aload_n 0, 1, 0, 0, 0, [])), (68, (.aload_n 0, 1, 0, 0, 0, [])), (69, (.getfield 44, 3, 4, 6, 0, [(1, 36)]))], [(72, (.aload_n 0, 1, 0, 0, 0, [])), (73, (.getfield 69, 3, 4, 8, 0, [(1, 38)])), (76, (.isub, 1, 0, 0, 0, [])), (77, (.iconst 4, 1, 0, 0, 0, [])), (78, (.if_icmp .gt 17, 3, 95, 0, 0, []))], [(81, (.aload_n 0, 1, 0, 0, 0, [])), (82, (.aload_n 0, 1, 0, 0, 0, [])), (83, (.getfield 44, 3, 4, 6, 0, [(1, 36)])), (86, (.invokevirtual 151, 3, 43, 0, 0, [(3, 20), (3, 22), (0, 2)]))], [(89, (.invokestatic 155, 3, 44, 0, 0, [(3, 24), (3, 25)])), (92, (.ifCond .eq 7, 3, 99, 0, 0, [])), (95, (.iconst 5, 1, 0, 0, 0, []))], [(96, (.goto 4, 3, 100, 0, 0, [])), (99, (.iconst 2, 1, 0, 0, 0, [])), (100, (.putfield 50, 3, 4, 7, 0, [(1, 37)])), (103, (.return_, 1, 0, 0, 0, []))]])
/-- X5 init -/
def pd_50 : pm_D := ((yX5_init, cX5_init, 1, none, 0, 5), [(1, 169), (1, 6)], [[(0, (.aload_n 0, 1, 0, 0, 0, [])), (1, (.invokespecial 3, 3, 0, 0, 0, [(1, 170), (1, 20), (1, 21)])), (4, (.aload_n 0, 1, 0, 0, 0, [])), (5, (.sipush 1782, 3, 0, 0, 0, []))], [(8, (.newarray .int, 2, 0, 0, 0, [(1, 117)])), (10, (.putfield 11, 3, 5, 6, 3, [(1, 185)])), (13, (.return_, 1, 0, 0, 0, []))]])
/-- X5 edgeFlipped -/
def pd_51 : pm_D := ((yX5_edgeFlipped, cX5_edgeFlipped, 2, (some .int), 1, 5), [(4, 52), (1, 6)], [[(0, (.aload_n 0, 1, 0, 0, 0, [])), (1, (.getfield 11, 3, 5, 6, 3, [(1, 185)])), (4, (.iload_n 1, 1, 0, 0, 0, [])), (5, (.iaload, 1, 0, 0, 0, [])), (6, (.bipush 31, 2, 0, 0, 0, []))], [(8, (.iand, 1, 0, 0, 0, [])), (9, (.ireturn, 1, 0, 0, 0, []))]])
/-- X6 init -/
def pd_52 : pm_D := ((yX6_init, cX6_init, 1, none, 0, 6), [(1, 128), (1, 5)], [[(0, (.aload_n 0, 1, 0, 0, 0, [])), (1, (.invokespecial 3, 3, 0, 0, 0, [(1, 129), (1, 20), (1, 21)])), (4, (.aload_n 0, 1, 0, 0, 0, [])), (5, (.bipush 36, 2, 0, 0, 0, [])), (7, (.newarray .int, 2, 0, 0, 0, [(1, 117)]))], [(9, (.putfield 9, 3, 6, 0, 3, [(1, 130)])), (12, (.aload_n 0, 1, 0, 0, 0, [])), (13, (.bipush 18, 2, 0, 0, 0, [])), (15, (.newarray .int, 2, 0, 0, 0, [(1, 117)]))], [(17, (.putfield 15, 3, 6, 1, 3, [(1, 131)])), (20, (.aload_n 0, 1, 0, 0, 0, [])), (21, (.bipush 18, 2, 0, 0, 0, [])), (23, (.newarray .int, 2, 0, 0, 0, [(1, 117)]))], [(25, (.putfield 18, 3, 6, 2, 3, [(1, 132)])), (28, (.aload_n 0, 1, 0, 0, 0, [])), (29, (.bipush 18, 2, 0, 0, 0, [])), (31, (.newarray .long, 2, 0, 0, 0, [(1, 116)]))], [(33, (.putfield 21, 3, 6, 3, 3, [(1, 133)])), (36, (.return_, 1, 0, 0, 0, []))]])
/-- X6 pave -/
def pd_53 : pm_D := ((yX6_pave, cX6_pave, 6, none, 4, 6), [(3, 135), (1, 5)], [[(0, (.aload 4, 2, 0, 0, 0, [])), (2, (.iconst 0, 1, 0, 0, 0, [])), (3, (.putfield 25, 3, 5, 1, 0, [(1, 174)])), (6, (.aload 4, 2, 0, 0, 0, []))], [(8, (.iconst 0, 1, 0, 0, 0, [])), (9, (.putfield 31, 3, 5, 0, 0, [(1, 171)])), (12, (.aload_n 3, 1, 0, 0, 0, [])), (13, (.aload_n 1, 1, 0, 0, 0, [])), (14, (.aload_n 1, 1, 0, 0, 0, [])), (15, (.getfield 34, 3, 8, 11, 3, [(2, 119)]))], [(18, (.iload_n 2, 1, 0, 0, 0, [])), (19, (.aaload, 1, 0, 0, 0, [])), (20, (.invokevirtual 40, 3, 86, 0, 0, [(3, 136), (3, 137), (3, 138)])), (23, (.ifCond .ne 4, 3, 27, 0, 0, []))], [(26, (.return_, 1, 0, 0, 0, [])), (27, (.aload_n 3, 1, 0, 0, 0, [])), (28, (.invokevirtual 46, 3, 93, 0, 0, [(3, 144), (3, 145), (3, 146)])), (31, (.aload_n 3, 1, 0, 0, 0, []))], [(32, (.invokevirtual 49, 3, 96, 0, 0, [(3, 180), (3, 181), (3, 182)])), (35, (.ifCond .ne 4, 3, 39, 0, 0, [])), (38, (.return_, 1, 0, 0, 0, [])), (39, (.aload_n 0, 1, 0, 0, 0, []))], [(40, (.iconst 3, 1, 0, 0, 0, [])), (41, (.aload_n 1, 1, 0, 0, 0, [])), (42, (.getfield 53, 3, 8, 0, 0, [(2, 83)])), (45, (.imul, 1, 0, 0, 0, [])), (46, (.putfield 56, 3, 6, 4, 0, [(1, 134)]))], [(49, (.aload_n 0, 1, 0, 0, 0, [])), (50, (.aload_n 1, 1, 0, 0, 0, [])), (51, (.getfield 59, 3, 8, 1, 0, [(2, 90)])), (54, (.putfield 62, 3, 6, 5, 0, [(1, 135)]))], [(57, (.iconst 0, 1, 0, 0, 0, [])), (58, (.istore 5, 2, 0, 0, 0, [])), (60, (.iload 5, 2, 0, 0, 0, [])), (62, (.aload_n 0, 1, 0, 0, 0, [])), (63, (.getfield 56, 3, 6, 4, 0, [(1, 134)]))], [(66, (.if_icmp .ge 23, 3, 89, 0, 0, [])), (69, (.aload_n 0, 1, 0, 0, 0, [])), (70, (.getfield 9, 3, 6, 0, 3, [(1, 130)]))], [(73, (.iload 5, 2, 0, 0, 0, [])), (75, (.aload_n 1, 1, 0, 0, 0, [])), (76, (.getfield 63, 3, 8, 5, 3, [(2, 105)])), (79, (.iload 5, 2, 0, 0, 0, []))], [(81, (.iaload, 1, 0, 0, 0, [])), (82, (.iastore, 1, 0, 0, 0, [])), (83, (.iinc 5 1, 3, 0, 0, 0, [])), (86, (.goto (-26), 3, 60, 0, 0, []))], [(89, (.aload_n 1, 1, 0, 0, 0, [])), (90, (.getfield 34, 3, 8, 11, 3, [(2, 119)])), (93, (.iload_n 2, 1, 0, 0, 0, [])), (94, (.aaload, 1, 0, 0, 0, [])), (95, (.aload_n 0, 1, 0, 0, 0, []))], [(96, (.getfield 21, 3, 6, 3, 3, [(1, 133)])), (99, (.invokestatic 64, 3, 140, 1, 0, [(3, 184), (3, 185)])), (102, (.aload_n 0, 1, 0, 0, 0, [])), (103, (.invokevirtual 68, 3, 55, 0, 0, [(3, 187), (3, 189), (0, 25)]))], [(106, (.aload_n 0, 1, 0, 0, 0, [])), (107, (.aload 4, 2, 0, 0, 0, [])), (109, (.invokevirtual 71, 3, 54, 0, 0, [(3, 191), (3, 193), (0, 26)]))], [(112, (.return_, 1, 0, 0, 0, []))]])
/-- X6 shorten -/
def pd_54 : pm_D := ((yX6_shorten, cX6_shorten, 4, none, 1, 6), [(3, 194), (1, 5)], [[(0, (.iconst 0, 1, 0, 0, 0, [])), (1, (.istore_n 2, 1, 0, 0, 0, [])), (2, (.iload_n 2, 1, 0, 0, 0, [])), (3, (.sipush 1782, 3, 0, 0, 0, [])), (6, (.if_icmp .ge 88, 3, 94, 0, 0, []))], [(9, (.aload_n 0, 1, 0, 0, 0, [])), (10, (.invokevirtual 75, 3, 56, 0, 0, [(3, 195), (3, 197), (0, 27)])), (13, (.ifCond .ne 81, 3, 94, 0, 0, []))], [(16, (.aload_n 0, 1, 0, 0, 0, [])), (17, (.invokevirtual 78, 3, 57, 0, 0, [(3, 199), (3, 201), (0, 28)])), (20, (.istore_n 3, 1, 0, 0, 0, [])), (21, (.iload_n 3, 1, 0, 0, 0, [])), (22, (.iconst (-1), 1, 0, 0, 0, [])), (23, (.if_icmp .ne 9, 3, 32, 0, 0, []))], [(26, (.aload_n 1, 1, 0, 0, 0, [])), (27, (.iconst 1, 1, 0, 0, 0, [])), (28, (.putfield 31, 3, 5, 0, 0, [(1, 171)])), (31, (.return_, 1, 0, 0, 0, []))], [(32, (.aload_n 1, 1, 0, 0, 0, [])), (33, (.getfield 82, 3, 5, 6, 3, [(1, 186)])), (36, (.aload_n 1, 1, 0, 0, 0, [])), (37, (.getfield 25, 3, 5, 1, 0, [(1, 174)]))], [(40, (.iload_n 3, 1, 0, 0, 0, [])), (41, (.aload_n 0, 1, 0, 0, 0, [])), (42, (.getfield 85, 3, 6, 6, 0, [(1, 136)])), (45, (.iconst 5, 1, 0, 0, 0, [])), (46, (.ishl, 1, 0, 0, 0, [])), (47, (.ior, 1, 0, 0, 0, []))], [(48, (.aload_n 0, 1, 0, 0, 0, [])), (49, (.getfield 88, 3, 6, 7, 0, [(1, 137)])), (52, (.bipush 10, 2, 0, 0, 0, [])), (54, (.ishl, 1, 0, 0, 0, [])), (55, (.ior, 1, 0, 0, 0, []))], [(56, (.aload_n 0, 1, 0, 0, 0, [])), (57, (.getfield 91, 3, 6, 8, 0, [(1, 138)])), (60, (.bipush 15, 2, 0, 0, 0, [])), (62, (.ishl, 1, 0, 0, 0, [])), (63, (.ior, 1, 0, 0, 0, []))], [(64, (.aload_n 0, 1, 0, 0, 0, [])), (65, (.getfield 94, 3, 6, 9, 0, [(1, 139)])), (68, (.bipush 20, 2, 0, 0, 0, [])), (70, (.ishl, 1, 0, 0, 0, [])), (71, (.ior, 1, 0, 0, 0, []))], [(72, (.iastore, 1, 0, 0, 0, [])), (73, (.aload_n 1, 1, 0, 0, 0, [])), (74, (.dup, 1, 0, 0, 0, [])), (75, (.getfield 25, 3, 5, 1, 0, [(1, 174)])), (78, (.iconst 1, 1, 0, 0, 0, [])), (79, (.iadd, 1, 0, 0, 0, []))], [(80, (.putfield 25, 3, 5, 1, 0, [(1, 174)])), (83, (.aload_n 0, 1, 0, 0, 0, [])), (84, (.iload_n 3, 1, 0, 0, 0, [])), (85, (.invokevirtual 97, 3, 59, 0, 0, [(3, 212), (3, 214), (0, 30)]))], [(88, (.iinc 2 1, 3, 0, 0, 0, [])), (91, (.goto (-89), 3, 2, 0, 0, [])), (94, (.aload_n 0, 1, 0, 0, 0, [])), (95, (.aload_n 1, 1, 0, 0, 0, []))], [(96, (.invokevirtual 101, 3, 60, 0, 0, [(3, 216), (3, 218), (0, 31)])), (99, (.aload_n 1, 1, 0, 0, 0, [])), (100, (.iconst 2, 1, 0, 0, 0, [])), (101, (.putfield 31, 3, 5, 0, 0, [(1, 171)]))], [(104, (.return_, 1, 0, 0, 0, []))]])
/-- X6 findSides -/
def pd_55 : pm_D := ((yX6_findSides, cX6_findSides, 3, none, 0, 6), [(3, 190), (1, 5)], [[(0, (.iconst 0, 1, 0, 0, 0, [])), (1, (.istore_n 1, 1, 0, 0, 0, [])), (2, (.iload_n 1, 1, 0, 0, 0, [])), (3, (.aload_n 0, 1, 0, 0, 0, [])), (4, (.getfield 62, 3, 6, 5, 0, [(1, 135)])), (7, (.if_icmp .ge 16, 3, 23, 0, 0, []))], [(10, (.aload_n 0, 1, 0, 0, 0, [])), (11, (.getfield 15, 3, 6, 1, 3, [(1, 131)])), (14, (.iload_n 1, 1, 0, 0, 0, [])), (15, (.iconst (-1), 1, 0, 0, 0, []))], [(16, (.iastore, 1, 0, 0, 0, [])), (17, (.iinc 1 1, 3, 0, 0, 0, [])), (20, (.goto (-18), 3, 2, 0, 0, [])), (23, (.iconst 0, 1, 0, 0, 0, []))], [(24, (.istore_n 1, 1, 0, 0, 0, [])), (25, (.iload_n 1, 1, 0, 0, 0, [])), (26, (.aload_n 0, 1, 0, 0, 0, [])), (27, (.getfield 56, 3, 6, 4, 0, [(1, 134)])), (30, (.if_icmp .ge 43, 3, 73, 0, 0, []))], [(33, (.aload_n 0, 1, 0, 0, 0, [])), (34, (.getfield 9, 3, 6, 0, 3, [(1, 130)])), (37, (.iload_n 1, 1, 0, 0, 0, [])), (38, (.iaload, 1, 0, 0, 0, [])), (39, (.istore_n 2, 1, 0, 0, 0, []))], [(40, (.aload_n 0, 1, 0, 0, 0, [])), (41, (.getfield 15, 3, 6, 1, 3, [(1, 131)])), (44, (.iload_n 2, 1, 0, 0, 0, [])), (45, (.iaload, 1, 0, 0, 0, [])), (46, (.iconst (-1), 1, 0, 0, 0, [])), (47, (.if_icmp .ne 13, 3, 60, 0, 0, []))], [(50, (.aload_n 0, 1, 0, 0, 0, [])), (51, (.getfield 15, 3, 6, 1, 3, [(1, 131)])), (54, (.iload_n 2, 1, 0, 0, 0, [])), (55, (.iload_n 1, 1, 0, 0, 0, []))], [(56, (.iastore, 1, 0, 0, 0, [])), (57, (.goto 10, 3, 67, 0, 0, [])), (60, (.aload_n 0, 1, 0, 0, 0, [])), (61, (.getfield 18, 3, 6, 2, 3, [(1, 132)]))], [(64, (.iload_n 2, 1, 0, 0, 0, [])), (65, (.iload_n 1, 1, 0, 0, 0, [])), (66, (.iastore, 1, 0, 0, 0, [])), (67, (.iinc 1 1, 3, 0, 0, 0, [])), (70, (.goto (-45), 3, 25, 0, 0, []))], [(73, (.return_, 1, 0, 0, 0, []))]])
/-- X6 isShort -/
def pd_56 : pm_D := ((yX6_isShort, cX6_isShort, 3, (some .boolean), 0, 6), [(3, 198), (1, 5)], [[(0, (.iconst 0, 1, 0, 0, 0, [])), (1, (.istore_n 1, 1, 0, 0, 0, [])), (2, (.iconst 0, 1, 0, 0, 0, [])), (3, (.istore_n 2, 1, 0, 0, 0, [])), (4, (.iload_n 2, 1, 0, 0, 0, [])), (5, (.aload_n 0, 1, 0, 0, 0, [])), (6, (.getfield 62, 3, 6, 5, 0, [(1, 135)]))], [(9, (.if_icmp .ge 32, 3, 41, 0, 0, [])), (12, (.aload_n 0, 1, 0, 0, 0, [])), (13, (.getfield 21, 3, 6, 3, 3, [(1, 133)]))], [(16, (.iload_n 2, 1, 0, 0, 0, [])), (17, (.laload, 1, 0, 0, 0, [])), (18, (.lconst 1, 1, 0, 0, 0, [])), (19, (.lcmp, 1, 0, 0, 0, [])), (20, (.ifCond .le 5, 3, 25, 0, 0, [])), (23, (.iconst 0, 1, 0, 0, 0, []))], [(24, (.ireturn, 1, 0, 0, 0, [])), (25, (.iload_n 1, 1, 0, 0, 0, [])), (26, (.aload_n 0, 1, 0, 0, 0, [])), (27, (.getfield 21, 3, 6, 3, 3, [(1, 133)])), (30, (.iload_n 2, 1, 0, 0, 0, [])), (31, (.laload, 1, 0, 0, 0, []))], [(32, (.l2i, 1, 0, 0, 0, [])), (33, (.iadd, 1, 0, 0, 0, [])), (34, (.istore_n 1, 1, 0, 0, 0, [])), (35, (.iinc 2 1, 3, 0, 0, 0, [])), (38, (.goto (-34), 3, 4, 0, 0, []))], [(41, (.iload_n 1, 1, 0, 0, 0, [])), (42, (.iconst 2, 1, 0, 0, 0, [])), (43, (.if_icmp .ne 7, 3, 50, 0, 0, [])), (46, (.iconst 1, 1, 0, 0, 0, [])), (47, (.goto 4, 3, 51, 0, 0, []))], [(50, (.iconst 0, 1, 0, 0, 0, [])), (51, (.ireturn, 1, 0, 0, 0, []))]])
/-- X6 firstToFlip -/
def pd_57 : pm_D := ((yX6_firstToFlip, cX6_firstToFlip, 2, (some .int), 0, 6), [(3, 202), (1, 5)], [[(0, (.iconst 0, 1, 0, 0, 0, [])), (1, (.istore_n 1, 1, 0, 0, 0, [])), (2, (.iload_n 1, 1, 0, 0, 0, [])), (3, (.aload_n 0, 1, 0, 0, 0, [])), (4, (.getfield 62, 3, 6, 5, 0, [(1, 135)])), (7, (.if_icmp .ge 49, 3, 56, 0, 0, []))], [(10, (.aload_n 0, 1, 0, 0, 0, [])), (11, (.getfield 15, 3, 6, 1, 3, [(1, 131)])), (14, (.iload_n 1, 1, 0, 0, 0, [])), (15, (.iaload, 1, 0, 0, 0, []))], [(16, (.iconst 3, 1, 0, 0, 0, [])), (17, (.idiv, 1, 0, 0, 0, [])), (18, (.aload_n 0, 1, 0, 0, 0, [])), (19, (.getfield 18, 3, 6, 2, 3, [(1, 132)])), (22, (.iload_n 1, 1, 0, 0, 0, [])), (23, (.iaload, 1, 0, 0, 0, []))], [(24, (.iconst 3, 1, 0, 0, 0, [])), (25, (.idiv, 1, 0, 0, 0, [])), (26, (.if_icmp .eq 24, 3, 50, 0, 0, [])), (29, (.aload_n 0, 1, 0, 0, 0, [])), (30, (.iload_n 1, 1, 0, 0, 0, [])), (31, (.invokevirtual 104, 3, 58, 0, 0, [(3, 203), (3, 205), (0, 29)]))], [(34, (.aload_n 0, 1, 0, 0, 0, [])), (35, (.getfield 107, 3, 6, 10, 1, [(1, 140)])), (38, (.aload_n 0, 1, 0, 0, 0, [])), (39, (.getfield 21, 3, 6, 3, 3, [(1, 133)]))], [(42, (.iload_n 1, 1, 0, 0, 0, [])), (43, (.laload, 1, 0, 0, 0, [])), (44, (.lcmp, 1, 0, 0, 0, [])), (45, (.ifCond .ge 5, 3, 50, 0, 0, []))], [(48, (.iload_n 1, 1, 0, 0, 0, [])), (49, (.ireturn, 1, 0, 0, 0, [])), (50, (.iinc 1 1, 3, 0, 0, 0, [])), (53, (.goto (-51), 3, 2, 0, 0, []))], [(56, (.iconst (-1), 1, 0, 0, 0, [])), (57, (.ireturn, 1, 0, 0, 0, []))]])
/-- X6 lookRound -/
def pd_58 : pm_D := ((yX6_lookRound, cX6_lookRound, 2, none, 1, 6), [(3, 206), (1, 5)], [[(0, (.aload_n 0, 1, 0, 0, 0, [])), (1, (.aload_n 0, 1, 0, 0, 0, [])), (2, (.getfield 9, 3, 6, 0, 3, [(1, 130)])), (5, (.aload_n 0, 1, 0, 0, 0, [])), (6, (.getfield 15, 3, 6, 1, 3, [(1, 131)]))], [(9, (.iload_n 1, 1, 0, 0, 0, [])), (10, (.iaload, 1, 0, 0, 0, [])), (11, (.invokestatic 111, 3, 143, 1, 0, [(3, 207), (3, 90)])), (14, (.iaload, 1, 0, 0, 0, [])), (15, (.putfield 85, 3, 6, 6, 0, [(1, 136)]))], [(18, (.aload_n 0, 1, 0, 0, 0, [])), (19, (.aload_n 0, 1, 0, 0, 0, [])), (20, (.getfield 9, 3, 6, 0, 3, [(1, 130)])), (23, (.aload_n 0, 1, 0, 0, 0, []))], [(24, (.getfield 15, 3, 6, 1, 3, [(1, 131)])), (27, (.iload_n 1, 1, 0, 0, 0, [])), (28, (.iaload, 1, 0, 0, 0, [])), (29, (.invokestatic 115, 3, 144, 1, 0, [(3, 208), (3, 173)]))], [(32, (.iaload, 1, 0, 0, 0, [])), (33, (.putfield 88, 3, 6, 7, 0, [(1, 137)])), (36, (.aload_n 0, 1, 0, 0, 0, [])), (37, (.aload_n 0, 1, 0, 0, 0, [])), (38, (.getfield 9, 3, 6, 0, 3, [(1, 130)]))], [(41, (.aload_n 0, 1, 0, 0, 0, [])), (42, (.getfield 18, 3, 6, 2, 3, [(1, 132)])), (45, (.iload_n 1, 1, 0, 0, 0, [])), (46, (.iaload, 1, 0, 0, 0, [])), (47, (.invokestatic 111, 3, 143, 1, 0, [(3, 207), (3, 90)]))], [(50, (.iaload, 1, 0, 0, 0, [])), (51, (.putfield 91, 3, 6, 8, 0, [(1, 138)])), (54, (.aload_n 0, 1, 0, 0, 0, [])), (55, (.aload_n 0, 1, 0, 0, 0, []))], [(56, (.getfield 9, 3, 6, 0, 3, [(1, 130)])), (59, (.aload_n 0, 1, 0, 0, 0, [])), (60, (.getfield 18, 3, 6, 2, 3, [(1, 132)])), (63, (.iload_n 1, 1, 0, 0, 0, []))], [(64, (.iaload, 1, 0, 0, 0, [])), (65, (.invokestatic 115, 3, 144, 1, 0, [(3, 208), (3, 173)])), (68, (.iaload, 1, 0, 0, 0, [])), (69, (.putfield 94, 3, 6, 9, 0, [(1, 139)]))], [(72, (.aload_n 0, 1, 0, 0, 0, [])), (73, (.aload_n 0, 1, 0, 0, 0, [])), (74, (.getfield 21, 3, 6, 3, 3, [(1, 133)])), (77, (.aload_n 0, 1, 0, 0, 0, [])), (78, (.getfield 85, 3, 6, 6, 0, [(1, 136)]))], [(81, (.laload, 1, 0, 0, 0, [])), (82, (.aload_n 0, 1, 0, 0, 0, [])), (83, (.getfield 21, 3, 6, 3, 3, [(1, 133)])), (86, (.aload_n 0, 1, 0, 0, 0, [])), (87, (.getfield 91, 3, 6, 8, 0, [(1, 138)]))], [(90, (.laload, 1, 0, 0, 0, [])), (91, (.ladd, 1, 0, 0, 0, [])), (92, (.aload_n 0, 1, 0, 0, 0, [])), (93, (.getfield 21, 3, 6, 3, 3, [(1, 133)]))], [(96, (.aload_n 0, 1, 0, 0, 0, [])), (97, (.getfield 88, 3, 6, 7, 0, [(1, 137)])), (100, (.laload, 1, 0, 0, 0, [])), (101, (.aload_n 0, 1, 0, 0, 0, [])), (102, (.getfield 21, 3, 6, 3, 3, [(1, 133)]))], [(105, (.aload_n 0, 1, 0, 0, 0, [])), (106, (.getfield 94, 3, 6, 9, 0, [(1, 139)])), (109, (.laload, 1, 0, 0, 0, [])), (110, (.ladd, 1, 0, 0, 0, [])), (111, (.invokestatic 118, 3, 262, 0, 0, [(3, 209), (3, 210)]))], [(114, (.aload_n 0, 1, 0, 0, 0, [])), (115, (.getfield 21, 3, 6, 3, 3, [(1, 133)])), (118, (.iload_n 1, 1, 0, 0, 0, [])), (119, (.laload, 1, 0, 0, 0, []))], [(120, (.lsub, 1, 0, 0, 0, [])), (121, (.putfield 107, 3, 6, 10, 1, [(1, 140)])), (124, (.return_, 1, 0, 0, 0, []))]])
/-- X6 turnEdge -/
def pd_59 : pm_D := ((yX6_turnEdge, cX6_turnEdge, 2, none, 1, 6), [(3, 215), (1, 5)], [[(0, (.aload_n 0, 1, 0, 0, 0, [])), (1, (.getfield 21, 3, 6, 3, 3, [(1, 133)])), (4, (.iload_n 1, 1, 0, 0, 0, [])), (5, (.aload_n 0, 1, 0, 0, 0, [])), (6, (.getfield 107, 3, 6, 10, 1, [(1, 140)]))], [(9, (.lastore, 1, 0, 0, 0, [])), (10, (.aload_n 0, 1, 0, 0, 0, [])), (11, (.getfield 9, 3, 6, 0, 3, [(1, 130)])), (14, (.aload_n 0, 1, 0, 0, 0, [])), (15, (.getfield 15, 3, 6, 1, 3, [(1, 131)]))], [(18, (.iload_n 1, 1, 0, 0, 0, [])), (19, (.iaload, 1, 0, 0, 0, [])), (20, (.invokestatic 111, 3, 143, 1, 0, [(3, 207), (3, 90)])), (23, (.aload_n 0, 1, 0, 0, 0, []))], [(24, (.getfield 88, 3, 6, 7, 0, [(1, 137)])), (27, (.iastore, 1, 0, 0, 0, [])), (28, (.aload_n 0, 1, 0, 0, 0, [])), (29, (.getfield 9, 3, 6, 0, 3, [(1, 130)]))], [(32, (.aload_n 0, 1, 0, 0, 0, [])), (33, (.getfield 15, 3, 6, 1, 3, [(1, 131)])), (36, (.iload_n 1, 1, 0, 0, 0, [])), (37, (.iaload, 1, 0, 0, 0, [])), (38, (.invokestatic 115, 3, 144, 1, 0, [(3, 208), (3, 173)]))], [(41, (.aload_n 0, 1, 0, 0, 0, [])), (42, (.getfield 91, 3, 6, 8, 0, [(1, 138)])), (45, (.iastore, 1, 0, 0, 0, [])), (46, (.aload_n 0, 1, 0, 0, 0, [])), (47, (.getfield 9, 3, 6, 0, 3, [(1, 130)]))], [(50, (.aload_n 0, 1, 0, 0, 0, [])), (51, (.getfield 18, 3, 6, 2, 3, [(1, 132)])), (54, (.iload_n 1, 1, 0, 0, 0, [])), (55, (.iaload, 1, 0, 0, 0, []))], [(56, (.invokestatic 111, 3, 143, 1, 0, [(3, 207), (3, 90)])), (59, (.aload_n 0, 1, 0, 0, 0, [])), (60, (.getfield 94, 3, 6, 9, 0, [(1, 139)])), (63, (.iastore, 1, 0, 0, 0, []))], [(64, (.aload_n 0, 1, 0, 0, 0, [])), (65, (.getfield 9, 3, 6, 0, 3, [(1, 130)])), (68, (.aload_n 0, 1, 0, 0, 0, [])), (69, (.getfield 18, 3, 6, 2, 3, [(1, 132)]))], [(72, (.iload_n 1, 1, 0, 0, 0, [])), (73, (.iaload, 1, 0, 0, 0, [])), (74, (.invokestatic 115, 3, 144, 1, 0, [(3, 208), (3, 173)])), (77, (.aload_n 0, 1, 0, 0, 0, [])), (78, (.getfield 85, 3, 6, 6, 0, [(1, 136)]))], [(81, (.iastore, 1, 0, 0, 0, [])), (82, (.aload_n 0, 1, 0, 0, 0, [])), (83, (.invokevirtual 68, 3, 55, 0, 0, [(3, 187), (3, 189), (0, 25)])), (86, (.return_, 1, 0, 0, 0, []))]])
/-- X6 findNeighbours -/
def pd_60 : pm_D := ((yX6_findNeighbours, cX6_findNeighbours, 6, none, 1, 6), [(3, 219), (1, 5)], [[(0, (.iconst 0, 1, 0, 0, 0, [])), (1, (.istore_n 2, 1, 0, 0, 0, [])), (2, (.iconst 0, 1, 0, 0, 0, [])), (3, (.istore_n 3, 1, 0, 0, 0, [])), (4, (.iload_n 3, 1, 0, 0, 0, [])), (5, (.aload_n 0, 1, 0, 0, 0, [])), (6, (.getfield 56, 3, 6, 4, 0, [(1, 134)]))], [(9, (.if_icmp .ge 112, 3, 121, 0, 0, [])), (12, (.aload_n 0, 1, 0, 0, 0, [])), (13, (.getfield 9, 3, 6, 0, 3, [(1, 130)]))], [(16, (.iload_n 3, 1, 0, 0, 0, [])), (17, (.invokestatic 111, 3, 143, 1, 0, [(3, 207), (3, 90)])), (20, (.iaload, 1, 0, 0, 0, [])), (21, (.istore 4, 2, 0, 0, 0, [])), (23, (.aload_n 0, 1, 0, 0, 0, []))], [(24, (.getfield 9, 3, 6, 0, 3, [(1, 130)])), (27, (.iload_n 3, 1, 0, 0, 0, [])), (28, (.invokestatic 115, 3, 144, 1, 0, [(3, 208), (3, 173)])), (31, (.iaload, 1, 0, 0, 0, []))], [(32, (.istore 5, 2, 0, 0, 0, [])), (34, (.aload_n 0, 1, 0, 0, 0, [])), (35, (.getfield 21, 3, 6, 3, 3, [(1, 133)])), (38, (.aload_n 0, 1, 0, 0, 0, [])), (39, (.getfield 9, 3, 6, 0, 3, [(1, 130)]))], [(42, (.iload_n 3, 1, 0, 0, 0, [])), (43, (.iaload, 1, 0, 0, 0, [])), (44, (.laload, 1, 0, 0, 0, [])), (45, (.lconst 0, 1, 0, 0, 0, [])), (46, (.lcmp, 1, 0, 0, 0, [])), (47, (.ifCond .ne 68, 3, 115, 0, 0, []))], [(50, (.aload_n 0, 1, 0, 0, 0, [])), (51, (.getfield 21, 3, 6, 3, 3, [(1, 133)])), (54, (.iload 4, 2, 0, 0, 0, []))], [(56, (.laload, 1, 0, 0, 0, [])), (57, (.lconst 1, 1, 0, 0, 0, [])), (58, (.lcmp, 1, 0, 0, 0, [])), (59, (.ifCond .ne 56, 3, 115, 0, 0, [])), (62, (.aload_n 0, 1, 0, 0, 0, [])), (63, (.getfield 21, 3, 6, 3, 3, [(1, 133)]))], [(66, (.iload 5, 2, 0, 0, 0, [])), (68, (.laload, 1, 0, 0, 0, [])), (69, (.lconst 1, 1, 0, 0, 0, [])), (70, (.lcmp, 1, 0, 0, 0, [])), (71, (.ifCond .ne 44, 3, 115, 0, 0, []))], [(74, (.iload_n 2, 1, 0, 0, 0, [])), (75, (.ifCond .eq 16, 3, 91, 0, 0, [])), (78, (.aload_n 1, 1, 0, 0, 0, [])), (79, (.aload_n 0, 1, 0, 0, 0, []))], [(80, (.getfield 9, 3, 6, 0, 3, [(1, 130)])), (83, (.iload_n 3, 1, 0, 0, 0, [])), (84, (.iaload, 1, 0, 0, 0, [])), (85, (.putfield 124, 3, 5, 3, 0, [(1, 180)]))], [(88, (.goto 27, 3, 115, 0, 0, [])), (91, (.aload_n 1, 1, 0, 0, 0, [])), (92, (.aload_n 0, 1, 0, 0, 0, [])), (93, (.getfield 9, 3, 6, 0, 3, [(1, 130)]))], [(96, (.iload_n 3, 1, 0, 0, 0, [])), (97, (.iaload, 1, 0, 0, 0, [])), (98, (.putfield 127, 3, 5, 2, 0, [(1, 178)])), (101, (.aload_n 1, 1, 0, 0, 0, [])), (102, (.iload 4, 2, 0, 0, 0, []))], [(104, (.putfield 130, 3, 5, 5, 0, [(1, 184)])), (107, (.aload_n 1, 1, 0, 0, 0, [])), (108, (.iload 5, 2, 0, 0, 0, [])), (110, (.putfield 133, 3, 5, 4, 0, [(1, 182)]))], [(113, (.iconst 1, 1, 0, 0, 0, [])), (114, (.istore_n 2, 1, 0, 0, 0, [])), (115, (.iinc 3 1, 3, 0, 0, 0, [])), (118, (.goto (-114), 3, 4, 0, 0, []))], [(121, (.return_, 1, 0, 0, 0, []))]])
/-- X7 init -/
def pd_61 : pm_D := ((yX7_init, cX7_init, 1, none, 0, 7), [(2, 40), (1, 10)], [[(0, (.aload_n 0, 1, 0, 0, 0, [])), (1, (.invokespecial 3, 3, 0, 0, 0, [(2, 41), (1, 20), (1, 21)])), (4, (.aload_n 0, 1, 0, 0, 0, [])), (5, (.iconst (-1), 1, 0, 0, 0, [])), (6, (.putfield 9, 3, 7, 2, 0, [(2, 45)]))], [(9, (.aload_n 0, 1, 0, 0, 0, [])), (10, (.iconst (-1), 1, 0, 0, 0, [])), (11, (.putfield 15, 3, 7, 3, 0, [(2, 46)])), (14, (.aload_n 0, 1, 0, 0, 0, [])), (15, (.bipush 18, 2, 0, 0, 0, []))], [(17, (.bipush 18, 2, 0, 0, 0, [])), (19, (.multianewarray 18 2, 4, 4, 1, 0, [(2, 42), (2, 20), (1, 116)])), (23, (.putfield 20, 3, 7, 5, 3, [(2, 48)]))], [(26, (.aload_n 0, 1, 0, 0, 0, [])), (27, (.bipush 18, 2, 0, 0, 0, [])), (29, (.bipush 18, 2, 0, 0, 0, [])), (31, (.multianewarray 18 2, 4, 4, 1, 0, [(2, 42), (2, 20), (1, 116)]))], [(35, (.putfield 23, 3, 7, 6, 3, [(2, 49)])), (38, (.aload_n 0, 1, 0, 0, 0, [])), (39, (.bipush 18, 2, 0, 0, 0, []))], [(41, (.newarray .long, 2, 0, 0, 0, [(1, 116)])), (43, (.putfield 26, 3, 7, 7, 3, [(2, 50)])), (46, (.aload_n 0, 1, 0, 0, 0, [])), (47, (.bipush 19, 2, 0, 0, 0, []))], [(49, (.newarray .long, 2, 0, 0, 0, [(1, 116)])), (51, (.putfield 30, 3, 7, 8, 3, [(2, 51)])), (54, (.return_, 1, 0, 0, 0, []))]])
/-- X7 forget -/
def pd_62 : pm_D := ((yX7_forget, cX7_forget, 1, none, 0, 7), [(3, 231), (1, 10)], [[(0, (.aload_n 0, 1, 0, 0, 0, [])), (1, (.iconst (-1), 1, 0, 0, 0, [])), (2, (.putfield 9, 3, 7, 2, 0, [(2, 45)])), (5, (.aload_n 0, 1, 0, 0, 0, [])), (6, (.iconst (-1), 1, 0, 0, 0, [])), (7, (.putfield 15, 3, 7, 3, 0, [(2, 46)]))], [(10, (.return_, 1, 0, 0, 0, []))]])
/-- X7 isOf -/
def pd_63 : pm_D := ((yX7_isOf, cX7_isOf, 3, (some .boolean), 2, 7), [(4, 166), (1, 10)], [[(0, (.aload_n 0, 1, 0, 0, 0, [])), (1, (.getfield 9, 3, 7, 2, 0, [(2, 45)])), (4, (.iload_n 1, 1, 0, 0, 0, [])), (5, (.if_icmp .ne 15, 3, 20, 0, 0, []))], [(8, (.aload_n 0, 1, 0, 0, 0, [])), (9, (.getfield 15, 3, 7, 3, 0, [(2, 46)])), (12, (.iload_n 2, 1, 0, 0, 0, [])), (13, (.if_icmp .ne 7, 3, 20, 0, 0, []))], [(16, (.iconst 1, 1, 0, 0, 0, [])), (17, (.goto 4, 3, 21, 0, 0, [])), (20, (.iconst 0, 1, 0, 0, 0, [])), (21, (.ireturn, 1, 0, 0, 0, []))]])
/-- X7 begin -/
def pd_64 : pm_D := ((yX7_begin, cX7_begin, 4, none, 3, 7), [(4, 170), (1, 10)], [[(0, (.aload_n 0, 1, 0, 0, 0, [])), (1, (.iload_n 1, 1, 0, 0, 0, [])), (2, (.putfield 33, 3, 7, 1, 0, [(2, 44)])), (5, (.aload_n 0, 1, 0, 0, 0, [])), (6, (.iload_n 2, 1, 0, 0, 0, [])), (7, (.putfield 9, 3, 7, 2, 0, [(2, 45)]))], [(10, (.aload_n 0, 1, 0, 0, 0, [])), (11, (.iload_n 3, 1, 0, 0, 0, [])), (12, (.putfield 15, 3, 7, 3, 0, [(2, 46)])), (15, (.aload_n 0, 1, 0, 0, 0, []))], [(16, (.iconst 0, 1, 0, 0, 0, [])), (17, (.putfield 36, 3, 7, 4, 2, [(2, 47)])), (20, (.aload_n 0, 1, 0, 0, 0, [])), (21, (.aload_n 0, 1, 0, 0, 0, [])), (22, (.getfield 20, 3, 7, 5, 3, [(2, 48)]))], [(25, (.invokevirtual 40, 3, 65, 0, 0, [(4, 171), (4, 173), (0, 43)])), (28, (.return_, 1, 0, 0, 0, []))]])
/-- X7 setOne -/
def pd_65 : pm_D := ((yX7_setOne, cX7_setOne, 4, none, 1, 7), [(4, 174), (1, 10)], [[(0, (.iconst 0, 1, 0, 0, 0, [])), (1, (.istore_n 2, 1, 0, 0, 0, [])), (2, (.iload_n 2, 1, 0, 0, 0, [])), (3, (.aload_n 0, 1, 0, 0, 0, [])), (4, (.getfield 33, 3, 7, 1, 0, [(2, 44)])), (7, (.if_icmp .ge 40, 3, 47, 0, 0, []))], [(10, (.iconst 0, 1, 0, 0, 0, [])), (11, (.istore_n 3, 1, 0, 0, 0, [])), (12, (.iload_n 3, 1, 0, 0, 0, [])), (13, (.aload_n 0, 1, 0, 0, 0, [])), (14, (.getfield 33, 3, 7, 1, 0, [(2, 44)]))], [(17, (.if_icmp .ge 24, 3, 41, 0, 0, [])), (20, (.aload_n 1, 1, 0, 0, 0, [])), (21, (.iload_n 2, 1, 0, 0, 0, [])), (22, (.aaload, 1, 0, 0, 0, [])), (23, (.iload_n 3, 1, 0, 0, 0, []))], [(24, (.iload_n 2, 1, 0, 0, 0, [])), (25, (.iload_n 3, 1, 0, 0, 0, [])), (26, (.if_icmp .ne 7, 3, 33, 0, 0, [])), (29, (.lconst 1, 1, 0, 0, 0, [])), (30, (.goto 4, 3, 34, 0, 0, []))], [(33, (.lconst 0, 1, 0, 0, 0, [])), (34, (.lastore, 1, 0, 0, 0, [])), (35, (.iinc 3 1, 3, 0, 0, 0, [])), (38, (.goto (-26), 3, 12, 0, 0, []))], [(41, (.iinc 2 1, 3, 0, 0, 0, [])), (44, (.goto (-42), 3, 2, 0, 0, [])), (47, (.return_, 1, 0, 0, 0, []))]])
/-- X7 changeRow -/
def pd_66 : pm_D := ((yX7_changeRow, cX7_changeRow, 5, none, 3, 7), [(4, 80), (1, 10)], [[(0, (.iconst 0, 1, 0, 0, 0, [])), (1, (.istore 4, 2, 0, 0, 0, [])), (3, (.iload 4, 2, 0, 0, 0, [])), (5, (.aload_n 0, 1, 0, 0, 0, [])), (6, (.getfield 33, 3, 7, 1, 0, [(2, 44)]))], [(9, (.if_icmp .ge 55, 3, 64, 0, 0, [])), (12, (.aload_n 0, 1, 0, 0, 0, [])), (13, (.getfield 20, 3, 7, 5, 3, [(2, 48)]))], [(16, (.iload_n 1, 1, 0, 0, 0, [])), (17, (.aaload, 1, 0, 0, 0, [])), (18, (.iload 4, 2, 0, 0, 0, [])), (20, (.aload_n 0, 1, 0, 0, 0, [])), (21, (.getfield 20, 3, 7, 5, 3, [(2, 48)]))], [(24, (.iload_n 2, 1, 0, 0, 0, [])), (25, (.aaload, 1, 0, 0, 0, [])), (26, (.iload 4, 2, 0, 0, 0, [])), (28, (.laload, 1, 0, 0, 0, [])), (29, (.aload_n 0, 1, 0, 0, 0, [])), (30, (.getfield 20, 3, 7, 5, 3, [(2, 48)]))], [(33, (.iload_n 3, 1, 0, 0, 0, [])), (34, (.aaload, 1, 0, 0, 0, [])), (35, (.iload 4, 2, 0, 0, 0, [])), (37, (.laload, 1, 0, 0, 0, [])), (38, (.ladd, 1, 0, 0, 0, [])), (39, (.aload_n 0, 1, 0, 0, 0, []))], [(40, (.getfield 20, 3, 7, 5, 3, [(2, 48)])), (43, (.iload_n 1, 1, 0, 0, 0, [])), (44, (.aaload, 1, 0, 0, 0, [])), (45, (.iload 4, 2, 0, 0, 0, [])), (47, (.laload, 1, 0, 0, 0, []))], [(48, (.lsub, 1, 0, 0, 0, [])), (49, (.ldc2_w 44, 3, 0, 0, 1000003, [(4, 81)])), (52, (.ladd, 1, 0, 0, 0, [])), (53, (.ldc2_w 44, 3, 0, 0, 1000003, [(4, 81)]))], [(56, (.lrem, 1, 0, 0, 0, [])), (57, (.lastore, 1, 0, 0, 0, [])), (58, (.iinc 4 1, 3, 0, 0, 0, [])), (61, (.goto (-58), 3, 3, 0, 0, []))], [(64, (.return_, 1, 0, 0, 0, []))]])
/-- X7 exchangeRows -/
def pd_67 : pm_D := ((yX7_exchangeRows, cX7_exchangeRows, 6, none, 2, 7), [(4, 133), (1, 10)], [[(0, (.iconst 0, 1, 0, 0, 0, [])), (1, (.istore_n 3, 1, 0, 0, 0, [])), (2, (.iload_n 3, 1, 0, 0, 0, [])), (3, (.aload_n 0, 1, 0, 0, 0, [])), (4, (.getfield 33, 3, 7, 1, 0, [(2, 44)])), (7, (.if_icmp .ge 45, 3, 52, 0, 0, []))], [(10, (.aload_n 0, 1, 0, 0, 0, [])), (11, (.getfield 20, 3, 7, 5, 3, [(2, 48)])), (14, (.iload_n 1, 1, 0, 0, 0, [])), (15, (.aaload, 1, 0, 0, 0, []))], [(16, (.iload_n 3, 1, 0, 0, 0, [])), (17, (.laload, 1, 0, 0, 0, [])), (18, (.lstore 4, 2, 0, 0, 0, [])), (20, (.aload_n 0, 1, 0, 0, 0, [])), (21, (.getfield 20, 3, 7, 5, 3, [(2, 48)]))], [(24, (.iload_n 1, 1, 0, 0, 0, [])), (25, (.aaload, 1, 0, 0, 0, [])), (26, (.iload_n 3, 1, 0, 0, 0, [])), (27, (.aload_n 0, 1, 0, 0, 0, [])), (28, (.getfield 20, 3, 7, 5, 3, [(2, 48)])), (31, (.iload_n 2, 1, 0, 0, 0, []))], [(32, (.aaload, 1, 0, 0, 0, [])), (33, (.iload_n 3, 1, 0, 0, 0, [])), (34, (.laload, 1, 0, 0, 0, [])), (35, (.lastore, 1, 0, 0, 0, [])), (36, (.aload_n 0, 1, 0, 0, 0, [])), (37, (.getfield 20, 3, 7, 5, 3, [(2, 48)]))], [(40, (.iload_n 2, 1, 0, 0, 0, [])), (41, (.aaload, 1, 0, 0, 0, [])), (42, (.iload_n 3, 1, 0, 0, 0, [])), (43, (.lload 4, 2, 0, 0, 0, [])), (45, (.lastore, 1, 0, 0, 0, [])), (46, (.iinc 3 1, 3, 0, 0, 0, []))], [(49, (.goto (-47), 3, 2, 0, 0, [])), (52, (.return_, 1, 0, 0, 0, []))]])
/-- X7 at -/
def pd_68 : pm_D := ((yX7_at, cX7_at, 3, (some .int), 2, 7), [(4, 178), (1, 10)], [[(0, (.aload_n 0, 1, 0, 0, 0, [])), (1, (.getfield 20, 3, 7, 5, 3, [(2, 48)])), (4, (.iload_n 1, 1, 0, 0, 0, [])), (5, (.aaload, 1, 0, 0, 0, [])), (6, (.iload_n 2, 1, 0, 0, 0, [])), (7, (.laload, 1, 0, 0, 0, []))], [(8, (.l2i, 1, 0, 0, 0, [])), (9, (.ireturn, 1, 0, 0, 0, []))]])
/-- X7 coefficient -/
def pd_69 : pm_D := ((yX7_coefficient, cX7_coefficient, 2, (some .int), 1, 7), [(4, 186), (1, 10)], [[(0, (.aload_n 0, 1, 0, 0, 0, [])), (1, (.getfield 36, 3, 7, 4, 2, [(2, 47)])), (4, (.ifCond .ne 12, 3, 16, 0, 0, [])), (7, (.aload_n 0, 1, 0, 0, 0, []))], [(8, (.invokevirtual 46, 3, 70, 0, 0, [(4, 187), (4, 189), (0, 44)])), (11, (.aload_n 0, 1, 0, 0, 0, [])), (12, (.iconst 1, 1, 0, 0, 0, [])), (13, (.putfield 36, 3, 7, 4, 2, [(2, 47)]))], [(16, (.aload_n 0, 1, 0, 0, 0, [])), (17, (.getfield 30, 3, 7, 8, 3, [(2, 51)])), (20, (.iload_n 1, 1, 0, 0, 0, [])), (21, (.laload, 1, 0, 0, 0, [])), (22, (.l2i, 1, 0, 0, 0, [])), (23, (.ireturn, 1, 0, 0, 0, []))]])
/-- X7 expand -/
def pd_70 : pm_D := ((yX7_expand, cX7_expand, 7, none, 0, 7), [(4, 190), (1, 10)], [[(0, (.aload_n 0, 1, 0, 0, 0, [])), (1, (.aload_n 0, 1, 0, 0, 0, [])), (2, (.getfield 23, 3, 7, 6, 3, [(2, 49)])), (5, (.invokevirtual 40, 3, 65, 0, 0, [(4, 171), (4, 173), (0, 43)]))], [(8, (.aload_n 0, 1, 0, 0, 0, [])), (9, (.getfield 30, 3, 7, 8, 3, [(2, 51)])), (12, (.aload_n 0, 1, 0, 0, 0, [])), (13, (.getfield 33, 3, 7, 1, 0, [(2, 44)]))], [(16, (.lconst 1, 1, 0, 0, 0, [])), (17, (.lastore, 1, 0, 0, 0, [])), (18, (.iconst 1, 1, 0, 0, 0, [])), (19, (.istore_n 1, 1, 0, 0, 0, [])), (20, (.iload_n 1, 1, 0, 0, 0, [])), (21, (.aload_n 0, 1, 0, 0, 0, [])), (22, (.getfield 33, 3, 7, 1, 0, [(2, 44)]))], [(25, (.if_icmp .gt 123, 3, 148, 0, 0, [])), (28, (.aload_n 0, 1, 0, 0, 0, [])), (29, (.invokevirtual 49, 3, 71, 0, 0, [(4, 191), (4, 193), (0, 45)]))], [(32, (.lconst 0, 1, 0, 0, 0, [])), (33, (.lstore_n 2, 1, 0, 0, 0, [])), (34, (.iconst 0, 1, 0, 0, 0, [])), (35, (.istore 4, 2, 0, 0, 0, [])), (37, (.iload 4, 2, 0, 0, 0, [])), (39, (.aload_n 0, 1, 0, 0, 0, []))], [(40, (.getfield 33, 3, 7, 1, 0, [(2, 44)])), (43, (.if_icmp .ge 22, 3, 65, 0, 0, [])), (46, (.lload_n 2, 1, 0, 0, 0, [])), (47, (.aload_n 0, 1, 0, 0, 0, []))], [(48, (.getfield 23, 3, 7, 6, 3, [(2, 49)])), (51, (.iload 4, 2, 0, 0, 0, [])), (53, (.aaload, 1, 0, 0, 0, [])), (54, (.iload 4, 2, 0, 0, 0, []))], [(56, (.laload, 1, 0, 0, 0, [])), (57, (.ladd, 1, 0, 0, 0, [])), (58, (.lstore_n 2, 1, 0, 0, 0, [])), (59, (.iinc 4 1, 3, 0, 0, 0, [])), (62, (.goto (-25), 3, 37, 0, 0, []))], [(65, (.lload_n 2, 1, 0, 0, 0, [])), (66, (.ldc2_w 44, 3, 0, 0, 1000003, [(4, 81)])), (69, (.lrem, 1, 0, 0, 0, [])), (70, (.lneg, 1, 0, 0, 0, [])), (71, (.iload_n 1, 1, 0, 0, 0, []))], [(72, (.invokestatic 52, 3, 72, 0, 0, [(4, 195), (4, 196)])), (75, (.lmul, 1, 0, 0, 0, [])), (76, (.ldc2_w 44, 3, 0, 0, 1000003, [(4, 81)])), (79, (.invokestatic 56, 3, 258, 0, 0, [(4, 199), (4, 200)]))], [(82, (.lstore 4, 2, 0, 0, 0, [])), (84, (.aload_n 0, 1, 0, 0, 0, [])), (85, (.getfield 30, 3, 7, 8, 3, [(2, 51)]))], [(88, (.aload_n 0, 1, 0, 0, 0, [])), (89, (.getfield 33, 3, 7, 1, 0, [(2, 44)])), (92, (.iload_n 1, 1, 0, 0, 0, [])), (93, (.isub, 1, 0, 0, 0, [])), (94, (.lload 4, 2, 0, 0, 0, []))], [(96, (.lastore, 1, 0, 0, 0, [])), (97, (.iconst 0, 1, 0, 0, 0, [])), (98, (.istore 6, 2, 0, 0, 0, [])), (100, (.iload 6, 2, 0, 0, 0, [])), (102, (.aload_n 0, 1, 0, 0, 0, [])), (103, (.getfield 33, 3, 7, 1, 0, [(2, 44)]))], [(106, (.if_icmp .ge 36, 3, 142, 0, 0, [])), (109, (.aload_n 0, 1, 0, 0, 0, [])), (110, (.getfield 23, 3, 7, 6, 3, [(2, 49)]))], [(113, (.iload 6, 2, 0, 0, 0, [])), (115, (.aaload, 1, 0, 0, 0, [])), (116, (.iload 6, 2, 0, 0, 0, [])), (118, (.aload_n 0, 1, 0, 0, 0, [])), (119, (.getfield 23, 3, 7, 6, 3, [(2, 49)]))], [(122, (.iload 6, 2, 0, 0, 0, [])), (124, (.aaload, 1, 0, 0, 0, [])), (125, (.iload 6, 2, 0, 0, 0, [])), (127, (.laload, 1, 0, 0, 0, []))], [(128, (.lload 4, 2, 0, 0, 0, [])), (130, (.ladd, 1, 0, 0, 0, [])), (131, (.ldc2_w 44, 3, 0, 0, 1000003, [(4, 81)])), (134, (.lrem, 1, 0, 0, 0, [])), (135, (.lastore, 1, 0, 0, 0, []))], [(136, (.iinc 6 1, 3, 0, 0, 0, [])), (139, (.goto (-39), 3, 100, 0, 0, [])), (142, (.iinc 1 1, 3, 0, 0, 0, []))], [(145, (.goto (-125), 3, 20, 0, 0, [])), (148, (.return_, 1, 0, 0, 0, []))]])
/-- X7 multiplyPower -/
def pd_71 : pm_D := ((yX7_multiplyPower, cX7_multiplyPower, 6, none, 0, 7), [(4, 194), (1, 10)], [[(0, (.iconst 0, 1, 0, 0, 0, [])), (1, (.istore_n 1, 1, 0, 0, 0, [])), (2, (.iload_n 1, 1, 0, 0, 0, [])), (3, (.aload_n 0, 1, 0, 0, 0, [])), (4, (.getfield 33, 3, 7, 1, 0, [(2, 44)])), (7, (.if_icmp .ge 108, 3, 115, 0, 0, []))], [(10, (.iconst 0, 1, 0, 0, 0, [])), (11, (.istore_n 2, 1, 0, 0, 0, [])), (12, (.iload_n 2, 1, 0, 0, 0, [])), (13, (.aload_n 0, 1, 0, 0, 0, [])), (14, (.getfield 33, 3, 7, 1, 0, [(2, 44)]))], [(17, (.if_icmp .ge 62, 3, 79, 0, 0, [])), (20, (.lconst 0, 1, 0, 0, 0, [])), (21, (.lstore_n 3, 1, 0, 0, 0, [])), (22, (.iconst 0, 1, 0, 0, 0, [])), (23, (.istore 5, 2, 0, 0, 0, []))], [(25, (.iload 5, 2, 0, 0, 0, [])), (27, (.aload_n 0, 1, 0, 0, 0, [])), (28, (.getfield 33, 3, 7, 1, 0, [(2, 44)])), (31, (.if_icmp .ge 31, 3, 62, 0, 0, []))], [(34, (.lload_n 3, 1, 0, 0, 0, [])), (35, (.aload_n 0, 1, 0, 0, 0, [])), (36, (.getfield 20, 3, 7, 5, 3, [(2, 48)])), (39, (.iload_n 2, 1, 0, 0, 0, []))], [(40, (.aaload, 1, 0, 0, 0, [])), (41, (.iload 5, 2, 0, 0, 0, [])), (43, (.laload, 1, 0, 0, 0, [])), (44, (.aload_n 0, 1, 0, 0, 0, [])), (45, (.getfield 23, 3, 7, 6, 3, [(2, 49)]))], [(48, (.iload 5, 2, 0, 0, 0, [])), (50, (.aaload, 1, 0, 0, 0, [])), (51, (.iload_n 1, 1, 0, 0, 0, [])), (52, (.laload, 1, 0, 0, 0, [])), (53, (.lmul, 1, 0, 0, 0, [])), (54, (.ladd, 1, 0, 0, 0, [])), (55, (.lstore_n 3, 1, 0, 0, 0, []))], [(56, (.iinc 5 1, 3, 0, 0, 0, [])), (59, (.goto (-34), 3, 25, 0, 0, [])), (62, (.aload_n 0, 1, 0, 0, 0, [])), (63, (.getfield 26, 3, 7, 7, 3, [(2, 50)]))], [(66, (.iload_n 2, 1, 0, 0, 0, [])), (67, (.lload_n 3, 1, 0, 0, 0, [])), (68, (.ldc2_w 44, 3, 0, 0, 1000003, [(4, 81)])), (71, (.lrem, 1, 0, 0, 0, []))], [(72, (.lastore, 1, 0, 0, 0, [])), (73, (.iinc 2 1, 3, 0, 0, 0, [])), (76, (.goto (-64), 3, 12, 0, 0, [])), (79, (.iconst 0, 1, 0, 0, 0, []))], [(80, (.istore_n 2, 1, 0, 0, 0, [])), (81, (.iload_n 2, 1, 0, 0, 0, [])), (82, (.aload_n 0, 1, 0, 0, 0, [])), (83, (.getfield 33, 3, 7, 1, 0, [(2, 44)])), (86, (.if_icmp .ge 23, 3, 109, 0, 0, []))], [(89, (.aload_n 0, 1, 0, 0, 0, [])), (90, (.getfield 23, 3, 7, 6, 3, [(2, 49)])), (93, (.iload_n 2, 1, 0, 0, 0, [])), (94, (.aaload, 1, 0, 0, 0, [])), (95, (.iload_n 1, 1, 0, 0, 0, []))], [(96, (.aload_n 0, 1, 0, 0, 0, [])), (97, (.getfield 26, 3, 7, 7, 3, [(2, 50)])), (100, (.iload_n 2, 1, 0, 0, 0, [])), (101, (.laload, 1, 0, 0, 0, [])), (102, (.lastore, 1, 0, 0, 0, [])), (103, (.iinc 2 1, 3, 0, 0, 0, []))], [(106, (.goto (-25), 3, 81, 0, 0, [])), (109, (.iinc 1 1, 3, 0, 0, 0, []))], [(112, (.goto (-110), 3, 2, 0, 0, [])), (115, (.return_, 1, 0, 0, 0, []))]])
/-- X7 inverse -/
def pd_72 : pm_D := ((yX7_inverse, cX7_inverse, 6, (some .long), 1, 7), [(4, 197), (1, 10)], [[(0, (.lconst 1, 1, 0, 0, 0, [])), (1, (.lstore_n 1, 1, 0, 0, 0, [])), (2, (.iload_n 0, 1, 0, 0, 0, [])), (3, (.i2l, 1, 0, 0, 0, [])), (4, (.lstore_n 3, 1, 0, 0, 0, [])), (5, (.ldc 62, 2, 0, 0, 1000001, [(4, 198)])), (7, (.istore 5, 2, 0, 0, 0, []))], [(9, (.iload 5, 2, 0, 0, 0, [])), (11, (.ifCond .le 35, 3, 46, 0, 0, [])), (14, (.iload 5, 2, 0, 0, 0, []))], [(16, (.iconst 1, 1, 0, 0, 0, [])), (17, (.iand, 1, 0, 0, 0, [])), (18, (.ifCond .eq 11, 3, 29, 0, 0, [])), (21, (.lload_n 1, 1, 0, 0, 0, [])), (22, (.lload_n 3, 1, 0, 0, 0, [])), (23, (.lmul, 1, 0, 0, 0, []))], [(24, (.ldc2_w 44, 3, 0, 0, 1000003, [(4, 81)])), (27, (.lrem, 1, 0, 0, 0, [])), (28, (.lstore_n 1, 1, 0, 0, 0, [])), (29, (.lload_n 3, 1, 0, 0, 0, [])), (30, (.lload_n 3, 1, 0, 0, 0, [])), (31, (.lmul, 1, 0, 0, 0, []))], [(32, (.ldc2_w 44, 3, 0, 0, 1000003, [(4, 81)])), (35, (.lrem, 1, 0, 0, 0, [])), (36, (.lstore_n 3, 1, 0, 0, 0, [])), (37, (.iload 5, 2, 0, 0, 0, [])), (39, (.iconst 1, 1, 0, 0, 0, []))], [(40, (.ishr, 1, 0, 0, 0, [])), (41, (.istore 5, 2, 0, 0, 0, [])), (43, (.goto (-34), 3, 9, 0, 0, [])), (46, (.lload_n 1, 1, 0, 0, 0, [])), (47, (.lreturn, 1, 0, 0, 0, []))]])
end
section
/-- X8 init -/
def pd_73 : pm_D := ((yX8_init, cX8_init, 1, none, 0, 8), [(2, 76), (1, 11)], [[(0, (.aload_n 0, 1, 0, 0, 0, [])), (1, (.invokespecial 3, 3, 0, 0, 0, [(2, 77), (1, 20), (1, 21)])), (4, (.aload_n 0, 1, 0, 0, 0, [])), (5, (.bipush 36, 2, 0, 0, 0, [])), (7, (.newarray .int, 2, 0, 0, 0, [(1, 117)]))], [(9, (.putfield 9, 3, 8, 5, 3, [(2, 104)])), (12, (.aload_n 0, 1, 0, 0, 0, [])), (13, (.bipush 36, 2, 0, 0, 0, [])), (15, (.newarray .int, 2, 0, 0, 0, [(1, 117)]))], [(17, (.putfield 15, 3, 8, 6, 3, [(2, 108)])), (20, (.aload_n 0, 1, 0, 0, 0, [])), (21, (.bipush 36, 2, 0, 0, 0, [])), (23, (.newarray .int, 2, 0, 0, 0, [(1, 117)]))], [(25, (.putfield 18, 3, 8, 7, 3, [(2, 111)])), (28, (.aload_n 0, 1, 0, 0, 0, [])), (29, (.bipush 18, 2, 0, 0, 0, [])), (31, (.newarray .int, 2, 0, 0, 0, [(1, 117)]))], [(33, (.putfield 21, 3, 8, 8, 3, [(2, 113)])), (36, (.aload_n 0, 1, 0, 0, 0, [])), (37, (.bipush 18, 2, 0, 0, 0, [])), (39, (.newarray .int, 2, 0, 0, 0, [(1, 117)]))], [(41, (.putfield 24, 3, 8, 9, 3, [(2, 115)])), (44, (.aload_n 0, 1, 0, 0, 0, [])), (45, (.bipush 18, 2, 0, 0, 0, [])), (47, (.newarray .int, 2, 0, 0, 0, [(1, 117)]))], [(49, (.putfield 27, 3, 8, 10, 3, [(2, 117)])), (52, (.aload_n 0, 1, 0, 0, 0, [])), (53, (.bipush 8, 2, 0, 0, 0, [])), (55, (.bipush 18, 2, 0, 0, 0, []))], [(57, (.multianewarray 30 2, 4, 4, 1, 0, [(2, 78), (2, 20), (1, 116)])), (61, (.putfield 32, 3, 8, 11, 3, [(2, 118)]))], [(64, (.aload_n 0, 1, 0, 0, 0, [])), (65, (.bipush 8, 2, 0, 0, 0, [])), (67, (.newarray .long, 2, 0, 0, 0, [(1, 116)])), (69, (.putfield 35, 3, 8, 12, 3, [(2, 122)]))], [(72, (.aload_n 0, 1, 0, 0, 0, [])), (73, (.bipush 6, 2, 0, 0, 0, [])), (75, (.newarray .long, 2, 0, 0, 0, [(1, 116)])), (77, (.putfield 39, 3, 8, 13, 3, [(2, 124)]))], [(80, (.aload_n 0, 1, 0, 0, 0, [])), (81, (.bipush 6, 2, 0, 0, 0, [])), (83, (.newarray .int, 2, 0, 0, 0, [(1, 117)])), (85, (.putfield 42, 3, 8, 14, 3, [(2, 126)]))], [(88, (.aload_n 0, 1, 0, 0, 0, [])), (89, (.bipush 6, 2, 0, 0, 0, [])), (91, (.bipush 8, 2, 0, 0, 0, [])), (93, (.multianewarray 45 2, 4, 5, 0, 0, [(2, 79), (2, 80), (1, 117)]))], [(97, (.putfield 47, 3, 8, 15, 3, [(2, 129)])), (100, (.aload_n 0, 1, 0, 0, 0, [])), (101, (.bipush 6, 2, 0, 0, 0, [])), (103, (.bipush 8, 2, 0, 0, 0, []))], [(105, (.multianewarray 45 2, 4, 5, 0, 0, [(2, 79), (2, 80), (1, 117)])), (109, (.putfield 50, 3, 8, 16, 3, [(2, 132)]))], [(112, (.return_, 1, 0, 0, 0, []))]])
/-- X8 clear -/
def pd_74 : pm_D := ((yX8_clear, cX8_clear, 3, none, 0, 8), [(3, 15), (1, 11)], [[(0, (.aload_n 0, 1, 0, 0, 0, [])), (1, (.iconst 0, 1, 0, 0, 0, [])), (2, (.putfield 53, 3, 8, 0, 0, [(2, 81)])), (5, (.aload_n 0, 1, 0, 0, 0, [])), (6, (.iconst 0, 1, 0, 0, 0, [])), (7, (.putfield 57, 3, 8, 1, 0, [(2, 88)]))], [(10, (.aload_n 0, 1, 0, 0, 0, [])), (11, (.iconst 0, 1, 0, 0, 0, [])), (12, (.putfield 60, 3, 8, 2, 0, [(2, 94)])), (15, (.aload_n 0, 1, 0, 0, 0, []))], [(16, (.iconst 0, 1, 0, 0, 0, [])), (17, (.putfield 63, 3, 8, 3, 0, [(2, 97)])), (20, (.aload_n 0, 1, 0, 0, 0, [])), (21, (.iconst 0, 1, 0, 0, 0, [])), (22, (.putfield 66, 3, 8, 4, 0, [(2, 100)]))], [(25, (.iconst 0, 1, 0, 0, 0, [])), (26, (.istore_n 1, 1, 0, 0, 0, [])), (27, (.iload_n 1, 1, 0, 0, 0, [])), (28, (.bipush 18, 2, 0, 0, 0, [])), (30, (.if_icmp .ge 16, 3, 46, 0, 0, []))], [(33, (.aload_n 0, 1, 0, 0, 0, [])), (34, (.getfield 21, 3, 8, 8, 3, [(2, 113)])), (37, (.iload_n 1, 1, 0, 0, 0, [])), (38, (.iconst 0, 1, 0, 0, 0, [])), (39, (.iastore, 1, 0, 0, 0, []))], [(40, (.iinc 1 1, 3, 0, 0, 0, [])), (43, (.goto (-16), 3, 27, 0, 0, [])), (46, (.iconst 0, 1, 0, 0, 0, [])), (47, (.istore_n 1, 1, 0, 0, 0, []))], [(48, (.iload_n 1, 1, 0, 0, 0, [])), (49, (.bipush 8, 2, 0, 0, 0, [])), (51, (.if_icmp .ge 32, 3, 83, 0, 0, [])), (54, (.iconst 0, 1, 0, 0, 0, [])), (55, (.istore_n 2, 1, 0, 0, 0, []))], [(56, (.iload_n 2, 1, 0, 0, 0, [])), (57, (.bipush 18, 2, 0, 0, 0, [])), (59, (.if_icmp .ge 18, 3, 77, 0, 0, [])), (62, (.aload_n 0, 1, 0, 0, 0, [])), (63, (.getfield 32, 3, 8, 11, 3, [(2, 118)]))], [(66, (.iload_n 1, 1, 0, 0, 0, [])), (67, (.aaload, 1, 0, 0, 0, [])), (68, (.iload_n 2, 1, 0, 0, 0, [])), (69, (.lconst 0, 1, 0, 0, 0, [])), (70, (.lastore, 1, 0, 0, 0, [])), (71, (.iinc 2 1, 3, 0, 0, 0, []))], [(74, (.goto (-18), 3, 56, 0, 0, [])), (77, (.iinc 1 1, 3, 0, 0, 0, []))], [(80, (.goto (-32), 3, 48, 0, 0, [])), (83, (.return_, 1, 0, 0, 0, []))]])
/-- X8 tellEdge -/
def pd_75 : pm_D := ((yX8_tellEdge, cX8_tellEdge, 3, none, 2, 8), [(3, 68), (1, 11)], [[(0, (.aload_n 0, 1, 0, 0, 0, [])), (1, (.getfield 9, 3, 8, 5, 3, [(2, 104)])), (4, (.iload_n 1, 1, 0, 0, 0, [])), (5, (.iload_n 2, 1, 0, 0, 0, [])), (6, (.iastore, 1, 0, 0, 0, [])), (7, (.aload_n 0, 1, 0, 0, 0, []))], [(8, (.getfield 21, 3, 8, 8, 3, [(2, 113)])), (11, (.iload_n 2, 1, 0, 0, 0, [])), (12, (.iaload, 1, 0, 0, 0, [])), (13, (.ifCond .ne 13, 3, 26, 0, 0, []))], [(16, (.aload_n 0, 1, 0, 0, 0, [])), (17, (.getfield 24, 3, 8, 9, 3, [(2, 115)])), (20, (.iload_n 2, 1, 0, 0, 0, [])), (21, (.iload_n 1, 1, 0, 0, 0, [])), (22, (.iastore, 1, 0, 0, 0, [])), (23, (.goto 10, 3, 33, 0, 0, []))], [(26, (.aload_n 0, 1, 0, 0, 0, [])), (27, (.getfield 27, 3, 8, 10, 3, [(2, 117)])), (30, (.iload_n 2, 1, 0, 0, 0, [])), (31, (.iload_n 1, 1, 0, 0, 0, []))], [(32, (.iastore, 1, 0, 0, 0, [])), (33, (.aload_n 0, 1, 0, 0, 0, [])), (34, (.getfield 21, 3, 8, 8, 3, [(2, 113)])), (37, (.iload_n 2, 1, 0, 0, 0, [])), (38, (.dup2, 1, 0, 0, 0, [])), (39, (.iaload, 1, 0, 0, 0, []))], [(40, (.iconst 1, 1, 0, 0, 0, [])), (41, (.iadd, 1, 0, 0, 0, [])), (42, (.iastore, 1, 0, 0, 0, [])), (43, (.return_, 1, 0, 0, 0, []))]])
/-- X8 glue -/
def pd_76 : pm_D := ((yX8_glue, cX8_glue, 3, (some .boolean), 0, 8), [(3, 80), (1, 11)], [[(0, (.aload_n 0, 1, 0, 0, 0, [])), (1, (.getfield 53, 3, 8, 0, 0, [(2, 81)])), (4, (.iconst 2, 1, 0, 0, 0, [])), (5, (.irem, 1, 0, 0, 0, [])), (6, (.ifCond .eq 5, 3, 11, 0, 0, []))], [(9, (.iconst 0, 1, 0, 0, 0, [])), (10, (.ireturn, 1, 0, 0, 0, [])), (11, (.aload_n 0, 1, 0, 0, 0, [])), (12, (.getfield 53, 3, 8, 0, 0, [(2, 81)])), (15, (.iconst 2, 1, 0, 0, 0, []))], [(16, (.idiv, 1, 0, 0, 0, [])), (17, (.iconst 3, 1, 0, 0, 0, [])), (18, (.imul, 1, 0, 0, 0, [])), (19, (.istore_n 1, 1, 0, 0, 0, [])), (20, (.iconst 0, 1, 0, 0, 0, [])), (21, (.istore_n 2, 1, 0, 0, 0, [])), (22, (.iload_n 2, 1, 0, 0, 0, [])), (23, (.iload_n 1, 1, 0, 0, 0, []))], [(24, (.if_icmp .ge 55, 3, 79, 0, 0, [])), (27, (.aload_n 0, 1, 0, 0, 0, [])), (28, (.getfield 21, 3, 8, 8, 3, [(2, 113)])), (31, (.iload_n 2, 1, 0, 0, 0, []))], [(32, (.iaload, 1, 0, 0, 0, [])), (33, (.iconst 2, 1, 0, 0, 0, [])), (34, (.if_icmp .eq 5, 3, 39, 0, 0, [])), (37, (.iconst 0, 1, 0, 0, 0, [])), (38, (.ireturn, 1, 0, 0, 0, [])), (39, (.aload_n 0, 1, 0, 0, 0, []))], [(40, (.getfield 15, 3, 8, 6, 3, [(2, 108)])), (43, (.aload_n 0, 1, 0, 0, 0, [])), (44, (.getfield 24, 3, 8, 9, 3, [(2, 115)])), (47, (.iload_n 2, 1, 0, 0, 0, []))], [(48, (.iaload, 1, 0, 0, 0, [])), (49, (.aload_n 0, 1, 0, 0, 0, [])), (50, (.getfield 27, 3, 8, 10, 3, [(2, 117)])), (53, (.iload_n 2, 1, 0, 0, 0, [])), (54, (.iaload, 1, 0, 0, 0, [])), (55, (.iastore, 1, 0, 0, 0, []))], [(56, (.aload_n 0, 1, 0, 0, 0, [])), (57, (.getfield 15, 3, 8, 6, 3, [(2, 108)])), (60, (.aload_n 0, 1, 0, 0, 0, [])), (61, (.getfield 27, 3, 8, 10, 3, [(2, 117)]))], [(64, (.iload_n 2, 1, 0, 0, 0, [])), (65, (.iaload, 1, 0, 0, 0, [])), (66, (.aload_n 0, 1, 0, 0, 0, [])), (67, (.getfield 24, 3, 8, 9, 3, [(2, 115)])), (70, (.iload_n 2, 1, 0, 0, 0, [])), (71, (.iaload, 1, 0, 0, 0, []))], [(72, (.iastore, 1, 0, 0, 0, [])), (73, (.iinc 2 1, 3, 0, 0, 0, [])), (76, (.goto (-54), 3, 22, 0, 0, [])), (79, (.aload_n 0, 1, 0, 0, 0, []))], [(80, (.iload_n 1, 1, 0, 0, 0, [])), (81, (.putfield 57, 3, 8, 1, 0, [(2, 88)])), (84, (.aload_n 0, 1, 0, 0, 0, [])), (85, (.invokevirtual 69, 3, 77, 0, 0, [(3, 81), (3, 83), (0, 12)]))], [(88, (.ifCond .ne 5, 3, 93, 0, 0, [])), (91, (.iconst 0, 1, 0, 0, 0, [])), (92, (.ireturn, 1, 0, 0, 0, [])), (93, (.aload_n 0, 1, 0, 0, 0, [])), (94, (.invokevirtual 73, 3, 78, 0, 0, [(3, 85), (3, 87), (0, 13)]))], [(97, (.iconst 1, 1, 0, 0, 0, [])), (98, (.ireturn, 1, 0, 0, 0, []))]])
/-- X8 hangsTogether -/
def pd_77 : pm_D := ((yX8_hangsTogether, cX8_hangsTogether, 4, (some .boolean), 0, 8), [(3, 84), (1, 11)], [[(0, (.iconst 1, 1, 0, 0, 0, [])), (1, (.istore_n 1, 1, 0, 0, 0, [])), (2, (.iconst 0, 1, 0, 0, 0, [])), (3, (.istore_n 2, 1, 0, 0, 0, [])), (4, (.iload_n 2, 1, 0, 0, 0, [])), (5, (.aload_n 0, 1, 0, 0, 0, [])), (6, (.getfield 53, 3, 8, 0, 0, [(2, 81)]))], [(9, (.if_icmp .ge 50, 3, 59, 0, 0, [])), (12, (.iconst 0, 1, 0, 0, 0, [])), (13, (.istore_n 3, 1, 0, 0, 0, [])), (14, (.iload_n 3, 1, 0, 0, 0, [])), (15, (.iconst 3, 1, 0, 0, 0, []))], [(16, (.aload_n 0, 1, 0, 0, 0, [])), (17, (.getfield 53, 3, 8, 0, 0, [(2, 81)])), (20, (.imul, 1, 0, 0, 0, [])), (21, (.if_icmp .ge 32, 3, 53, 0, 0, []))], [(24, (.iload_n 1, 1, 0, 0, 0, [])), (25, (.iload_n 3, 1, 0, 0, 0, [])), (26, (.iconst 3, 1, 0, 0, 0, [])), (27, (.idiv, 1, 0, 0, 0, [])), (28, (.ishr, 1, 0, 0, 0, [])), (29, (.iconst 1, 1, 0, 0, 0, [])), (30, (.iand, 1, 0, 0, 0, [])), (31, (.ifCond .eq 16, 3, 47, 0, 0, []))], [(34, (.iload_n 1, 1, 0, 0, 0, [])), (35, (.iconst 1, 1, 0, 0, 0, [])), (36, (.aload_n 0, 1, 0, 0, 0, [])), (37, (.getfield 15, 3, 8, 6, 3, [(2, 108)]))], [(40, (.iload_n 3, 1, 0, 0, 0, [])), (41, (.iaload, 1, 0, 0, 0, [])), (42, (.iconst 3, 1, 0, 0, 0, [])), (43, (.idiv, 1, 0, 0, 0, [])), (44, (.ishl, 1, 0, 0, 0, [])), (45, (.ior, 1, 0, 0, 0, [])), (46, (.istore_n 1, 1, 0, 0, 0, [])), (47, (.iinc 3 1, 3, 0, 0, 0, []))], [(50, (.goto (-36), 3, 14, 0, 0, [])), (53, (.iinc 2 1, 3, 0, 0, 0, []))], [(56, (.goto (-52), 3, 4, 0, 0, [])), (59, (.aload_n 0, 1, 0, 0, 0, [])), (60, (.getfield 53, 3, 8, 0, 0, [(2, 81)])), (63, (.ifCond .eq 15, 3, 78, 0, 0, []))], [(66, (.iload_n 1, 1, 0, 0, 0, [])), (67, (.iconst 1, 1, 0, 0, 0, [])), (68, (.aload_n 0, 1, 0, 0, 0, [])), (69, (.getfield 53, 3, 8, 0, 0, [(2, 81)]))], [(72, (.ishl, 1, 0, 0, 0, [])), (73, (.iconst 1, 1, 0, 0, 0, [])), (74, (.isub, 1, 0, 0, 0, [])), (75, (.if_icmp .ne 7, 3, 82, 0, 0, [])), (78, (.iconst 1, 1, 0, 0, 0, [])), (79, (.goto 4, 3, 83, 0, 0, []))], [(82, (.iconst 0, 1, 0, 0, 0, [])), (83, (.ireturn, 1, 0, 0, 0, []))]])
/-- X8 numberPoints -/
def pd_78 : pm_D := ((yX8_numberPoints, cX8_numberPoints, 5, none, 0, 8), [(3, 88), (1, 11)], [[(0, (.iconst 3, 1, 0, 0, 0, [])), (1, (.aload_n 0, 1, 0, 0, 0, [])), (2, (.getfield 53, 3, 8, 0, 0, [(2, 81)])), (5, (.imul, 1, 0, 0, 0, [])), (6, (.istore_n 1, 1, 0, 0, 0, [])), (7, (.iconst 0, 1, 0, 0, 0, []))], [(8, (.istore_n 2, 1, 0, 0, 0, [])), (9, (.iload_n 2, 1, 0, 0, 0, [])), (10, (.iload_n 1, 1, 0, 0, 0, [])), (11, (.if_icmp .ge 16, 3, 27, 0, 0, [])), (14, (.aload_n 0, 1, 0, 0, 0, [])), (15, (.getfield 18, 3, 8, 7, 3, [(2, 111)]))], [(18, (.iload_n 2, 1, 0, 0, 0, [])), (19, (.iconst (-1), 1, 0, 0, 0, [])), (20, (.iastore, 1, 0, 0, 0, [])), (21, (.iinc 2 1, 3, 0, 0, 0, []))], [(24, (.goto (-15), 3, 9, 0, 0, [])), (27, (.iconst 0, 1, 0, 0, 0, [])), (28, (.istore_n 2, 1, 0, 0, 0, [])), (29, (.iload_n 2, 1, 0, 0, 0, [])), (30, (.iload_n 1, 1, 0, 0, 0, [])), (31, (.if_icmp .ge 76, 3, 107, 0, 0, []))], [(34, (.aload_n 0, 1, 0, 0, 0, [])), (35, (.getfield 18, 3, 8, 7, 3, [(2, 111)])), (38, (.iload_n 2, 1, 0, 0, 0, [])), (39, (.iaload, 1, 0, 0, 0, []))], [(40, (.iconst (-1), 1, 0, 0, 0, [])), (41, (.if_icmp .ne 60, 3, 101, 0, 0, [])), (44, (.iload_n 2, 1, 0, 0, 0, [])), (45, (.istore_n 3, 1, 0, 0, 0, [])), (46, (.iconst 0, 1, 0, 0, 0, [])), (47, (.istore 4, 2, 0, 0, 0, []))], [(49, (.iload 4, 2, 0, 0, 0, [])), (51, (.iload_n 1, 1, 0, 0, 0, [])), (52, (.if_icmp .ge 39, 3, 91, 0, 0, [])), (55, (.aload_n 0, 1, 0, 0, 0, []))], [(56, (.getfield 18, 3, 8, 7, 3, [(2, 111)])), (59, (.iload_n 3, 1, 0, 0, 0, [])), (60, (.iaload, 1, 0, 0, 0, [])), (61, (.iconst (-1), 1, 0, 0, 0, [])), (62, (.if_icmp .ne 29, 3, 91, 0, 0, []))], [(65, (.aload_n 0, 1, 0, 0, 0, [])), (66, (.getfield 18, 3, 8, 7, 3, [(2, 111)])), (69, (.iload_n 3, 1, 0, 0, 0, [])), (70, (.aload_n 0, 1, 0, 0, 0, [])), (71, (.getfield 60, 3, 8, 2, 0, [(2, 94)]))], [(74, (.iastore, 1, 0, 0, 0, [])), (75, (.aload_n 0, 1, 0, 0, 0, [])), (76, (.getfield 15, 3, 8, 6, 3, [(2, 108)])), (79, (.iload_n 3, 1, 0, 0, 0, []))], [(80, (.invokestatic 76, 3, 143, 1, 0, [(3, 89), (3, 90)])), (83, (.iaload, 1, 0, 0, 0, [])), (84, (.istore_n 3, 1, 0, 0, 0, [])), (85, (.iinc 4 1, 3, 0, 0, 0, []))], [(88, (.goto (-39), 3, 49, 0, 0, [])), (91, (.aload_n 0, 1, 0, 0, 0, [])), (92, (.dup, 1, 0, 0, 0, [])), (93, (.getfield 60, 3, 8, 2, 0, [(2, 94)]))], [(96, (.iconst 1, 1, 0, 0, 0, [])), (97, (.iadd, 1, 0, 0, 0, [])), (98, (.putfield 60, 3, 8, 2, 0, [(2, 94)])), (101, (.iinc 2 1, 3, 0, 0, 0, []))], [(104, (.goto (-75), 3, 29, 0, 0, [])), (107, (.return_, 1, 0, 0, 0, []))]])
/-- X8 fitsIn -/
def pd_79 : pm_D := ((yX8_fitsIn, cX8_fitsIn, 9, (some .boolean), 2, 8), [(3, 114), (1, 11)], [[(0, (.aload_n 2, 1, 0, 0, 0, [])), (1, (.aload_n 0, 1, 0, 0, 0, [])), (2, (.getfield 9, 3, 8, 5, 3, [(2, 104)])), (5, (.iconst 3, 1, 0, 0, 0, [])), (6, (.iload_n 1, 1, 0, 0, 0, [])), (7, (.imul, 1, 0, 0, 0, []))], [(8, (.iaload, 1, 0, 0, 0, [])), (9, (.laload, 1, 0, 0, 0, [])), (10, (.lstore_n 3, 1, 0, 0, 0, [])), (11, (.aload_n 2, 1, 0, 0, 0, [])), (12, (.aload_n 0, 1, 0, 0, 0, [])), (13, (.getfield 9, 3, 8, 5, 3, [(2, 104)]))], [(16, (.iconst 3, 1, 0, 0, 0, [])), (17, (.iload_n 1, 1, 0, 0, 0, [])), (18, (.imul, 1, 0, 0, 0, [])), (19, (.iconst 1, 1, 0, 0, 0, [])), (20, (.iadd, 1, 0, 0, 0, [])), (21, (.iaload, 1, 0, 0, 0, [])), (22, (.laload, 1, 0, 0, 0, [])), (23, (.lstore 5, 2, 0, 0, 0, []))], [(25, (.aload_n 2, 1, 0, 0, 0, [])), (26, (.aload_n 0, 1, 0, 0, 0, [])), (27, (.getfield 9, 3, 8, 5, 3, [(2, 104)])), (30, (.iconst 3, 1, 0, 0, 0, [])), (31, (.iload_n 1, 1, 0, 0, 0, []))], [(32, (.imul, 1, 0, 0, 0, [])), (33, (.iconst 2, 1, 0, 0, 0, [])), (34, (.iadd, 1, 0, 0, 0, [])), (35, (.iaload, 1, 0, 0, 0, [])), (36, (.laload, 1, 0, 0, 0, [])), (37, (.lstore 7, 2, 0, 0, 0, [])), (39, (.lload_n 3, 1, 0, 0, 0, []))], [(40, (.lload 5, 2, 0, 0, 0, [])), (42, (.ladd, 1, 0, 0, 0, [])), (43, (.lload 7, 2, 0, 0, 0, [])), (45, (.ladd, 1, 0, 0, 0, [])), (46, (.ldc2_w 80, 3, 0, 0, 2, [(3, 115)]))], [(49, (.lrem, 1, 0, 0, 0, [])), (50, (.lconst 0, 1, 0, 0, 0, [])), (51, (.lcmp, 1, 0, 0, 0, [])), (52, (.ifCond .ne 37, 3, 89, 0, 0, [])), (55, (.lload_n 3, 1, 0, 0, 0, []))], [(56, (.lload 5, 2, 0, 0, 0, [])), (58, (.lload 7, 2, 0, 0, 0, [])), (60, (.ladd, 1, 0, 0, 0, [])), (61, (.lcmp, 1, 0, 0, 0, [])), (62, (.ifCond .gt 27, 3, 89, 0, 0, []))], [(65, (.lload 5, 2, 0, 0, 0, [])), (67, (.lload_n 3, 1, 0, 0, 0, [])), (68, (.lload 7, 2, 0, 0, 0, [])), (70, (.ladd, 1, 0, 0, 0, [])), (71, (.lcmp, 1, 0, 0, 0, []))], [(72, (.ifCond .gt 17, 3, 89, 0, 0, [])), (75, (.lload 7, 2, 0, 0, 0, [])), (77, (.lload_n 3, 1, 0, 0, 0, [])), (78, (.lload 5, 2, 0, 0, 0, []))], [(80, (.ladd, 1, 0, 0, 0, [])), (81, (.lcmp, 1, 0, 0, 0, [])), (82, (.ifCond .gt 7, 3, 89, 0, 0, [])), (85, (.iconst 1, 1, 0, 0, 0, [])), (86, (.goto 4, 3, 90, 0, 0, []))], [(89, (.iconst 0, 1, 0, 0, 0, [])), (90, (.ireturn, 1, 0, 0, 0, []))]])
/-- X8 fits -/
def pd_80 : pm_D := ((yX8_fits, cX8_fits, 3, (some .boolean), 1, 8), [(3, 110), (1, 11)], [[(0, (.iconst 0, 1, 0, 0, 0, [])), (1, (.istore_n 2, 1, 0, 0, 0, [])), (2, (.iload_n 2, 1, 0, 0, 0, [])), (3, (.aload_n 0, 1, 0, 0, 0, [])), (4, (.getfield 53, 3, 8, 0, 0, [(2, 81)])), (7, (.if_icmp .ge 20, 3, 27, 0, 0, []))], [(10, (.aload_n 0, 1, 0, 0, 0, [])), (11, (.iload_n 2, 1, 0, 0, 0, [])), (12, (.aload_n 1, 1, 0, 0, 0, [])), (13, (.invokevirtual 82, 3, 79, 0, 0, [(3, 111), (3, 112), (3, 113)]))], [(16, (.ifCond .ne 5, 3, 21, 0, 0, [])), (19, (.iconst 0, 1, 0, 0, 0, [])), (20, (.ireturn, 1, 0, 0, 0, [])), (21, (.iinc 2 1, 3, 0, 0, 0, []))], [(24, (.goto (-22), 3, 2, 0, 0, [])), (27, (.iconst 1, 1, 0, 0, 0, [])), (28, (.ireturn, 1, 0, 0, 0, []))]])
/-- X8 lastEdgeOf -/
def pd_81 : pm_D := ((yX8_lastEdgeOf, cX8_lastEdgeOf, 4, (some .int), 1, 8), [(4, 229), (1, 11)], [[(0, (.iconst 0, 1, 0, 0, 0, [])), (1, (.istore_n 2, 1, 0, 0, 0, [])), (2, (.iconst 3, 1, 0, 0, 0, [])), (3, (.iload_n 1, 1, 0, 0, 0, [])), (4, (.imul, 1, 0, 0, 0, [])), (5, (.istore_n 3, 1, 0, 0, 0, [])), (6, (.iload_n 3, 1, 0, 0, 0, [])), (7, (.iconst 3, 1, 0, 0, 0, []))], [(8, (.iload_n 1, 1, 0, 0, 0, [])), (9, (.imul, 1, 0, 0, 0, [])), (10, (.iconst 3, 1, 0, 0, 0, [])), (11, (.iadd, 1, 0, 0, 0, [])), (12, (.if_icmp .ge 20, 3, 32, 0, 0, [])), (15, (.iload_n 2, 1, 0, 0, 0, []))], [(16, (.aload_n 0, 1, 0, 0, 0, [])), (17, (.getfield 9, 3, 8, 5, 3, [(2, 104)])), (20, (.iload_n 3, 1, 0, 0, 0, [])), (21, (.iaload, 1, 0, 0, 0, [])), (22, (.invokestatic 86, 3, 261, 0, 0, [(4, 230), (4, 231)]))], [(25, (.istore_n 2, 1, 0, 0, 0, [])), (26, (.iinc 3 1, 3, 0, 0, 0, [])), (29, (.goto (-23), 3, 6, 0, 0, []))], [(32, (.iload_n 2, 1, 0, 0, 0, [])), (33, (.ireturn, 1, 0, 0, 0, []))]])
/-- X8 lineNamed -/
def pd_82 : pm_D := ((yX8_lineNamed, cX8_lineNamed, 3, (some .int), 1, 8), [(3, 99), (1, 11)], [[(0, (.lload_n 1, 1, 0, 0, 0, [])), (1, (.aload_n 0, 1, 0, 0, 0, [])), (2, (.getfield 35, 3, 8, 12, 3, [(2, 122)])), (5, (.aload_n 0, 1, 0, 0, 0, [])), (6, (.getfield 63, 3, 8, 3, 0, [(2, 97)]))], [(9, (.invokestatic 92, 3, 84, 0, 0, [(3, 100), (3, 101)])), (12, (.ireturn, 1, 0, 0, 0, []))]])
/-- X8 wordNamed -/
def pd_83 : pm_D := ((yX8_wordNamed, cX8_wordNamed, 3, (some .int), 1, 8), [(3, 123), (1, 11)], [[(0, (.lload_n 1, 1, 0, 0, 0, [])), (1, (.aload_n 0, 1, 0, 0, 0, [])), (2, (.getfield 39, 3, 8, 13, 3, [(2, 124)])), (5, (.aload_n 0, 1, 0, 0, 0, [])), (6, (.getfield 66, 3, 8, 4, 0, [(2, 100)]))], [(9, (.invokestatic 92, 3, 84, 0, 0, [(3, 100), (3, 101)])), (12, (.ireturn, 1, 0, 0, 0, []))]])
/-- X8 placeOf -/
def pd_84 : pm_D := ((yX8_placeOf, cX8_placeOf, 5, (some .int), 3, 8), [(3, 102), (1, 11)], [[(0, (.iconst 0, 1, 0, 0, 0, [])), (1, (.istore 4, 2, 0, 0, 0, [])), (3, (.iload 4, 2, 0, 0, 0, [])), (5, (.iload_n 3, 1, 0, 0, 0, [])), (6, (.if_icmp .ge 21, 3, 27, 0, 0, []))], [(9, (.aload_n 2, 1, 0, 0, 0, [])), (10, (.iload 4, 2, 0, 0, 0, [])), (12, (.laload, 1, 0, 0, 0, [])), (13, (.lload_n 0, 1, 0, 0, 0, [])), (14, (.lcmp, 1, 0, 0, 0, [])), (15, (.ifCond .ne 6, 3, 21, 0, 0, []))], [(18, (.iload 4, 2, 0, 0, 0, [])), (20, (.ireturn, 1, 0, 0, 0, [])), (21, (.iinc 4 1, 3, 0, 0, 0, []))], [(24, (.goto (-21), 3, 3, 0, 0, [])), (27, (.iconst (-1), 1, 0, 0, 0, [])), (28, (.ireturn, 1, 0, 0, 0, []))]])
/-- X9 init -/
def pd_85 : pm_D := ((yX9_init, cX9_init, 1, none, 0, 9), [(1, 69), (1, 3)], [[(0, (.aload_n 0, 1, 0, 0, 0, [])), (1, (.invokespecial 3, 3, 0, 0, 0, [(1, 70), (1, 20), (1, 21)])), (4, (.aload_n 0, 1, 0, 0, 0, [])), (5, (.sipush 282, 3, 0, 0, 0, []))], [(8, (.newarray .long, 2, 0, 0, 0, [(1, 116)])), (10, (.putfield 11, 3, 9, 2, 3, [(1, 75)])), (13, (.aload_n 0, 1, 0, 0, 0, [])), (14, (.bipush 18, 2, 0, 0, 0, []))], [(16, (.newarray .int, 2, 0, 0, 0, [(1, 117)])), (18, (.putfield 15, 3, 9, 3, 3, [(1, 76)])), (21, (.aload_n 0, 1, 0, 0, 0, [])), (22, (.bipush 18, 2, 0, 0, 0, []))], [(24, (.newarray .int, 2, 0, 0, 0, [(1, 117)])), (26, (.putfield 19, 3, 9, 4, 3, [(1, 77)])), (29, (.aload_n 0, 1, 0, 0, 0, [])), (30, (.bipush 36, 2, 0, 0, 0, []))], [(32, (.newarray .int, 2, 0, 0, 0, [(1, 117)])), (34, (.putfield 22, 3, 9, 5, 3, [(1, 78)])), (37, (.aload_n 0, 1, 0, 0, 0, [])), (38, (.bipush 36, 2, 0, 0, 0, []))], [(40, (.newarray .int, 2, 0, 0, 0, [(1, 117)])), (42, (.putfield 25, 3, 9, 6, 3, [(1, 79)])), (45, (.return_, 1, 0, 0, 0, []))]])
/-- X9 load -/
def pd_86 : pm_D := ((yX9_load, cX9_load, 6, (some .boolean), 2, 9), [(3, 139), (1, 3)], [[(0, (.aload_n 0, 1, 0, 0, 0, [])), (1, (.aload_n 1, 1, 0, 0, 0, [])), (2, (.putfield 28, 3, 9, 7, 3, [(1, 80)])), (5, (.aload_n 0, 1, 0, 0, 0, [])), (6, (.iconst 0, 1, 0, 0, 0, [])), (7, (.putfield 32, 3, 9, 8, 0, [(1, 81)]))], [(10, (.aload_n 2, 1, 0, 0, 0, [])), (11, (.invokestatic 36, 3, 142, 1, 0, [(3, 140), (3, 141)])), (14, (.lstore_n 3, 1, 0, 0, 0, [])), (15, (.lload_n 3, 1, 0, 0, 0, []))], [(16, (.ldc2_w 40, 3, 0, 0, 18000, [(3, 143)])), (19, (.lcmp, 1, 0, 0, 0, [])), (20, (.ifCond .le 5, 3, 25, 0, 0, [])), (23, (.iconst 0, 1, 0, 0, 0, []))], [(24, (.ireturn, 1, 0, 0, 0, [])), (25, (.iconst 0, 1, 0, 0, 0, [])), (26, (.istore 5, 2, 0, 0, 0, [])), (28, (.iload 5, 2, 0, 0, 0, [])), (30, (.bipush 18, 2, 0, 0, 0, []))], [(32, (.if_icmp .ge 48, 3, 80, 0, 0, [])), (35, (.aload_n 0, 1, 0, 0, 0, [])), (36, (.getfield 19, 3, 9, 4, 3, [(1, 77)])), (39, (.iload 5, 2, 0, 0, 0, []))], [(41, (.aload_n 2, 1, 0, 0, 0, [])), (42, (.iload 5, 2, 0, 0, 0, [])), (44, (.laload, 1, 0, 0, 0, [])), (45, (.l2i, 1, 0, 0, 0, [])), (46, (.iastore, 1, 0, 0, 0, [])), (47, (.aload_n 0, 1, 0, 0, 0, []))], [(48, (.getfield 15, 3, 9, 3, 3, [(1, 76)])), (51, (.iload 5, 2, 0, 0, 0, [])), (53, (.aload_n 0, 1, 0, 0, 0, [])), (54, (.getfield 32, 3, 9, 8, 0, [(1, 81)]))], [(57, (.iastore, 1, 0, 0, 0, [])), (58, (.aload_n 0, 1, 0, 0, 0, [])), (59, (.dup, 1, 0, 0, 0, [])), (60, (.getfield 32, 3, 9, 8, 0, [(1, 81)])), (63, (.aload_n 0, 1, 0, 0, 0, []))], [(64, (.getfield 19, 3, 9, 4, 3, [(1, 77)])), (67, (.iload 5, 2, 0, 0, 0, [])), (69, (.iaload, 1, 0, 0, 0, [])), (70, (.iadd, 1, 0, 0, 0, [])), (71, (.putfield 32, 3, 9, 8, 0, [(1, 81)]))], [(74, (.iinc 5 1, 3, 0, 0, 0, [])), (77, (.goto (-49), 3, 28, 0, 0, []))], [(80, (.iconst 1, 1, 0, 0, 0, [])), (81, (.ireturn, 1, 0, 0, 0, []))]])
/-- X9 begin -/
def pd_87 : pm_D := ((yX9_begin, cX9_begin, 3, none, 2, 9), [(3, 155), (1, 3)], [[(0, (.aload_n 0, 1, 0, 0, 0, [])), (1, (.iload_n 1, 1, 0, 0, 0, [])), (2, (.putfield 42, 3, 9, 9, 0, [(1, 82)])), (5, (.aload_n 0, 1, 0, 0, 0, [])), (6, (.iload_n 2, 1, 0, 0, 0, [])), (7, (.putfield 45, 3, 9, 10, 0, [(1, 83)]))], [(10, (.aload_n 0, 1, 0, 0, 0, [])), (11, (.iload_n 1, 1, 0, 0, 0, [])), (12, (.putfield 48, 3, 9, 11, 0, [(1, 84)])), (15, (.aload_n 0, 1, 0, 0, 0, []))], [(16, (.iload_n 2, 1, 0, 0, 0, [])), (17, (.putfield 51, 3, 9, 12, 0, [(1, 85)])), (20, (.return_, 1, 0, 0, 0, []))]])
/-- X9 beginFirst -/
def pd_88 : pm_D := ((yX9_beginFirst, cX9_beginFirst, 2, (some .boolean), 0, 9), [(4, 36), (1, 3)], [[(0, (.iconst 0, 1, 0, 0, 0, [])), (1, (.istore_n 1, 1, 0, 0, 0, [])), (2, (.iload_n 1, 1, 0, 0, 0, [])), (3, (.aload_n 0, 1, 0, 0, 0, [])), (4, (.getfield 28, 3, 9, 7, 3, [(1, 80)])), (7, (.getfield 54, 3, 8, 1, 0, [(2, 91)]))], [(10, (.if_icmp .ge 34, 3, 44, 0, 0, [])), (13, (.aload_n 0, 1, 0, 0, 0, [])), (14, (.getfield 19, 3, 9, 4, 3, [(1, 77)]))], [(17, (.iload_n 1, 1, 0, 0, 0, [])), (18, (.iaload, 1, 0, 0, 0, [])), (19, (.ifCond .le 19, 3, 38, 0, 0, [])), (22, (.aload_n 0, 1, 0, 0, 0, [])), (23, (.aload_n 0, 1, 0, 0, 0, []))], [(24, (.getfield 28, 3, 9, 7, 3, [(1, 80)])), (27, (.getfield 59, 3, 8, 9, 3, [(2, 116)])), (30, (.iload_n 1, 1, 0, 0, 0, [])), (31, (.iaload, 1, 0, 0, 0, []))], [(32, (.iconst 0, 1, 0, 0, 0, [])), (33, (.invokevirtual 62, 3, 87, 0, 0, [(3, 152), (3, 154), (0, 19)])), (36, (.iconst 1, 1, 0, 0, 0, [])), (37, (.ireturn, 1, 0, 0, 0, [])), (38, (.iinc 1 1, 3, 0, 0, 0, []))], [(41, (.goto (-39), 3, 2, 0, 0, [])), (44, (.iconst 0, 1, 0, 0, 0, [])), (45, (.ireturn, 1, 0, 0, 0, []))]])
/-- X9 isBack -/
def pd_89 : pm_D := ((yX9_isBack, cX9_isBack, 1, (some .boolean), 0, 9), [(3, 179), (1, 3)], [[(0, (.aload_n 0, 1, 0, 0, 0, [])), (1, (.getfield 42, 3, 9, 9, 0, [(1, 82)])), (4, (.aload_n 0, 1, 0, 0, 0, [])), (5, (.getfield 48, 3, 9, 11, 0, [(1, 84)]))], [(8, (.if_icmp .ne 18, 3, 26, 0, 0, [])), (11, (.aload_n 0, 1, 0, 0, 0, [])), (12, (.getfield 45, 3, 9, 10, 0, [(1, 83)])), (15, (.aload_n 0, 1, 0, 0, 0, []))], [(16, (.getfield 51, 3, 9, 12, 0, [(1, 85)])), (19, (.if_icmp .ne 7, 3, 26, 0, 0, [])), (22, (.iconst 1, 1, 0, 0, 0, [])), (23, (.goto 4, 3, 27, 0, 0, []))], [(26, (.iconst 0, 1, 0, 0, 0, [])), (27, (.ireturn, 1, 0, 0, 0, []))]])
/-- X9 countAt -/
def pd_90 : pm_D := ((yX9_countAt, cX9_countAt, 2, (some .int), 1, 9), [(3, 171), (1, 3)], [[(0, (.aload_n 0, 1, 0, 0, 0, [])), (1, (.getfield 19, 3, 9, 4, 3, [(1, 77)])), (4, (.aload_n 0, 1, 0, 0, 0, [])), (5, (.getfield 28, 3, 9, 7, 3, [(1, 80)]))], [(8, (.getfield 66, 3, 8, 5, 3, [(2, 107)])), (11, (.iload_n 1, 1, 0, 0, 0, [])), (12, (.iaload, 1, 0, 0, 0, [])), (13, (.iaload, 1, 0, 0, 0, [])), (14, (.ireturn, 1, 0, 0, 0, []))]])
/-- X9 step -/
def pd_91 : pm_D := ((yX9_step, cX9_step, 6, none, 0, 9), [(3, 167), (1, 3)], [[(0, (.aload_n 0, 1, 0, 0, 0, [])), (1, (.getfield 28, 3, 9, 7, 3, [(1, 80)])), (4, (.getfield 69, 3, 8, 6, 3, [(2, 110)])), (7, (.aload_n 0, 1, 0, 0, 0, []))], [(8, (.getfield 42, 3, 9, 9, 0, [(1, 82)])), (11, (.iaload, 1, 0, 0, 0, [])), (12, (.istore_n 1, 1, 0, 0, 0, [])), (13, (.aload_n 0, 1, 0, 0, 0, [])), (14, (.iload_n 1, 1, 0, 0, 0, [])), (15, (.invokevirtual 72, 3, 90, 0, 0, [(3, 168), (3, 170), (0, 23)]))], [(18, (.iconst 1, 1, 0, 0, 0, [])), (19, (.isub, 1, 0, 0, 0, [])), (20, (.aload_n 0, 1, 0, 0, 0, [])), (21, (.getfield 45, 3, 9, 10, 0, [(1, 83)]))], [(24, (.isub, 1, 0, 0, 0, [])), (25, (.istore_n 2, 1, 0, 0, 0, [])), (26, (.iload_n 1, 1, 0, 0, 0, [])), (27, (.invokestatic 76, 3, 144, 1, 0, [(3, 172), (3, 173)])), (30, (.istore_n 3, 1, 0, 0, 0, [])), (31, (.iload_n 1, 1, 0, 0, 0, []))], [(32, (.invokestatic 79, 3, 143, 1, 0, [(3, 175), (3, 90)])), (35, (.istore 4, 2, 0, 0, 0, [])), (37, (.aload_n 0, 1, 0, 0, 0, [])), (38, (.iload_n 3, 1, 0, 0, 0, [])), (39, (.invokevirtual 72, 3, 90, 0, 0, [(3, 168), (3, 170), (0, 23)]))], [(42, (.aload_n 0, 1, 0, 0, 0, [])), (43, (.iload_n 1, 1, 0, 0, 0, [])), (44, (.invokevirtual 72, 3, 90, 0, 0, [(3, 168), (3, 170), (0, 23)])), (47, (.iadd, 1, 0, 0, 0, []))], [(48, (.aload_n 0, 1, 0, 0, 0, [])), (49, (.iload 4, 2, 0, 0, 0, [])), (51, (.invokevirtual 72, 3, 90, 0, 0, [(3, 168), (3, 170), (0, 23)])), (54, (.isub, 1, 0, 0, 0, [])), (55, (.iconst 2, 1, 0, 0, 0, []))], [(56, (.idiv, 1, 0, 0, 0, [])), (57, (.istore 5, 2, 0, 0, 0, [])), (59, (.aload_n 0, 1, 0, 0, 0, [])), (60, (.iload_n 2, 1, 0, 0, 0, [])), (61, (.iload 5, 2, 0, 0, 0, [])), (63, (.if_icmp .lt 7, 3, 70, 0, 0, []))], [(66, (.iconst 1, 1, 0, 0, 0, [])), (67, (.goto 4, 3, 71, 0, 0, [])), (70, (.iconst 0, 1, 0, 0, 0, [])), (71, (.putfield 82, 3, 9, 13, 2, [(1, 86)]))], [(74, (.aload_n 0, 1, 0, 0, 0, [])), (75, (.aload_n 0, 1, 0, 0, 0, [])), (76, (.getfield 82, 3, 9, 13, 2, [(1, 86)])), (79, (.ifCond .eq 8, 3, 87, 0, 0, []))], [(82, (.iload 4, 2, 0, 0, 0, [])), (84, (.goto 4, 3, 88, 0, 0, [])), (87, (.iload_n 3, 1, 0, 0, 0, []))], [(88, (.putfield 42, 3, 9, 9, 0, [(1, 82)])), (91, (.aload_n 0, 1, 0, 0, 0, [])), (92, (.aload_n 0, 1, 0, 0, 0, [])), (93, (.getfield 82, 3, 9, 13, 2, [(1, 86)]))], [(96, (.ifCond .eq 11, 3, 107, 0, 0, [])), (99, (.aload_n 0, 1, 0, 0, 0, [])), (100, (.iload_n 1, 1, 0, 0, 0, [])), (101, (.invokevirtual 72, 3, 90, 0, 0, [(3, 168), (3, 170), (0, 23)]))], [(104, (.goto 8, 3, 112, 0, 0, [])), (107, (.aload_n 0, 1, 0, 0, 0, [])), (108, (.iload_n 3, 1, 0, 0, 0, [])), (109, (.invokevirtual 72, 3, 90, 0, 0, [(3, 168), (3, 170), (0, 23)]))], [(112, (.iconst 1, 1, 0, 0, 0, [])), (113, (.isub, 1, 0, 0, 0, [])), (114, (.iload_n 2, 1, 0, 0, 0, [])), (115, (.isub, 1, 0, 0, 0, [])), (116, (.putfield 45, 3, 9, 10, 0, [(1, 83)])), (119, (.return_, 1, 0, 0, 0, []))]])
/-- X9 strandNumber -/
def pd_92 : pm_D := ((yX9_strandNumber, cX9_strandNumber, 3, (some .int), 0, 9), [(3, 163), (1, 3)], [[(0, (.aload_n 0, 1, 0, 0, 0, [])), (1, (.getfield 28, 3, 9, 7, 3, [(1, 80)])), (4, (.getfield 66, 3, 8, 5, 3, [(2, 107)])), (7, (.aload_n 0, 1, 0, 0, 0, []))], [(8, (.getfield 42, 3, 9, 9, 0, [(1, 82)])), (11, (.iaload, 1, 0, 0, 0, [])), (12, (.istore_n 1, 1, 0, 0, 0, [])), (13, (.aload_n 0, 1, 0, 0, 0, [])), (14, (.getfield 42, 3, 9, 9, 0, [(1, 82)]))], [(17, (.aload_n 0, 1, 0, 0, 0, [])), (18, (.getfield 28, 3, 9, 7, 3, [(1, 80)])), (21, (.getfield 59, 3, 8, 9, 3, [(2, 116)]))], [(24, (.iload_n 1, 1, 0, 0, 0, [])), (25, (.iaload, 1, 0, 0, 0, [])), (26, (.if_icmp .ne 10, 3, 36, 0, 0, [])), (29, (.aload_n 0, 1, 0, 0, 0, [])), (30, (.getfield 45, 3, 9, 10, 0, [(1, 83)]))], [(33, (.goto 16, 3, 49, 0, 0, [])), (36, (.aload_n 0, 1, 0, 0, 0, [])), (37, (.getfield 19, 3, 9, 4, 3, [(1, 77)]))], [(40, (.iload_n 1, 1, 0, 0, 0, [])), (41, (.iaload, 1, 0, 0, 0, [])), (42, (.iconst 1, 1, 0, 0, 0, [])), (43, (.isub, 1, 0, 0, 0, [])), (44, (.aload_n 0, 1, 0, 0, 0, [])), (45, (.getfield 45, 3, 9, 10, 0, [(1, 83)]))], [(48, (.isub, 1, 0, 0, 0, [])), (49, (.istore_n 2, 1, 0, 0, 0, [])), (50, (.aload_n 0, 1, 0, 0, 0, [])), (51, (.getfield 15, 3, 9, 3, 3, [(1, 76)])), (54, (.iload_n 1, 1, 0, 0, 0, [])), (55, (.iaload, 1, 0, 0, 0, []))], [(56, (.iload_n 2, 1, 0, 0, 0, [])), (57, (.iadd, 1, 0, 0, 0, [])), (58, (.ireturn, 1, 0, 0, 0, []))]])
/-- X9 countLoops -/
def pd_93 : pm_D := ((yX9_countLoops, cX9_countLoops, 3, none, 0, 9), [(3, 147), (1, 3)], [[(0, (.aload_n 0, 1, 0, 0, 0, [])), (1, (.iconst 0, 1, 0, 0, 0, [])), (2, (.putfield 86, 3, 9, 0, 0, [(1, 71)])), (5, (.aload_n 0, 1, 0, 0, 0, [])), (6, (.iconst 0, 1, 0, 0, 0, [])), (7, (.putfield 89, 3, 9, 1, 0, [(1, 73)]))], [(10, (.iconst 0, 1, 0, 0, 0, [])), (11, (.istore_n 1, 1, 0, 0, 0, [])), (12, (.iload_n 1, 1, 0, 0, 0, [])), (13, (.aload_n 0, 1, 0, 0, 0, [])), (14, (.getfield 32, 3, 9, 8, 0, [(1, 81)]))], [(17, (.bipush 64, 2, 0, 0, 0, [])), (19, (.idiv, 1, 0, 0, 0, [])), (20, (.if_icmp .gt 16, 3, 36, 0, 0, [])), (23, (.aload_n 0, 1, 0, 0, 0, []))], [(24, (.getfield 11, 3, 9, 2, 3, [(1, 75)])), (27, (.iload_n 1, 1, 0, 0, 0, [])), (28, (.lconst 0, 1, 0, 0, 0, [])), (29, (.lastore, 1, 0, 0, 0, [])), (30, (.iinc 1 1, 3, 0, 0, 0, []))], [(33, (.goto (-21), 3, 12, 0, 0, [])), (36, (.iconst 0, 1, 0, 0, 0, [])), (37, (.istore_n 1, 1, 0, 0, 0, [])), (38, (.iload_n 1, 1, 0, 0, 0, [])), (39, (.aload_n 0, 1, 0, 0, 0, []))], [(40, (.getfield 28, 3, 9, 7, 3, [(1, 80)])), (43, (.getfield 54, 3, 8, 1, 0, [(2, 91)])), (46, (.if_icmp .ge 87, 3, 133, 0, 0, []))], [(49, (.iconst 0, 1, 0, 0, 0, [])), (50, (.istore_n 2, 1, 0, 0, 0, [])), (51, (.iload_n 2, 1, 0, 0, 0, [])), (52, (.aload_n 0, 1, 0, 0, 0, [])), (53, (.getfield 19, 3, 9, 4, 3, [(1, 77)]))], [(56, (.iload_n 1, 1, 0, 0, 0, [])), (57, (.iaload, 1, 0, 0, 0, [])), (58, (.if_icmp .ge 69, 3, 127, 0, 0, [])), (61, (.aload_n 0, 1, 0, 0, 0, [])), (62, (.aload_n 0, 1, 0, 0, 0, [])), (63, (.getfield 15, 3, 9, 3, 3, [(1, 76)]))], [(66, (.iload_n 1, 1, 0, 0, 0, [])), (67, (.iaload, 1, 0, 0, 0, [])), (68, (.iload_n 2, 1, 0, 0, 0, [])), (69, (.iadd, 1, 0, 0, 0, [])), (70, (.invokevirtual 92, 3, 94, 0, 0, [(3, 148), (3, 150), (0, 18)]))], [(73, (.ifCond .ne 48, 3, 121, 0, 0, [])), (76, (.aload_n 0, 1, 0, 0, 0, [])), (77, (.aload_n 0, 1, 0, 0, 0, [])), (78, (.getfield 28, 3, 9, 7, 3, [(1, 80)]))], [(81, (.getfield 59, 3, 8, 9, 3, [(2, 116)])), (84, (.iload_n 1, 1, 0, 0, 0, [])), (85, (.iaload, 1, 0, 0, 0, [])), (86, (.iload_n 2, 1, 0, 0, 0, [])), (87, (.invokevirtual 62, 3, 87, 0, 0, [(3, 152), (3, 154), (0, 19)]))], [(90, (.aload_n 0, 1, 0, 0, 0, [])), (91, (.dup, 1, 0, 0, 0, [])), (92, (.getfield 86, 3, 9, 0, 0, [(1, 71)])), (95, (.iconst 1, 1, 0, 0, 0, []))], [(96, (.iadd, 1, 0, 0, 0, [])), (97, (.putfield 86, 3, 9, 0, 0, [(1, 71)])), (100, (.aload_n 0, 1, 0, 0, 0, [])), (101, (.dup, 1, 0, 0, 0, [])), (102, (.getfield 89, 3, 9, 1, 0, [(1, 73)]))], [(105, (.aload_n 0, 1, 0, 0, 0, [])), (106, (.invokevirtual 96, 3, 95, 0, 0, [(3, 156), (3, 158), (0, 20)])), (109, (.ifCond .eq 7, 3, 116, 0, 0, []))], [(112, (.iconst 1, 1, 0, 0, 0, [])), (113, (.goto 4, 3, 117, 0, 0, [])), (116, (.iconst 0, 1, 0, 0, 0, [])), (117, (.iadd, 1, 0, 0, 0, [])), (118, (.putfield 89, 3, 9, 1, 0, [(1, 73)]))], [(121, (.iinc 2 1, 3, 0, 0, 0, [])), (124, (.goto (-73), 3, 51, 0, 0, [])), (127, (.iinc 1 1, 3, 0, 0, 0, []))], [(130, (.goto (-92), 3, 38, 0, 0, [])), (133, (.return_, 1, 0, 0, 0, []))]])
/-- X9 isPassed -/
def pd_94 : pm_D := ((yX9_isPassed, cX9_isPassed, 2, (some .boolean), 1, 9), [(3, 151), (1, 3)], [[(0, (.aload_n 0, 1, 0, 0, 0, [])), (1, (.getfield 11, 3, 9, 2, 3, [(1, 75)])), (4, (.iload_n 1, 1, 0, 0, 0, [])), (5, (.bipush 64, 2, 0, 0, 0, [])), (7, (.idiv, 1, 0, 0, 0, []))], [(8, (.laload, 1, 0, 0, 0, [])), (9, (.iload_n 1, 1, 0, 0, 0, [])), (10, (.bipush 64, 2, 0, 0, 0, [])), (12, (.irem, 1, 0, 0, 0, [])), (13, (.lshr, 1, 0, 0, 0, [])), (14, (.lconst 1, 1, 0, 0, 0, [])), (15, (.land, 1, 0, 0, 0, []))], [(16, (.lconst 0, 1, 0, 0, 0, [])), (17, (.lcmp, 1, 0, 0, 0, [])), (18, (.ifCond .eq 7, 3, 25, 0, 0, [])), (21, (.iconst 1, 1, 0, 0, 0, [])), (22, (.goto 4, 3, 26, 0, 0, []))], [(25, (.iconst 0, 1, 0, 0, 0, [])), (26, (.ireturn, 1, 0, 0, 0, []))]])
/-- X9 closeLoop -/
def pd_95 : pm_D := ((yX9_closeLoop, cX9_closeLoop, 5, (some .boolean), 0, 9), [(3, 159), (1, 3)], [[(0, (.iconst 0, 1, 0, 0, 0, [])), (1, (.istore_n 1, 1, 0, 0, 0, [])), (2, (.iconst 0, 1, 0, 0, 0, [])), (3, (.istore_n 2, 1, 0, 0, 0, [])), (4, (.iconst 0, 1, 0, 0, 0, [])), (5, (.istore_n 3, 1, 0, 0, 0, [])), (6, (.iload_n 3, 1, 0, 0, 0, [])), (7, (.aload_n 0, 1, 0, 0, 0, []))], [(8, (.getfield 32, 3, 9, 8, 0, [(1, 81)])), (11, (.if_icmp .ge 83, 3, 94, 0, 0, [])), (14, (.aload_n 0, 1, 0, 0, 0, [])), (15, (.invokevirtual 100, 3, 92, 0, 0, [(3, 160), (3, 162), (0, 21)]))], [(18, (.istore 4, 2, 0, 0, 0, [])), (20, (.aload_n 0, 1, 0, 0, 0, [])), (21, (.getfield 11, 3, 9, 2, 3, [(1, 75)]))], [(24, (.iload 4, 2, 0, 0, 0, [])), (26, (.bipush 64, 2, 0, 0, 0, [])), (28, (.idiv, 1, 0, 0, 0, [])), (29, (.dup2, 1, 0, 0, 0, [])), (30, (.laload, 1, 0, 0, 0, [])), (31, (.lconst 1, 1, 0, 0, 0, []))], [(32, (.iload 4, 2, 0, 0, 0, [])), (34, (.bipush 64, 2, 0, 0, 0, [])), (36, (.irem, 1, 0, 0, 0, [])), (37, (.lshl, 1, 0, 0, 0, [])), (38, (.lor, 1, 0, 0, 0, [])), (39, (.lastore, 1, 0, 0, 0, []))], [(40, (.aload_n 0, 1, 0, 0, 0, [])), (41, (.invokevirtual 104, 3, 91, 0, 0, [(3, 164), (3, 166), (0, 22)])), (44, (.iload_n 1, 1, 0, 0, 0, [])), (45, (.ifCond .ne 10, 3, 55, 0, 0, []))], [(48, (.aload_n 0, 1, 0, 0, 0, [])), (49, (.getfield 82, 3, 9, 13, 2, [(1, 86)])), (52, (.ifCond .eq 7, 3, 59, 0, 0, [])), (55, (.iconst 1, 1, 0, 0, 0, []))], [(56, (.goto 4, 3, 60, 0, 0, [])), (59, (.iconst 0, 1, 0, 0, 0, [])), (60, (.istore_n 1, 1, 0, 0, 0, [])), (61, (.iload_n 2, 1, 0, 0, 0, [])), (62, (.ifCond .ne 10, 3, 72, 0, 0, []))], [(65, (.aload_n 0, 1, 0, 0, 0, [])), (66, (.getfield 82, 3, 9, 13, 2, [(1, 86)])), (69, (.ifCond .ne 7, 3, 76, 0, 0, []))], [(72, (.iconst 1, 1, 0, 0, 0, [])), (73, (.goto 4, 3, 77, 0, 0, [])), (76, (.iconst 0, 1, 0, 0, 0, [])), (77, (.istore_n 2, 1, 0, 0, 0, [])), (78, (.aload_n 0, 1, 0, 0, 0, [])), (79, (.invokevirtual 107, 3, 89, 0, 0, [(3, 176), (3, 178), (0, 24)]))], [(82, (.ifCond .eq 6, 3, 88, 0, 0, [])), (85, (.goto 9, 3, 94, 0, 0, []))], [(88, (.iinc 3 1, 3, 0, 0, 0, [])), (91, (.goto (-85), 3, 6, 0, 0, [])), (94, (.iload_n 1, 1, 0, 0, 0, [])), (95, (.iload_n 2, 1, 0, 0, 0, []))], [(96, (.if_icmp .eq 7, 3, 103, 0, 0, [])), (99, (.iconst 1, 1, 0, 0, 0, [])), (100, (.goto 4, 3, 104, 0, 0, [])), (103, (.iconst 0, 1, 0, 0, 0, []))], [(104, (.ireturn, 1, 0, 0, 0, []))]])
/-- X9 isSingle -/
def pd_96 : pm_D := ((yX9_isSingle, cX9_isSingle, 1, (some .boolean), 0, 9), [(3, 183), (1, 3)], [[(0, (.aload_n 0, 1, 0, 0, 0, [])), (1, (.getfield 86, 3, 9, 0, 0, [(1, 71)])), (4, (.iconst 1, 1, 0, 0, 0, [])), (5, (.if_icmp .ne 14, 3, 19, 0, 0, []))], [(8, (.aload_n 0, 1, 0, 0, 0, [])), (9, (.getfield 89, 3, 9, 1, 0, [(1, 73)])), (12, (.ifCond .ne 7, 3, 19, 0, 0, [])), (15, (.iconst 1, 1, 0, 0, 0, []))], [(16, (.goto 4, 3, 20, 0, 0, [])), (19, (.iconst 0, 1, 0, 0, 0, [])), (20, (.ireturn, 1, 0, 0, 0, []))]])
/-- X9 edgeAt -/
def pd_97 : pm_D := ((yX9_edgeAt, cX9_edgeAt, 3, (some .int), 1, 9), [(4, 32), (1, 3)], [[(0, (.iload_n 1, 1, 0, 0, 0, [])), (1, (.ifCond .lt 18, 3, 19, 0, 0, [])), (4, (.iload_n 1, 1, 0, 0, 0, [])), (5, (.aload_n 0, 1, 0, 0, 0, [])), (6, (.getfield 32, 3, 9, 8, 0, [(1, 81)]))], [(9, (.if_icmp .ge 10, 3, 19, 0, 0, [])), (12, (.aload_n 0, 1, 0, 0, 0, [])), (13, (.invokevirtual 110, 3, 88, 0, 0, [(4, 33), (4, 35), (0, 35)]))], [(16, (.ifCond .ne 5, 3, 21, 0, 0, [])), (19, (.iconst (-1), 1, 0, 0, 0, [])), (20, (.ireturn, 1, 0, 0, 0, [])), (21, (.iconst 0, 1, 0, 0, 0, [])), (22, (.istore_n 2, 1, 0, 0, 0, [])), (23, (.iload_n 2, 1, 0, 0, 0, []))], [(24, (.iload_n 1, 1, 0, 0, 0, [])), (25, (.if_icmp .ge 22, 3, 47, 0, 0, [])), (28, (.aload_n 0, 1, 0, 0, 0, [])), (29, (.invokevirtual 104, 3, 91, 0, 0, [(3, 164), (3, 166), (0, 22)]))], [(32, (.aload_n 0, 1, 0, 0, 0, [])), (33, (.invokevirtual 107, 3, 89, 0, 0, [(3, 176), (3, 178), (0, 24)])), (36, (.ifCond .eq 5, 3, 41, 0, 0, [])), (39, (.iconst (-1), 1, 0, 0, 0, []))], [(40, (.ireturn, 1, 0, 0, 0, [])), (41, (.iinc 2 1, 3, 0, 0, 0, [])), (44, (.goto (-21), 3, 23, 0, 0, [])), (47, (.aload_n 0, 1, 0, 0, 0, []))], [(48, (.getfield 28, 3, 9, 7, 3, [(1, 80)])), (51, (.getfield 66, 3, 8, 5, 3, [(2, 107)])), (54, (.aload_n 0, 1, 0, 0, 0, [])), (55, (.getfield 42, 3, 9, 9, 0, [(1, 82)]))], [(58, (.iaload, 1, 0, 0, 0, [])), (59, (.ireturn, 1, 0, 0, 0, []))]])
/-- X9 traceInto -/
def pd_98 : pm_D := ((yX9_traceInto, cX9_traceInto, 4, (some .int), 1, 9), [(5, 65), (1, 3)], [[(0, (.aload_n 0, 1, 0, 0, 0, [])), (1, (.invokevirtual 110, 3, 88, 0, 0, [(4, 33), (4, 35), (0, 35)])), (4, (.ifCond .ne 5, 3, 9, 0, 0, [])), (7, (.iconst 0, 1, 0, 0, 0, []))], [(8, (.ireturn, 1, 0, 0, 0, [])), (9, (.iconst 0, 1, 0, 0, 0, [])), (10, (.istore_n 2, 1, 0, 0, 0, [])), (11, (.iconst 0, 1, 0, 0, 0, [])), (12, (.istore_n 3, 1, 0, 0, 0, [])), (13, (.iload_n 3, 1, 0, 0, 0, [])), (14, (.aload_n 0, 1, 0, 0, 0, [])), (15, (.getfield 32, 3, 9, 8, 0, [(1, 81)]))], [(18, (.if_icmp .ge 47, 3, 65, 0, 0, [])), (21, (.iload_n 2, 1, 0, 0, 0, [])), (22, (.aload_n 1, 1, 0, 0, 0, [])), (23, (.arraylength, 1, 0, 0, 0, []))], [(24, (.if_icmp .ge 41, 3, 65, 0, 0, [])), (27, (.aload_n 1, 1, 0, 0, 0, [])), (28, (.iload_n 2, 1, 0, 0, 0, [])), (29, (.aload_n 0, 1, 0, 0, 0, [])), (30, (.getfield 28, 3, 9, 7, 3, [(1, 80)]))], [(33, (.getfield 66, 3, 8, 5, 3, [(2, 107)])), (36, (.aload_n 0, 1, 0, 0, 0, [])), (37, (.getfield 42, 3, 9, 9, 0, [(1, 82)]))], [(40, (.iaload, 1, 0, 0, 0, [])), (41, (.iastore, 1, 0, 0, 0, [])), (42, (.iinc 2 1, 3, 0, 0, 0, [])), (45, (.aload_n 0, 1, 0, 0, 0, [])), (46, (.invokevirtual 104, 3, 91, 0, 0, [(3, 164), (3, 166), (0, 22)]))], [(49, (.aload_n 0, 1, 0, 0, 0, [])), (50, (.invokevirtual 107, 3, 89, 0, 0, [(3, 176), (3, 178), (0, 24)])), (53, (.ifCond .eq 6, 3, 59, 0, 0, []))], [(56, (.goto 9, 3, 65, 0, 0, [])), (59, (.iinc 3 1, 3, 0, 0, 0, [])), (62, (.goto (-49), 3, 13, 0, 0, []))], [(65, (.iload_n 2, 1, 0, 0, 0, [])), (66, (.ireturn, 1, 0, 0, 0, []))]])
/-- X9 turns -/
def pd_99 : pm_D := ((yX9_turns, cX9_turns, 6, (some .int), 3, 9), [(4, 95), (1, 3)], [[(0, (.aload_n 0, 1, 0, 0, 0, [])), (1, (.aload_n 1, 1, 0, 0, 0, [])), (2, (.aload_n 2, 1, 0, 0, 0, [])), (3, (.invokevirtual 113, 3, 86, 0, 0, [(4, 96), (3, 137), (3, 138)])), (6, (.ifCond .ne 6, 3, 12, 0, 0, []))], [(9, (.ldc 117, 2, 0, 0, (-1000000), [(4, 97)])), (11, (.ireturn, 1, 0, 0, 0, [])), (12, (.aload_n 0, 1, 0, 0, 0, [])), (13, (.aload_n 0, 1, 0, 0, 0, [])), (14, (.getfield 22, 3, 9, 5, 3, [(1, 78)]))], [(17, (.invokevirtual 118, 3, 100, 0, 0, [(4, 98), (4, 100), (0, 38)])), (20, (.aload_n 0, 1, 0, 0, 0, [])), (21, (.aload_n 1, 1, 0, 0, 0, [])), (22, (.aload_n 3, 1, 0, 0, 0, [])), (23, (.invokevirtual 113, 3, 86, 0, 0, [(4, 96), (3, 137), (3, 138)]))], [(26, (.ifCond .ne 6, 3, 32, 0, 0, [])), (29, (.ldc 117, 2, 0, 0, (-1000000), [(4, 97)])), (31, (.ireturn, 1, 0, 0, 0, []))], [(32, (.aload_n 0, 1, 0, 0, 0, [])), (33, (.aload_n 0, 1, 0, 0, 0, [])), (34, (.getfield 25, 3, 9, 6, 3, [(1, 79)])), (37, (.invokevirtual 118, 3, 100, 0, 0, [(4, 98), (4, 100), (0, 38)]))], [(40, (.iconst 0, 1, 0, 0, 0, [])), (41, (.istore 4, 2, 0, 0, 0, [])), (43, (.iconst 0, 1, 0, 0, 0, [])), (44, (.istore 5, 2, 0, 0, 0, [])), (46, (.iload 5, 2, 0, 0, 0, []))], [(48, (.iconst 2, 1, 0, 0, 0, [])), (49, (.iadd, 1, 0, 0, 0, [])), (50, (.iconst 3, 1, 0, 0, 0, [])), (51, (.aload_n 1, 1, 0, 0, 0, [])), (52, (.getfield 122, 3, 8, 0, 0, [(2, 87)])), (55, (.imul, 1, 0, 0, 0, []))], [(56, (.if_icmp .ge 49, 3, 105, 0, 0, [])), (59, (.iload 4, 2, 0, 0, 0, [])), (61, (.aload_n 0, 1, 0, 0, 0, [])), (62, (.getfield 22, 3, 9, 5, 3, [(1, 78)]))], [(65, (.iload 5, 2, 0, 0, 0, [])), (67, (.iaload, 1, 0, 0, 0, [])), (68, (.aload_n 0, 1, 0, 0, 0, [])), (69, (.getfield 25, 3, 9, 6, 3, [(1, 79)]))], [(72, (.iload 5, 2, 0, 0, 0, [])), (74, (.iconst 1, 1, 0, 0, 0, [])), (75, (.iadd, 1, 0, 0, 0, [])), (76, (.iaload, 1, 0, 0, 0, [])), (77, (.imul, 1, 0, 0, 0, [])), (78, (.aload_n 0, 1, 0, 0, 0, [])), (79, (.getfield 22, 3, 9, 5, 3, [(1, 78)]))], [(82, (.iload 5, 2, 0, 0, 0, [])), (84, (.iconst 1, 1, 0, 0, 0, [])), (85, (.iadd, 1, 0, 0, 0, [])), (86, (.iaload, 1, 0, 0, 0, [])), (87, (.aload_n 0, 1, 0, 0, 0, []))], [(88, (.getfield 25, 3, 9, 6, 3, [(1, 79)])), (91, (.iload 5, 2, 0, 0, 0, [])), (93, (.iaload, 1, 0, 0, 0, [])), (94, (.imul, 1, 0, 0, 0, [])), (95, (.isub, 1, 0, 0, 0, []))], [(96, (.iadd, 1, 0, 0, 0, [])), (97, (.istore 4, 2, 0, 0, 0, [])), (99, (.iinc 5 3, 3, 0, 0, 0, [])), (102, (.goto (-56), 3, 46, 0, 0, []))], [(105, (.iload 4, 2, 0, 0, 0, [])), (107, (.iconst 2, 1, 0, 0, 0, [])), (108, (.idiv, 1, 0, 0, 0, [])), (109, (.ireturn, 1, 0, 0, 0, []))]])
/-- X9 flowInto -/
def pd_100 : pm_D := ((yX9_flowInto, cX9_flowInto, 3, none, 1, 9), [(4, 101), (1, 3)], [[(0, (.iconst 0, 1, 0, 0, 0, [])), (1, (.istore_n 2, 1, 0, 0, 0, [])), (2, (.iload_n 2, 1, 0, 0, 0, [])), (3, (.bipush 36, 2, 0, 0, 0, [])), (5, (.if_icmp .ge 13, 3, 18, 0, 0, []))], [(8, (.aload_n 1, 1, 0, 0, 0, [])), (9, (.iload_n 2, 1, 0, 0, 0, [])), (10, (.iconst 0, 1, 0, 0, 0, [])), (11, (.iastore, 1, 0, 0, 0, [])), (12, (.iinc 2 1, 3, 0, 0, 0, [])), (15, (.goto (-13), 3, 2, 0, 0, []))], [(18, (.aload_n 0, 1, 0, 0, 0, [])), (19, (.invokevirtual 110, 3, 88, 0, 0, [(4, 33), (4, 35), (0, 35)])), (22, (.ifCond .ne 4, 3, 26, 0, 0, []))], [(25, (.return_, 1, 0, 0, 0, [])), (26, (.iconst 0, 1, 0, 0, 0, [])), (27, (.istore_n 2, 1, 0, 0, 0, [])), (28, (.iload_n 2, 1, 0, 0, 0, [])), (29, (.aload_n 0, 1, 0, 0, 0, [])), (30, (.getfield 32, 3, 9, 8, 0, [(1, 81)]))], [(33, (.if_icmp .ge 49, 3, 82, 0, 0, [])), (36, (.aload_n 1, 1, 0, 0, 0, [])), (37, (.aload_n 0, 1, 0, 0, 0, [])), (38, (.getfield 42, 3, 9, 9, 0, [(1, 82)]))], [(41, (.dup2, 1, 0, 0, 0, [])), (42, (.iaload, 1, 0, 0, 0, [])), (43, (.iconst 1, 1, 0, 0, 0, [])), (44, (.iadd, 1, 0, 0, 0, [])), (45, (.iastore, 1, 0, 0, 0, [])), (46, (.aload_n 1, 1, 0, 0, 0, [])), (47, (.aload_n 0, 1, 0, 0, 0, []))], [(48, (.getfield 28, 3, 9, 7, 3, [(1, 80)])), (51, (.getfield 69, 3, 8, 6, 3, [(2, 110)])), (54, (.aload_n 0, 1, 0, 0, 0, [])), (55, (.getfield 42, 3, 9, 9, 0, [(1, 82)]))], [(58, (.iaload, 1, 0, 0, 0, [])), (59, (.dup2, 1, 0, 0, 0, [])), (60, (.iaload, 1, 0, 0, 0, [])), (61, (.iconst 1, 1, 0, 0, 0, [])), (62, (.isub, 1, 0, 0, 0, [])), (63, (.iastore, 1, 0, 0, 0, []))], [(64, (.aload_n 0, 1, 0, 0, 0, [])), (65, (.invokevirtual 104, 3, 91, 0, 0, [(3, 164), (3, 166), (0, 22)])), (68, (.aload_n 0, 1, 0, 0, 0, [])), (69, (.invokevirtual 107, 3, 89, 0, 0, [(3, 176), (3, 178), (0, 24)]))], [(72, (.ifCond .eq 4, 3, 76, 0, 0, [])), (75, (.return_, 1, 0, 0, 0, [])), (76, (.iinc 2 1, 3, 0, 0, 0, [])), (79, (.goto (-51), 3, 28, 0, 0, []))], [(82, (.return_, 1, 0, 0, 0, []))]])
/-- X10 init -/
def pd_101 : pm_D := ((yX10_init, cX10_init, 1, none, 0, 10), [(1, 18), (1, 1)], [[(0, (.aload_n 0, 1, 0, 0, 0, [])), (1, (.invokespecial 1, 3, 0, 0, 0, [(1, 19), (1, 20), (1, 21)])), (4, (.aload_n 0, 1, 0, 0, 0, [])), (5, (.sipush 1600, 3, 0, 0, 0, []))], [(8, (.newarray .byte, 2, 0, 0, 0, [(1, 64)])), (10, (.putfield 9, 3, 10, 0, 3, [(2, 171)])), (13, (.aload_n 0, 1, 0, 0, 0, [])), (14, (.new 13, 3, 4, 0, 0, [(1, 22), (1, 23), (1, 2)]))], [(17, (.dup, 1, 0, 0, 0, [])), (18, (.invokespecial 15, 3, 31, 1, 0, [(1, 24), (1, 25)])), (21, (.putfield 16, 3, 10, 1, 3, [(2, 172)]))], [(24, (.aload_n 0, 1, 0, 0, 0, [])), (25, (.new 20, 3, 9, 0, 0, [(1, 65), (1, 66), (1, 3)])), (28, (.dup, 1, 0, 0, 0, [])), (29, (.invokespecial 22, 3, 85, 1, 0, [(1, 67), (1, 68)]))], [(32, (.putfield 23, 3, 10, 2, 3, [(2, 173)])), (35, (.aload_n 0, 1, 0, 0, 0, [])), (36, (.new 27, 3, 3, 0, 0, [(1, 118), (1, 119), (1, 4)])), (39, (.dup, 1, 0, 0, 0, []))], [(40, (.invokespecial 29, 3, 20, 0, 0, [(1, 120), (1, 121)])), (43, (.putfield 30, 3, 10, 3, 3, [(2, 174)])), (46, (.aload_n 0, 1, 0, 0, 0, [])), (47, (.new 34, 3, 1, 0, 0, [(1, 213), (1, 214), (1, 7)]))], [(50, (.dup, 1, 0, 0, 0, [])), (51, (.invokespecial 36, 3, 7, 1, 0, [(1, 215), (1, 216)])), (54, (.putfield 37, 3, 10, 4, 3, [(2, 175)]))], [(57, (.aload_n 0, 1, 0, 0, 0, [])), (58, (.new 41, 3, 2, 0, 0, [(1, 230), (1, 231), (1, 8)])), (61, (.dup, 1, 0, 0, 0, [])), (62, (.invokespecial 43, 3, 12, 1, 0, [(1, 232), (1, 233)]))], [(65, (.putfield 44, 3, 10, 5, 3, [(2, 176)])), (68, (.aload_n 0, 1, 0, 0, 0, [])), (69, (.new 48, 3, 0, 0, 0, [(2, 13), (2, 14), (1, 9)]))], [(72, (.dup, 1, 0, 0, 0, [])), (73, (.invokespecial 50, 3, 1, 1, 0, [(2, 15), (2, 16)])), (76, (.putfield 51, 3, 10, 6, 3, [(2, 177)])), (79, (.aload_n 0, 1, 0, 0, 0, []))], [(80, (.new 55, 3, 7, 0, 0, [(2, 36), (2, 37), (1, 10)])), (83, (.dup, 1, 0, 0, 0, [])), (84, (.invokespecial 57, 3, 61, 1, 0, [(2, 38), (2, 39)])), (87, (.putfield 58, 3, 10, 7, 3, [(2, 178)]))], [(90, (.aload_n 0, 1, 0, 0, 0, [])), (91, (.iconst 3, 1, 0, 0, 0, [])), (92, (.bipush 18, 2, 0, 0, 0, [])), (94, (.multianewarray 62 2, 4, 4, 1, 0, [(2, 71), (2, 20), (1, 116)]))], [(98, (.putfield 64, 3, 10, 8, 3, [(2, 179)])), (101, (.aload_n 0, 1, 0, 0, 0, [])), (102, (.iconst 3, 1, 0, 0, 0, [])), (103, (.newarray .boolean, 2, 0, 0, 0, [(2, 170)]))], [(105, (.putfield 67, 3, 10, 9, 3, [(2, 180)])), (108, (.aload_n 0, 1, 0, 0, 0, [])), (109, (.bipush 8, 2, 0, 0, 0, [])), (111, (.bipush 18, 2, 0, 0, 0, []))], [(113, (.multianewarray 62 2, 4, 4, 1, 0, [(2, 71), (2, 20), (1, 116)])), (117, (.putfield 71, 3, 10, 10, 3, [(2, 181)]))], [(120, (.aload_n 0, 1, 0, 0, 0, [])), (121, (.bipush 18, 2, 0, 0, 0, [])), (123, (.newarray .long, 2, 0, 0, 0, [(1, 116)])), (125, (.putfield 74, 3, 10, 11, 3, [(2, 182)]))], [(128, (.aload_n 0, 1, 0, 0, 0, [])), (129, (.bipush 18, 2, 0, 0, 0, [])), (131, (.newarray .long, 2, 0, 0, 0, [(1, 116)])), (133, (.putfield 78, 3, 10, 12, 3, [(2, 183)]))], [(136, (.aload_n 0, 1, 0, 0, 0, [])), (137, (.new 81, 3, 8, 0, 0, [(2, 72), (2, 73), (1, 11)])), (140, (.dup, 1, 0, 0, 0, [])), (141, (.invokespecial 83, 3, 73, 1, 0, [(2, 74), (2, 75)]))], [(144, (.putfield 84, 3, 10, 13, 3, [(2, 184)])), (147, (.aload_n 0, 1, 0, 0, 0, [])), (148, (.new 81, 3, 8, 0, 0, [(2, 72), (2, 73), (1, 11)])), (151, (.dup, 1, 0, 0, 0, []))], [(152, (.invokespecial 83, 3, 73, 1, 0, [(2, 74), (2, 75)])), (155, (.putfield 88, 3, 10, 14, 3, [(2, 185)])), (158, (.aload_n 0, 1, 0, 0, 0, [])), (159, (.iconst (-1), 1, 0, 0, 0, []))], [(160, (.putfield 91, 3, 10, 17, 0, [(2, 188)])), (163, (.return_, 1, 0, 0, 0, []))]])
/-- X10 feed -/
def pd_102 : pm_D := ((yX10_feed, cX10_feed, 6, (some .int), 5, 10), [(2, 232), (1, 1)], [[(0, (.aload_n 0, 1, 0, 0, 0, [])), (1, (.getfield 95, 3, 10, 15, 0, [(2, 186)])), (4, (.bipush 20, 2, 0, 0, 0, [])), (6, (.iadd, 1, 0, 0, 0, [])), (7, (.sipush 1600, 3, 0, 0, 0, []))], [(10, (.if_icmp .le 5, 3, 15, 0, 0, [])), (13, (.iconst (-1), 1, 0, 0, 0, [])), (14, (.ireturn, 1, 0, 0, 0, [])), (15, (.aload_n 0, 1, 0, 0, 0, []))], [(16, (.iload_n 1, 1, 0, 0, 0, [])), (17, (.invokevirtual 98, 3, 103, 0, 0, [(2, 233), (2, 235), (0, 0)])), (20, (.aload_n 0, 1, 0, 0, 0, [])), (21, (.iload_n 2, 1, 0, 0, 0, [])), (22, (.invokevirtual 98, 3, 103, 0, 0, [(2, 233), (2, 235), (0, 0)]))], [(25, (.aload_n 0, 1, 0, 0, 0, [])), (26, (.iload_n 3, 1, 0, 0, 0, [])), (27, (.invokevirtual 98, 3, 103, 0, 0, [(2, 233), (2, 235), (0, 0)])), (30, (.aload_n 0, 1, 0, 0, 0, [])), (31, (.iload 4, 2, 0, 0, 0, []))], [(33, (.invokevirtual 98, 3, 103, 0, 0, [(2, 233), (2, 235), (0, 0)])), (36, (.aload_n 0, 1, 0, 0, 0, [])), (37, (.iload 5, 2, 0, 0, 0, [])), (39, (.invokevirtual 98, 3, 103, 0, 0, [(2, 233), (2, 235), (0, 0)]))], [(42, (.aload_n 0, 1, 0, 0, 0, [])), (43, (.getfield 95, 3, 10, 15, 0, [(2, 186)])), (46, (.ireturn, 1, 0, 0, 0, []))]])
/-- X10 putBytes -/
def pd_103 : pm_D := ((yX10_putBytes, cX10_putBytes, 3, none, 1, 10), [(2, 236), (1, 1)], [[(0, (.bipush 24, 2, 0, 0, 0, [])), (2, (.istore_n 2, 1, 0, 0, 0, [])), (3, (.iload_n 2, 1, 0, 0, 0, [])), (4, (.ifCond .lt 51, 3, 55, 0, 0, [])), (7, (.aload_n 0, 1, 0, 0, 0, []))], [(8, (.getfield 95, 3, 10, 15, 0, [(2, 186)])), (11, (.ifCond .lt 38, 3, 49, 0, 0, [])), (14, (.aload_n 0, 1, 0, 0, 0, [])), (15, (.getfield 95, 3, 10, 15, 0, [(2, 186)]))], [(18, (.aload_n 0, 1, 0, 0, 0, [])), (19, (.getfield 9, 3, 10, 0, 3, [(2, 171)])), (22, (.arraylength, 1, 0, 0, 0, [])), (23, (.if_icmp .ge 26, 3, 49, 0, 0, []))], [(26, (.aload_n 0, 1, 0, 0, 0, [])), (27, (.getfield 9, 3, 10, 0, 3, [(2, 171)])), (30, (.aload_n 0, 1, 0, 0, 0, [])), (31, (.getfield 95, 3, 10, 15, 0, [(2, 186)]))], [(34, (.iload_n 1, 1, 0, 0, 0, [])), (35, (.iload_n 2, 1, 0, 0, 0, [])), (36, (.ishr, 1, 0, 0, 0, [])), (37, (.i2b, 1, 0, 0, 0, [])), (38, (.bastore, 1, 0, 0, 0, [])), (39, (.aload_n 0, 1, 0, 0, 0, []))], [(40, (.dup, 1, 0, 0, 0, [])), (41, (.getfield 95, 3, 10, 15, 0, [(2, 186)])), (44, (.iconst 1, 1, 0, 0, 0, [])), (45, (.iadd, 1, 0, 0, 0, [])), (46, (.putfield 95, 3, 10, 15, 0, [(2, 186)]))], [(49, (.iinc 2 (-8), 3, 0, 0, 0, [])), (52, (.goto (-49), 3, 3, 0, 0, [])), (55, (.return_, 1, 0, 0, 0, []))]])
/-- X10 end -/
def pd_104 : pm_D := ((yX10_end, cX10_end, 2, (some .int), 1, 10), [(3, 0), (1, 1)], [[(0, (.iload_n 1, 1, 0, 0, 0, [])), (1, (.ifCond .lt 11, 3, 12, 0, 0, [])), (4, (.iload_n 1, 1, 0, 0, 0, [])), (5, (.aload_n 0, 1, 0, 0, 0, [])), (6, (.getfield 95, 3, 10, 15, 0, [(2, 186)]))], [(9, (.if_icmp .le 5, 3, 14, 0, 0, [])), (12, (.iconst (-1), 1, 0, 0, 0, [])), (13, (.ireturn, 1, 0, 0, 0, [])), (14, (.aload_n 0, 1, 0, 0, 0, [])), (15, (.iload_n 1, 1, 0, 0, 0, []))], [(16, (.putfield 95, 3, 10, 15, 0, [(2, 186)])), (19, (.iload_n 1, 1, 0, 0, 0, [])), (20, (.ireturn, 1, 0, 0, 0, []))]])
/-- X10 ground -/
def pd_105 : pm_D := ((yX10_ground, cX10_ground, 4, (some .int), 0, 10), [(3, 4), (1, 1)], [[(0, (.aload_n 0, 1, 0, 0, 0, [])), (1, (.getfield 16, 3, 10, 1, 3, [(2, 172)])), (4, (.aload_n 0, 1, 0, 0, 0, [])), (5, (.getfield 9, 3, 10, 0, 3, [(2, 171)]))], [(8, (.aload_n 0, 1, 0, 0, 0, [])), (9, (.getfield 95, 3, 10, 15, 0, [(2, 186)])), (12, (.aload_n 0, 1, 0, 0, 0, [])), (13, (.getfield 88, 3, 10, 14, 3, [(2, 185)]))], [(16, (.invokevirtual 102, 3, 32, 0, 0, [(3, 5), (3, 6), (3, 7)])), (19, (.istore_n 1, 1, 0, 0, 0, [])), (20, (.aload_n 0, 1, 0, 0, 0, [])), (21, (.iconst 0, 1, 0, 0, 0, [])), (22, (.putfield 95, 3, 10, 15, 0, [(2, 186)]))], [(25, (.aload_n 0, 1, 0, 0, 0, [])), (26, (.aload_n 0, 1, 0, 0, 0, [])), (27, (.getfield 16, 3, 10, 1, 3, [(2, 172)])), (30, (.getfield 106, 3, 4, 0, 0, [(1, 29)]))], [(33, (.putfield 109, 3, 10, 16, 0, [(2, 187)])), (36, (.aload_n 0, 1, 0, 0, 0, [])), (37, (.aload_n 0, 1, 0, 0, 0, [])), (38, (.getfield 16, 3, 10, 1, 3, [(2, 172)]))], [(41, (.getfield 110, 3, 4, 1, 0, [(1, 31)])), (44, (.putfield 91, 3, 10, 17, 0, [(2, 188)])), (47, (.iload_n 1, 1, 0, 0, 0, []))], [(48, (.ifCond .ne 5, 3, 53, 0, 0, [])), (51, (.iconst (-1), 1, 0, 0, 0, [])), (52, (.ireturn, 1, 0, 0, 0, [])), (53, (.aload_n 0, 1, 0, 0, 0, [])), (54, (.getfield 84, 3, 10, 13, 3, [(2, 184)]))], [(57, (.astore_n 2, 1, 0, 0, 0, [])), (58, (.aload_n 0, 1, 0, 0, 0, [])), (59, (.aload_n 0, 1, 0, 0, 0, [])), (60, (.getfield 88, 3, 10, 14, 3, [(2, 185)])), (63, (.putfield 84, 3, 10, 13, 3, [(2, 184)]))], [(66, (.aload_n 0, 1, 0, 0, 0, [])), (67, (.aload_n 2, 1, 0, 0, 0, [])), (68, (.putfield 88, 3, 10, 14, 3, [(2, 185)])), (71, (.aload_n 0, 1, 0, 0, 0, []))], [(72, (.getfield 30, 3, 10, 3, 3, [(2, 174)])), (75, (.aload_n 0, 1, 0, 0, 0, [])), (76, (.getfield 84, 3, 10, 13, 3, [(2, 184)])), (79, (.aload_n 0, 1, 0, 0, 0, []))], [(80, (.getfield 23, 3, 10, 2, 3, [(2, 173)])), (83, (.invokevirtual 111, 3, 21, 0, 0, [(3, 128), (3, 129), (3, 130)])), (86, (.aload_n 0, 1, 0, 0, 0, [])), (87, (.getfield 51, 3, 10, 6, 3, [(2, 177)]))], [(90, (.aconst_null, 1, 0, 0, 0, [])), (91, (.invokevirtual 115, 3, 4, 0, 0, [(3, 220), (3, 221), (3, 222)])), (94, (.iconst 0, 1, 0, 0, 0, [])), (95, (.istore_n 3, 1, 0, 0, 0, []))], [(96, (.iload_n 3, 1, 0, 0, 0, [])), (97, (.iconst 3, 1, 0, 0, 0, [])), (98, (.if_icmp .ge 16, 3, 114, 0, 0, [])), (101, (.aload_n 0, 1, 0, 0, 0, [])), (102, (.getfield 67, 3, 10, 9, 3, [(2, 180)]))], [(105, (.iload_n 3, 1, 0, 0, 0, [])), (106, (.iconst 0, 1, 0, 0, 0, [])), (107, (.bastore, 1, 0, 0, 0, [])), (108, (.iinc 3 1, 3, 0, 0, 0, [])), (111, (.goto (-15), 3, 96, 0, 0, []))], [(114, (.aload_n 0, 1, 0, 0, 0, [])), (115, (.getfield 58, 3, 10, 7, 3, [(2, 178)])), (118, (.invokevirtual 119, 3, 62, 0, 0, [(3, 228), (3, 229), (3, 230)]))], [(121, (.aload_n 0, 1, 0, 0, 0, [])), (122, (.iconst 0, 1, 0, 0, 0, [])), (123, (.putfield 122, 3, 10, 18, 2, [(2, 189)])), (126, (.aload_n 0, 1, 0, 0, 0, [])), (127, (.getfield 84, 3, 10, 13, 3, [(2, 184)]))], [(130, (.getfield 126, 3, 8, 3, 0, [(2, 98)])), (133, (.ireturn, 1, 0, 0, 0, []))]])
/-- X10 fault -/
def pd_106 : pm_D := ((yX10_fault, cX10_fault, 2, (some .int), 1, 10), [(3, 235), (1, 1)], [[(0, (.iload_n 1, 1, 0, 0, 0, [])), (1, (.ifCond .ne 8, 3, 9, 0, 0, [])), (4, (.aload_n 0, 1, 0, 0, 0, [])), (5, (.getfield 109, 3, 10, 16, 0, [(2, 187)]))], [(8, (.ireturn, 1, 0, 0, 0, [])), (9, (.iload_n 1, 1, 0, 0, 0, [])), (10, (.iconst 1, 1, 0, 0, 0, [])), (11, (.if_icmp .ne 10, 3, 21, 0, 0, [])), (14, (.aload_n 0, 1, 0, 0, 0, [])), (15, (.getfield 91, 3, 10, 17, 0, [(2, 188)]))], [(18, (.goto 4, 3, 22, 0, 0, [])), (21, (.iconst (-1), 1, 0, 0, 0, [])), (22, (.ireturn, 1, 0, 0, 0, []))]])
/-- X10 point -/
def pd_107 : pm_D := ((yX10_point, cX10_point, 3, (some .int), 2, 10), [(3, 239), (1, 1)], [[(0, (.iload_n 1, 1, 0, 0, 0, [])), (1, (.ifCond .lt 23, 3, 24, 0, 0, [])), (4, (.iload_n 1, 1, 0, 0, 0, [])), (5, (.aload_n 0, 1, 0, 0, 0, [])), (6, (.getfield 84, 3, 10, 13, 3, [(2, 184)]))], [(9, (.getfield 129, 3, 8, 0, 0, [(2, 86)])), (12, (.if_icmp .ge 12, 3, 24, 0, 0, [])), (15, (.iload_n 2, 1, 0, 0, 0, []))], [(16, (.ifCond .lt 8, 3, 24, 0, 0, [])), (19, (.iload_n 2, 1, 0, 0, 0, [])), (20, (.iconst 2, 1, 0, 0, 0, [])), (21, (.if_icmp .le 5, 3, 26, 0, 0, []))], [(24, (.iconst (-1), 1, 0, 0, 0, [])), (25, (.ireturn, 1, 0, 0, 0, [])), (26, (.aload_n 0, 1, 0, 0, 0, [])), (27, (.getfield 84, 3, 10, 13, 3, [(2, 184)])), (30, (.getfield 132, 3, 8, 7, 3, [(2, 112)]))], [(33, (.iconst 3, 1, 0, 0, 0, [])), (34, (.iload_n 1, 1, 0, 0, 0, [])), (35, (.imul, 1, 0, 0, 0, [])), (36, (.iload_n 2, 1, 0, 0, 0, [])), (37, (.iadd, 1, 0, 0, 0, [])), (38, (.iaload, 1, 0, 0, 0, [])), (39, (.ireturn, 1, 0, 0, 0, []))]])
/-- X10 number -/
def pd_108 : pm_D := ((yX10_number, cX10_number, 4, (some .long), 2, 10), [(4, 3), (1, 1)], [[(0, (.aload_n 0, 1, 0, 0, 0, [])), (1, (.iload_n 1, 1, 0, 0, 0, [])), (2, (.invokevirtual 136, 3, 135, 0, 0, [(4, 4), (4, 6), (0, 32)])), (5, (.astore_n 3, 1, 0, 0, 0, [])), (6, (.aload_n 3, 1, 0, 0, 0, [])), (7, (.ifnull 11, 3, 18, 0, 0, []))], [(10, (.aload_n 0, 1, 0, 0, 0, [])), (11, (.iload_n 2, 1, 0, 0, 0, [])), (12, (.invokevirtual 140, 3, 133, 0, 0, [(4, 13), (4, 15), (0, 34)])), (15, (.ifCond .ne 7, 3, 22, 0, 0, []))], [(18, (.ldc2_w 144, 3, 0, 0, (-2), [(4, 17)])), (21, (.lreturn, 1, 0, 0, 0, [])), (22, (.aload_n 3, 1, 0, 0, 0, [])), (23, (.iload_n 2, 1, 0, 0, 0, []))], [(24, (.laload, 1, 0, 0, 0, [])), (25, (.lreturn, 1, 0, 0, 0, []))]])
/-- X10 loops -/
def pd_109 : pm_D := ((yX10_loops, cX10_loops, 4, (some .int), 2, 10), [(4, 21), (1, 1)], [[(0, (.aload_n 0, 1, 0, 0, 0, [])), (1, (.iload_n 1, 1, 0, 0, 0, [])), (2, (.invokevirtual 136, 3, 135, 0, 0, [(4, 4), (4, 6), (0, 32)])), (5, (.astore_n 3, 1, 0, 0, 0, [])), (6, (.aload_n 3, 1, 0, 0, 0, [])), (7, (.ifnull 12, 3, 19, 0, 0, []))], [(10, (.iload_n 2, 1, 0, 0, 0, [])), (11, (.ifCond .lt 8, 3, 19, 0, 0, [])), (14, (.iload_n 2, 1, 0, 0, 0, [])), (15, (.iconst 2, 1, 0, 0, 0, []))], [(16, (.if_icmp .le 5, 3, 21, 0, 0, [])), (19, (.iconst (-1), 1, 0, 0, 0, [])), (20, (.ireturn, 1, 0, 0, 0, [])), (21, (.aload_n 0, 1, 0, 0, 0, [])), (22, (.getfield 23, 3, 10, 2, 3, [(2, 173)]))], [(25, (.aload_n 0, 1, 0, 0, 0, [])), (26, (.getfield 84, 3, 10, 13, 3, [(2, 184)])), (29, (.aload_n 3, 1, 0, 0, 0, [])), (30, (.invokevirtual 146, 3, 86, 0, 0, [(4, 22), (3, 137), (3, 138)]))], [(33, (.ifCond .ne 6, 3, 39, 0, 0, [])), (36, (.bipush (-2), 2, 0, 0, 0, [])), (38, (.ireturn, 1, 0, 0, 0, [])), (39, (.aload_n 0, 1, 0, 0, 0, []))], [(40, (.getfield 23, 3, 10, 2, 3, [(2, 173)])), (43, (.invokevirtual 150, 3, 93, 0, 0, [(4, 23), (3, 145), (3, 146)])), (46, (.iload_n 2, 1, 0, 0, 0, [])), (47, (.ifCond .ne 11, 3, 58, 0, 0, []))], [(50, (.aload_n 0, 1, 0, 0, 0, [])), (51, (.getfield 23, 3, 10, 2, 3, [(2, 173)])), (54, (.getfield 153, 3, 9, 0, 0, [(1, 72)]))], [(57, (.ireturn, 1, 0, 0, 0, [])), (58, (.iload_n 2, 1, 0, 0, 0, [])), (59, (.iconst 1, 1, 0, 0, 0, [])), (60, (.if_icmp .ne 11, 3, 71, 0, 0, [])), (63, (.aload_n 0, 1, 0, 0, 0, []))], [(64, (.getfield 23, 3, 10, 2, 3, [(2, 173)])), (67, (.getfield 156, 3, 9, 1, 0, [(1, 74)])), (70, (.ireturn, 1, 0, 0, 0, [])), (71, (.aload_n 0, 1, 0, 0, 0, []))], [(72, (.getfield 23, 3, 10, 2, 3, [(2, 173)])), (75, (.invokevirtual 159, 3, 96, 0, 0, [(4, 24), (3, 181), (3, 182)])), (78, (.ifCond .eq 7, 3, 85, 0, 0, []))], [(81, (.iconst 1, 1, 0, 0, 0, [])), (82, (.goto 4, 3, 86, 0, 0, [])), (85, (.iconst 0, 1, 0, 0, 0, [])), (86, (.ireturn, 1, 0, 0, 0, []))]])
/-- X10 traced -/
def pd_110 : pm_D := ((yX10_traced, cX10_traced, 4, (some .int), 2, 10), [(4, 28), (1, 1)], [[(0, (.aload_n 0, 1, 0, 0, 0, [])), (1, (.iload_n 1, 1, 0, 0, 0, [])), (2, (.invokevirtual 136, 3, 135, 0, 0, [(4, 4), (4, 6), (0, 32)])), (5, (.astore_n 3, 1, 0, 0, 0, [])), (6, (.aload_n 3, 1, 0, 0, 0, [])), (7, (.ifnull 7, 3, 14, 0, 0, []))], [(10, (.iload_n 2, 1, 0, 0, 0, [])), (11, (.ifCond .ge 5, 3, 16, 0, 0, [])), (14, (.iconst (-1), 1, 0, 0, 0, [])), (15, (.ireturn, 1, 0, 0, 0, []))], [(16, (.aload_n 0, 1, 0, 0, 0, [])), (17, (.getfield 23, 3, 10, 2, 3, [(2, 173)])), (20, (.aload_n 0, 1, 0, 0, 0, [])), (21, (.getfield 84, 3, 10, 13, 3, [(2, 184)]))], [(24, (.aload_n 3, 1, 0, 0, 0, [])), (25, (.invokevirtual 146, 3, 86, 0, 0, [(4, 22), (3, 137), (3, 138)])), (28, (.ifCond .ne 6, 3, 34, 0, 0, [])), (31, (.bipush (-2), 2, 0, 0, 0, []))], [(33, (.ireturn, 1, 0, 0, 0, [])), (34, (.aload_n 0, 1, 0, 0, 0, [])), (35, (.getfield 23, 3, 10, 2, 3, [(2, 173)])), (38, (.iload_n 2, 1, 0, 0, 0, [])), (39, (.invokevirtual 163, 3, 97, 0, 0, [(4, 29), (4, 30), (4, 31)]))], [(42, (.ireturn, 1, 0, 0, 0, []))]])
/-- X10 flips -/
def pd_111 : pm_D := ((yX10_flips, cX10_flips, 3, (some .int), 1, 10), [(4, 40), (1, 1)], [[(0, (.aload_n 0, 1, 0, 0, 0, [])), (1, (.getfield 30, 3, 10, 3, 3, [(2, 174)])), (4, (.iload_n 1, 1, 0, 0, 0, [])), (5, (.invokevirtual 167, 3, 22, 0, 0, [(4, 41), (4, 42), (4, 43)]))], [(8, (.astore_n 2, 1, 0, 0, 0, [])), (9, (.aload_n 2, 1, 0, 0, 0, [])), (10, (.ifnull 10, 3, 20, 0, 0, [])), (13, (.aload_n 2, 1, 0, 0, 0, [])), (14, (.getfield 171, 3, 5, 0, 0, [(1, 173)]))], [(17, (.ifCond .ne 5, 3, 22, 0, 0, [])), (20, (.iconst (-1), 1, 0, 0, 0, [])), (21, (.ireturn, 1, 0, 0, 0, [])), (22, (.aload_n 2, 1, 0, 0, 0, [])), (23, (.getfield 171, 3, 5, 0, 0, [(1, 173)]))], [(26, (.iconst 1, 1, 0, 0, 0, [])), (27, (.if_icmp .ne 8, 3, 35, 0, 0, [])), (30, (.bipush (-2), 2, 0, 0, 0, []))], [(32, (.goto 7, 3, 39, 0, 0, [])), (35, (.aload_n 2, 1, 0, 0, 0, [])), (36, (.getfield 176, 3, 5, 1, 0, [(1, 176)])), (39, (.ireturn, 1, 0, 0, 0, []))]])
/-- X10 flip -/
def pd_112 : pm_D := ((yX10_flip, cX10_flip, 4, (some .int), 2, 10), [(4, 48), (1, 1)], [[(0, (.aload_n 0, 1, 0, 0, 0, [])), (1, (.getfield 30, 3, 10, 3, 3, [(2, 174)])), (4, (.iload_n 1, 1, 0, 0, 0, [])), (5, (.invokevirtual 167, 3, 22, 0, 0, [(4, 41), (4, 42), (4, 43)]))], [(8, (.astore_n 3, 1, 0, 0, 0, [])), (9, (.aload_n 3, 1, 0, 0, 0, [])), (10, (.ifnull 23, 3, 33, 0, 0, [])), (13, (.aload_n 3, 1, 0, 0, 0, [])), (14, (.getfield 171, 3, 5, 0, 0, [(1, 173)]))], [(17, (.iconst 2, 1, 0, 0, 0, [])), (18, (.if_icmp .ne 15, 3, 33, 0, 0, [])), (21, (.iload_n 2, 1, 0, 0, 0, [])), (22, (.ifCond .lt 11, 3, 33, 0, 0, []))], [(25, (.iload_n 2, 1, 0, 0, 0, [])), (26, (.aload_n 3, 1, 0, 0, 0, [])), (27, (.getfield 176, 3, 5, 1, 0, [(1, 176)])), (30, (.if_icmp .lt 5, 3, 35, 0, 0, []))], [(33, (.iconst (-1), 1, 0, 0, 0, [])), (34, (.ireturn, 1, 0, 0, 0, [])), (35, (.aload_n 3, 1, 0, 0, 0, [])), (36, (.iload_n 2, 1, 0, 0, 0, [])), (37, (.invokevirtual 179, 3, 51, 0, 0, [(4, 49), (4, 50), (4, 51)]))], [(40, (.ireturn, 1, 0, 0, 0, []))]])
/-- X10 cross -/
def pd_113 : pm_D := ((yX10_cross, cX10_cross, 4, (some .long), 2, 10), [(4, 56), (1, 1)], [[(0, (.aload_n 0, 1, 0, 0, 0, [])), (1, (.iload_n 1, 1, 0, 0, 0, [])), (2, (.invokevirtual 136, 3, 135, 0, 0, [(4, 4), (4, 6), (0, 32)])), (5, (.astore_n 3, 1, 0, 0, 0, [])), (6, (.aload_n 3, 1, 0, 0, 0, [])), (7, (.ifnull 14, 3, 21, 0, 0, []))], [(10, (.aload_n 0, 1, 0, 0, 0, [])), (11, (.getfield 30, 3, 10, 3, 3, [(2, 174)])), (14, (.iload_n 2, 1, 0, 0, 0, [])), (15, (.invokevirtual 182, 3, 23, 0, 0, [(4, 57), (4, 58), (4, 59)]))], [(18, (.ifCond .ne 7, 3, 25, 0, 0, [])), (21, (.ldc2_w 185, 3, 0, 0, (-1), [(4, 62)]))], [(24, (.lreturn, 1, 0, 0, 0, [])), (25, (.aload_n 3, 1, 0, 0, 0, [])), (26, (.aload_n 0, 1, 0, 0, 0, [])), (27, (.getfield 74, 3, 10, 11, 3, [(2, 182)])), (30, (.invokestatic 187, 3, 140, 0, 0, [(4, 63), (3, 185)]))], [(33, (.aload_n 0, 1, 0, 0, 0, [])), (34, (.getfield 30, 3, 10, 3, 3, [(2, 174)])), (37, (.aload_n 0, 1, 0, 0, 0, [])), (38, (.getfield 74, 3, 10, 11, 3, [(2, 182)]))], [(41, (.iload_n 2, 1, 0, 0, 0, [])), (42, (.invokevirtual 191, 3, 25, 0, 0, [(4, 64), (4, 65), (4, 66)])), (45, (.lreturn, 1, 0, 0, 0, []))]])
/-- X10 across -/
def pd_114 : pm_D := ((yX10_across, cX10_across, 5, (some .int), 2, 10), [(4, 90), (1, 1)], [[(0, (.aload_n 0, 1, 0, 0, 0, [])), (1, (.getfield 30, 3, 10, 3, 3, [(2, 174)])), (4, (.iload_n 1, 1, 0, 0, 0, [])), (5, (.invokevirtual 167, 3, 22, 0, 0, [(4, 41), (4, 42), (4, 43)]))], [(8, (.astore_n 3, 1, 0, 0, 0, [])), (9, (.aload_n 0, 1, 0, 0, 0, [])), (10, (.getfield 30, 3, 10, 3, 3, [(2, 174)])), (13, (.iload_n 2, 1, 0, 0, 0, [])), (14, (.invokevirtual 167, 3, 22, 0, 0, [(4, 41), (4, 42), (4, 43)]))], [(17, (.astore 4, 2, 0, 0, 0, [])), (19, (.aload_n 3, 1, 0, 0, 0, [])), (20, (.ifnull 23, 3, 43, 0, 0, [])), (23, (.aload 4, 2, 0, 0, 0, []))], [(25, (.ifnull 18, 3, 43, 0, 0, [])), (28, (.aload_n 3, 1, 0, 0, 0, [])), (29, (.getfield 171, 3, 5, 0, 0, [(1, 173)]))], [(32, (.ifCond .eq 11, 3, 43, 0, 0, [])), (35, (.aload 4, 2, 0, 0, 0, [])), (37, (.getfield 171, 3, 5, 0, 0, [(1, 173)]))], [(40, (.ifCond .ne 6, 3, 46, 0, 0, [])), (43, (.ldc 195, 2, 0, 0, (-1000000), [(4, 91)])), (45, (.ireturn, 1, 0, 0, 0, [])), (46, (.aload_n 0, 1, 0, 0, 0, [])), (47, (.getfield 23, 3, 10, 2, 3, [(2, 173)]))], [(50, (.aload_n 0, 1, 0, 0, 0, [])), (51, (.getfield 84, 3, 10, 13, 3, [(2, 184)])), (54, (.aload_n 0, 1, 0, 0, 0, [])), (55, (.getfield 84, 3, 10, 13, 3, [(2, 184)]))], [(58, (.getfield 196, 3, 8, 11, 3, [(2, 121)])), (61, (.iload_n 1, 1, 0, 0, 0, [])), (62, (.aaload, 1, 0, 0, 0, [])), (63, (.aload_n 0, 1, 0, 0, 0, []))], [(64, (.getfield 84, 3, 10, 13, 3, [(2, 184)])), (67, (.getfield 196, 3, 8, 11, 3, [(2, 121)])), (70, (.iload_n 2, 1, 0, 0, 0, [])), (71, (.aaload, 1, 0, 0, 0, []))], [(72, (.invokevirtual 199, 3, 99, 0, 0, [(4, 92), (4, 93), (4, 94)])), (75, (.ireturn, 1, 0, 0, 0, []))]])
/-- X10 kept -/
def pd_115 : pm_D := ((yX10_kept, cX10_kept, 4, (some .int), 1, 10), [(4, 105), (1, 1)], [[(0, (.aload_n 0, 1, 0, 0, 0, [])), (1, (.getfield 30, 3, 10, 3, 3, [(2, 174)])), (4, (.iload_n 1, 1, 0, 0, 0, [])), (5, (.invokevirtual 203, 3, 24, 0, 0, [(4, 106), (4, 107), (4, 108)]))], [(8, (.ifCond .ne 5, 3, 13, 0, 0, [])), (11, (.iconst (-1), 1, 0, 0, 0, [])), (12, (.ireturn, 1, 0, 0, 0, [])), (13, (.iconst 0, 1, 0, 0, 0, [])), (14, (.istore_n 2, 1, 0, 0, 0, [])), (15, (.iconst 0, 1, 0, 0, 0, []))], [(16, (.istore_n 3, 1, 0, 0, 0, [])), (17, (.iload_n 3, 1, 0, 0, 0, [])), (18, (.aload_n 0, 1, 0, 0, 0, [])), (19, (.getfield 84, 3, 10, 13, 3, [(2, 184)])), (22, (.getfield 126, 3, 8, 3, 0, [(2, 98)]))], [(25, (.if_icmp .ge 32, 3, 57, 0, 0, [])), (28, (.aload_n 0, 1, 0, 0, 0, [])), (29, (.iload_n 1, 1, 0, 0, 0, [])), (30, (.aload_n 0, 1, 0, 0, 0, [])), (31, (.getfield 84, 3, 10, 13, 3, [(2, 184)]))], [(34, (.getfield 196, 3, 8, 11, 3, [(2, 121)])), (37, (.iload_n 3, 1, 0, 0, 0, [])), (38, (.aaload, 1, 0, 0, 0, [])), (39, (.invokevirtual 206, 3, 136, 0, 0, [(4, 111), (4, 113), (0, 39)]))], [(42, (.ifCond .eq 9, 3, 51, 0, 0, [])), (45, (.iload_n 2, 1, 0, 0, 0, [])), (46, (.iconst 1, 1, 0, 0, 0, [])), (47, (.iload_n 3, 1, 0, 0, 0, []))], [(48, (.ishl, 1, 0, 0, 0, [])), (49, (.ior, 1, 0, 0, 0, [])), (50, (.istore_n 2, 1, 0, 0, 0, [])), (51, (.iinc 3 1, 3, 0, 0, 0, [])), (54, (.goto (-37), 3, 17, 0, 0, []))], [(57, (.iload_n 2, 1, 0, 0, 0, [])), (58, (.ireturn, 1, 0, 0, 0, []))]])
/-- X10 alike -/
def pd_116 : pm_D := ((yX10_alike, cX10_alike, 6, (some .int), 2, 10), [(4, 140), (1, 1)], [[(0, (.aload_n 0, 1, 0, 0, 0, [])), (1, (.getfield 30, 3, 10, 3, 3, [(2, 174)])), (4, (.iload_n 1, 1, 0, 0, 0, [])), (5, (.invokevirtual 203, 3, 24, 0, 0, [(4, 106), (4, 107), (4, 108)]))], [(8, (.ifCond .eq 14, 3, 22, 0, 0, [])), (11, (.aload_n 0, 1, 0, 0, 0, [])), (12, (.getfield 30, 3, 10, 3, 3, [(2, 174)])), (15, (.iload_n 2, 1, 0, 0, 0, []))], [(16, (.invokevirtual 203, 3, 24, 0, 0, [(4, 106), (4, 107), (4, 108)])), (19, (.ifCond .ne 5, 3, 24, 0, 0, [])), (22, (.iconst (-1), 1, 0, 0, 0, [])), (23, (.ireturn, 1, 0, 0, 0, []))], [(24, (.iconst 0, 1, 0, 0, 0, [])), (25, (.istore_n 3, 1, 0, 0, 0, [])), (26, (.iload_n 3, 1, 0, 0, 0, [])), (27, (.aload_n 0, 1, 0, 0, 0, [])), (28, (.getfield 84, 3, 10, 13, 3, [(2, 184)])), (31, (.getfield 126, 3, 8, 3, 0, [(2, 98)]))], [(34, (.if_icmp .ge 105, 3, 139, 0, 0, [])), (37, (.aload_n 0, 1, 0, 0, 0, [])), (38, (.getfield 84, 3, 10, 13, 3, [(2, 184)]))], [(41, (.getfield 196, 3, 8, 11, 3, [(2, 121)])), (44, (.iload_n 3, 1, 0, 0, 0, [])), (45, (.aaload, 1, 0, 0, 0, [])), (46, (.aload_n 0, 1, 0, 0, 0, [])), (47, (.getfield 74, 3, 10, 11, 3, [(2, 182)]))], [(50, (.invokestatic 187, 3, 140, 0, 0, [(4, 63), (3, 185)])), (53, (.aload_n 0, 1, 0, 0, 0, [])), (54, (.getfield 84, 3, 10, 13, 3, [(2, 184)]))], [(57, (.getfield 196, 3, 8, 11, 3, [(2, 121)])), (60, (.iload_n 3, 1, 0, 0, 0, [])), (61, (.aaload, 1, 0, 0, 0, [])), (62, (.aload_n 0, 1, 0, 0, 0, [])), (63, (.getfield 71, 3, 10, 10, 3, [(2, 181)]))], [(66, (.iload_n 3, 1, 0, 0, 0, [])), (67, (.aaload, 1, 0, 0, 0, [])), (68, (.invokestatic 187, 3, 140, 0, 0, [(4, 63), (3, 185)])), (71, (.aload_n 0, 1, 0, 0, 0, []))], [(72, (.getfield 30, 3, 10, 3, 3, [(2, 174)])), (75, (.aload_n 0, 1, 0, 0, 0, [])), (76, (.getfield 74, 3, 10, 11, 3, [(2, 182)])), (79, (.iload_n 1, 1, 0, 0, 0, []))], [(80, (.aconst_null, 1, 0, 0, 0, [])), (81, (.invokevirtual 210, 3, 26, 0, 0, [(4, 115), (4, 116), (4, 117)])), (84, (.istore 4, 2, 0, 0, 0, [])), (86, (.aload_n 0, 1, 0, 0, 0, [])), (87, (.getfield 30, 3, 10, 3, 3, [(2, 174)]))], [(90, (.aload_n 0, 1, 0, 0, 0, [])), (91, (.getfield 71, 3, 10, 10, 3, [(2, 181)])), (94, (.iload_n 3, 1, 0, 0, 0, [])), (95, (.aaload, 1, 0, 0, 0, []))], [(96, (.iload_n 2, 1, 0, 0, 0, [])), (97, (.aconst_null, 1, 0, 0, 0, [])), (98, (.invokevirtual 210, 3, 26, 0, 0, [(4, 115), (4, 116), (4, 117)])), (101, (.istore 5, 2, 0, 0, 0, [])), (103, (.iload 4, 2, 0, 0, 0, []))], [(105, (.iload 5, 2, 0, 0, 0, [])), (107, (.if_icmp .ne 24, 3, 131, 0, 0, [])), (110, (.iload 4, 2, 0, 0, 0, []))], [(112, (.ifCond .eq 21, 3, 133, 0, 0, [])), (115, (.aload_n 0, 1, 0, 0, 0, [])), (116, (.getfield 74, 3, 10, 11, 3, [(2, 182)])), (119, (.aload_n 0, 1, 0, 0, 0, []))], [(120, (.getfield 71, 3, 10, 10, 3, [(2, 181)])), (123, (.iload_n 3, 1, 0, 0, 0, [])), (124, (.aaload, 1, 0, 0, 0, [])), (125, (.invokestatic 214, 3, 141, 0, 0, [(4, 134), (4, 135)]))], [(128, (.ifCond .ne 5, 3, 133, 0, 0, [])), (131, (.iconst 0, 1, 0, 0, 0, [])), (132, (.ireturn, 1, 0, 0, 0, [])), (133, (.iinc 3 1, 3, 0, 0, 0, []))], [(136, (.goto (-110), 3, 26, 0, 0, [])), (139, (.iconst 1, 1, 0, 0, 0, [])), (140, (.ireturn, 1, 0, 0, 0, []))]])
/-- X10 order -/
def pd_117 : pm_D := ((yX10_order, cX10_order, 5, (some .int), 1, 10), [(4, 144), (1, 1)], [[(0, (.aload_n 0, 1, 0, 0, 0, [])), (1, (.getfield 30, 3, 10, 3, 3, [(2, 174)])), (4, (.iload_n 1, 1, 0, 0, 0, [])), (5, (.invokevirtual 203, 3, 24, 0, 0, [(4, 106), (4, 107), (4, 108)]))], [(8, (.ifCond .ne 5, 3, 13, 0, 0, [])), (11, (.iconst (-1), 1, 0, 0, 0, [])), (12, (.ireturn, 1, 0, 0, 0, [])), (13, (.iconst 0, 1, 0, 0, 0, [])), (14, (.istore_n 2, 1, 0, 0, 0, [])), (15, (.iload_n 2, 1, 0, 0, 0, []))], [(16, (.aload_n 0, 1, 0, 0, 0, [])), (17, (.getfield 84, 3, 10, 13, 3, [(2, 184)])), (20, (.getfield 126, 3, 8, 3, 0, [(2, 98)])), (23, (.if_icmp .ge 27, 3, 50, 0, 0, []))], [(26, (.aload_n 0, 1, 0, 0, 0, [])), (27, (.getfield 84, 3, 10, 13, 3, [(2, 184)])), (30, (.getfield 196, 3, 8, 11, 3, [(2, 121)]))], [(33, (.iload_n 2, 1, 0, 0, 0, [])), (34, (.aaload, 1, 0, 0, 0, [])), (35, (.aload_n 0, 1, 0, 0, 0, [])), (36, (.getfield 71, 3, 10, 10, 3, [(2, 181)])), (39, (.iload_n 2, 1, 0, 0, 0, []))], [(40, (.aaload, 1, 0, 0, 0, [])), (41, (.invokestatic 187, 3, 140, 0, 0, [(4, 63), (3, 185)])), (44, (.iinc 2 1, 3, 0, 0, 0, [])), (47, (.goto (-32), 3, 15, 0, 0, []))], [(50, (.iconst 1, 1, 0, 0, 0, [])), (51, (.istore_n 2, 1, 0, 0, 0, [])), (52, (.iload_n 2, 1, 0, 0, 0, [])), (53, (.bipush 40, 2, 0, 0, 0, [])), (55, (.if_icmp .gt 92, 3, 147, 0, 0, []))], [(58, (.iconst 1, 1, 0, 0, 0, [])), (59, (.istore_n 3, 1, 0, 0, 0, [])), (60, (.iconst 0, 1, 0, 0, 0, [])), (61, (.istore 4, 2, 0, 0, 0, [])), (63, (.iload 4, 2, 0, 0, 0, []))], [(65, (.aload_n 0, 1, 0, 0, 0, [])), (66, (.getfield 84, 3, 10, 13, 3, [(2, 184)])), (69, (.getfield 126, 3, 8, 3, 0, [(2, 98)]))], [(72, (.if_icmp .ge 63, 3, 135, 0, 0, [])), (75, (.aload_n 0, 1, 0, 0, 0, [])), (76, (.getfield 30, 3, 10, 3, 3, [(2, 174)])), (79, (.aload_n 0, 1, 0, 0, 0, []))], [(80, (.getfield 71, 3, 10, 10, 3, [(2, 181)])), (83, (.iload 4, 2, 0, 0, 0, [])), (85, (.aaload, 1, 0, 0, 0, [])), (86, (.iload_n 1, 1, 0, 0, 0, [])), (87, (.aconst_null, 1, 0, 0, 0, []))], [(88, (.invokevirtual 210, 3, 26, 0, 0, [(4, 115), (4, 116), (4, 117)])), (91, (.ifCond .ne 5, 3, 96, 0, 0, [])), (94, (.iconst 0, 1, 0, 0, 0, [])), (95, (.ireturn, 1, 0, 0, 0, []))], [(96, (.iload_n 3, 1, 0, 0, 0, [])), (97, (.ifCond .eq 30, 3, 127, 0, 0, [])), (100, (.aload_n 0, 1, 0, 0, 0, [])), (101, (.getfield 71, 3, 10, 10, 3, [(2, 181)]))], [(104, (.iload 4, 2, 0, 0, 0, [])), (106, (.aaload, 1, 0, 0, 0, [])), (107, (.aload_n 0, 1, 0, 0, 0, [])), (108, (.getfield 84, 3, 10, 13, 3, [(2, 184)])), (111, (.getfield 196, 3, 8, 11, 3, [(2, 121)]))], [(114, (.iload 4, 2, 0, 0, 0, [])), (116, (.aaload, 1, 0, 0, 0, [])), (117, (.invokestatic 214, 3, 141, 0, 0, [(4, 134), (4, 135)]))], [(120, (.ifCond .eq 7, 3, 127, 0, 0, [])), (123, (.iconst 1, 1, 0, 0, 0, [])), (124, (.goto 4, 3, 128, 0, 0, [])), (127, (.iconst 0, 1, 0, 0, 0, []))], [(128, (.istore_n 3, 1, 0, 0, 0, [])), (129, (.iinc 4 1, 3, 0, 0, 0, [])), (132, (.goto (-69), 3, 63, 0, 0, [])), (135, (.iload_n 3, 1, 0, 0, 0, []))], [(136, (.ifCond .eq 5, 3, 141, 0, 0, [])), (139, (.iload_n 2, 1, 0, 0, 0, [])), (140, (.ireturn, 1, 0, 0, 0, [])), (141, (.iinc 2 1, 3, 0, 0, 0, []))], [(144, (.goto (-92), 3, 52, 0, 0, [])), (147, (.iconst 0, 1, 0, 0, 0, [])), (148, (.ireturn, 1, 0, 0, 0, []))]])
/-- X10 stretch -/
def pd_118 : pm_D := ((yX10_stretch, cX10_stretch, 6, (some .long), 3, 10), [(4, 148), (1, 1)], [[(0, (.aload_n 0, 1, 0, 0, 0, [])), (1, (.iload_n 1, 1, 0, 0, 0, [])), (2, (.iload_n 2, 1, 0, 0, 0, [])), (3, (.invokevirtual 218, 3, 138, 0, 0, [(4, 149), (4, 151), (0, 41)])), (6, (.ifCond .eq 13, 3, 19, 0, 0, []))], [(9, (.iload_n 3, 1, 0, 0, 0, [])), (10, (.ifCond .lt 9, 3, 19, 0, 0, [])), (13, (.iload_n 3, 1, 0, 0, 0, [])), (14, (.bipush 20, 2, 0, 0, 0, []))], [(16, (.if_icmp .le 7, 3, 23, 0, 0, [])), (19, (.ldc2_w 185, 3, 0, 0, (-1), [(4, 62)])), (22, (.lreturn, 1, 0, 0, 0, [])), (23, (.aload_n 0, 1, 0, 0, 0, []))], [(24, (.getfield 84, 3, 10, 13, 3, [(2, 184)])), (27, (.getfield 196, 3, 8, 11, 3, [(2, 121)])), (30, (.iload_n 2, 1, 0, 0, 0, [])), (31, (.aaload, 1, 0, 0, 0, []))], [(32, (.aload_n 0, 1, 0, 0, 0, [])), (33, (.getfield 74, 3, 10, 11, 3, [(2, 182)])), (36, (.invokestatic 187, 3, 140, 0, 0, [(4, 63), (3, 185)])), (39, (.iconst 0, 1, 0, 0, 0, []))], [(40, (.istore 4, 2, 0, 0, 0, [])), (42, (.iload 4, 2, 0, 0, 0, [])), (44, (.iload_n 3, 1, 0, 0, 0, [])), (45, (.if_icmp .ge 29, 3, 74, 0, 0, []))], [(48, (.aload_n 0, 1, 0, 0, 0, [])), (49, (.getfield 30, 3, 10, 3, 3, [(2, 174)])), (52, (.aload_n 0, 1, 0, 0, 0, [])), (53, (.getfield 74, 3, 10, 11, 3, [(2, 182)]))], [(56, (.iload_n 1, 1, 0, 0, 0, [])), (57, (.aconst_null, 1, 0, 0, 0, [])), (58, (.invokevirtual 210, 3, 26, 0, 0, [(4, 115), (4, 116), (4, 117)])), (61, (.ifCond .ne 7, 3, 68, 0, 0, []))], [(64, (.ldc2_w 144, 3, 0, 0, (-2), [(4, 17)])), (67, (.lreturn, 1, 0, 0, 0, [])), (68, (.iinc 4 1, 3, 0, 0, 0, [])), (71, (.goto (-29), 3, 42, 0, 0, []))], [(74, (.aload_n 0, 1, 0, 0, 0, [])), (75, (.getfield 74, 3, 10, 11, 3, [(2, 182)])), (78, (.invokestatic 222, 3, 142, 0, 0, [(4, 153), (3, 141)]))], [(81, (.lstore 4, 2, 0, 0, 0, [])), (83, (.aload_n 0, 1, 0, 0, 0, [])), (84, (.getfield 30, 3, 10, 3, 3, [(2, 174)])), (87, (.aload_n 0, 1, 0, 0, 0, []))], [(88, (.getfield 74, 3, 10, 11, 3, [(2, 182)])), (91, (.iload_n 1, 1, 0, 0, 0, [])), (92, (.aconst_null, 1, 0, 0, 0, [])), (93, (.invokevirtual 210, 3, 26, 0, 0, [(4, 115), (4, 116), (4, 117)]))], [(96, (.ifCond .ne 7, 3, 103, 0, 0, [])), (99, (.ldc2_w 144, 3, 0, 0, (-2), [(4, 17)])), (102, (.lreturn, 1, 0, 0, 0, [])), (103, (.lload 4, 2, 0, 0, 0, []))], [(105, (.lconst 0, 1, 0, 0, 0, [])), (106, (.lcmp, 1, 0, 0, 0, [])), (107, (.ifCond .le 20, 3, 127, 0, 0, [])), (110, (.aload_n 0, 1, 0, 0, 0, [])), (111, (.getfield 74, 3, 10, 11, 3, [(2, 182)]))], [(114, (.invokestatic 222, 3, 142, 0, 0, [(4, 153), (3, 141)])), (117, (.ldc2_w 226, 3, 0, 0, 1000, [(4, 154)]))], [(120, (.lmul, 1, 0, 0, 0, [])), (121, (.lload 4, 2, 0, 0, 0, [])), (123, (.ldiv, 1, 0, 0, 0, [])), (124, (.goto 6, 3, 130, 0, 0, [])), (127, (.ldc2_w 185, 3, 0, 0, (-1), [(4, 62)]))], [(130, (.lreturn, 1, 0, 0, 0, []))]])
/-- X10 table -/
def pd_119 : pm_D := ((yX10_table, cX10_table, 5, (some .int), 4, 10), [(4, 158), (1, 1)], [[(0, (.aload_n 0, 1, 0, 0, 0, [])), (1, (.iload_n 1, 1, 0, 0, 0, [])), (2, (.iload_n 2, 1, 0, 0, 0, [])), (3, (.invokevirtual 218, 3, 138, 0, 0, [(4, 149), (4, 151), (0, 41)])), (6, (.ifCond .eq 20, 3, 26, 0, 0, []))], [(9, (.aload_n 0, 1, 0, 0, 0, [])), (10, (.iload_n 3, 1, 0, 0, 0, [])), (11, (.invokevirtual 140, 3, 133, 0, 0, [(4, 13), (4, 15), (0, 34)])), (14, (.ifCond .eq 12, 3, 26, 0, 0, []))], [(17, (.aload_n 0, 1, 0, 0, 0, [])), (18, (.iload 4, 2, 0, 0, 0, [])), (20, (.invokevirtual 140, 3, 133, 0, 0, [(4, 13), (4, 15), (0, 34)])), (23, (.ifCond .ne 5, 3, 28, 0, 0, []))], [(26, (.iconst (-1), 1, 0, 0, 0, [])), (27, (.ireturn, 1, 0, 0, 0, [])), (28, (.aload_n 0, 1, 0, 0, 0, [])), (29, (.iload_n 1, 1, 0, 0, 0, [])), (30, (.iload_n 2, 1, 0, 0, 0, [])), (31, (.invokevirtual 228, 3, 139, 0, 0, [(4, 159), (4, 161), (0, 42)]))], [(34, (.ifCond .eq 16, 3, 50, 0, 0, [])), (37, (.aload_n 0, 1, 0, 0, 0, [])), (38, (.getfield 58, 3, 10, 7, 3, [(2, 178)]))], [(41, (.iload_n 3, 1, 0, 0, 0, [])), (42, (.iload 4, 2, 0, 0, 0, [])), (44, (.invokevirtual 231, 3, 68, 0, 0, [(4, 175), (4, 176), (4, 177)])), (47, (.goto 5, 3, 52, 0, 0, []))], [(50, (.bipush (-2), 2, 0, 0, 0, [])), (52, (.ireturn, 1, 0, 0, 0, []))]])
/-- X10 polynomial -/
def pd_120 : pm_D := ((yX10_polynomial, cX10_polynomial, 4, (some .int), 3, 10), [(4, 182), (1, 1)], [[(0, (.aload_n 0, 1, 0, 0, 0, [])), (1, (.iload_n 1, 1, 0, 0, 0, [])), (2, (.iload_n 2, 1, 0, 0, 0, [])), (3, (.invokevirtual 218, 3, 138, 0, 0, [(4, 149), (4, 151), (0, 41)])), (6, (.ifCond .eq 18, 3, 24, 0, 0, []))], [(9, (.iload_n 3, 1, 0, 0, 0, [])), (10, (.ifCond .lt 14, 3, 24, 0, 0, [])), (13, (.iload_n 3, 1, 0, 0, 0, [])), (14, (.aload_n 0, 1, 0, 0, 0, [])), (15, (.getfield 84, 3, 10, 13, 3, [(2, 184)]))], [(18, (.getfield 235, 3, 8, 1, 0, [(2, 93)])), (21, (.if_icmp .le 5, 3, 26, 0, 0, []))], [(24, (.iconst (-1), 1, 0, 0, 0, [])), (25, (.ireturn, 1, 0, 0, 0, [])), (26, (.aload_n 0, 1, 0, 0, 0, [])), (27, (.iload_n 1, 1, 0, 0, 0, [])), (28, (.iload_n 2, 1, 0, 0, 0, [])), (29, (.invokevirtual 228, 3, 139, 0, 0, [(4, 159), (4, 161), (0, 42)]))], [(32, (.ifCond .eq 14, 3, 46, 0, 0, [])), (35, (.aload_n 0, 1, 0, 0, 0, [])), (36, (.getfield 58, 3, 10, 7, 3, [(2, 178)])), (39, (.iload_n 3, 1, 0, 0, 0, []))], [(40, (.invokevirtual 238, 3, 69, 0, 0, [(4, 183), (4, 184), (4, 185)])), (43, (.goto 5, 3, 48, 0, 0, [])), (46, (.bipush (-2), 2, 0, 0, 0, []))], [(48, (.ireturn, 1, 0, 0, 0, []))]])
/-- X10 least -/
def pd_121 : pm_D := ((yX10_least, cX10_least, 4, (some .int), 2, 10), [(4, 205), (1, 1)], [[(0, (.aload_n 0, 1, 0, 0, 0, [])), (1, (.iconst 0, 1, 0, 0, 0, [])), (2, (.putfield 122, 3, 10, 18, 2, [(2, 189)])), (5, (.aload_n 0, 1, 0, 0, 0, [])), (6, (.getfield 30, 3, 10, 3, 3, [(2, 174)]))], [(9, (.iload_n 1, 1, 0, 0, 0, [])), (10, (.invokevirtual 203, 3, 24, 0, 0, [(4, 106), (4, 107), (4, 108)])), (13, (.ifCond .eq 13, 3, 26, 0, 0, []))], [(16, (.iload_n 2, 1, 0, 0, 0, [])), (17, (.iconst 1, 1, 0, 0, 0, [])), (18, (.if_icmp .lt 8, 3, 26, 0, 0, [])), (21, (.iload_n 2, 1, 0, 0, 0, [])), (22, (.iconst 3, 1, 0, 0, 0, [])), (23, (.if_icmp .le 5, 3, 28, 0, 0, []))], [(26, (.iconst (-1), 1, 0, 0, 0, [])), (27, (.ireturn, 1, 0, 0, 0, [])), (28, (.aload_n 0, 1, 0, 0, 0, [])), (29, (.getfield 37, 3, 10, 4, 3, [(2, 175)]))], [(32, (.aload_n 0, 1, 0, 0, 0, [])), (33, (.getfield 84, 3, 10, 13, 3, [(2, 184)])), (36, (.iload_n 2, 1, 0, 0, 0, [])), (37, (.invokevirtual 241, 3, 8, 0, 0, [(4, 206), (4, 207), (4, 208)]))], [(40, (.ifCond .ne 6, 3, 46, 0, 0, [])), (43, (.bipush (-2), 2, 0, 0, 0, [])), (45, (.ireturn, 1, 0, 0, 0, [])), (46, (.iconst 0, 1, 0, 0, 0, [])), (47, (.istore_n 3, 1, 0, 0, 0, []))], [(48, (.iload_n 3, 1, 0, 0, 0, [])), (49, (.ldc 245, 2, 0, 0, 60000, [(4, 211)])), (51, (.if_icmp .ge 76, 3, 127, 0, 0, [])), (54, (.aload_n 0, 1, 0, 0, 0, [])), (55, (.getfield 37, 3, 10, 4, 3, [(2, 175)]))], [(58, (.invokevirtual 246, 3, 9, 0, 0, [(4, 212), (4, 213), (4, 214)])), (61, (.ifCond .eq 66, 3, 127, 0, 0, []))], [(64, (.aload_n 0, 1, 0, 0, 0, [])), (65, (.aload_n 0, 1, 0, 0, 0, [])), (66, (.getfield 37, 3, 10, 4, 3, [(2, 175)])), (69, (.getfield 249, 3, 1, 0, 3, [(1, 220)]))], [(72, (.invokevirtual 252, 3, 137, 0, 0, [(4, 233), (4, 235), (0, 48)])), (75, (.ifCond .eq 46, 3, 121, 0, 0, [])), (78, (.aload_n 0, 1, 0, 0, 0, [])), (79, (.iload_n 1, 1, 0, 0, 0, []))], [(80, (.aload_n 0, 1, 0, 0, 0, [])), (81, (.getfield 37, 3, 10, 4, 3, [(2, 175)])), (84, (.getfield 249, 3, 1, 0, 3, [(1, 220)])), (87, (.invokevirtual 206, 3, 136, 0, 0, [(4, 111), (4, 113), (0, 39)]))], [(90, (.ifCond .eq 31, 3, 121, 0, 0, [])), (93, (.aload_n 0, 1, 0, 0, 0, [])), (94, (.getfield 37, 3, 10, 4, 3, [(2, 175)]))], [(97, (.getfield 249, 3, 1, 0, 3, [(1, 220)])), (100, (.aload_n 0, 1, 0, 0, 0, [])), (101, (.getfield 78, 3, 10, 12, 3, [(2, 183)]))], [(104, (.invokestatic 187, 3, 140, 0, 0, [(4, 63), (3, 185)])), (107, (.aload_n 0, 1, 0, 0, 0, [])), (108, (.iconst 1, 1, 0, 0, 0, [])), (109, (.putfield 122, 3, 10, 18, 2, [(2, 189)]))], [(112, (.aload_n 0, 1, 0, 0, 0, [])), (113, (.getfield 78, 3, 10, 12, 3, [(2, 183)])), (116, (.invokestatic 222, 3, 142, 0, 0, [(4, 153), (3, 141)])), (119, (.l2i, 1, 0, 0, 0, []))], [(120, (.ireturn, 1, 0, 0, 0, [])), (121, (.iinc 3 1, 3, 0, 0, 0, [])), (124, (.goto (-76), 3, 48, 0, 0, [])), (127, (.iconst (-1), 1, 0, 0, 0, []))], [(128, (.ireturn, 1, 0, 0, 0, []))]])
/-- X10 lies -/
def pd_122 : pm_D := ((yX10_lies, cX10_lies, 2, (some .int), 1, 10), [(5, 0), (1, 1)], [[(0, (.aload_n 0, 1, 0, 0, 0, [])), (1, (.getfield 122, 3, 10, 18, 2, [(2, 189)])), (4, (.ifCond .eq 21, 3, 25, 0, 0, [])), (7, (.aload_n 0, 1, 0, 0, 0, []))], [(8, (.iload_n 1, 1, 0, 0, 0, [])), (9, (.invokevirtual 140, 3, 133, 0, 0, [(4, 13), (4, 15), (0, 34)])), (12, (.ifCond .eq 13, 3, 25, 0, 0, [])), (15, (.aload_n 0, 1, 0, 0, 0, []))], [(16, (.getfield 78, 3, 10, 12, 3, [(2, 183)])), (19, (.iload_n 1, 1, 0, 0, 0, [])), (20, (.laload, 1, 0, 0, 0, [])), (21, (.l2i, 1, 0, 0, 0, [])), (22, (.goto 4, 3, 26, 0, 0, []))], [(25, (.iconst (-1), 1, 0, 0, 0, [])), (26, (.ireturn, 1, 0, 0, 0, []))]])
/-- X10 lay -/
def pd_123 : pm_D := ((yX10_lay, cX10_lay, 2, (some .long), 1, 10), [(5, 4), (1, 1)], [[(0, (.aload_n 0, 1, 0, 0, 0, [])), (1, (.iload_n 1, 1, 0, 0, 0, [])), (2, (.invokevirtual 256, 3, 134, 0, 0, [(4, 9), (4, 11), (0, 33)])), (5, (.ifCond .ne 7, 3, 12, 0, 0, []))], [(8, (.ldc2_w 185, 3, 0, 0, (-1), [(4, 62)])), (11, (.lreturn, 1, 0, 0, 0, [])), (12, (.aload_n 0, 1, 0, 0, 0, [])), (13, (.getfield 51, 3, 10, 6, 3, [(2, 177)]))], [(16, (.aload_n 0, 1, 0, 0, 0, [])), (17, (.getfield 84, 3, 10, 13, 3, [(2, 184)])), (20, (.getfield 196, 3, 8, 11, 3, [(2, 121)])), (23, (.iload_n 1, 1, 0, 0, 0, []))], [(24, (.aaload, 1, 0, 0, 0, [])), (25, (.invokevirtual 259, 3, 3, 0, 0, [(5, 5), (5, 6), (5, 7)])), (28, (.aload_n 0, 1, 0, 0, 0, [])), (29, (.getfield 51, 3, 10, 6, 3, [(2, 177)]))], [(32, (.invokevirtual 262, 3, 2, 0, 0, [(4, 8), (3, 225), (3, 226)])), (35, (.invokestatic 222, 3, 142, 0, 0, [(4, 153), (3, 141)])), (38, (.lreturn, 1, 0, 0, 0, []))]])
/-- X10 twist -/
def pd_124 : pm_D := ((yX10_twist, cX10_twist, 3, (some .long), 2, 10), [(5, 13), (1, 1)], [[(0, (.aload_n 0, 1, 0, 0, 0, [])), (1, (.getfield 30, 3, 10, 3, 3, [(2, 174)])), (4, (.iload_n 1, 1, 0, 0, 0, [])), (5, (.invokevirtual 182, 3, 23, 0, 0, [(4, 57), (4, 58), (4, 59)]))], [(8, (.ifCond .eq 19, 3, 27, 0, 0, [])), (11, (.iload_n 2, 1, 0, 0, 0, [])), (12, (.ifCond .eq 15, 3, 27, 0, 0, [])), (15, (.iload_n 2, 1, 0, 0, 0, []))], [(16, (.bipush (-99), 2, 0, 0, 0, [])), (18, (.if_icmp .lt 9, 3, 27, 0, 0, [])), (21, (.iload_n 2, 1, 0, 0, 0, [])), (22, (.bipush 99, 2, 0, 0, 0, []))], [(24, (.if_icmp .le 7, 3, 31, 0, 0, [])), (27, (.ldc2_w 185, 3, 0, 0, (-1), [(4, 62)])), (30, (.lreturn, 1, 0, 0, 0, [])), (31, (.aload_n 0, 1, 0, 0, 0, []))], [(32, (.getfield 51, 3, 10, 6, 3, [(2, 177)])), (35, (.invokevirtual 262, 3, 2, 0, 0, [(4, 8), (3, 225), (3, 226)])), (38, (.aload_n 0, 1, 0, 0, 0, [])), (39, (.getfield 74, 3, 10, 11, 3, [(2, 182)]))], [(42, (.invokestatic 187, 3, 140, 0, 0, [(4, 63), (3, 185)])), (45, (.aload_n 0, 1, 0, 0, 0, [])), (46, (.aload_n 0, 1, 0, 0, 0, [])), (47, (.getfield 30, 3, 10, 3, 3, [(2, 174)]))], [(50, (.aload_n 0, 1, 0, 0, 0, [])), (51, (.getfield 74, 3, 10, 11, 3, [(2, 182)])), (54, (.iload_n 1, 1, 0, 0, 0, [])), (55, (.iload_n 2, 1, 0, 0, 0, []))], [(56, (.aconst_null, 1, 0, 0, 0, [])), (57, (.invokevirtual 266, 3, 27, 0, 0, [(5, 14), (4, 120), (4, 121)])), (60, (.invokevirtual 270, 3, 126, 0, 0, [(5, 15), (5, 17), (0, 49)])), (63, (.lreturn, 1, 0, 0, 0, []))]])
/-- X10 go -/
def pd_125 : pm_D := ((yX10_go, cX10_go, 2, (some .long), 1, 10), [(5, 22), (1, 1)], [[(0, (.aload_n 0, 1, 0, 0, 0, [])), (1, (.getfield 30, 3, 10, 3, 3, [(2, 174)])), (4, (.iload_n 1, 1, 0, 0, 0, [])), (5, (.invokevirtual 203, 3, 24, 0, 0, [(4, 106), (4, 107), (4, 108)]))], [(8, (.ifCond .ne 7, 3, 15, 0, 0, [])), (11, (.ldc2_w 185, 3, 0, 0, (-1), [(4, 62)])), (14, (.lreturn, 1, 0, 0, 0, [])), (15, (.aload_n 0, 1, 0, 0, 0, []))], [(16, (.getfield 51, 3, 10, 6, 3, [(2, 177)])), (19, (.invokevirtual 262, 3, 2, 0, 0, [(4, 8), (3, 225), (3, 226)])), (22, (.aload_n 0, 1, 0, 0, 0, [])), (23, (.getfield 74, 3, 10, 11, 3, [(2, 182)]))], [(26, (.invokestatic 187, 3, 140, 0, 0, [(4, 63), (3, 185)])), (29, (.aload_n 0, 1, 0, 0, 0, [])), (30, (.aload_n 0, 1, 0, 0, 0, [])), (31, (.getfield 30, 3, 10, 3, 3, [(2, 174)]))], [(34, (.aload_n 0, 1, 0, 0, 0, [])), (35, (.getfield 74, 3, 10, 11, 3, [(2, 182)])), (38, (.iload_n 1, 1, 0, 0, 0, [])), (39, (.aconst_null, 1, 0, 0, 0, []))], [(40, (.invokevirtual 210, 3, 26, 0, 0, [(4, 115), (4, 116), (4, 117)])), (43, (.invokevirtual 270, 3, 126, 0, 0, [(5, 15), (5, 17), (0, 49)])), (46, (.lreturn, 1, 0, 0, 0, []))]])
/-- X10 act -/
def pd_126 : pm_D := ((yX10_act, cX10_act, 2, (some .long), 1, 10), [(5, 18), (1, 1)], [[(0, (.iload_n 1, 1, 0, 0, 0, [])), (1, (.ifCond .ne 7, 3, 8, 0, 0, [])), (4, (.ldc2_w 144, 3, 0, 0, (-2), [(4, 17)])), (7, (.lreturn, 1, 0, 0, 0, []))], [(8, (.aload_n 0, 1, 0, 0, 0, [])), (9, (.getfield 51, 3, 10, 6, 3, [(2, 177)])), (12, (.aload_n 0, 1, 0, 0, 0, [])), (13, (.getfield 74, 3, 10, 11, 3, [(2, 182)]))], [(16, (.invokevirtual 259, 3, 3, 0, 0, [(5, 5), (5, 6), (5, 7)])), (19, (.aload_n 0, 1, 0, 0, 0, [])), (20, (.getfield 74, 3, 10, 11, 3, [(2, 182)])), (23, (.invokestatic 222, 3, 142, 0, 0, [(4, 153), (3, 141)]))], [(26, (.lreturn, 1, 0, 0, 0, []))]])
/-- X10 undo -/
def pd_127 : pm_D := ((yX10_undo, cX10_undo, 1, (some .boolean), 0, 10), [(5, 26), (1, 1)], [[(0, (.aload_n 0, 1, 0, 0, 0, [])), (1, (.getfield 51, 3, 10, 6, 3, [(2, 177)])), (4, (.invokevirtual 274, 3, 5, 0, 0, [(5, 27), (5, 28), (5, 29)])), (7, (.ireturn, 1, 0, 0, 0, []))]])
/-- X10 redo -/
def pd_128 : pm_D := ((yX10_redo, cX10_redo, 1, (some .boolean), 0, 10), [(5, 34), (1, 1)], [[(0, (.aload_n 0, 1, 0, 0, 0, [])), (1, (.getfield 51, 3, 10, 6, 3, [(2, 177)])), (4, (.invokevirtual 277, 3, 6, 0, 0, [(5, 35), (5, 36), (5, 37)])), (7, (.ireturn, 1, 0, 0, 0, []))]])
/-- X10 sketch -/
def pd_129 : pm_D := ((yX10_sketch, cX10_sketch, 2, (some .int), 0, 10), [(5, 42), (1, 1)], [[(0, (.aload_n 0, 1, 0, 0, 0, [])), (1, (.iconst 0, 1, 0, 0, 0, [])), (2, (.putfield 122, 3, 10, 18, 2, [(2, 189)])), (5, (.aload_n 0, 1, 0, 0, 0, [])), (6, (.getfield 44, 3, 10, 5, 3, [(2, 176)]))], [(9, (.aload_n 0, 1, 0, 0, 0, [])), (10, (.getfield 84, 3, 10, 13, 3, [(2, 184)])), (13, (.aload_n 0, 1, 0, 0, 0, [])), (14, (.getfield 9, 3, 10, 0, 3, [(2, 171)]))], [(17, (.aload_n 0, 1, 0, 0, 0, [])), (18, (.getfield 95, 3, 10, 15, 0, [(2, 186)])), (21, (.invokevirtual 280, 3, 13, 0, 0, [(5, 43), (5, 44), (5, 45)]))], [(24, (.istore_n 1, 1, 0, 0, 0, [])), (25, (.aload_n 0, 1, 0, 0, 0, [])), (26, (.iconst 0, 1, 0, 0, 0, [])), (27, (.putfield 95, 3, 10, 15, 0, [(2, 186)])), (30, (.iload_n 1, 1, 0, 0, 0, [])), (31, (.ifCond .ne 5, 3, 36, 0, 0, []))], [(34, (.iconst (-1), 1, 0, 0, 0, [])), (35, (.ireturn, 1, 0, 0, 0, [])), (36, (.aload_n 0, 1, 0, 0, 0, [])), (37, (.getfield 44, 3, 10, 5, 3, [(2, 176)]))], [(40, (.aload_n 0, 1, 0, 0, 0, [])), (41, (.getfield 84, 3, 10, 13, 3, [(2, 184)])), (44, (.invokevirtual 284, 3, 15, 0, 0, [(5, 50), (5, 51), (5, 52)])), (47, (.aload_n 0, 1, 0, 0, 0, []))], [(48, (.getfield 44, 3, 10, 5, 3, [(2, 176)])), (51, (.aload_n 0, 1, 0, 0, 0, [])), (52, (.getfield 84, 3, 10, 13, 3, [(2, 184)])), (55, (.aload_n 0, 1, 0, 0, 0, []))], [(56, (.getfield 23, 3, 10, 2, 3, [(2, 173)])), (59, (.invokevirtual 288, 3, 17, 0, 0, [(5, 54), (5, 55), (5, 56)])), (62, (.ifCond .ne 6, 3, 68, 0, 0, []))], [(65, (.bipush (-2), 2, 0, 0, 0, [])), (67, (.ireturn, 1, 0, 0, 0, [])), (68, (.aload_n 0, 1, 0, 0, 0, [])), (69, (.getfield 44, 3, 10, 5, 3, [(2, 176)]))], [(72, (.getfield 292, 3, 2, 0, 3, [(1, 237)])), (75, (.aload_n 0, 1, 0, 0, 0, [])), (76, (.getfield 78, 3, 10, 12, 3, [(2, 183)])), (79, (.invokestatic 187, 3, 140, 0, 0, [(4, 63), (3, 185)]))], [(82, (.aload_n 0, 1, 0, 0, 0, [])), (83, (.iconst 1, 1, 0, 0, 0, [])), (84, (.putfield 122, 3, 10, 18, 2, [(2, 189)])), (87, (.aload_n 0, 1, 0, 0, 0, []))], [(88, (.getfield 44, 3, 10, 5, 3, [(2, 176)])), (91, (.invokevirtual 293, 3, 16, 0, 0, [(5, 78), (5, 67), (5, 68)])), (94, (.ireturn, 1, 0, 0, 0, []))]])
/-- X10 image -/
def pd_130 : pm_D := ((yX10_image, cX10_image, 2, (some .long), 1, 10), [(5, 82), (1, 1)], [[(0, (.iload_n 1, 1, 0, 0, 0, [])), (1, (.ifCond .lt 8, 3, 9, 0, 0, [])), (4, (.iload_n 1, 1, 0, 0, 0, [])), (5, (.iconst 3, 1, 0, 0, 0, [])), (6, (.if_icmp .lt 7, 3, 13, 0, 0, []))], [(9, (.ldc2_w 185, 3, 0, 0, (-1), [(4, 62)])), (12, (.lreturn, 1, 0, 0, 0, [])), (13, (.aload_n 0, 1, 0, 0, 0, [])), (14, (.getfield 51, 3, 10, 6, 3, [(2, 177)]))], [(17, (.invokevirtual 262, 3, 2, 0, 0, [(4, 8), (3, 225), (3, 226)])), (20, (.aload_n 0, 1, 0, 0, 0, [])), (21, (.getfield 64, 3, 10, 8, 3, [(2, 179)]))], [(24, (.iload_n 1, 1, 0, 0, 0, [])), (25, (.aaload, 1, 0, 0, 0, [])), (26, (.invokestatic 187, 3, 140, 0, 0, [(4, 63), (3, 185)])), (29, (.aload_n 0, 1, 0, 0, 0, [])), (30, (.getfield 67, 3, 10, 9, 3, [(2, 180)]))], [(33, (.iload_n 1, 1, 0, 0, 0, [])), (34, (.iconst 1, 1, 0, 0, 0, [])), (35, (.bastore, 1, 0, 0, 0, [])), (36, (.aload_n 0, 1, 0, 0, 0, [])), (37, (.getfield 64, 3, 10, 8, 3, [(2, 179)]))], [(40, (.iload_n 1, 1, 0, 0, 0, [])), (41, (.aaload, 1, 0, 0, 0, [])), (42, (.invokestatic 222, 3, 142, 0, 0, [(4, 153), (3, 141)])), (45, (.lreturn, 1, 0, 0, 0, []))]])
/-- X10 back -/
def pd_131 : pm_D := ((yX10_back, cX10_back, 2, (some .long), 1, 10), [(5, 86), (1, 1)], [[(0, (.iload_n 1, 1, 0, 0, 0, [])), (1, (.ifCond .lt 17, 3, 18, 0, 0, [])), (4, (.iload_n 1, 1, 0, 0, 0, [])), (5, (.iconst 3, 1, 0, 0, 0, [])), (6, (.if_icmp .ge 12, 3, 18, 0, 0, []))], [(9, (.aload_n 0, 1, 0, 0, 0, [])), (10, (.getfield 67, 3, 10, 9, 3, [(2, 180)])), (13, (.iload_n 1, 1, 0, 0, 0, [])), (14, (.baload, 1, 0, 0, 0, [])), (15, (.ifCond .ne 7, 3, 22, 0, 0, []))], [(18, (.ldc2_w 185, 3, 0, 0, (-1), [(4, 62)])), (21, (.lreturn, 1, 0, 0, 0, [])), (22, (.aload_n 0, 1, 0, 0, 0, [])), (23, (.getfield 51, 3, 10, 6, 3, [(2, 177)]))], [(26, (.aload_n 0, 1, 0, 0, 0, [])), (27, (.getfield 64, 3, 10, 8, 3, [(2, 179)])), (30, (.iload_n 1, 1, 0, 0, 0, [])), (31, (.aaload, 1, 0, 0, 0, []))], [(32, (.invokevirtual 115, 3, 4, 0, 0, [(3, 220), (3, 221), (3, 222)])), (35, (.aload_n 0, 1, 0, 0, 0, [])), (36, (.getfield 64, 3, 10, 8, 3, [(2, 179)])), (39, (.iload_n 1, 1, 0, 0, 0, []))], [(40, (.aaload, 1, 0, 0, 0, [])), (41, (.invokestatic 222, 3, 142, 0, 0, [(4, 153), (3, 141)])), (44, (.lreturn, 1, 0, 0, 0, []))]])
/-- X10 about -/
def pd_132 : pm_D := ((yX10_about, cX10_about, 2, (some .int), 1, 10), [(5, 90), (1, 1)], [[(0, (.iload_n 1, 1, 0, 0, 0, [])), (1, (.tableswitch 140 0 8 #[51, 59, 67, 75, 103, 111, 119, 127, 135], 51, 0, 0, 0, []))], [], [], [], [], [], [(52, (.aload_n 0, 1, 0, 0, 0, [])), (53, (.getfield 84, 3, 10, 13, 3, [(2, 184)]))], [(56, (.getfield 129, 3, 8, 0, 0, [(2, 86)])), (59, (.ireturn, 1, 0, 0, 0, [])), (60, (.aload_n 0, 1, 0, 0, 0, [])), (61, (.getfield 84, 3, 10, 13, 3, [(2, 184)]))], [(64, (.getfield 235, 3, 8, 1, 0, [(2, 93)])), (67, (.ireturn, 1, 0, 0, 0, [])), (68, (.aload_n 0, 1, 0, 0, 0, [])), (69, (.getfield 84, 3, 10, 13, 3, [(2, 184)]))], [(72, (.getfield 297, 3, 8, 2, 0, [(2, 95)])), (75, (.ireturn, 1, 0, 0, 0, [])), (76, (.iconst 2, 1, 0, 0, 0, [])), (77, (.aload_n 0, 1, 0, 0, 0, [])), (78, (.getfield 84, 3, 10, 13, 3, [(2, 184)]))], [(81, (.getfield 297, 3, 8, 2, 0, [(2, 95)])), (84, (.isub, 1, 0, 0, 0, [])), (85, (.aload_n 0, 1, 0, 0, 0, [])), (86, (.getfield 84, 3, 10, 13, 3, [(2, 184)]))], [(89, (.getfield 235, 3, 8, 1, 0, [(2, 93)])), (92, (.iadd, 1, 0, 0, 0, [])), (93, (.aload_n 0, 1, 0, 0, 0, [])), (94, (.getfield 84, 3, 10, 13, 3, [(2, 184)]))], [(97, (.getfield 129, 3, 8, 0, 0, [(2, 86)])), (100, (.isub, 1, 0, 0, 0, [])), (101, (.iconst 2, 1, 0, 0, 0, [])), (102, (.idiv, 1, 0, 0, 0, [])), (103, (.ireturn, 1, 0, 0, 0, []))], [(104, (.aload_n 0, 1, 0, 0, 0, [])), (105, (.getfield 84, 3, 10, 13, 3, [(2, 184)])), (108, (.getfield 126, 3, 8, 3, 0, [(2, 98)])), (111, (.ireturn, 1, 0, 0, 0, []))], [(112, (.aload_n 0, 1, 0, 0, 0, [])), (113, (.getfield 84, 3, 10, 13, 3, [(2, 184)])), (116, (.getfield 300, 3, 8, 4, 0, [(2, 103)])), (119, (.ireturn, 1, 0, 0, 0, []))], [(120, (.aload_n 0, 1, 0, 0, 0, [])), (121, (.getfield 51, 3, 10, 6, 3, [(2, 177)])), (124, (.getfield 303, 3, 0, 0, 0, [(2, 22)])), (127, (.ireturn, 1, 0, 0, 0, []))], [(128, (.aload_n 0, 1, 0, 0, 0, [])), (129, (.getfield 51, 3, 10, 6, 3, [(2, 177)])), (132, (.getfield 306, 3, 0, 1, 0, [(2, 24)])), (135, (.ireturn, 1, 0, 0, 0, []))], [(136, (.aload_n 0, 1, 0, 0, 0, [])), (137, (.getfield 95, 3, 10, 15, 0, [(2, 186)])), (140, (.ireturn, 1, 0, 0, 0, [])), (141, (.iconst (-1), 1, 0, 0, 0, [])), (142, (.ireturn, 1, 0, 0, 0, []))]])
/-- X10 isEdge -/
def pd_133 : pm_D := ((yX10_isEdge, cX10_isEdge, 2, (some .boolean), 1, 10), [(4, 16), (1, 1)], [[(0, (.iload_n 1, 1, 0, 0, 0, [])), (1, (.ifCond .lt 18, 3, 19, 0, 0, [])), (4, (.iload_n 1, 1, 0, 0, 0, [])), (5, (.aload_n 0, 1, 0, 0, 0, [])), (6, (.getfield 84, 3, 10, 13, 3, [(2, 184)]))], [(9, (.getfield 235, 3, 8, 1, 0, [(2, 93)])), (12, (.if_icmp .ge 7, 3, 19, 0, 0, [])), (15, (.iconst 1, 1, 0, 0, 0, []))], [(16, (.goto 4, 3, 20, 0, 0, [])), (19, (.iconst 0, 1, 0, 0, 0, [])), (20, (.ireturn, 1, 0, 0, 0, []))]])
/-- X10 isLine -/
def pd_134 : pm_D := ((yX10_isLine, cX10_isLine, 2, (some .boolean), 1, 10), [(4, 12), (1, 1)], [[(0, (.iload_n 1, 1, 0, 0, 0, [])), (1, (.ifCond .lt 18, 3, 19, 0, 0, [])), (4, (.iload_n 1, 1, 0, 0, 0, [])), (5, (.aload_n 0, 1, 0, 0, 0, [])), (6, (.getfield 84, 3, 10, 13, 3, [(2, 184)]))], [(9, (.getfield 126, 3, 8, 3, 0, [(2, 98)])), (12, (.if_icmp .ge 7, 3, 19, 0, 0, [])), (15, (.iconst 1, 1, 0, 0, 0, []))], [(16, (.goto 4, 3, 20, 0, 0, [])), (19, (.iconst 0, 1, 0, 0, 0, [])), (20, (.ireturn, 1, 0, 0, 0, []))]])
/-- X10 numbersOf -/
def pd_135 : pm_D := ((yX10_numbersOf, cX10_numbersOf, 2, (some (.array .long)), 1, 10), [(4, 7), (1, 1)], [[(0, (.iload_n 1, 1, 0, 0, 0, [])), (1, (.iconst (-1), 1, 0, 0, 0, [])), (2, (.if_icmp .ne 11, 3, 13, 0, 0, [])), (5, (.aload_n 0, 1, 0, 0, 0, [])), (6, (.getfield 51, 3, 10, 6, 3, [(2, 177)]))], [(9, (.invokevirtual 262, 3, 2, 0, 0, [(4, 8), (3, 225), (3, 226)])), (12, (.areturn, 1, 0, 0, 0, [])), (13, (.aload_n 0, 1, 0, 0, 0, [])), (14, (.iload_n 1, 1, 0, 0, 0, [])), (15, (.invokevirtual 256, 3, 134, 0, 0, [(4, 9), (4, 11), (0, 33)]))], [(18, (.ifCond .eq 15, 3, 33, 0, 0, [])), (21, (.aload_n 0, 1, 0, 0, 0, [])), (22, (.getfield 84, 3, 10, 13, 3, [(2, 184)]))], [(25, (.getfield 196, 3, 8, 11, 3, [(2, 121)])), (28, (.iload_n 1, 1, 0, 0, 0, [])), (29, (.aaload, 1, 0, 0, 0, [])), (30, (.goto 4, 3, 34, 0, 0, []))], [(33, (.aconst_null, 1, 0, 0, 0, [])), (34, (.areturn, 1, 0, 0, 0, []))]])
/-- X10 leavesAsItIs -/
def pd_136 : pm_D := ((yX10_leavesAsItIs, cX10_leavesAsItIs, 3, (some .boolean), 2, 10), [(4, 114), (1, 1)], [[(0, (.aload_n 2, 1, 0, 0, 0, [])), (1, (.aload_n 0, 1, 0, 0, 0, [])), (2, (.getfield 74, 3, 10, 11, 3, [(2, 182)])), (5, (.invokestatic 187, 3, 140, 0, 0, [(4, 63), (3, 185)]))], [(8, (.aload_n 0, 1, 0, 0, 0, [])), (9, (.getfield 30, 3, 10, 3, 3, [(2, 174)])), (12, (.aload_n 0, 1, 0, 0, 0, [])), (13, (.getfield 74, 3, 10, 11, 3, [(2, 182)]))], [(16, (.iload_n 1, 1, 0, 0, 0, [])), (17, (.aconst_null, 1, 0, 0, 0, [])), (18, (.invokevirtual 210, 3, 26, 0, 0, [(4, 115), (4, 116), (4, 117)])), (21, (.ifCond .eq 18, 3, 39, 0, 0, []))], [(24, (.aload_n 0, 1, 0, 0, 0, [])), (25, (.getfield 74, 3, 10, 11, 3, [(2, 182)])), (28, (.aload_n 2, 1, 0, 0, 0, [])), (29, (.invokestatic 214, 3, 141, 0, 0, [(4, 134), (4, 135)]))], [(32, (.ifCond .eq 7, 3, 39, 0, 0, [])), (35, (.iconst 1, 1, 0, 0, 0, [])), (36, (.goto 4, 3, 40, 0, 0, [])), (39, (.iconst 0, 1, 0, 0, 0, []))], [(40, (.ireturn, 1, 0, 0, 0, []))]])
/-- X10 hasLoop -/
def pd_137 : pm_D := ((yX10_hasLoop, cX10_hasLoop, 2, (some .boolean), 1, 10), [(4, 236), (1, 1)], [[(0, (.aload_n 0, 1, 0, 0, 0, [])), (1, (.getfield 23, 3, 10, 2, 3, [(2, 173)])), (4, (.aload_n 0, 1, 0, 0, 0, [])), (5, (.getfield 84, 3, 10, 13, 3, [(2, 184)]))], [(8, (.aload_n 1, 1, 0, 0, 0, [])), (9, (.invokevirtual 146, 3, 86, 0, 0, [(4, 22), (3, 137), (3, 138)])), (12, (.ifCond .ne 5, 3, 17, 0, 0, [])), (15, (.iconst 0, 1, 0, 0, 0, []))], [(16, (.ireturn, 1, 0, 0, 0, [])), (17, (.aload_n 0, 1, 0, 0, 0, [])), (18, (.getfield 23, 3, 10, 2, 3, [(2, 173)])), (21, (.invokevirtual 150, 3, 93, 0, 0, [(4, 23), (3, 145), (3, 146)]))], [(24, (.aload_n 0, 1, 0, 0, 0, [])), (25, (.getfield 23, 3, 10, 2, 3, [(2, 173)])), (28, (.getfield 153, 3, 9, 0, 0, [(1, 72)])), (31, (.aload_n 0, 1, 0, 0, 0, []))], [(32, (.getfield 23, 3, 10, 2, 3, [(2, 173)])), (35, (.getfield 156, 3, 9, 1, 0, [(1, 74)])), (38, (.if_icmp .le 7, 3, 45, 0, 0, []))], [(41, (.iconst 1, 1, 0, 0, 0, [])), (42, (.goto 4, 3, 46, 0, 0, [])), (45, (.iconst 0, 1, 0, 0, 0, [])), (46, (.ireturn, 1, 0, 0, 0, []))]])
/-- X10 canStretch -/
def pd_138 : pm_D := ((yX10_canStretch, cX10_canStretch, 3, (some .boolean), 2, 10), [(4, 152), (1, 1)], [[(0, (.aload_n 0, 1, 0, 0, 0, [])), (1, (.getfield 30, 3, 10, 3, 3, [(2, 174)])), (4, (.iload_n 1, 1, 0, 0, 0, [])), (5, (.invokevirtual 203, 3, 24, 0, 0, [(4, 106), (4, 107), (4, 108)]))], [(8, (.ifCond .eq 32, 3, 40, 0, 0, [])), (11, (.aload_n 0, 1, 0, 0, 0, [])), (12, (.iload_n 2, 1, 0, 0, 0, [])), (13, (.invokevirtual 256, 3, 134, 0, 0, [(4, 9), (4, 11), (0, 33)]))], [(16, (.ifCond .eq 24, 3, 40, 0, 0, [])), (19, (.aload_n 0, 1, 0, 0, 0, [])), (20, (.getfield 84, 3, 10, 13, 3, [(2, 184)])), (23, (.getfield 196, 3, 8, 11, 3, [(2, 121)]))], [(26, (.iload_n 2, 1, 0, 0, 0, [])), (27, (.aaload, 1, 0, 0, 0, [])), (28, (.invokestatic 222, 3, 142, 0, 0, [(4, 153), (3, 141)])), (31, (.lconst 0, 1, 0, 0, 0, []))], [(32, (.lcmp, 1, 0, 0, 0, [])), (33, (.ifCond .le 7, 3, 40, 0, 0, [])), (36, (.iconst 1, 1, 0, 0, 0, [])), (37, (.goto 4, 3, 41, 0, 0, []))], [(40, (.iconst 0, 1, 0, 0, 0, [])), (41, (.ireturn, 1, 0, 0, 0, []))]])
/-- X10 noteTable -/
def pd_139 : pm_D := ((yX10_noteTable, cX10_noteTable, 3, (some .boolean), 2, 10), [(4, 162), (1, 1)], [[(0, (.aload_n 0, 1, 0, 0, 0, [])), (1, (.getfield 58, 3, 10, 7, 3, [(2, 178)])), (4, (.iload_n 1, 1, 0, 0, 0, [])), (5, (.iload_n 2, 1, 0, 0, 0, [])), (6, (.invokevirtual 309, 3, 63, 0, 0, [(4, 163), (4, 164), (4, 165)]))], [(9, (.ifCond .ne 58, 3, 67, 0, 0, [])), (12, (.aload_n 0, 1, 0, 0, 0, [])), (13, (.getfield 58, 3, 10, 7, 3, [(2, 178)]))], [(16, (.aload_n 0, 1, 0, 0, 0, [])), (17, (.getfield 84, 3, 10, 13, 3, [(2, 184)])), (20, (.getfield 235, 3, 8, 1, 0, [(2, 93)])), (23, (.iload_n 1, 1, 0, 0, 0, []))], [(24, (.iload_n 2, 1, 0, 0, 0, [])), (25, (.invokevirtual 312, 3, 64, 0, 0, [(4, 167), (4, 168), (4, 169)])), (28, (.aload_n 0, 1, 0, 0, 0, [])), (29, (.getfield 84, 3, 10, 13, 3, [(2, 184)]))], [(32, (.getfield 196, 3, 8, 11, 3, [(2, 121)])), (35, (.iload_n 2, 1, 0, 0, 0, [])), (36, (.aaload, 1, 0, 0, 0, [])), (37, (.aload_n 0, 1, 0, 0, 0, [])), (38, (.getfield 74, 3, 10, 11, 3, [(2, 182)]))], [(41, (.invokestatic 187, 3, 140, 0, 0, [(4, 63), (3, 185)])), (44, (.aload_n 0, 1, 0, 0, 0, [])), (45, (.getfield 58, 3, 10, 7, 3, [(2, 178)]))], [(48, (.aload_n 0, 1, 0, 0, 0, [])), (49, (.getfield 30, 3, 10, 3, 3, [(2, 174)])), (52, (.aload_n 0, 1, 0, 0, 0, [])), (53, (.getfield 74, 3, 10, 11, 3, [(2, 182)]))], [(56, (.iload_n 1, 1, 0, 0, 0, [])), (57, (.aload_n 0, 1, 0, 0, 0, [])), (58, (.getfield 58, 3, 10, 7, 3, [(2, 178)])), (61, (.invokevirtual 210, 3, 26, 0, 0, [(4, 115), (4, 116), (4, 117)]))], [(64, (.putfield 315, 3, 7, 0, 2, [(2, 43)])), (67, (.aload_n 0, 1, 0, 0, 0, [])), (68, (.getfield 58, 3, 10, 7, 3, [(2, 178)])), (71, (.getfield 315, 3, 7, 0, 2, [(2, 43)]))], [(74, (.ireturn, 1, 0, 0, 0, []))]])
/-- X10 copyRow -/
def pd_140 : pm_D := ((yX10_copyRow, cX10_copyRow, 3, none, 2, 10), [(3, 186), (1, 1)], [[(0, (.iconst 0, 1, 0, 0, 0, [])), (1, (.istore_n 2, 1, 0, 0, 0, [])), (2, (.iload_n 2, 1, 0, 0, 0, [])), (3, (.bipush 18, 2, 0, 0, 0, [])), (5, (.if_icmp .ge 15, 3, 20, 0, 0, []))], [(8, (.aload_n 1, 1, 0, 0, 0, [])), (9, (.iload_n 2, 1, 0, 0, 0, [])), (10, (.aload_n 0, 1, 0, 0, 0, [])), (11, (.iload_n 2, 1, 0, 0, 0, [])), (12, (.laload, 1, 0, 0, 0, [])), (13, (.lastore, 1, 0, 0, 0, [])), (14, (.iinc 2 1, 3, 0, 0, 0, []))], [(17, (.goto (-15), 3, 2, 0, 0, [])), (20, (.return_, 1, 0, 0, 0, []))]])
/-- X10 sameRow -/
def pd_141 : pm_D := ((yX10_sameRow, cX10_sameRow, 3, (some .boolean), 2, 10), [(4, 136), (1, 1)], [[(0, (.iconst 0, 1, 0, 0, 0, [])), (1, (.istore_n 2, 1, 0, 0, 0, [])), (2, (.iload_n 2, 1, 0, 0, 0, [])), (3, (.bipush 18, 2, 0, 0, 0, [])), (5, (.if_icmp .ge 21, 3, 26, 0, 0, []))], [(8, (.aload_n 0, 1, 0, 0, 0, [])), (9, (.iload_n 2, 1, 0, 0, 0, [])), (10, (.laload, 1, 0, 0, 0, [])), (11, (.aload_n 1, 1, 0, 0, 0, [])), (12, (.iload_n 2, 1, 0, 0, 0, [])), (13, (.laload, 1, 0, 0, 0, [])), (14, (.lcmp, 1, 0, 0, 0, [])), (15, (.ifCond .eq 5, 3, 20, 0, 0, []))], [(18, (.iconst 0, 1, 0, 0, 0, [])), (19, (.ireturn, 1, 0, 0, 0, [])), (20, (.iinc 2 1, 3, 0, 0, 0, [])), (23, (.goto (-21), 3, 2, 0, 0, []))], [(26, (.iconst 1, 1, 0, 0, 0, [])), (27, (.ireturn, 1, 0, 0, 0, []))]])
/-- X10 total -/
def pd_142 : pm_D := ((yX10_total, cX10_total, 4, (some .long), 1, 10), [(3, 142), (1, 1)], [[(0, (.lconst 0, 1, 0, 0, 0, [])), (1, (.lstore_n 1, 1, 0, 0, 0, [])), (2, (.iconst 0, 1, 0, 0, 0, [])), (3, (.istore_n 3, 1, 0, 0, 0, [])), (4, (.iload_n 3, 1, 0, 0, 0, [])), (5, (.bipush 18, 2, 0, 0, 0, [])), (7, (.if_icmp .ge 15, 3, 22, 0, 0, []))], [(10, (.lload_n 1, 1, 0, 0, 0, [])), (11, (.aload_n 0, 1, 0, 0, 0, [])), (12, (.iload_n 3, 1, 0, 0, 0, [])), (13, (.laload, 1, 0, 0, 0, [])), (14, (.ladd, 1, 0, 0, 0, [])), (15, (.lstore_n 1, 1, 0, 0, 0, []))], [(16, (.iinc 3 1, 3, 0, 0, 0, [])), (19, (.goto (-15), 3, 4, 0, 0, [])), (22, (.lload_n 1, 1, 0, 0, 0, [])), (23, (.lreturn, 1, 0, 0, 0, []))]])
/-- X10 behind -/
def pd_143 : pm_D := ((yX10_behind, cX10_behind, 1, (some .int), 1, 10), [(3, 91), (1, 1)], [[(0, (.iload_n 0, 1, 0, 0, 0, [])), (1, (.iconst 3, 1, 0, 0, 0, [])), (2, (.irem, 1, 0, 0, 0, [])), (3, (.iconst 2, 1, 0, 0, 0, [])), (4, (.if_icmp .ne 9, 3, 13, 0, 0, [])), (7, (.iload_n 0, 1, 0, 0, 0, []))], [(8, (.iconst 2, 1, 0, 0, 0, [])), (9, (.isub, 1, 0, 0, 0, [])), (10, (.goto 6, 3, 16, 0, 0, [])), (13, (.iload_n 0, 1, 0, 0, 0, [])), (14, (.iconst 1, 1, 0, 0, 0, [])), (15, (.iadd, 1, 0, 0, 0, []))], [(16, (.ireturn, 1, 0, 0, 0, []))]])
/-- X10 ahead -/
def pd_144 : pm_D := ((yX10_ahead, cX10_ahead, 1, (some .int), 1, 10), [(3, 174), (1, 1)], [[(0, (.iload_n 0, 1, 0, 0, 0, [])), (1, (.iconst 3, 1, 0, 0, 0, [])), (2, (.irem, 1, 0, 0, 0, [])), (3, (.ifCond .ne 9, 3, 12, 0, 0, [])), (6, (.iload_n 0, 1, 0, 0, 0, [])), (7, (.iconst 2, 1, 0, 0, 0, []))], [(8, (.iadd, 1, 0, 0, 0, [])), (9, (.goto 6, 3, 15, 0, 0, [])), (12, (.iload_n 0, 1, 0, 0, 0, [])), (13, (.iconst 1, 1, 0, 0, 0, [])), (14, (.isub, 1, 0, 0, 0, [])), (15, (.ireturn, 1, 0, 0, 0, []))]])
/-- X11 init -/
def pd_145 : pm_D := ((yX11_init, cX11_init, 1, none, 0, 11), [(5, 95), (1, 12)], [[(0, (.aload_n 0, 1, 0, 0, 0, [])), (1, (.invokespecial 1, 3, 0, 0, 0, [(5, 96), (1, 20), (1, 21)])), (4, (.aload_n 0, 1, 0, 0, 0, [])), (5, (.sipush 1600, 3, 0, 0, 0, []))], [(8, (.newarray .int, 2, 0, 0, 0, [(1, 117)])), (10, (.putfield 7, 3, 11, 0, 3, [(5, 105)])), (13, (.aload_n 0, 1, 0, 0, 0, [])), (14, (.iconst (-1), 1, 0, 0, 0, [])), (15, (.putfield 13, 3, 11, 3, 0, [(5, 108)]))], [(18, (.aload_n 0, 1, 0, 0, 0, [])), (19, (.bipush 8, 2, 0, 0, 0, [])), (21, (.newarray .long, 2, 0, 0, 0, [(1, 116)])), (23, (.putfield 17, 3, 11, 10, 3, [(5, 115)]))], [(26, (.aload_n 0, 1, 0, 0, 0, [])), (27, (.bipush 6, 2, 0, 0, 0, [])), (29, (.newarray .long, 2, 0, 0, 0, [(1, 116)])), (31, (.putfield 21, 3, 11, 11, 3, [(5, 116)]))], [(34, (.aload_n 0, 1, 0, 0, 0, [])), (35, (.bipush 36, 2, 0, 0, 0, [])), (37, (.newarray .int, 2, 0, 0, 0, [(1, 117)])), (39, (.putfield 24, 3, 11, 12, 3, [(5, 117)]))], [(42, (.aload_n 0, 1, 0, 0, 0, [])), (43, (.bipush 18, 2, 0, 0, 0, [])), (45, (.newarray .int, 2, 0, 0, 0, [(1, 117)])), (47, (.putfield 27, 3, 11, 13, 3, [(5, 118)]))], [(50, (.aload_n 0, 1, 0, 0, 0, [])), (51, (.sipush 144, 3, 0, 0, 0, [])), (54, (.newarray .int, 2, 0, 0, 0, [(1, 117)]))], [(56, (.putfield 30, 3, 11, 14, 3, [(5, 119)])), (59, (.aload_n 0, 1, 0, 0, 0, [])), (60, (.bipush 48, 2, 0, 0, 0, [])), (62, (.newarray .int, 2, 0, 0, 0, [(1, 117)]))], [(64, (.putfield 33, 3, 11, 15, 3, [(5, 120)])), (67, (.aload_n 0, 1, 0, 0, 0, [])), (68, (.bipush 48, 2, 0, 0, 0, [])), (70, (.newarray .int, 2, 0, 0, 0, [(1, 117)]))], [(72, (.putfield 36, 3, 11, 16, 3, [(5, 121)])), (75, (.aload_n 0, 1, 0, 0, 0, [])), (76, (.bipush 6, 2, 0, 0, 0, [])), (78, (.newarray .int, 2, 0, 0, 0, [(1, 117)]))], [(80, (.putfield 39, 3, 11, 17, 3, [(5, 122)])), (83, (.aload_n 0, 1, 0, 0, 0, [])), (84, (.bipush 36, 2, 0, 0, 0, [])), (86, (.newarray .int, 2, 0, 0, 0, [(1, 117)]))], [(88, (.putfield 42, 3, 11, 18, 3, [(5, 123)])), (91, (.aload_n 0, 1, 0, 0, 0, [])), (92, (.sipush 144, 3, 0, 0, 0, [])), (95, (.newarray .int, 2, 0, 0, 0, [(1, 117)]))], [(97, (.putfield 45, 3, 11, 19, 3, [(5, 124)])), (100, (.aload_n 0, 1, 0, 0, 0, [])), (101, (.bipush 48, 2, 0, 0, 0, [])), (103, (.newarray .int, 2, 0, 0, 0, [(1, 117)]))], [(105, (.putfield 48, 3, 11, 20, 3, [(5, 125)])), (108, (.aload_n 0, 1, 0, 0, 0, [])), (109, (.bipush 48, 2, 0, 0, 0, [])), (111, (.newarray .int, 2, 0, 0, 0, [(1, 117)]))], [(113, (.putfield 51, 3, 11, 21, 3, [(5, 126)])), (116, (.aload_n 0, 1, 0, 0, 0, [])), (117, (.bipush 6, 2, 0, 0, 0, [])), (119, (.newarray .int, 2, 0, 0, 0, [(1, 117)]))], [(121, (.putfield 54, 3, 11, 22, 3, [(5, 127)])), (124, (.aload_n 0, 1, 0, 0, 0, [])), (125, (.bipush 36, 2, 0, 0, 0, [])), (127, (.newarray .int, 2, 0, 0, 0, [(1, 117)]))], [(129, (.putfield 57, 3, 11, 29, 3, [(5, 134)])), (132, (.aload_n 0, 1, 0, 0, 0, [])), (133, (.bipush 18, 2, 0, 0, 0, [])), (135, (.newarray .int, 2, 0, 0, 0, [(1, 117)]))], [(137, (.putfield 60, 3, 11, 30, 3, [(5, 135)])), (140, (.aload_n 0, 1, 0, 0, 0, [])), (141, (.bipush 36, 2, 0, 0, 0, [])), (143, (.newarray .int, 2, 0, 0, 0, [(1, 117)]))], [(145, (.putfield 63, 3, 11, 31, 3, [(5, 136)])), (148, (.aload_n 0, 1, 0, 0, 0, [])), (149, (.bipush 18, 2, 0, 0, 0, [])), (151, (.newarray .int, 2, 0, 0, 0, [(1, 117)]))], [(153, (.putfield 66, 3, 11, 33, 3, [(5, 138)])), (156, (.aload_n 0, 1, 0, 0, 0, [])), (157, (.bipush 19, 2, 0, 0, 0, [])), (159, (.newarray .int, 2, 0, 0, 0, [(1, 117)]))], [(161, (.putfield 69, 3, 11, 34, 3, [(5, 139)])), (164, (.aload_n 0, 1, 0, 0, 0, [])), (165, (.sipush 18000, 3, 0, 0, 0, []))], [(168, (.newarray .boolean, 2, 0, 0, 0, [(2, 170)])), (170, (.putfield 72, 3, 11, 35, 3, [(5, 140)])), (173, (.aload_n 0, 1, 0, 0, 0, [])), (174, (.sipush 18000, 3, 0, 0, 0, []))], [(177, (.newarray .int, 2, 0, 0, 0, [(1, 117)])), (179, (.putfield 76, 3, 11, 41, 3, [(5, 146)])), (182, (.aload_n 0, 1, 0, 0, 0, [])), (183, (.ldc 79, 2, 0, 0, 71280, [(5, 97)]))], [(185, (.newarray .int, 2, 0, 0, 0, [(1, 117)])), (187, (.putfield 80, 3, 11, 43, 3, [(5, 148)])), (190, (.aload_n 0, 1, 0, 0, 0, [])), (191, (.bipush 8, 2, 0, 0, 0, []))], [(193, (.newarray .int, 2, 0, 0, 0, [(1, 117)])), (195, (.putfield 83, 3, 11, 44, 3, [(5, 149)])), (198, (.aload_n 0, 1, 0, 0, 0, [])), (199, (.bipush 8, 2, 0, 0, 0, []))], [(201, (.newarray .int, 2, 0, 0, 0, [(1, 117)])), (203, (.putfield 86, 3, 11, 45, 3, [(5, 150)])), (206, (.aload_n 0, 1, 0, 0, 0, [])), (207, (.bipush 8, 2, 0, 0, 0, []))], [(209, (.newarray .int, 2, 0, 0, 0, [(1, 117)])), (211, (.putfield 89, 3, 11, 46, 3, [(5, 151)])), (214, (.aload_n 0, 1, 0, 0, 0, [])), (215, (.bipush 8, 2, 0, 0, 0, []))], [(217, (.newarray .int, 2, 0, 0, 0, [(1, 117)])), (219, (.putfield 92, 3, 11, 47, 3, [(5, 152)])), (222, (.aload_n 0, 1, 0, 0, 0, [])), (223, (.bipush 8, 2, 0, 0, 0, []))], [(225, (.newarray .int, 2, 0, 0, 0, [(1, 117)])), (227, (.putfield 95, 3, 11, 48, 3, [(5, 153)])), (230, (.aload_n 0, 1, 0, 0, 0, [])), (231, (.bipush 8, 2, 0, 0, 0, []))], [(233, (.newarray .boolean, 2, 0, 0, 0, [(2, 170)])), (235, (.putfield 98, 3, 11, 49, 3, [(5, 154)])), (238, (.aload_n 0, 1, 0, 0, 0, [])), (239, (.bipush 8, 2, 0, 0, 0, []))], [(241, (.newarray .boolean, 2, 0, 0, 0, [(2, 170)])), (243, (.putfield 101, 3, 11, 50, 3, [(5, 155)])), (246, (.aload_n 0, 1, 0, 0, 0, [])), (247, (.bipush 36, 2, 0, 0, 0, []))], [(249, (.newarray .int, 2, 0, 0, 0, [(1, 117)])), (251, (.putfield 104, 3, 11, 51, 3, [(5, 156)])), (254, (.aload_n 0, 1, 0, 0, 0, [])), (255, (.bipush 18, 2, 0, 0, 0, []))], [(257, (.newarray .int, 2, 0, 0, 0, [(1, 117)])), (259, (.putfield 107, 3, 11, 52, 3, [(5, 157)])), (262, (.aload_n 0, 1, 0, 0, 0, [])), (263, (.bipush 18, 2, 0, 0, 0, []))], [(265, (.newarray .long, 2, 0, 0, 0, [(1, 116)])), (267, (.putfield 110, 3, 11, 55, 3, [(5, 160)])), (270, (.aload_n 0, 1, 0, 0, 0, [])), (271, (.sipush 324, 3, 0, 0, 0, []))], [(274, (.newarray .long, 2, 0, 0, 0, [(1, 116)])), (276, (.putfield 113, 3, 11, 56, 3, [(5, 161)])), (279, (.aload_n 0, 1, 0, 0, 0, []))], [(280, (.bipush 18, 2, 0, 0, 0, [])), (282, (.newarray .long, 2, 0, 0, 0, [(1, 116)])), (284, (.putfield 116, 3, 11, 57, 3, [(5, 162)])), (287, (.aload_n 0, 1, 0, 0, 0, []))], [(288, (.bipush 18, 2, 0, 0, 0, [])), (290, (.newarray .long, 2, 0, 0, 0, [(1, 116)])), (292, (.putfield 119, 3, 11, 60, 3, [(5, 165)])), (295, (.aload_n 0, 1, 0, 0, 0, []))], [(296, (.bipush 72, 2, 0, 0, 0, [])), (298, (.newarray .int, 2, 0, 0, 0, [(1, 117)])), (300, (.putfield 122, 3, 11, 61, 3, [(5, 166)])), (303, (.aload_n 0, 1, 0, 0, 0, []))], [(304, (.bipush 18, 2, 0, 0, 0, [])), (306, (.newarray .long, 2, 0, 0, 0, [(1, 116)])), (308, (.putfield 125, 3, 11, 62, 3, [(5, 167)])), (311, (.aload_n 0, 1, 0, 0, 0, []))], [(312, (.sipush 144, 3, 0, 0, 0, [])), (315, (.newarray .long, 2, 0, 0, 0, [(1, 116)])), (317, (.putfield 128, 3, 11, 63, 3, [(5, 168)]))], [(320, (.aload_n 0, 1, 0, 0, 0, [])), (321, (.bipush 8, 2, 0, 0, 0, [])), (323, (.newarray .boolean, 2, 0, 0, 0, [(2, 170)])), (325, (.putfield 131, 3, 11, 64, 3, [(5, 169)]))], [(328, (.aload_n 0, 1, 0, 0, 0, [])), (329, (.sipush 324, 3, 0, 0, 0, [])), (332, (.newarray .long, 2, 0, 0, 0, [(1, 116)])), (334, (.putfield 134, 3, 11, 65, 3, [(5, 170)]))], [(337, (.aload_n 0, 1, 0, 0, 0, [])), (338, (.sipush 324, 3, 0, 0, 0, [])), (341, (.newarray .long, 2, 0, 0, 0, [(1, 116)])), (343, (.putfield 137, 3, 11, 66, 3, [(5, 171)]))], [(346, (.aload_n 0, 1, 0, 0, 0, [])), (347, (.bipush 19, 2, 0, 0, 0, [])), (349, (.newarray .long, 2, 0, 0, 0, [(1, 116)])), (351, (.putfield 140, 3, 11, 67, 3, [(5, 172)]))], [(354, (.aload_n 0, 1, 0, 0, 0, [])), (355, (.bipush 18, 2, 0, 0, 0, [])), (357, (.newarray .int, 2, 0, 0, 0, [(1, 117)])), (359, (.putfield 143, 3, 11, 68, 3, [(5, 173)]))], [(362, (.aload_n 0, 1, 0, 0, 0, [])), (363, (.bipush 18, 2, 0, 0, 0, [])), (365, (.newarray .int, 2, 0, 0, 0, [(1, 117)])), (367, (.putfield 146, 3, 11, 69, 3, [(5, 174)]))], [(370, (.aload_n 0, 1, 0, 0, 0, [])), (371, (.bipush 18, 2, 0, 0, 0, [])), (373, (.newarray .long, 2, 0, 0, 0, [(1, 116)])), (375, (.putfield 149, 3, 11, 71, 3, [(5, 176)]))], [(378, (.aload_n 0, 1, 0, 0, 0, [])), (379, (.sipush 1098, 3, 0, 0, 0, [])), (382, (.newarray .long, 2, 0, 0, 0, [(1, 116)]))], [(384, (.putfield 152, 3, 11, 72, 3, [(5, 177)])), (387, (.aload_n 0, 1, 0, 0, 0, [])), (388, (.sipush 1600, 3, 0, 0, 0, [])), (391, (.newarray .int, 2, 0, 0, 0, [(1, 117)]))], [(393, (.putfield 155, 3, 11, 75, 3, [(5, 180)])), (396, (.aload_n 0, 1, 0, 0, 0, [])), (397, (.bipush 18, 2, 0, 0, 0, [])), (399, (.newarray .long, 2, 0, 0, 0, [(1, 116)]))], [(401, (.putfield 158, 3, 11, 78, 3, [(5, 183)])), (404, (.aload_n 0, 1, 0, 0, 0, [])), (405, (.iconst 3, 1, 0, 0, 0, [])), (406, (.newarray .boolean, 2, 0, 0, 0, [(2, 170)]))], [(408, (.putfield 161, 3, 11, 79, 3, [(5, 184)])), (411, (.aload_n 0, 1, 0, 0, 0, [])), (412, (.bipush 54, 2, 0, 0, 0, [])), (414, (.newarray .long, 2, 0, 0, 0, [(1, 116)]))], [(416, (.putfield 164, 3, 11, 80, 3, [(5, 185)])), (419, (.aload_n 0, 1, 0, 0, 0, [])), (420, (.invokevirtual 167, 3, 178, 0, 0, [(5, 98), (5, 100), (0, 52)])), (423, (.return_, 1, 0, 0, 0, []))]])
/-- X11 feed -/
def pd_146 : pm_D := ((yX11_feed, cX11_feed, 6, (some .int), 5, 11), [(6, 112), (1, 12)], [[(0, (.aload_n 0, 1, 0, 0, 0, [])), (1, (.getfield 170, 3, 11, 1, 0, [(5, 106)])), (4, (.bipush 20, 2, 0, 0, 0, [])), (6, (.iadd, 1, 0, 0, 0, [])), (7, (.sipush 1600, 3, 0, 0, 0, []))], [(10, (.if_icmp .le 5, 3, 15, 0, 0, [])), (13, (.iconst (-1), 1, 0, 0, 0, [])), (14, (.ireturn, 1, 0, 0, 0, [])), (15, (.aload_n 0, 1, 0, 0, 0, []))], [(16, (.iload_n 1, 1, 0, 0, 0, [])), (17, (.invokevirtual 173, 3, 147, 0, 0, [(6, 113), (6, 115), (0, 53)])), (20, (.aload_n 0, 1, 0, 0, 0, [])), (21, (.iload_n 2, 1, 0, 0, 0, [])), (22, (.invokevirtual 173, 3, 147, 0, 0, [(6, 113), (6, 115), (0, 53)]))], [(25, (.aload_n 0, 1, 0, 0, 0, [])), (26, (.iload_n 3, 1, 0, 0, 0, [])), (27, (.invokevirtual 173, 3, 147, 0, 0, [(6, 113), (6, 115), (0, 53)])), (30, (.aload_n 0, 1, 0, 0, 0, [])), (31, (.iload 4, 2, 0, 0, 0, []))], [(33, (.invokevirtual 173, 3, 147, 0, 0, [(6, 113), (6, 115), (0, 53)])), (36, (.aload_n 0, 1, 0, 0, 0, [])), (37, (.iload 5, 2, 0, 0, 0, [])), (39, (.invokevirtual 173, 3, 147, 0, 0, [(6, 113), (6, 115), (0, 53)]))], [(42, (.aload_n 0, 1, 0, 0, 0, [])), (43, (.getfield 170, 3, 11, 1, 0, [(5, 106)])), (46, (.ireturn, 1, 0, 0, 0, []))]])
/-- X11 four -/
def pd_147 : pm_D := ((yX11_four, cX11_four, 3, none, 1, 11), [(6, 116), (1, 12)], [[(0, (.bipush 24, 2, 0, 0, 0, [])), (2, (.istore_n 2, 1, 0, 0, 0, [])), (3, (.iload_n 2, 1, 0, 0, 0, [])), (4, (.ifCond .lt 35, 3, 39, 0, 0, [])), (7, (.aload_n 0, 1, 0, 0, 0, []))], [(8, (.getfield 7, 3, 11, 0, 3, [(5, 105)])), (11, (.aload_n 0, 1, 0, 0, 0, [])), (12, (.getfield 170, 3, 11, 1, 0, [(5, 106)])), (15, (.iload_n 1, 1, 0, 0, 0, []))], [(16, (.iload_n 2, 1, 0, 0, 0, [])), (17, (.ishr, 1, 0, 0, 0, [])), (18, (.sipush 255, 3, 0, 0, 0, [])), (21, (.iand, 1, 0, 0, 0, [])), (22, (.iastore, 1, 0, 0, 0, [])), (23, (.aload_n 0, 1, 0, 0, 0, []))], [(24, (.dup, 1, 0, 0, 0, [])), (25, (.getfield 170, 3, 11, 1, 0, [(5, 106)])), (28, (.iconst 1, 1, 0, 0, 0, [])), (29, (.iadd, 1, 0, 0, 0, [])), (30, (.putfield 170, 3, 11, 1, 0, [(5, 106)]))], [(33, (.iinc 2 (-8), 3, 0, 0, 0, [])), (36, (.goto (-33), 3, 3, 0, 0, [])), (39, (.return_, 1, 0, 0, 0, []))]])
/-- X11 end -/
def pd_148 : pm_D := ((yX11_end, cX11_end, 2, (some .int), 1, 11), [(6, 120), (1, 12)], [[(0, (.iload_n 1, 1, 0, 0, 0, [])), (1, (.ifCond .lt 11, 3, 12, 0, 0, [])), (4, (.iload_n 1, 1, 0, 0, 0, [])), (5, (.aload_n 0, 1, 0, 0, 0, [])), (6, (.getfield 170, 3, 11, 1, 0, [(5, 106)]))], [(9, (.if_icmp .le 5, 3, 14, 0, 0, [])), (12, (.iconst (-1), 1, 0, 0, 0, [])), (13, (.ireturn, 1, 0, 0, 0, [])), (14, (.aload_n 0, 1, 0, 0, 0, [])), (15, (.iload_n 1, 1, 0, 0, 0, []))], [(16, (.putfield 170, 3, 11, 1, 0, [(5, 106)])), (19, (.iload_n 1, 1, 0, 0, 0, [])), (20, (.ireturn, 1, 0, 0, 0, []))]])
end
section
/-- X11 here -/
def pd_149 : pm_D := ((yX11_here, cX11_here, 2, (some .int), 1, 11), [(6, 136), (1, 12)], [[(0, (.aload_n 0, 1, 0, 0, 0, [])), (1, (.getfield 177, 3, 11, 4, 0, [(5, 109)])), (4, (.iload_n 1, 1, 0, 0, 0, [])), (5, (.iadd, 1, 0, 0, 0, [])), (6, (.aload_n 0, 1, 0, 0, 0, [])), (7, (.getfield 180, 3, 11, 5, 0, [(5, 110)]))], [(10, (.if_icmp .ge 17, 3, 27, 0, 0, [])), (13, (.aload_n 0, 1, 0, 0, 0, [])), (14, (.getfield 7, 3, 11, 0, 3, [(5, 105)]))], [(17, (.aload_n 0, 1, 0, 0, 0, [])), (18, (.getfield 177, 3, 11, 4, 0, [(5, 109)])), (21, (.iload_n 1, 1, 0, 0, 0, [])), (22, (.iadd, 1, 0, 0, 0, [])), (23, (.iaload, 1, 0, 0, 0, []))], [(24, (.goto 4, 3, 28, 0, 0, [])), (27, (.iconst (-1), 1, 0, 0, 0, [])), (28, (.ireturn, 1, 0, 0, 0, []))]])
/-- X11 isLetter -/
def pd_150 : pm_D := ((yX11_isLetter, cX11_isLetter, 1, (some .boolean), 1, 11), [(6, 139), (1, 12)], [[(0, (.iload_n 0, 1, 0, 0, 0, [])), (1, (.bipush 97, 2, 0, 0, 0, [])), (3, (.if_icmp .lt 13, 3, 16, 0, 0, [])), (6, (.iload_n 0, 1, 0, 0, 0, [])), (7, (.bipush 122, 2, 0, 0, 0, []))], [(9, (.if_icmp .gt 7, 3, 16, 0, 0, [])), (12, (.iconst 1, 1, 0, 0, 0, [])), (13, (.goto 4, 3, 17, 0, 0, []))], [(16, (.iconst 0, 1, 0, 0, 0, [])), (17, (.ireturn, 1, 0, 0, 0, []))]])
/-- X11 isDigit -/
def pd_151 : pm_D := ((yX11_isDigit, cX11_isDigit, 1, (some .boolean), 1, 11), [(6, 142), (1, 12)], [[(0, (.iload_n 0, 1, 0, 0, 0, [])), (1, (.bipush 48, 2, 0, 0, 0, [])), (3, (.if_icmp .lt 13, 3, 16, 0, 0, [])), (6, (.iload_n 0, 1, 0, 0, 0, [])), (7, (.bipush 57, 2, 0, 0, 0, []))], [(9, (.if_icmp .gt 7, 3, 16, 0, 0, [])), (12, (.iconst 1, 1, 0, 0, 0, [])), (13, (.goto 4, 3, 17, 0, 0, []))], [(16, (.iconst 0, 1, 0, 0, 0, [])), (17, (.ireturn, 1, 0, 0, 0, []))]])
/-- X11 token -/
def pd_152 : pm_D := ((yX11_token, cX11_token, 3, none, 0, 11), [(6, 132), (1, 12)], [[(0, (.aload_n 0, 1, 0, 0, 0, [])), (1, (.iconst 0, 1, 0, 0, 0, [])), (2, (.invokevirtual 183, 3, 149, 0, 0, [(6, 133), (6, 135), (0, 56)])), (5, (.bipush 32, 2, 0, 0, 0, [])), (7, (.if_icmp .eq 13, 3, 20, 0, 0, []))], [(10, (.aload_n 0, 1, 0, 0, 0, [])), (11, (.iconst 0, 1, 0, 0, 0, [])), (12, (.invokevirtual 183, 3, 149, 0, 0, [(6, 133), (6, 135), (0, 56)])), (15, (.bipush 10, 2, 0, 0, 0, []))], [(17, (.if_icmp .ne 16, 3, 33, 0, 0, [])), (20, (.aload_n 0, 1, 0, 0, 0, [])), (21, (.dup, 1, 0, 0, 0, [])), (22, (.getfield 177, 3, 11, 4, 0, [(5, 109)]))], [(25, (.iconst 1, 1, 0, 0, 0, [])), (26, (.iadd, 1, 0, 0, 0, [])), (27, (.putfield 177, 3, 11, 4, 0, [(5, 109)])), (30, (.goto (-30), 3, 0, 0, 0, []))], [(33, (.aload_n 0, 1, 0, 0, 0, [])), (34, (.aload_n 0, 1, 0, 0, 0, [])), (35, (.getfield 177, 3, 11, 4, 0, [(5, 109)])), (38, (.putfield 187, 3, 11, 7, 0, [(5, 112)]))], [(41, (.aload_n 0, 1, 0, 0, 0, [])), (42, (.iconst 0, 1, 0, 0, 0, [])), (43, (.invokevirtual 183, 3, 149, 0, 0, [(6, 133), (6, 135), (0, 56)])), (46, (.istore_n 1, 1, 0, 0, 0, [])), (47, (.iconst 0, 1, 0, 0, 0, []))], [(48, (.istore_n 2, 1, 0, 0, 0, [])), (49, (.aload_n 0, 1, 0, 0, 0, [])), (50, (.lconst 0, 1, 0, 0, 0, [])), (51, (.putfield 190, 3, 11, 9, 1, [(5, 114)])), (54, (.aload_n 0, 1, 0, 0, 0, [])), (55, (.iconst 0, 1, 0, 0, 0, []))], [(56, (.putfield 194, 3, 11, 8, 0, [(5, 113)])), (59, (.iload_n 1, 1, 0, 0, 0, [])), (60, (.ifCond .ge 11, 3, 71, 0, 0, [])), (63, (.aload_n 0, 1, 0, 0, 0, []))], [(64, (.iconst 0, 1, 0, 0, 0, [])), (65, (.putfield 197, 3, 11, 6, 0, [(5, 111)])), (68, (.goto 169, 3, 237, 0, 0, [])), (71, (.iload_n 1, 1, 0, 0, 0, []))], [(72, (.invokestatic 200, 3, 150, 0, 0, [(6, 137), (6, 138)])), (75, (.ifCond .eq 62, 3, 137, 0, 0, [])), (78, (.aload_n 0, 1, 0, 0, 0, [])), (79, (.iload_n 2, 1, 0, 0, 0, []))], [(80, (.invokevirtual 183, 3, 149, 0, 0, [(6, 133), (6, 135), (0, 56)])), (83, (.invokestatic 200, 3, 150, 0, 0, [(6, 137), (6, 138)])), (86, (.ifCond .eq 33, 3, 119, 0, 0, []))], [(89, (.iload_n 2, 1, 0, 0, 0, [])), (90, (.bipush 8, 2, 0, 0, 0, [])), (92, (.if_icmp .ge 21, 3, 113, 0, 0, [])), (95, (.aload_n 0, 1, 0, 0, 0, []))], [(96, (.aload_n 0, 1, 0, 0, 0, [])), (97, (.getfield 190, 3, 11, 9, 1, [(5, 114)])), (100, (.bipush 8, 2, 0, 0, 0, [])), (102, (.lshl, 1, 0, 0, 0, [])), (103, (.aload_n 0, 1, 0, 0, 0, []))], [(104, (.iload_n 2, 1, 0, 0, 0, [])), (105, (.invokevirtual 183, 3, 149, 0, 0, [(6, 133), (6, 135), (0, 56)])), (108, (.i2l, 1, 0, 0, 0, [])), (109, (.lor, 1, 0, 0, 0, [])), (110, (.putfield 190, 3, 11, 9, 1, [(5, 114)]))], [(113, (.iinc 2 1, 3, 0, 0, 0, [])), (116, (.goto (-38), 3, 78, 0, 0, [])), (119, (.aload_n 0, 1, 0, 0, 0, []))], [(120, (.iload_n 2, 1, 0, 0, 0, [])), (121, (.bipush 8, 2, 0, 0, 0, [])), (123, (.if_icmp .le 7, 3, 130, 0, 0, [])), (126, (.iconst 3, 1, 0, 0, 0, [])), (127, (.goto 4, 3, 131, 0, 0, []))], [(130, (.iconst 1, 1, 0, 0, 0, [])), (131, (.putfield 197, 3, 11, 6, 0, [(5, 111)])), (134, (.goto 103, 3, 237, 0, 0, []))], [(137, (.iload_n 1, 1, 0, 0, 0, [])), (138, (.invokestatic 204, 3, 151, 0, 0, [(6, 140), (6, 141)])), (141, (.ifCond .eq 73, 3, 214, 0, 0, []))], [(144, (.aload_n 0, 1, 0, 0, 0, [])), (145, (.iload_n 2, 1, 0, 0, 0, [])), (146, (.invokevirtual 183, 3, 149, 0, 0, [(6, 133), (6, 135), (0, 56)])), (149, (.invokestatic 204, 3, 151, 0, 0, [(6, 140), (6, 141)]))], [(152, (.ifCond .eq 34, 3, 186, 0, 0, [])), (155, (.iload_n 2, 1, 0, 0, 0, [])), (156, (.iconst 4, 1, 0, 0, 0, [])), (157, (.if_icmp .ge 23, 3, 180, 0, 0, []))], [(160, (.aload_n 0, 1, 0, 0, 0, [])), (161, (.bipush 10, 2, 0, 0, 0, [])), (163, (.aload_n 0, 1, 0, 0, 0, [])), (164, (.getfield 194, 3, 11, 8, 0, [(5, 113)])), (167, (.imul, 1, 0, 0, 0, []))], [(168, (.aload_n 0, 1, 0, 0, 0, [])), (169, (.iload_n 2, 1, 0, 0, 0, [])), (170, (.invokevirtual 183, 3, 149, 0, 0, [(6, 133), (6, 135), (0, 56)])), (173, (.iadd, 1, 0, 0, 0, [])), (174, (.bipush 48, 2, 0, 0, 0, []))], [(176, (.isub, 1, 0, 0, 0, [])), (177, (.putfield 194, 3, 11, 8, 0, [(5, 113)])), (180, (.iinc 2 1, 3, 0, 0, 0, [])), (183, (.goto (-39), 3, 144, 0, 0, []))], [(186, (.aload_n 0, 1, 0, 0, 0, [])), (187, (.iload_n 2, 1, 0, 0, 0, [])), (188, (.iconst 4, 1, 0, 0, 0, [])), (189, (.if_icmp .gt 14, 3, 203, 0, 0, []))], [(192, (.aload_n 0, 1, 0, 0, 0, [])), (193, (.iload_n 2, 1, 0, 0, 0, [])), (194, (.invokevirtual 183, 3, 149, 0, 0, [(6, 133), (6, 135), (0, 56)])), (197, (.invokestatic 200, 3, 150, 0, 0, [(6, 137), (6, 138)]))], [(200, (.ifCond .eq 7, 3, 207, 0, 0, [])), (203, (.iconst 3, 1, 0, 0, 0, [])), (204, (.goto 4, 3, 208, 0, 0, [])), (207, (.iconst 2, 1, 0, 0, 0, []))], [(208, (.putfield 197, 3, 11, 6, 0, [(5, 111)])), (211, (.goto 26, 3, 237, 0, 0, [])), (214, (.iconst 1, 1, 0, 0, 0, [])), (215, (.istore_n 2, 1, 0, 0, 0, []))], [(216, (.aload_n 0, 1, 0, 0, 0, [])), (217, (.iload_n 1, 1, 0, 0, 0, [])), (218, (.bipush 59, 2, 0, 0, 0, [])), (220, (.if_icmp .eq 9, 3, 229, 0, 0, [])), (223, (.iload_n 1, 1, 0, 0, 0, []))], [(224, (.bipush 45, 2, 0, 0, 0, [])), (226, (.if_icmp .ne 7, 3, 233, 0, 0, [])), (229, (.iload_n 1, 1, 0, 0, 0, [])), (230, (.goto 4, 3, 234, 0, 0, []))], [(233, (.iconst 3, 1, 0, 0, 0, [])), (234, (.putfield 197, 3, 11, 6, 0, [(5, 111)])), (237, (.aload_n 0, 1, 0, 0, 0, [])), (238, (.getfield 197, 3, 11, 6, 0, [(5, 111)]))], [(241, (.iconst 3, 1, 0, 0, 0, [])), (242, (.if_icmp .eq 13, 3, 255, 0, 0, [])), (245, (.aload_n 0, 1, 0, 0, 0, [])), (246, (.dup, 1, 0, 0, 0, [])), (247, (.getfield 177, 3, 11, 4, 0, [(5, 109)]))], [(250, (.iload_n 2, 1, 0, 0, 0, [])), (251, (.iadd, 1, 0, 0, 0, [])), (252, (.putfield 177, 3, 11, 4, 0, [(5, 109)])), (255, (.return_, 1, 0, 0, 0, []))]])
/-- X11 wrongAt -/
def pd_153 : pm_D := ((yX11_wrongAt, cX11_wrongAt, 3, none, 2, 11), [(6, 161), (1, 12)], [[(0, (.aload_n 0, 1, 0, 0, 0, [])), (1, (.getfield 207, 3, 11, 2, 0, [(5, 107)])), (4, (.ifCond .le 4, 3, 8, 0, 0, [])), (7, (.return_, 1, 0, 0, 0, []))], [(8, (.aload_n 0, 1, 0, 0, 0, [])), (9, (.aload_n 0, 1, 0, 0, 0, [])), (10, (.getfield 197, 3, 11, 6, 0, [(5, 111)])), (13, (.iconst 3, 1, 0, 0, 0, [])), (14, (.if_icmp .ne 15, 3, 29, 0, 0, []))], [(17, (.iload_n 2, 1, 0, 0, 0, [])), (18, (.aload_n 0, 1, 0, 0, 0, [])), (19, (.getfield 187, 3, 11, 7, 0, [(5, 112)])), (22, (.if_icmp .ne 7, 3, 29, 0, 0, []))], [(25, (.iconst 1, 1, 0, 0, 0, [])), (26, (.goto 4, 3, 30, 0, 0, [])), (29, (.iload_n 1, 1, 0, 0, 0, [])), (30, (.putfield 207, 3, 11, 2, 0, [(5, 107)]))], [(33, (.aload_n 0, 1, 0, 0, 0, [])), (34, (.iload_n 2, 1, 0, 0, 0, [])), (35, (.putfield 13, 3, 11, 3, 0, [(5, 108)])), (38, (.return_, 1, 0, 0, 0, []))]])
/-- X11 wrong -/
def pd_154 : pm_D := ((yX11_wrong, cX11_wrong, 2, none, 1, 11), [(6, 157), (1, 12)], [[(0, (.aload_n 0, 1, 0, 0, 0, [])), (1, (.iload_n 1, 1, 0, 0, 0, [])), (2, (.aload_n 0, 1, 0, 0, 0, [])), (3, (.getfield 187, 3, 11, 7, 0, [(5, 112)])), (6, (.invokevirtual 210, 3, 153, 0, 0, [(6, 158), (6, 160), (0, 60)]))], [(9, (.return_, 1, 0, 0, 0, []))]])
/-- X11 isWord -/
def pd_155 : pm_D := ((yX11_isWord, cX11_isWord, 3, (some .boolean), 1, 11), [(6, 151), (1, 12)], [[(0, (.aload_n 0, 1, 0, 0, 0, [])), (1, (.getfield 197, 3, 11, 6, 0, [(5, 111)])), (4, (.iconst 1, 1, 0, 0, 0, [])), (5, (.if_icmp .ne 16, 3, 21, 0, 0, []))], [(8, (.aload_n 0, 1, 0, 0, 0, [])), (9, (.getfield 190, 3, 11, 9, 1, [(5, 114)])), (12, (.lload_n 1, 1, 0, 0, 0, [])), (13, (.lcmp, 1, 0, 0, 0, [])), (14, (.ifCond .ne 7, 3, 21, 0, 0, []))], [(17, (.iconst 1, 1, 0, 0, 0, [])), (18, (.goto 4, 3, 22, 0, 0, [])), (21, (.iconst 0, 1, 0, 0, 0, [])), (22, (.ireturn, 1, 0, 0, 0, []))]])
/-- X11 isName -/
def pd_156 : pm_D := ((yX11_isName, cX11_isName, 1, (some .boolean), 0, 11), [(6, 189), (1, 12)], [[(0, (.aload_n 0, 1, 0, 0, 0, [])), (1, (.getfield 197, 3, 11, 6, 0, [(5, 111)])), (4, (.iconst 1, 1, 0, 0, 0, [])), (5, (.if_icmp .ne 62, 3, 67, 0, 0, []))], [(8, (.aload_n 0, 1, 0, 0, 0, [])), (9, (.getfield 190, 3, 11, 9, 1, [(5, 114)])), (12, (.ldc2_w 214, 3, 0, 0, 482804589413, [(6, 147)])), (15, (.lcmp, 1, 0, 0, 0, []))], [(16, (.ifCond .eq 51, 3, 67, 0, 0, [])), (19, (.aload_n 0, 1, 0, 0, 0, [])), (20, (.getfield 190, 3, 11, 9, 1, [(5, 114)])), (23, (.ldc2_w 216, 3, 0, 0, 1818848869, [(6, 152)]))], [(26, (.lcmp, 1, 0, 0, 0, [])), (27, (.ifCond .eq 40, 3, 67, 0, 0, [])), (30, (.aload_n 0, 1, 0, 0, 0, [])), (31, (.getfield 190, 3, 11, 9, 1, [(5, 114)]))], [(34, (.ldc2_w 218, 3, 0, 0, 28518, [(6, 190)])), (37, (.lcmp, 1, 0, 0, 0, [])), (38, (.ifCond .eq 29, 3, 67, 0, 0, []))], [(41, (.aload_n 0, 1, 0, 0, 0, [])), (42, (.getfield 190, 3, 11, 9, 1, [(5, 114)])), (45, (.ldc2_w 220, 3, 0, 0, 2003792484, [(6, 153)]))], [(48, (.lcmp, 1, 0, 0, 0, [])), (49, (.ifCond .eq 18, 3, 67, 0, 0, [])), (52, (.aload_n 0, 1, 0, 0, 0, [])), (53, (.getfield 190, 3, 11, 9, 1, [(5, 114)]))], [(56, (.ldc2_w 222, 3, 0, 0, 26995, [(6, 191)])), (59, (.lcmp, 1, 0, 0, 0, [])), (60, (.ifCond .eq 7, 3, 67, 0, 0, [])), (63, (.iconst 1, 1, 0, 0, 0, []))], [(64, (.goto 4, 3, 68, 0, 0, [])), (67, (.iconst 0, 1, 0, 0, 0, [])), (68, (.ireturn, 1, 0, 0, 0, []))]])
/-- X11 want -/
def pd_157 : pm_D := ((yX11_want, cX11_want, 3, none, 1, 11), [(6, 199), (1, 12)], [[(0, (.aload_n 0, 1, 0, 0, 0, [])), (1, (.getfield 207, 3, 11, 2, 0, [(5, 107)])), (4, (.ifCond .le 4, 3, 8, 0, 0, [])), (7, (.return_, 1, 0, 0, 0, []))], [(8, (.aload_n 0, 1, 0, 0, 0, [])), (9, (.lload_n 1, 1, 0, 0, 0, [])), (10, (.invokevirtual 224, 3, 155, 0, 0, [(6, 148), (6, 150), (0, 58)])), (13, (.ifCond .ne 11, 3, 24, 0, 0, []))], [(16, (.aload_n 0, 1, 0, 0, 0, [])), (17, (.iconst 2, 1, 0, 0, 0, [])), (18, (.invokevirtual 228, 3, 154, 0, 0, [(6, 154), (6, 156), (0, 59)])), (21, (.goto 7, 3, 28, 0, 0, []))], [(24, (.aload_n 0, 1, 0, 0, 0, [])), (25, (.invokevirtual 231, 3, 152, 0, 0, [(6, 129), (6, 131), (0, 55)])), (28, (.return_, 1, 0, 0, 0, []))]])
/-- X11 toldNumber -/
def pd_158 : pm_D := ((yX11_toldNumber, cX11_toldNumber, 4, (some .int), 2, 11), [(6, 181), (1, 12)], [[(0, (.aload_n 0, 1, 0, 0, 0, [])), (1, (.getfield 207, 3, 11, 2, 0, [(5, 107)])), (4, (.ifCond .le 5, 3, 9, 0, 0, [])), (7, (.iconst 0, 1, 0, 0, 0, []))], [(8, (.ireturn, 1, 0, 0, 0, [])), (9, (.aload_n 0, 1, 0, 0, 0, [])), (10, (.getfield 197, 3, 11, 6, 0, [(5, 111)])), (13, (.iconst 2, 1, 0, 0, 0, [])), (14, (.if_icmp .eq 11, 3, 25, 0, 0, []))], [(17, (.aload_n 0, 1, 0, 0, 0, [])), (18, (.iconst 2, 1, 0, 0, 0, [])), (19, (.invokevirtual 228, 3, 154, 0, 0, [(6, 154), (6, 156), (0, 59)])), (22, (.goto 24, 3, 46, 0, 0, []))], [(25, (.aload_n 0, 1, 0, 0, 0, [])), (26, (.getfield 194, 3, 11, 8, 0, [(5, 113)])), (29, (.iload_n 1, 1, 0, 0, 0, [])), (30, (.if_icmp .lt 11, 3, 41, 0, 0, []))], [(33, (.aload_n 0, 1, 0, 0, 0, [])), (34, (.getfield 194, 3, 11, 8, 0, [(5, 113)])), (37, (.iload_n 2, 1, 0, 0, 0, [])), (38, (.if_icmp .le 8, 3, 46, 0, 0, []))], [(41, (.aload_n 0, 1, 0, 0, 0, [])), (42, (.iconst 4, 1, 0, 0, 0, [])), (43, (.invokevirtual 228, 3, 154, 0, 0, [(6, 154), (6, 156), (0, 59)])), (46, (.aload_n 0, 1, 0, 0, 0, [])), (47, (.getfield 194, 3, 11, 8, 0, [(5, 113)]))], [(50, (.istore_n 3, 1, 0, 0, 0, [])), (51, (.aload_n 0, 1, 0, 0, 0, [])), (52, (.getfield 207, 3, 11, 2, 0, [(5, 107)])), (55, (.ifCond .ne 7, 3, 62, 0, 0, []))], [(58, (.aload_n 0, 1, 0, 0, 0, [])), (59, (.invokevirtual 231, 3, 152, 0, 0, [(6, 129), (6, 131), (0, 55)])), (62, (.iload_n 3, 1, 0, 0, 0, [])), (63, (.ireturn, 1, 0, 0, 0, []))]])
/-- X11 times -/
def pd_159 : pm_D := ((yX11_times, cX11_times, 4, (some .int), 0, 11), [(6, 211), (1, 12)], [[(0, (.aload_n 0, 1, 0, 0, 0, [])), (1, (.getfield 207, 3, 11, 2, 0, [(5, 107)])), (4, (.ifCond .le 5, 3, 9, 0, 0, [])), (7, (.iconst 0, 1, 0, 0, 0, []))], [(8, (.ireturn, 1, 0, 0, 0, [])), (9, (.aload_n 0, 1, 0, 0, 0, [])), (10, (.getfield 187, 3, 11, 7, 0, [(5, 112)])), (13, (.istore_n 1, 1, 0, 0, 0, [])), (14, (.aload_n 0, 1, 0, 0, 0, [])), (15, (.getfield 197, 3, 11, 6, 0, [(5, 111)]))], [(18, (.bipush 45, 2, 0, 0, 0, [])), (20, (.if_icmp .ne 7, 3, 27, 0, 0, [])), (23, (.iconst 1, 1, 0, 0, 0, []))], [(24, (.goto 4, 3, 28, 0, 0, [])), (27, (.iconst 0, 1, 0, 0, 0, [])), (28, (.istore_n 2, 1, 0, 0, 0, [])), (29, (.iload_n 2, 1, 0, 0, 0, [])), (30, (.ifCond .eq 7, 3, 37, 0, 0, []))], [(33, (.aload_n 0, 1, 0, 0, 0, [])), (34, (.invokevirtual 231, 3, 152, 0, 0, [(6, 129), (6, 131), (0, 55)])), (37, (.aload_n 0, 1, 0, 0, 0, [])), (38, (.getfield 197, 3, 11, 6, 0, [(5, 111)]))], [(41, (.iconst 2, 1, 0, 0, 0, [])), (42, (.if_icmp .eq 8, 3, 50, 0, 0, [])), (45, (.aload_n 0, 1, 0, 0, 0, [])), (46, (.iconst 2, 1, 0, 0, 0, [])), (47, (.invokevirtual 228, 3, 154, 0, 0, [(6, 154), (6, 156), (0, 59)]))], [(50, (.aload_n 0, 1, 0, 0, 0, [])), (51, (.getfield 207, 3, 11, 2, 0, [(5, 107)])), (54, (.ifCond .ne 25, 3, 79, 0, 0, []))], [(57, (.aload_n 0, 1, 0, 0, 0, [])), (58, (.getfield 194, 3, 11, 8, 0, [(5, 113)])), (61, (.ifCond .eq 12, 3, 73, 0, 0, []))], [(64, (.aload_n 0, 1, 0, 0, 0, [])), (65, (.getfield 194, 3, 11, 8, 0, [(5, 113)])), (68, (.bipush 9, 2, 0, 0, 0, [])), (70, (.if_icmp .le 9, 3, 79, 0, 0, []))], [(73, (.aload_n 0, 1, 0, 0, 0, [])), (74, (.iconst 4, 1, 0, 0, 0, [])), (75, (.iload_n 1, 1, 0, 0, 0, [])), (76, (.invokevirtual 210, 3, 153, 0, 0, [(6, 158), (6, 160), (0, 60)])), (79, (.iload_n 2, 1, 0, 0, 0, []))], [(80, (.ifCond .eq 11, 3, 91, 0, 0, [])), (83, (.aload_n 0, 1, 0, 0, 0, [])), (84, (.getfield 194, 3, 11, 8, 0, [(5, 113)])), (87, (.ineg, 1, 0, 0, 0, []))], [(88, (.goto 7, 3, 95, 0, 0, [])), (91, (.aload_n 0, 1, 0, 0, 0, [])), (92, (.getfield 194, 3, 11, 8, 0, [(5, 113)])), (95, (.istore_n 3, 1, 0, 0, 0, []))], [(96, (.aload_n 0, 1, 0, 0, 0, [])), (97, (.getfield 207, 3, 11, 2, 0, [(5, 107)])), (100, (.ifCond .ne 7, 3, 107, 0, 0, [])), (103, (.aload_n 0, 1, 0, 0, 0, []))], [(104, (.invokevirtual 231, 3, 152, 0, 0, [(6, 129), (6, 131), (0, 55)])), (107, (.iload_n 3, 1, 0, 0, 0, [])), (108, (.ireturn, 1, 0, 0, 0, []))]])
/-- X11 nEdges -/
def pd_160 : pm_D := ((yX11_nEdges, cX11_nEdges, 1, (some .int), 0, 11), [(6, 169), (1, 12)], [[(0, (.iconst 3, 1, 0, 0, 0, [])), (1, (.aload_n 0, 1, 0, 0, 0, [])), (2, (.getfield 234, 3, 11, 23, 0, [(5, 128)])), (5, (.imul, 1, 0, 0, 0, [])), (6, (.iconst 2, 1, 0, 0, 0, [])), (7, (.idiv, 1, 0, 0, 0, []))], [(8, (.ireturn, 1, 0, 0, 0, []))]])
/-- X11 edges -/
def pd_161 : pm_D := ((yX11_edges, cX11_edges, 1, (some .int), 0, 11), [(6, 231), (1, 12)], [[(0, (.iconst 3, 1, 0, 0, 0, [])), (1, (.aload_n 0, 1, 0, 0, 0, [])), (2, (.getfield 237, 3, 11, 26, 0, [(5, 131)])), (5, (.imul, 1, 0, 0, 0, [])), (6, (.iconst 2, 1, 0, 0, 0, [])), (7, (.idiv, 1, 0, 0, 0, []))], [(8, (.ireturn, 1, 0, 0, 0, []))]])
/-- X11 readPiece -/
def pd_162 : pm_D := ((yX11_readPiece, cX11_readPiece, 3, none, 0, 11), [(6, 177), (1, 12)], [[(0, (.aload_n 0, 1, 0, 0, 0, [])), (1, (.invokevirtual 231, 3, 152, 0, 0, [(6, 129), (6, 131), (0, 55)])), (4, (.iconst 0, 1, 0, 0, 0, [])), (5, (.istore_n 1, 1, 0, 0, 0, [])), (6, (.iload_n 1, 1, 0, 0, 0, [])), (7, (.iconst 3, 1, 0, 0, 0, []))], [(8, (.if_icmp .ge 91, 3, 99, 0, 0, [])), (11, (.aload_n 0, 1, 0, 0, 0, [])), (12, (.getfield 207, 3, 11, 2, 0, [(5, 107)])), (15, (.ifCond .ne 84, 3, 99, 0, 0, []))], [(18, (.aload_n 0, 1, 0, 0, 0, [])), (19, (.getfield 197, 3, 11, 6, 0, [(5, 111)])), (22, (.iconst 2, 1, 0, 0, 0, [])), (23, (.if_icmp .ne 30, 3, 53, 0, 0, []))], [(26, (.aload_n 0, 1, 0, 0, 0, [])), (27, (.getfield 194, 3, 11, 8, 0, [(5, 113)])), (30, (.bipush 18, 2, 0, 0, 0, []))], [(32, (.if_icmp .ge 21, 3, 53, 0, 0, [])), (35, (.aload_n 0, 1, 0, 0, 0, [])), (36, (.getfield 27, 3, 11, 13, 3, [(5, 118)])), (39, (.aload_n 0, 1, 0, 0, 0, []))], [(40, (.getfield 194, 3, 11, 8, 0, [(5, 113)])), (43, (.iaload, 1, 0, 0, 0, [])), (44, (.iconst 2, 1, 0, 0, 0, [])), (45, (.if_icmp .ne 8, 3, 53, 0, 0, []))], [(48, (.aload_n 0, 1, 0, 0, 0, [])), (49, (.iconst 3, 1, 0, 0, 0, [])), (50, (.invokevirtual 228, 3, 154, 0, 0, [(6, 154), (6, 156), (0, 59)])), (53, (.aload_n 0, 1, 0, 0, 0, [])), (54, (.iconst 0, 1, 0, 0, 0, [])), (55, (.bipush 17, 2, 0, 0, 0, []))], [(57, (.invokevirtual 240, 3, 158, 0, 0, [(6, 178), (6, 180), (0, 65)])), (60, (.istore_n 2, 1, 0, 0, 0, [])), (61, (.aload_n 0, 1, 0, 0, 0, [])), (62, (.getfield 207, 3, 11, 2, 0, [(5, 107)]))], [(65, (.ifCond .le 4, 3, 69, 0, 0, [])), (68, (.return_, 1, 0, 0, 0, [])), (69, (.aload_n 0, 1, 0, 0, 0, [])), (70, (.getfield 27, 3, 11, 13, 3, [(5, 118)]))], [(73, (.iload_n 2, 1, 0, 0, 0, [])), (74, (.dup2, 1, 0, 0, 0, [])), (75, (.iaload, 1, 0, 0, 0, [])), (76, (.iconst 1, 1, 0, 0, 0, [])), (77, (.iadd, 1, 0, 0, 0, [])), (78, (.iastore, 1, 0, 0, 0, [])), (79, (.aload_n 0, 1, 0, 0, 0, []))], [(80, (.getfield 24, 3, 11, 12, 3, [(5, 117)])), (83, (.iconst 3, 1, 0, 0, 0, [])), (84, (.aload_n 0, 1, 0, 0, 0, [])), (85, (.getfield 234, 3, 11, 23, 0, [(5, 128)]))], [(88, (.imul, 1, 0, 0, 0, [])), (89, (.iload_n 1, 1, 0, 0, 0, [])), (90, (.iadd, 1, 0, 0, 0, [])), (91, (.iload_n 2, 1, 0, 0, 0, [])), (92, (.iastore, 1, 0, 0, 0, [])), (93, (.iinc 1 1, 3, 0, 0, 0, []))], [(96, (.goto (-90), 3, 6, 0, 0, [])), (99, (.aload_n 0, 1, 0, 0, 0, [])), (100, (.getfield 207, 3, 11, 2, 0, [(5, 107)])), (103, (.ifCond .ne 13, 3, 116, 0, 0, []))], [(106, (.aload_n 0, 1, 0, 0, 0, [])), (107, (.dup, 1, 0, 0, 0, [])), (108, (.getfield 234, 3, 11, 23, 0, [(5, 128)])), (111, (.iconst 1, 1, 0, 0, 0, []))], [(112, (.iadd, 1, 0, 0, 0, [])), (113, (.putfield 234, 3, 11, 23, 0, [(5, 128)])), (116, (.return_, 1, 0, 0, 0, []))]])
/-- X11 isWhole -/
def pd_163 : pm_D := ((yX11_isWhole, cX11_isWhole, 6, (some .boolean), 0, 11), [(6, 165), (1, 12)], [[(0, (.aload_n 0, 1, 0, 0, 0, [])), (1, (.getfield 234, 3, 11, 23, 0, [(5, 128)])), (4, (.iconst 2, 1, 0, 0, 0, [])), (5, (.irem, 1, 0, 0, 0, [])), (6, (.ifCond .ne 7, 3, 13, 0, 0, []))], [(9, (.iconst 1, 1, 0, 0, 0, [])), (10, (.goto 4, 3, 14, 0, 0, [])), (13, (.iconst 0, 1, 0, 0, 0, [])), (14, (.istore_n 1, 1, 0, 0, 0, [])), (15, (.iconst 0, 1, 0, 0, 0, []))], [(16, (.istore_n 2, 1, 0, 0, 0, [])), (17, (.iload_n 2, 1, 0, 0, 0, [])), (18, (.bipush 18, 2, 0, 0, 0, [])), (20, (.if_icmp .ge 41, 3, 61, 0, 0, [])), (23, (.iload_n 1, 1, 0, 0, 0, []))], [(24, (.ifCond .eq 29, 3, 53, 0, 0, [])), (27, (.aload_n 0, 1, 0, 0, 0, [])), (28, (.getfield 27, 3, 11, 13, 3, [(5, 118)])), (31, (.iload_n 2, 1, 0, 0, 0, []))], [(32, (.iaload, 1, 0, 0, 0, [])), (33, (.iload_n 2, 1, 0, 0, 0, [])), (34, (.aload_n 0, 1, 0, 0, 0, [])), (35, (.invokevirtual 244, 3, 160, 0, 0, [(6, 166), (6, 168), (0, 62)])), (38, (.if_icmp .ge 7, 3, 45, 0, 0, []))], [(41, (.iconst 2, 1, 0, 0, 0, [])), (42, (.goto 4, 3, 46, 0, 0, [])), (45, (.iconst 0, 1, 0, 0, 0, [])), (46, (.if_icmp .ne 7, 3, 53, 0, 0, []))], [(49, (.iconst 1, 1, 0, 0, 0, [])), (50, (.goto 4, 3, 54, 0, 0, [])), (53, (.iconst 0, 1, 0, 0, 0, [])), (54, (.istore_n 1, 1, 0, 0, 0, [])), (55, (.iinc 2 1, 3, 0, 0, 0, []))], [(58, (.goto (-41), 3, 17, 0, 0, [])), (61, (.iconst 1, 1, 0, 0, 0, [])), (62, (.istore_n 2, 1, 0, 0, 0, [])), (63, (.iconst 0, 1, 0, 0, 0, []))], [(64, (.istore_n 3, 1, 0, 0, 0, [])), (65, (.iload_n 3, 1, 0, 0, 0, [])), (66, (.aload_n 0, 1, 0, 0, 0, [])), (67, (.getfield 234, 3, 11, 23, 0, [(5, 128)])), (70, (.if_icmp .ge 77, 3, 147, 0, 0, []))], [(73, (.iconst 0, 1, 0, 0, 0, [])), (74, (.istore 4, 2, 0, 0, 0, [])), (76, (.iload 4, 2, 0, 0, 0, [])), (78, (.aload_n 0, 1, 0, 0, 0, [])), (79, (.getfield 234, 3, 11, 23, 0, [(5, 128)]))], [(82, (.if_icmp .ge 59, 3, 141, 0, 0, [])), (85, (.iload_n 2, 1, 0, 0, 0, [])), (86, (.iload 4, 2, 0, 0, 0, []))], [(88, (.ishr, 1, 0, 0, 0, [])), (89, (.iconst 1, 1, 0, 0, 0, [])), (90, (.iand, 1, 0, 0, 0, [])), (91, (.iconst 1, 1, 0, 0, 0, [])), (92, (.if_icmp .ne 43, 3, 135, 0, 0, [])), (95, (.iconst 0, 1, 0, 0, 0, []))], [(96, (.istore 5, 2, 0, 0, 0, [])), (98, (.iload 5, 2, 0, 0, 0, [])), (100, (.aload_n 0, 1, 0, 0, 0, [])), (101, (.getfield 234, 3, 11, 23, 0, [(5, 128)]))], [(104, (.if_icmp .ge 31, 3, 135, 0, 0, [])), (107, (.iload_n 2, 1, 0, 0, 0, [])), (108, (.aload_n 0, 1, 0, 0, 0, [])), (109, (.iload 4, 2, 0, 0, 0, [])), (111, (.iload 5, 2, 0, 0, 0, []))], [(113, (.invokevirtual 248, 3, 164, 0, 0, [(6, 170), (6, 172), (0, 63)])), (116, (.ifCond .eq 10, 3, 126, 0, 0, [])), (119, (.iconst 1, 1, 0, 0, 0, []))], [(120, (.iload 5, 2, 0, 0, 0, [])), (122, (.ishl, 1, 0, 0, 0, [])), (123, (.goto 4, 3, 127, 0, 0, [])), (126, (.iconst 0, 1, 0, 0, 0, [])), (127, (.ior, 1, 0, 0, 0, []))], [(128, (.istore_n 2, 1, 0, 0, 0, [])), (129, (.iinc 5 1, 3, 0, 0, 0, [])), (132, (.goto (-34), 3, 98, 0, 0, [])), (135, (.iinc 4 1, 3, 0, 0, 0, []))], [(138, (.goto (-62), 3, 76, 0, 0, [])), (141, (.iinc 3 1, 3, 0, 0, 0, []))], [(144, (.goto (-79), 3, 65, 0, 0, [])), (147, (.iload_n 1, 1, 0, 0, 0, [])), (148, (.ifCond .eq 26, 3, 174, 0, 0, [])), (151, (.aload_n 0, 1, 0, 0, 0, []))], [(152, (.getfield 234, 3, 11, 23, 0, [(5, 128)])), (155, (.ifCond .eq 15, 3, 170, 0, 0, [])), (158, (.iload_n 2, 1, 0, 0, 0, [])), (159, (.iconst 1, 1, 0, 0, 0, []))], [(160, (.aload_n 0, 1, 0, 0, 0, [])), (161, (.getfield 234, 3, 11, 23, 0, [(5, 128)])), (164, (.ishl, 1, 0, 0, 0, [])), (165, (.iconst 1, 1, 0, 0, 0, [])), (166, (.isub, 1, 0, 0, 0, [])), (167, (.if_icmp .ne 7, 3, 174, 0, 0, []))], [(170, (.iconst 1, 1, 0, 0, 0, [])), (171, (.goto 4, 3, 175, 0, 0, [])), (174, (.iconst 0, 1, 0, 0, 0, [])), (175, (.ireturn, 1, 0, 0, 0, []))]])
/-- X11 hangs -/
def pd_164 : pm_D := ((yX11_hangs, cX11_hangs, 5, (some .boolean), 2, 11), [(6, 173), (1, 12)], [[(0, (.iconst 0, 1, 0, 0, 0, [])), (1, (.istore_n 3, 1, 0, 0, 0, [])), (2, (.iconst 0, 1, 0, 0, 0, [])), (3, (.istore 4, 2, 0, 0, 0, [])), (5, (.iload 4, 2, 0, 0, 0, [])), (7, (.bipush 9, 2, 0, 0, 0, []))], [(9, (.if_icmp .ge 48, 3, 57, 0, 0, [])), (12, (.iload_n 3, 1, 0, 0, 0, [])), (13, (.ifCond .ne 32, 3, 45, 0, 0, []))], [(16, (.aload_n 0, 1, 0, 0, 0, [])), (17, (.getfield 24, 3, 11, 12, 3, [(5, 117)])), (20, (.iconst 3, 1, 0, 0, 0, [])), (21, (.iload_n 1, 1, 0, 0, 0, [])), (22, (.imul, 1, 0, 0, 0, [])), (23, (.iload 4, 2, 0, 0, 0, []))], [(25, (.iconst 3, 1, 0, 0, 0, [])), (26, (.idiv, 1, 0, 0, 0, [])), (27, (.iadd, 1, 0, 0, 0, [])), (28, (.iaload, 1, 0, 0, 0, [])), (29, (.aload_n 0, 1, 0, 0, 0, [])), (30, (.getfield 24, 3, 11, 12, 3, [(5, 117)]))], [(33, (.iconst 3, 1, 0, 0, 0, [])), (34, (.iload_n 2, 1, 0, 0, 0, [])), (35, (.imul, 1, 0, 0, 0, [])), (36, (.iload 4, 2, 0, 0, 0, [])), (38, (.iconst 3, 1, 0, 0, 0, [])), (39, (.irem, 1, 0, 0, 0, []))], [(40, (.iadd, 1, 0, 0, 0, [])), (41, (.iaload, 1, 0, 0, 0, [])), (42, (.if_icmp .ne 7, 3, 49, 0, 0, [])), (45, (.iconst 1, 1, 0, 0, 0, [])), (46, (.goto 4, 3, 50, 0, 0, []))], [(49, (.iconst 0, 1, 0, 0, 0, [])), (50, (.istore_n 3, 1, 0, 0, 0, [])), (51, (.iinc 4 1, 3, 0, 0, 0, [])), (54, (.goto (-49), 3, 5, 0, 0, []))], [(57, (.iload_n 3, 1, 0, 0, 0, [])), (58, (.ireturn, 1, 0, 0, 0, []))]])
/-- X11 findLine -/
def pd_165 : pm_D := ((yX11_findLine, cX11_findLine, 3, (some .int), 0, 11), [(6, 195), (1, 12)], [[(0, (.iconst (-1), 1, 0, 0, 0, [])), (1, (.istore_n 1, 1, 0, 0, 0, [])), (2, (.iconst 0, 1, 0, 0, 0, [])), (3, (.istore_n 2, 1, 0, 0, 0, [])), (4, (.iload_n 2, 1, 0, 0, 0, [])), (5, (.aload_n 0, 1, 0, 0, 0, [])), (6, (.getfield 252, 3, 11, 24, 0, [(5, 129)]))], [(9, (.if_icmp .ge 29, 3, 38, 0, 0, [])), (12, (.aload_n 0, 1, 0, 0, 0, [])), (13, (.getfield 17, 3, 11, 10, 3, [(5, 115)]))], [(16, (.iload_n 2, 1, 0, 0, 0, [])), (17, (.laload, 1, 0, 0, 0, [])), (18, (.aload_n 0, 1, 0, 0, 0, [])), (19, (.getfield 190, 3, 11, 9, 1, [(5, 114)])), (22, (.lcmp, 1, 0, 0, 0, [])), (23, (.ifCond .ne 7, 3, 30, 0, 0, []))], [(26, (.iload_n 2, 1, 0, 0, 0, [])), (27, (.goto 4, 3, 31, 0, 0, [])), (30, (.iload_n 1, 1, 0, 0, 0, [])), (31, (.istore_n 1, 1, 0, 0, 0, []))], [(32, (.iinc 2 1, 3, 0, 0, 0, [])), (35, (.goto (-31), 3, 4, 0, 0, [])), (38, (.iload_n 1, 1, 0, 0, 0, [])), (39, (.ireturn, 1, 0, 0, 0, []))]])
/-- X11 nFits -/
def pd_166 : pm_D := ((yX11_nFits, cX11_nFits, 7, (some .boolean), 1, 11), [(6, 203), (1, 12)], [[(0, (.iconst 1, 1, 0, 0, 0, [])), (1, (.istore_n 2, 1, 0, 0, 0, [])), (2, (.iconst 0, 1, 0, 0, 0, [])), (3, (.istore_n 3, 1, 0, 0, 0, [])), (4, (.iload_n 3, 1, 0, 0, 0, [])), (5, (.aload_n 0, 1, 0, 0, 0, [])), (6, (.getfield 234, 3, 11, 23, 0, [(5, 128)]))], [(9, (.if_icmp .ge 117, 3, 126, 0, 0, [])), (12, (.aload_n 0, 1, 0, 0, 0, [])), (13, (.getfield 30, 3, 11, 14, 3, [(5, 119)]))], [(16, (.iload_n 1, 1, 0, 0, 0, [])), (17, (.aload_n 0, 1, 0, 0, 0, [])), (18, (.getfield 24, 3, 11, 12, 3, [(5, 117)])), (21, (.iconst 3, 1, 0, 0, 0, [])), (22, (.iload_n 3, 1, 0, 0, 0, [])), (23, (.imul, 1, 0, 0, 0, []))], [(24, (.iaload, 1, 0, 0, 0, [])), (25, (.iadd, 1, 0, 0, 0, [])), (26, (.iaload, 1, 0, 0, 0, [])), (27, (.istore 4, 2, 0, 0, 0, [])), (29, (.aload_n 0, 1, 0, 0, 0, [])), (30, (.getfield 30, 3, 11, 14, 3, [(5, 119)]))], [(33, (.iload_n 1, 1, 0, 0, 0, [])), (34, (.aload_n 0, 1, 0, 0, 0, [])), (35, (.getfield 24, 3, 11, 12, 3, [(5, 117)])), (38, (.iconst 3, 1, 0, 0, 0, [])), (39, (.iload_n 3, 1, 0, 0, 0, []))], [(40, (.imul, 1, 0, 0, 0, [])), (41, (.iconst 1, 1, 0, 0, 0, [])), (42, (.iadd, 1, 0, 0, 0, [])), (43, (.iaload, 1, 0, 0, 0, [])), (44, (.iadd, 1, 0, 0, 0, [])), (45, (.iaload, 1, 0, 0, 0, [])), (46, (.istore 5, 2, 0, 0, 0, []))], [(48, (.aload_n 0, 1, 0, 0, 0, [])), (49, (.getfield 30, 3, 11, 14, 3, [(5, 119)])), (52, (.iload_n 1, 1, 0, 0, 0, [])), (53, (.aload_n 0, 1, 0, 0, 0, [])), (54, (.getfield 24, 3, 11, 12, 3, [(5, 117)]))], [(57, (.iconst 3, 1, 0, 0, 0, [])), (58, (.iload_n 3, 1, 0, 0, 0, [])), (59, (.imul, 1, 0, 0, 0, [])), (60, (.iconst 2, 1, 0, 0, 0, [])), (61, (.iadd, 1, 0, 0, 0, [])), (62, (.iaload, 1, 0, 0, 0, [])), (63, (.iadd, 1, 0, 0, 0, []))], [(64, (.iaload, 1, 0, 0, 0, [])), (65, (.istore 6, 2, 0, 0, 0, [])), (67, (.iload_n 2, 1, 0, 0, 0, [])), (68, (.ifCond .eq 50, 3, 118, 0, 0, [])), (71, (.iload 4, 2, 0, 0, 0, []))], [(73, (.iload 5, 2, 0, 0, 0, [])), (75, (.iadd, 1, 0, 0, 0, [])), (76, (.iload 6, 2, 0, 0, 0, [])), (78, (.iadd, 1, 0, 0, 0, [])), (79, (.iconst 2, 1, 0, 0, 0, []))], [(80, (.irem, 1, 0, 0, 0, [])), (81, (.ifCond .ne 37, 3, 118, 0, 0, [])), (84, (.iload 4, 2, 0, 0, 0, [])), (86, (.iload 5, 2, 0, 0, 0, []))], [(88, (.iload 6, 2, 0, 0, 0, [])), (90, (.iadd, 1, 0, 0, 0, [])), (91, (.if_icmp .gt 27, 3, 118, 0, 0, [])), (94, (.iload 5, 2, 0, 0, 0, []))], [(96, (.iload 4, 2, 0, 0, 0, [])), (98, (.iload 6, 2, 0, 0, 0, [])), (100, (.iadd, 1, 0, 0, 0, [])), (101, (.if_icmp .gt 17, 3, 118, 0, 0, []))], [(104, (.iload 6, 2, 0, 0, 0, [])), (106, (.iload 4, 2, 0, 0, 0, [])), (108, (.iload 5, 2, 0, 0, 0, [])), (110, (.iadd, 1, 0, 0, 0, [])), (111, (.if_icmp .gt 7, 3, 118, 0, 0, []))], [(114, (.iconst 1, 1, 0, 0, 0, [])), (115, (.goto 4, 3, 119, 0, 0, [])), (118, (.iconst 0, 1, 0, 0, 0, [])), (119, (.istore_n 2, 1, 0, 0, 0, []))], [(120, (.iinc 3 1, 3, 0, 0, 0, [])), (123, (.goto (-119), 3, 4, 0, 0, [])), (126, (.iload_n 2, 1, 0, 0, 0, [])), (127, (.ireturn, 1, 0, 0, 0, []))]])
/-- X11 readLineOf -/
def pd_167 : pm_D := ((yX11_readLineOf, cX11_readLineOf, 4, none, 0, 11), [(6, 185), (1, 12)], [[(0, (.aload_n 0, 1, 0, 0, 0, [])), (1, (.invokevirtual 231, 3, 152, 0, 0, [(6, 129), (6, 131), (0, 55)])), (4, (.aload_n 0, 1, 0, 0, 0, [])), (5, (.invokevirtual 255, 3, 156, 0, 0, [(6, 186), (6, 188), (0, 67)]))], [(8, (.ifCond .ne 11, 3, 19, 0, 0, [])), (11, (.aload_n 0, 1, 0, 0, 0, [])), (12, (.iconst 2, 1, 0, 0, 0, [])), (13, (.invokevirtual 228, 3, 154, 0, 0, [(6, 154), (6, 156), (0, 59)]))], [(16, (.goto 15, 3, 31, 0, 0, [])), (19, (.aload_n 0, 1, 0, 0, 0, [])), (20, (.invokevirtual 259, 3, 165, 0, 0, [(6, 192), (6, 194), (0, 68)])), (23, (.ifCond .lt 8, 3, 31, 0, 0, []))], [(26, (.aload_n 0, 1, 0, 0, 0, [])), (27, (.iconst 3, 1, 0, 0, 0, [])), (28, (.invokevirtual 228, 3, 154, 0, 0, [(6, 154), (6, 156), (0, 59)])), (31, (.aload_n 0, 1, 0, 0, 0, []))], [(32, (.getfield 190, 3, 11, 9, 1, [(5, 114)])), (35, (.lstore_n 1, 1, 0, 0, 0, [])), (36, (.aload_n 0, 1, 0, 0, 0, [])), (37, (.getfield 207, 3, 11, 2, 0, [(5, 107)]))], [(40, (.ifCond .ne 7, 3, 47, 0, 0, [])), (43, (.aload_n 0, 1, 0, 0, 0, [])), (44, (.invokevirtual 231, 3, 152, 0, 0, [(6, 129), (6, 131), (0, 55)])), (47, (.aload_n 0, 1, 0, 0, 0, []))], [(48, (.ldc2_w 218, 3, 0, 0, 28518, [(6, 190)])), (51, (.invokevirtual 262, 3, 157, 0, 0, [(6, 196), (6, 198), (0, 69)])), (54, (.aload_n 0, 1, 0, 0, 0, [])), (55, (.getfield 207, 3, 11, 2, 0, [(5, 107)]))], [(58, (.ifCond .ne 15, 3, 73, 0, 0, [])), (61, (.aload_n 0, 1, 0, 0, 0, [])), (62, (.invokevirtual 244, 3, 160, 0, 0, [(6, 166), (6, 168), (0, 62)]))], [(65, (.ifCond .ne 8, 3, 73, 0, 0, [])), (68, (.aload_n 0, 1, 0, 0, 0, [])), (69, (.iconst 2, 1, 0, 0, 0, [])), (70, (.invokevirtual 228, 3, 154, 0, 0, [(6, 154), (6, 156), (0, 59)]))], [(73, (.iconst 0, 1, 0, 0, 0, [])), (74, (.istore_n 3, 1, 0, 0, 0, [])), (75, (.iload_n 3, 1, 0, 0, 0, [])), (76, (.aload_n 0, 1, 0, 0, 0, [])), (77, (.invokevirtual 244, 3, 160, 0, 0, [(6, 166), (6, 168), (0, 62)]))], [(80, (.if_icmp .ge 37, 3, 117, 0, 0, [])), (83, (.aload_n 0, 1, 0, 0, 0, [])), (84, (.getfield 207, 3, 11, 2, 0, [(5, 107)])), (87, (.ifCond .ne 30, 3, 117, 0, 0, []))], [(90, (.aload_n 0, 1, 0, 0, 0, [])), (91, (.getfield 30, 3, 11, 14, 3, [(5, 119)])), (94, (.bipush 18, 2, 0, 0, 0, []))], [(96, (.aload_n 0, 1, 0, 0, 0, [])), (97, (.getfield 252, 3, 11, 24, 0, [(5, 129)])), (100, (.imul, 1, 0, 0, 0, [])), (101, (.iload_n 3, 1, 0, 0, 0, [])), (102, (.iadd, 1, 0, 0, 0, [])), (103, (.aload_n 0, 1, 0, 0, 0, []))], [(104, (.iconst 0, 1, 0, 0, 0, [])), (105, (.bipush 99, 2, 0, 0, 0, [])), (107, (.invokevirtual 240, 3, 158, 0, 0, [(6, 178), (6, 180), (0, 65)])), (110, (.iastore, 1, 0, 0, 0, [])), (111, (.iinc 3 1, 3, 0, 0, 0, []))], [(114, (.goto (-39), 3, 75, 0, 0, [])), (117, (.aload_n 0, 1, 0, 0, 0, [])), (118, (.getfield 207, 3, 11, 2, 0, [(5, 107)]))], [(121, (.ifCond .ne 32, 3, 153, 0, 0, [])), (124, (.aload_n 0, 1, 0, 0, 0, [])), (125, (.getfield 197, 3, 11, 6, 0, [(5, 111)]))], [(128, (.bipush 59, 2, 0, 0, 0, [])), (130, (.if_icmp .ne 23, 3, 153, 0, 0, [])), (133, (.aload_n 0, 1, 0, 0, 0, [])), (134, (.bipush 18, 2, 0, 0, 0, []))], [(136, (.aload_n 0, 1, 0, 0, 0, [])), (137, (.getfield 252, 3, 11, 24, 0, [(5, 129)])), (140, (.imul, 1, 0, 0, 0, [])), (141, (.invokevirtual 266, 3, 166, 0, 0, [(6, 200), (6, 202), (0, 70)]))], [(144, (.ifCond .ne 9, 3, 153, 0, 0, [])), (147, (.aload_n 0, 1, 0, 0, 0, [])), (148, (.bipush 6, 2, 0, 0, 0, [])), (150, (.invokevirtual 228, 3, 154, 0, 0, [(6, 154), (6, 156), (0, 59)]))], [(153, (.aload_n 0, 1, 0, 0, 0, [])), (154, (.getfield 207, 3, 11, 2, 0, [(5, 107)])), (157, (.ifCond .le 4, 3, 161, 0, 0, []))], [(160, (.return_, 1, 0, 0, 0, [])), (161, (.aload_n 0, 1, 0, 0, 0, [])), (162, (.getfield 17, 3, 11, 10, 3, [(5, 115)])), (165, (.aload_n 0, 1, 0, 0, 0, [])), (166, (.getfield 252, 3, 11, 24, 0, [(5, 129)]))], [(169, (.lload_n 1, 1, 0, 0, 0, [])), (170, (.lastore, 1, 0, 0, 0, [])), (171, (.aload_n 0, 1, 0, 0, 0, [])), (172, (.dup, 1, 0, 0, 0, [])), (173, (.getfield 252, 3, 11, 24, 0, [(5, 129)]))], [(176, (.iconst 1, 1, 0, 0, 0, [])), (177, (.iadd, 1, 0, 0, 0, [])), (178, (.putfield 252, 3, 11, 24, 0, [(5, 129)])), (181, (.return_, 1, 0, 0, 0, []))]])
/-- X11 readWordOf -/
def pd_168 : pm_D := ((yX11_readWordOf, cX11_readWordOf, 8, none, 0, 11), [(6, 207), (1, 12)], [[(0, (.aload_n 0, 1, 0, 0, 0, [])), (1, (.invokevirtual 231, 3, 152, 0, 0, [(6, 129), (6, 131), (0, 55)])), (4, (.iconst 0, 1, 0, 0, 0, [])), (5, (.istore_n 1, 1, 0, 0, 0, [])), (6, (.iconst 0, 1, 0, 0, 0, [])), (7, (.istore_n 2, 1, 0, 0, 0, []))], [(8, (.iload_n 2, 1, 0, 0, 0, [])), (9, (.aload_n 0, 1, 0, 0, 0, [])), (10, (.getfield 269, 3, 11, 25, 0, [(5, 130)])), (13, (.if_icmp .ge 33, 3, 46, 0, 0, []))], [(16, (.iload_n 1, 1, 0, 0, 0, [])), (17, (.ifCond .ne 17, 3, 34, 0, 0, [])), (20, (.aload_n 0, 1, 0, 0, 0, [])), (21, (.getfield 21, 3, 11, 11, 3, [(5, 116)]))], [(24, (.iload_n 2, 1, 0, 0, 0, [])), (25, (.laload, 1, 0, 0, 0, [])), (26, (.aload_n 0, 1, 0, 0, 0, [])), (27, (.getfield 190, 3, 11, 9, 1, [(5, 114)])), (30, (.lcmp, 1, 0, 0, 0, [])), (31, (.ifCond .ne 7, 3, 38, 0, 0, []))], [(34, (.iconst 1, 1, 0, 0, 0, [])), (35, (.goto 4, 3, 39, 0, 0, [])), (38, (.iconst 0, 1, 0, 0, 0, [])), (39, (.istore_n 1, 1, 0, 0, 0, []))], [(40, (.iinc 2 1, 3, 0, 0, 0, [])), (43, (.goto (-35), 3, 8, 0, 0, [])), (46, (.aload_n 0, 1, 0, 0, 0, [])), (47, (.invokevirtual 255, 3, 156, 0, 0, [(6, 186), (6, 188), (0, 67)]))], [(50, (.ifCond .ne 11, 3, 61, 0, 0, [])), (53, (.aload_n 0, 1, 0, 0, 0, [])), (54, (.iconst 2, 1, 0, 0, 0, [])), (55, (.invokevirtual 228, 3, 154, 0, 0, [(6, 154), (6, 156), (0, 59)]))], [(58, (.goto 12, 3, 70, 0, 0, [])), (61, (.iload_n 1, 1, 0, 0, 0, [])), (62, (.ifCond .eq 8, 3, 70, 0, 0, []))], [(65, (.aload_n 0, 1, 0, 0, 0, [])), (66, (.iconst 3, 1, 0, 0, 0, [])), (67, (.invokevirtual 228, 3, 154, 0, 0, [(6, 154), (6, 156), (0, 59)])), (70, (.aload_n 0, 1, 0, 0, 0, [])), (71, (.getfield 190, 3, 11, 9, 1, [(5, 114)]))], [(74, (.lstore_n 2, 1, 0, 0, 0, [])), (75, (.aload_n 0, 1, 0, 0, 0, [])), (76, (.getfield 207, 3, 11, 2, 0, [(5, 107)])), (79, (.ifCond .ne 7, 3, 86, 0, 0, []))], [(82, (.aload_n 0, 1, 0, 0, 0, [])), (83, (.invokevirtual 231, 3, 152, 0, 0, [(6, 129), (6, 131), (0, 55)])), (86, (.aload_n 0, 1, 0, 0, 0, [])), (87, (.ldc2_w 222, 3, 0, 0, 26995, [(6, 191)]))], [(90, (.invokevirtual 262, 3, 157, 0, 0, [(6, 196), (6, 198), (0, 69)])), (93, (.iconst 0, 1, 0, 0, 0, [])), (94, (.istore 4, 2, 0, 0, 0, []))], [(96, (.iconst 1, 1, 0, 0, 0, [])), (97, (.istore 5, 2, 0, 0, 0, [])), (99, (.iload 5, 2, 0, 0, 0, [])), (101, (.ifCond .eq 128, 3, 229, 0, 0, []))], [(104, (.aload_n 0, 1, 0, 0, 0, [])), (105, (.getfield 207, 3, 11, 2, 0, [(5, 107)])), (108, (.ifCond .ne 121, 3, 229, 0, 0, [])), (111, (.aload_n 0, 1, 0, 0, 0, []))], [(112, (.invokevirtual 259, 3, 165, 0, 0, [(6, 192), (6, 194), (0, 68)])), (115, (.istore 6, 2, 0, 0, 0, [])), (117, (.aload_n 0, 1, 0, 0, 0, [])), (118, (.invokevirtual 255, 3, 156, 0, 0, [(6, 186), (6, 188), (0, 67)]))], [(121, (.ifCond .eq 10, 3, 131, 0, 0, [])), (124, (.iload 4, 2, 0, 0, 0, [])), (126, (.bipush 8, 2, 0, 0, 0, []))], [(128, (.if_icmp .ne 11, 3, 139, 0, 0, [])), (131, (.aload_n 0, 1, 0, 0, 0, [])), (132, (.iconst 2, 1, 0, 0, 0, [])), (133, (.invokevirtual 228, 3, 154, 0, 0, [(6, 154), (6, 156), (0, 59)]))], [(136, (.goto 13, 3, 149, 0, 0, [])), (139, (.iload 6, 2, 0, 0, 0, [])), (141, (.ifCond .ge 8, 3, 149, 0, 0, []))], [(144, (.aload_n 0, 1, 0, 0, 0, [])), (145, (.iconst 5, 1, 0, 0, 0, [])), (146, (.invokevirtual 228, 3, 154, 0, 0, [(6, 154), (6, 156), (0, 59)])), (149, (.aload_n 0, 1, 0, 0, 0, [])), (150, (.getfield 207, 3, 11, 2, 0, [(5, 107)]))], [(153, (.ifCond .ne 7, 3, 160, 0, 0, [])), (156, (.aload_n 0, 1, 0, 0, 0, [])), (157, (.invokevirtual 231, 3, 152, 0, 0, [(6, 129), (6, 131), (0, 55)]))], [(160, (.aload_n 0, 1, 0, 0, 0, [])), (161, (.invokevirtual 272, 3, 159, 0, 0, [(6, 208), (6, 210), (0, 72)])), (164, (.istore 7, 2, 0, 0, 0, [])), (166, (.aload_n 0, 1, 0, 0, 0, [])), (167, (.getfield 207, 3, 11, 2, 0, [(5, 107)]))], [(170, (.ifCond .le 4, 3, 174, 0, 0, [])), (173, (.return_, 1, 0, 0, 0, [])), (174, (.aload_n 0, 1, 0, 0, 0, [])), (175, (.getfield 33, 3, 11, 15, 3, [(5, 120)]))], [(178, (.bipush 8, 2, 0, 0, 0, [])), (180, (.aload_n 0, 1, 0, 0, 0, [])), (181, (.getfield 269, 3, 11, 25, 0, [(5, 130)]))], [(184, (.imul, 1, 0, 0, 0, [])), (185, (.iload 4, 2, 0, 0, 0, [])), (187, (.iadd, 1, 0, 0, 0, [])), (188, (.iload 6, 2, 0, 0, 0, [])), (190, (.iastore, 1, 0, 0, 0, [])), (191, (.aload_n 0, 1, 0, 0, 0, []))], [(192, (.getfield 36, 3, 11, 16, 3, [(5, 121)])), (195, (.bipush 8, 2, 0, 0, 0, [])), (197, (.aload_n 0, 1, 0, 0, 0, [])), (198, (.getfield 269, 3, 11, 25, 0, [(5, 130)]))], [(201, (.imul, 1, 0, 0, 0, [])), (202, (.iload 4, 2, 0, 0, 0, [])), (204, (.iadd, 1, 0, 0, 0, [])), (205, (.iload 7, 2, 0, 0, 0, [])), (207, (.iastore, 1, 0, 0, 0, []))], [(208, (.iinc 4 1, 3, 0, 0, 0, [])), (211, (.aload_n 0, 1, 0, 0, 0, [])), (212, (.getfield 197, 3, 11, 6, 0, [(5, 111)])), (215, (.iconst 1, 1, 0, 0, 0, []))], [(216, (.if_icmp .ne 7, 3, 223, 0, 0, [])), (219, (.iconst 1, 1, 0, 0, 0, [])), (220, (.goto 4, 3, 224, 0, 0, [])), (223, (.iconst 0, 1, 0, 0, 0, []))], [(224, (.istore 5, 2, 0, 0, 0, [])), (226, (.goto (-127), 3, 99, 0, 0, [])), (229, (.aload_n 0, 1, 0, 0, 0, [])), (230, (.getfield 207, 3, 11, 2, 0, [(5, 107)]))], [(233, (.ifCond .le 4, 3, 237, 0, 0, [])), (236, (.return_, 1, 0, 0, 0, [])), (237, (.aload_n 0, 1, 0, 0, 0, [])), (238, (.getfield 21, 3, 11, 11, 3, [(5, 116)]))], [(241, (.aload_n 0, 1, 0, 0, 0, [])), (242, (.getfield 269, 3, 11, 25, 0, [(5, 130)])), (245, (.lload_n 2, 1, 0, 0, 0, [])), (246, (.lastore, 1, 0, 0, 0, [])), (247, (.aload_n 0, 1, 0, 0, 0, []))], [(248, (.getfield 39, 3, 11, 17, 3, [(5, 122)])), (251, (.aload_n 0, 1, 0, 0, 0, [])), (252, (.getfield 269, 3, 11, 25, 0, [(5, 130)])), (255, (.iload 4, 2, 0, 0, 0, []))], [(257, (.iastore, 1, 0, 0, 0, [])), (258, (.aload_n 0, 1, 0, 0, 0, [])), (259, (.dup, 1, 0, 0, 0, [])), (260, (.getfield 269, 3, 11, 25, 0, [(5, 130)])), (263, (.iconst 1, 1, 0, 0, 0, []))], [(264, (.iadd, 1, 0, 0, 0, [])), (265, (.putfield 269, 3, 11, 25, 0, [(5, 130)])), (268, (.return_, 1, 0, 0, 0, []))]])
/-- X11 readLine -/
def pd_169 : pm_D := ((yX11_readLine, cX11_readLine, 4, none, 0, 11), [(6, 146), (1, 12)], [[(0, (.aload_n 0, 1, 0, 0, 0, [])), (1, (.getfield 252, 3, 11, 24, 0, [(5, 129)])), (4, (.aload_n 0, 1, 0, 0, 0, [])), (5, (.getfield 269, 3, 11, 25, 0, [(5, 130)]))], [(8, (.iadd, 1, 0, 0, 0, [])), (9, (.ifCond .ne 7, 3, 16, 0, 0, [])), (12, (.iconst 1, 1, 0, 0, 0, [])), (13, (.goto 4, 3, 17, 0, 0, []))], [(16, (.iconst 0, 1, 0, 0, 0, [])), (17, (.istore_n 1, 1, 0, 0, 0, [])), (18, (.aload_n 0, 1, 0, 0, 0, [])), (19, (.ldc2_w 214, 3, 0, 0, 482804589413, [(6, 147)])), (22, (.invokevirtual 224, 3, 155, 0, 0, [(6, 148), (6, 150), (0, 58)]))], [(25, (.ifCond .eq 20, 3, 45, 0, 0, [])), (28, (.iload_n 1, 1, 0, 0, 0, [])), (29, (.ifCond .eq 16, 3, 45, 0, 0, []))], [(32, (.aload_n 0, 1, 0, 0, 0, [])), (33, (.getfield 234, 3, 11, 23, 0, [(5, 128)])), (36, (.bipush 12, 2, 0, 0, 0, [])), (38, (.if_icmp .ge 7, 3, 45, 0, 0, []))], [(41, (.iconst 1, 1, 0, 0, 0, [])), (42, (.goto 4, 3, 46, 0, 0, [])), (45, (.iconst 0, 1, 0, 0, 0, [])), (46, (.istore_n 2, 1, 0, 0, 0, [])), (47, (.aload_n 0, 1, 0, 0, 0, []))], [(48, (.ldc2_w 216, 3, 0, 0, 1818848869, [(6, 152)])), (51, (.invokevirtual 224, 3, 155, 0, 0, [(6, 148), (6, 150), (0, 58)])), (54, (.ifCond .eq 12, 3, 66, 0, 0, []))], [(57, (.aload_n 0, 1, 0, 0, 0, [])), (58, (.getfield 252, 3, 11, 24, 0, [(5, 129)])), (61, (.bipush 8, 2, 0, 0, 0, [])), (63, (.if_icmp .lt 22, 3, 85, 0, 0, []))], [(66, (.aload_n 0, 1, 0, 0, 0, [])), (67, (.ldc2_w 220, 3, 0, 0, 2003792484, [(6, 153)])), (70, (.invokevirtual 224, 3, 155, 0, 0, [(6, 148), (6, 150), (0, 58)]))], [(73, (.ifCond .eq 16, 3, 89, 0, 0, [])), (76, (.aload_n 0, 1, 0, 0, 0, [])), (77, (.getfield 269, 3, 11, 25, 0, [(5, 130)]))], [(80, (.bipush 6, 2, 0, 0, 0, [])), (82, (.if_icmp .ge 7, 3, 89, 0, 0, [])), (85, (.iconst 1, 1, 0, 0, 0, [])), (86, (.goto 4, 3, 90, 0, 0, []))], [(89, (.iconst 0, 1, 0, 0, 0, [])), (90, (.istore_n 3, 1, 0, 0, 0, [])), (91, (.iload_n 2, 1, 0, 0, 0, [])), (92, (.ifCond .ne 15, 3, 107, 0, 0, [])), (95, (.iload_n 3, 1, 0, 0, 0, []))], [(96, (.ifCond .ne 11, 3, 107, 0, 0, [])), (99, (.aload_n 0, 1, 0, 0, 0, [])), (100, (.iconst 2, 1, 0, 0, 0, [])), (101, (.invokevirtual 228, 3, 154, 0, 0, [(6, 154), (6, 156), (0, 59)]))], [(104, (.goto 24, 3, 128, 0, 0, [])), (107, (.iload_n 3, 1, 0, 0, 0, [])), (108, (.ifCond .eq 20, 3, 128, 0, 0, [])), (111, (.iload_n 1, 1, 0, 0, 0, []))], [(112, (.ifCond .eq 16, 3, 128, 0, 0, [])), (115, (.aload_n 0, 1, 0, 0, 0, [])), (116, (.invokevirtual 275, 3, 163, 0, 0, [(6, 162), (6, 164), (0, 61)])), (119, (.ifCond .ne 9, 3, 128, 0, 0, []))], [(122, (.aload_n 0, 1, 0, 0, 0, [])), (123, (.bipush 6, 2, 0, 0, 0, [])), (125, (.invokevirtual 228, 3, 154, 0, 0, [(6, 154), (6, 156), (0, 59)]))], [(128, (.aload_n 0, 1, 0, 0, 0, [])), (129, (.getfield 207, 3, 11, 2, 0, [(5, 107)])), (132, (.ifCond .le 4, 3, 136, 0, 0, [])), (135, (.return_, 1, 0, 0, 0, []))], [(136, (.iload_n 2, 1, 0, 0, 0, [])), (137, (.ifCond .eq 10, 3, 147, 0, 0, [])), (140, (.aload_n 0, 1, 0, 0, 0, [])), (141, (.invokevirtual 278, 3, 162, 0, 0, [(6, 174), (6, 176), (0, 64)]))], [(144, (.goto 24, 3, 168, 0, 0, [])), (147, (.aload_n 0, 1, 0, 0, 0, [])), (148, (.ldc2_w 216, 3, 0, 0, 1818848869, [(6, 152)])), (151, (.invokevirtual 224, 3, 155, 0, 0, [(6, 148), (6, 150), (0, 58)]))], [(154, (.ifCond .eq 10, 3, 164, 0, 0, [])), (157, (.aload_n 0, 1, 0, 0, 0, [])), (158, (.invokevirtual 281, 3, 167, 0, 0, [(6, 182), (6, 184), (0, 66)]))], [(161, (.goto 7, 3, 168, 0, 0, [])), (164, (.aload_n 0, 1, 0, 0, 0, [])), (165, (.invokevirtual 284, 3, 168, 0, 0, [(6, 204), (6, 206), (0, 71)]))], [(168, (.aload_n 0, 1, 0, 0, 0, [])), (169, (.getfield 207, 3, 11, 2, 0, [(5, 107)])), (172, (.ifCond .ne 17, 3, 189, 0, 0, [])), (175, (.aload_n 0, 1, 0, 0, 0, []))], [(176, (.getfield 197, 3, 11, 6, 0, [(5, 111)])), (179, (.bipush 59, 2, 0, 0, 0, [])), (181, (.if_icmp .eq 8, 3, 189, 0, 0, []))], [(184, (.aload_n 0, 1, 0, 0, 0, [])), (185, (.iconst 2, 1, 0, 0, 0, [])), (186, (.invokevirtual 228, 3, 154, 0, 0, [(6, 154), (6, 156), (0, 59)])), (189, (.aload_n 0, 1, 0, 0, 0, [])), (190, (.getfield 207, 3, 11, 2, 0, [(5, 107)]))], [(193, (.ifCond .ne 7, 3, 200, 0, 0, [])), (196, (.aload_n 0, 1, 0, 0, 0, [])), (197, (.invokevirtual 231, 3, 152, 0, 0, [(6, 129), (6, 131), (0, 55)]))], [(200, (.return_, 1, 0, 0, 0, []))]])
/-- X11 readAll -/
def pd_170 : pm_D := ((yX11_readAll, cX11_readAll, 2, none, 0, 11), [(6, 128), (1, 12)], [[(0, (.aload_n 0, 1, 0, 0, 0, [])), (1, (.aload_n 0, 1, 0, 0, 0, [])), (2, (.getfield 170, 3, 11, 1, 0, [(5, 106)])), (5, (.putfield 180, 3, 11, 5, 0, [(5, 110)]))], [(8, (.aload_n 0, 1, 0, 0, 0, [])), (9, (.iconst 0, 1, 0, 0, 0, [])), (10, (.putfield 170, 3, 11, 1, 0, [(5, 106)])), (13, (.aload_n 0, 1, 0, 0, 0, [])), (14, (.iconst 0, 1, 0, 0, 0, [])), (15, (.putfield 177, 3, 11, 4, 0, [(5, 109)]))], [(18, (.aload_n 0, 1, 0, 0, 0, [])), (19, (.iconst 0, 1, 0, 0, 0, [])), (20, (.putfield 207, 3, 11, 2, 0, [(5, 107)])), (23, (.aload_n 0, 1, 0, 0, 0, []))], [(24, (.iconst (-1), 1, 0, 0, 0, [])), (25, (.putfield 13, 3, 11, 3, 0, [(5, 108)])), (28, (.aload_n 0, 1, 0, 0, 0, [])), (29, (.iconst 0, 1, 0, 0, 0, [])), (30, (.putfield 234, 3, 11, 23, 0, [(5, 128)]))], [(33, (.aload_n 0, 1, 0, 0, 0, [])), (34, (.iconst 0, 1, 0, 0, 0, [])), (35, (.putfield 252, 3, 11, 24, 0, [(5, 129)])), (38, (.aload_n 0, 1, 0, 0, 0, [])), (39, (.iconst 0, 1, 0, 0, 0, []))], [(40, (.putfield 269, 3, 11, 25, 0, [(5, 130)])), (43, (.iconst 0, 1, 0, 0, 0, [])), (44, (.istore_n 1, 1, 0, 0, 0, [])), (45, (.iload_n 1, 1, 0, 0, 0, [])), (46, (.bipush 18, 2, 0, 0, 0, []))], [(48, (.if_icmp .ge 16, 3, 64, 0, 0, [])), (51, (.aload_n 0, 1, 0, 0, 0, [])), (52, (.getfield 27, 3, 11, 13, 3, [(5, 118)])), (55, (.iload_n 1, 1, 0, 0, 0, []))], [(56, (.iconst 0, 1, 0, 0, 0, [])), (57, (.iastore, 1, 0, 0, 0, [])), (58, (.iinc 1 1, 3, 0, 0, 0, [])), (61, (.goto (-16), 3, 45, 0, 0, []))], [(64, (.aload_n 0, 1, 0, 0, 0, [])), (65, (.invokevirtual 231, 3, 152, 0, 0, [(6, 129), (6, 131), (0, 55)])), (68, (.aload_n 0, 1, 0, 0, 0, [])), (69, (.getfield 207, 3, 11, 2, 0, [(5, 107)]))], [(72, (.ifCond .ne 17, 3, 89, 0, 0, [])), (75, (.aload_n 0, 1, 0, 0, 0, [])), (76, (.getfield 197, 3, 11, 6, 0, [(5, 111)])), (79, (.ifCond .eq 10, 3, 89, 0, 0, []))], [(82, (.aload_n 0, 1, 0, 0, 0, [])), (83, (.invokevirtual 287, 3, 169, 0, 0, [(6, 143), (6, 145), (0, 57)])), (86, (.goto (-18), 3, 68, 0, 0, []))], [(89, (.aload_n 0, 1, 0, 0, 0, [])), (90, (.getfield 207, 3, 11, 2, 0, [(5, 107)])), (93, (.ifCond .ne 28, 3, 121, 0, 0, []))], [(96, (.aload_n 0, 1, 0, 0, 0, [])), (97, (.getfield 252, 3, 11, 24, 0, [(5, 129)])), (100, (.aload_n 0, 1, 0, 0, 0, [])), (101, (.getfield 269, 3, 11, 25, 0, [(5, 130)]))], [(104, (.iadd, 1, 0, 0, 0, [])), (105, (.ifCond .ne 16, 3, 121, 0, 0, [])), (108, (.aload_n 0, 1, 0, 0, 0, [])), (109, (.invokevirtual 275, 3, 163, 0, 0, [(6, 162), (6, 164), (0, 61)]))], [(112, (.ifCond .ne 9, 3, 121, 0, 0, [])), (115, (.aload_n 0, 1, 0, 0, 0, [])), (116, (.bipush 6, 2, 0, 0, 0, [])), (118, (.invokevirtual 228, 3, 154, 0, 0, [(6, 154), (6, 156), (0, 59)]))], [(121, (.return_, 1, 0, 0, 0, []))]])
/-- X11 ground -/
def pd_171 : pm_D := ((yX11_ground, cX11_ground, 2, (some .int), 0, 11), [(6, 124), (1, 12)], [[(0, (.aload_n 0, 1, 0, 0, 0, [])), (1, (.invokevirtual 290, 3, 170, 0, 0, [(6, 125), (6, 127), (0, 54)])), (4, (.aload_n 0, 1, 0, 0, 0, [])), (5, (.getfield 207, 3, 11, 2, 0, [(5, 107)]))], [(8, (.ifCond .le 5, 3, 13, 0, 0, [])), (11, (.iconst (-1), 1, 0, 0, 0, [])), (12, (.ireturn, 1, 0, 0, 0, [])), (13, (.aload_n 0, 1, 0, 0, 0, [])), (14, (.aload_n 0, 1, 0, 0, 0, [])), (15, (.getfield 234, 3, 11, 23, 0, [(5, 128)]))], [(18, (.putfield 237, 3, 11, 26, 0, [(5, 131)])), (21, (.aload_n 0, 1, 0, 0, 0, [])), (22, (.aload_n 0, 1, 0, 0, 0, [])), (23, (.getfield 252, 3, 11, 24, 0, [(5, 129)]))], [(26, (.putfield 293, 3, 11, 27, 0, [(5, 132)])), (29, (.aload_n 0, 1, 0, 0, 0, [])), (30, (.aload_n 0, 1, 0, 0, 0, [])), (31, (.getfield 269, 3, 11, 25, 0, [(5, 130)]))], [(34, (.putfield 296, 3, 11, 28, 0, [(5, 133)])), (37, (.iconst 0, 1, 0, 0, 0, [])), (38, (.istore_n 1, 1, 0, 0, 0, [])), (39, (.iload_n 1, 1, 0, 0, 0, []))], [(40, (.bipush 36, 2, 0, 0, 0, [])), (42, (.if_icmp .ge 21, 3, 63, 0, 0, [])), (45, (.aload_n 0, 1, 0, 0, 0, [])), (46, (.getfield 42, 3, 11, 18, 3, [(5, 123)]))], [(49, (.iload_n 1, 1, 0, 0, 0, [])), (50, (.aload_n 0, 1, 0, 0, 0, [])), (51, (.getfield 24, 3, 11, 12, 3, [(5, 117)])), (54, (.iload_n 1, 1, 0, 0, 0, [])), (55, (.iaload, 1, 0, 0, 0, []))], [(56, (.iastore, 1, 0, 0, 0, [])), (57, (.iinc 1 1, 3, 0, 0, 0, [])), (60, (.goto (-21), 3, 39, 0, 0, [])), (63, (.iconst 0, 1, 0, 0, 0, []))], [(64, (.istore_n 1, 1, 0, 0, 0, [])), (65, (.iload_n 1, 1, 0, 0, 0, [])), (66, (.sipush 144, 3, 0, 0, 0, [])), (69, (.if_icmp .ge 21, 3, 90, 0, 0, []))], [(72, (.aload_n 0, 1, 0, 0, 0, [])), (73, (.getfield 45, 3, 11, 19, 3, [(5, 124)])), (76, (.iload_n 1, 1, 0, 0, 0, [])), (77, (.aload_n 0, 1, 0, 0, 0, [])), (78, (.getfield 30, 3, 11, 14, 3, [(5, 119)]))], [(81, (.iload_n 1, 1, 0, 0, 0, [])), (82, (.iaload, 1, 0, 0, 0, [])), (83, (.iastore, 1, 0, 0, 0, [])), (84, (.iinc 1 1, 3, 0, 0, 0, [])), (87, (.goto (-22), 3, 65, 0, 0, []))], [(90, (.iconst 0, 1, 0, 0, 0, [])), (91, (.istore_n 1, 1, 0, 0, 0, [])), (92, (.iload_n 1, 1, 0, 0, 0, [])), (93, (.bipush 48, 2, 0, 0, 0, [])), (95, (.if_icmp .ge 33, 3, 128, 0, 0, []))], [(98, (.aload_n 0, 1, 0, 0, 0, [])), (99, (.getfield 48, 3, 11, 20, 3, [(5, 125)])), (102, (.iload_n 1, 1, 0, 0, 0, [])), (103, (.aload_n 0, 1, 0, 0, 0, []))], [(104, (.getfield 33, 3, 11, 15, 3, [(5, 120)])), (107, (.iload_n 1, 1, 0, 0, 0, [])), (108, (.iaload, 1, 0, 0, 0, [])), (109, (.iastore, 1, 0, 0, 0, [])), (110, (.aload_n 0, 1, 0, 0, 0, [])), (111, (.getfield 51, 3, 11, 21, 3, [(5, 126)]))], [(114, (.iload_n 1, 1, 0, 0, 0, [])), (115, (.aload_n 0, 1, 0, 0, 0, [])), (116, (.getfield 36, 3, 11, 16, 3, [(5, 121)])), (119, (.iload_n 1, 1, 0, 0, 0, []))], [(120, (.iaload, 1, 0, 0, 0, [])), (121, (.iastore, 1, 0, 0, 0, [])), (122, (.iinc 1 1, 3, 0, 0, 0, [])), (125, (.goto (-33), 3, 92, 0, 0, []))], [(128, (.iconst 0, 1, 0, 0, 0, [])), (129, (.istore_n 1, 1, 0, 0, 0, [])), (130, (.iload_n 1, 1, 0, 0, 0, [])), (131, (.bipush 6, 2, 0, 0, 0, [])), (133, (.if_icmp .ge 21, 3, 154, 0, 0, []))], [(136, (.aload_n 0, 1, 0, 0, 0, [])), (137, (.getfield 54, 3, 11, 22, 3, [(5, 127)])), (140, (.iload_n 1, 1, 0, 0, 0, [])), (141, (.aload_n 0, 1, 0, 0, 0, [])), (142, (.getfield 39, 3, 11, 17, 3, [(5, 122)]))], [(145, (.iload_n 1, 1, 0, 0, 0, [])), (146, (.iaload, 1, 0, 0, 0, [])), (147, (.iastore, 1, 0, 0, 0, [])), (148, (.iinc 1 1, 3, 0, 0, 0, [])), (151, (.goto (-21), 3, 130, 0, 0, []))], [(154, (.aload_n 0, 1, 0, 0, 0, [])), (155, (.invokevirtual 299, 3, 176, 0, 0, [(6, 212), (6, 214), (0, 73)])), (158, (.aload_n 0, 1, 0, 0, 0, [])), (159, (.invokevirtual 167, 3, 178, 0, 0, [(5, 98), (5, 100), (0, 52)]))], [(162, (.iconst 0, 1, 0, 0, 0, [])), (163, (.istore_n 1, 1, 0, 0, 0, [])), (164, (.iload_n 1, 1, 0, 0, 0, [])), (165, (.aload_n 0, 1, 0, 0, 0, [])), (166, (.getfield 293, 3, 11, 27, 0, [(5, 132)]))], [(169, (.if_icmp .ge 14, 3, 183, 0, 0, [])), (172, (.aload_n 0, 1, 0, 0, 0, [])), (173, (.iload_n 1, 1, 0, 0, 0, [])), (174, (.invokevirtual 302, 3, 200, 0, 0, [(6, 216), (6, 218), (0, 74)]))], [(177, (.iinc 1 1, 3, 0, 0, 0, [])), (180, (.goto (-16), 3, 164, 0, 0, [])), (183, (.iconst 0, 1, 0, 0, 0, []))], [(184, (.istore_n 1, 1, 0, 0, 0, [])), (185, (.iload_n 1, 1, 0, 0, 0, [])), (186, (.bipush 18, 2, 0, 0, 0, [])), (188, (.if_icmp .ge 16, 3, 204, 0, 0, [])), (191, (.aload_n 0, 1, 0, 0, 0, []))], [(192, (.getfield 149, 3, 11, 71, 3, [(5, 176)])), (195, (.iload_n 1, 1, 0, 0, 0, [])), (196, (.lconst 0, 1, 0, 0, 0, [])), (197, (.lastore, 1, 0, 0, 0, [])), (198, (.iinc 1 1, 3, 0, 0, 0, []))], [(201, (.goto (-16), 3, 185, 0, 0, [])), (204, (.aload_n 0, 1, 0, 0, 0, [])), (205, (.iconst 0, 1, 0, 0, 0, [])), (206, (.putfield 305, 3, 11, 73, 0, [(5, 178)]))], [(209, (.aload_n 0, 1, 0, 0, 0, [])), (210, (.iconst 0, 1, 0, 0, 0, [])), (211, (.putfield 308, 3, 11, 74, 0, [(5, 179)])), (214, (.aload_n 0, 1, 0, 0, 0, [])), (215, (.iconst 0, 1, 0, 0, 0, []))], [(216, (.putfield 311, 3, 11, 70, 2, [(5, 175)])), (219, (.iconst 0, 1, 0, 0, 0, [])), (220, (.istore_n 1, 1, 0, 0, 0, [])), (221, (.iload_n 1, 1, 0, 0, 0, [])), (222, (.iconst 3, 1, 0, 0, 0, [])), (223, (.if_icmp .ge 16, 3, 239, 0, 0, []))], [(226, (.aload_n 0, 1, 0, 0, 0, [])), (227, (.getfield 161, 3, 11, 79, 3, [(5, 184)])), (230, (.iload_n 1, 1, 0, 0, 0, [])), (231, (.iconst 0, 1, 0, 0, 0, []))], [(232, (.bastore, 1, 0, 0, 0, [])), (233, (.iinc 1 1, 3, 0, 0, 0, [])), (236, (.goto (-15), 3, 221, 0, 0, [])), (239, (.aload_n 0, 1, 0, 0, 0, []))], [(240, (.getfield 293, 3, 11, 27, 0, [(5, 132)])), (243, (.ireturn, 1, 0, 0, 0, []))]])
/-- X11 fault -/
def pd_172 : pm_D := ((yX11_fault, cX11_fault, 2, (some .int), 1, 11), [(7, 55), (1, 12)], [[(0, (.iload_n 1, 1, 0, 0, 0, [])), (1, (.ifCond .ne 10, 3, 11, 0, 0, [])), (4, (.aload_n 0, 1, 0, 0, 0, [])), (5, (.getfield 207, 3, 11, 2, 0, [(5, 107)]))], [(8, (.goto 16, 3, 24, 0, 0, [])), (11, (.iload_n 1, 1, 0, 0, 0, [])), (12, (.iconst 1, 1, 0, 0, 0, [])), (13, (.if_icmp .ne 10, 3, 23, 0, 0, []))], [(16, (.aload_n 0, 1, 0, 0, 0, [])), (17, (.getfield 13, 3, 11, 3, 0, [(5, 108)])), (20, (.goto 4, 3, 24, 0, 0, [])), (23, (.iconst (-1), 1, 0, 0, 0, []))], [(24, (.ireturn, 1, 0, 0, 0, []))]])
/-- X11 isLine -/
def pd_173 : pm_D := ((yX11_isLine, cX11_isLine, 2, (some .boolean), 1, 11), [(7, 67), (1, 12)], [[(0, (.iload_n 1, 1, 0, 0, 0, [])), (1, (.ifCond .lt 15, 3, 16, 0, 0, [])), (4, (.iload_n 1, 1, 0, 0, 0, [])), (5, (.aload_n 0, 1, 0, 0, 0, [])), (6, (.getfield 293, 3, 11, 27, 0, [(5, 132)]))], [(9, (.if_icmp .ge 7, 3, 16, 0, 0, [])), (12, (.iconst 1, 1, 0, 0, 0, [])), (13, (.goto 4, 3, 17, 0, 0, []))], [(16, (.iconst 0, 1, 0, 0, 0, [])), (17, (.ireturn, 1, 0, 0, 0, []))]])
/-- X11 isWordOf -/
def pd_174 : pm_D := ((yX11_isWordOf, cX11_isWordOf, 2, (some .boolean), 1, 11), [(7, 143), (1, 12)], [[(0, (.iload_n 1, 1, 0, 0, 0, [])), (1, (.ifCond .lt 15, 3, 16, 0, 0, [])), (4, (.iload_n 1, 1, 0, 0, 0, [])), (5, (.aload_n 0, 1, 0, 0, 0, [])), (6, (.getfield 296, 3, 11, 28, 0, [(5, 133)]))], [(9, (.if_icmp .ge 7, 3, 16, 0, 0, [])), (12, (.iconst 1, 1, 0, 0, 0, [])), (13, (.goto 4, 3, 17, 0, 0, []))], [(16, (.iconst 0, 1, 0, 0, 0, [])), (17, (.ireturn, 1, 0, 0, 0, []))]])
/-- X11 isEdge -/
def pd_175 : pm_D := ((yX11_isEdge, cX11_isEdge, 2, (some .boolean), 1, 11), [(7, 71), (1, 12)], [[(0, (.iload_n 1, 1, 0, 0, 0, [])), (1, (.ifCond .lt 15, 3, 16, 0, 0, [])), (4, (.iload_n 1, 1, 0, 0, 0, [])), (5, (.aload_n 0, 1, 0, 0, 0, [])), (6, (.invokevirtual 315, 3, 161, 0, 0, [(6, 228), (6, 230), (0, 77)]))], [(9, (.if_icmp .ge 7, 3, 16, 0, 0, [])), (12, (.iconst 1, 1, 0, 0, 0, [])), (13, (.goto 4, 3, 17, 0, 0, []))], [(16, (.iconst 0, 1, 0, 0, 0, [])), (17, (.ireturn, 1, 0, 0, 0, []))]])
/-- X11 layOver -/
def pd_176 : pm_D := ((yX11_layOver, cX11_layOver, 3, none, 0, 11), [(6, 215), (1, 12)], [[(0, (.iconst 0, 1, 0, 0, 0, [])), (1, (.istore_n 1, 1, 0, 0, 0, [])), (2, (.iload_n 1, 1, 0, 0, 0, [])), (3, (.bipush 18, 2, 0, 0, 0, [])), (5, (.if_icmp .ge 16, 3, 21, 0, 0, []))], [(8, (.aload_n 0, 1, 0, 0, 0, [])), (9, (.getfield 60, 3, 11, 30, 3, [(5, 135)])), (12, (.iload_n 1, 1, 0, 0, 0, [])), (13, (.iconst (-1), 1, 0, 0, 0, [])), (14, (.iastore, 1, 0, 0, 0, [])), (15, (.iinc 1 1, 3, 0, 0, 0, []))], [(18, (.goto (-16), 3, 2, 0, 0, [])), (21, (.iconst 0, 1, 0, 0, 0, [])), (22, (.istore_n 1, 1, 0, 0, 0, [])), (23, (.iload_n 1, 1, 0, 0, 0, []))], [(24, (.iconst 3, 1, 0, 0, 0, [])), (25, (.aload_n 0, 1, 0, 0, 0, [])), (26, (.getfield 237, 3, 11, 26, 0, [(5, 131)])), (29, (.imul, 1, 0, 0, 0, [])), (30, (.if_icmp .ge 59, 3, 89, 0, 0, []))], [(33, (.aload_n 0, 1, 0, 0, 0, [])), (34, (.getfield 42, 3, 11, 18, 3, [(5, 123)])), (37, (.iload_n 1, 1, 0, 0, 0, [])), (38, (.iaload, 1, 0, 0, 0, [])), (39, (.istore_n 2, 1, 0, 0, 0, []))], [(40, (.aload_n 0, 1, 0, 0, 0, [])), (41, (.getfield 60, 3, 11, 30, 3, [(5, 135)])), (44, (.iload_n 2, 1, 0, 0, 0, [])), (45, (.iaload, 1, 0, 0, 0, [])), (46, (.ifCond .ge 13, 3, 59, 0, 0, []))], [(49, (.aload_n 0, 1, 0, 0, 0, [])), (50, (.getfield 60, 3, 11, 30, 3, [(5, 135)])), (53, (.iload_n 2, 1, 0, 0, 0, [])), (54, (.iload_n 1, 1, 0, 0, 0, [])), (55, (.iastore, 1, 0, 0, 0, []))], [(56, (.goto 27, 3, 83, 0, 0, [])), (59, (.aload_n 0, 1, 0, 0, 0, [])), (60, (.getfield 57, 3, 11, 29, 3, [(5, 134)])), (63, (.iload_n 1, 1, 0, 0, 0, []))], [(64, (.aload_n 0, 1, 0, 0, 0, [])), (65, (.getfield 60, 3, 11, 30, 3, [(5, 135)])), (68, (.iload_n 2, 1, 0, 0, 0, [])), (69, (.iaload, 1, 0, 0, 0, [])), (70, (.iastore, 1, 0, 0, 0, [])), (71, (.aload_n 0, 1, 0, 0, 0, []))], [(72, (.getfield 57, 3, 11, 29, 3, [(5, 134)])), (75, (.aload_n 0, 1, 0, 0, 0, [])), (76, (.getfield 60, 3, 11, 30, 3, [(5, 135)])), (79, (.iload_n 2, 1, 0, 0, 0, []))], [(80, (.iaload, 1, 0, 0, 0, [])), (81, (.iload_n 1, 1, 0, 0, 0, [])), (82, (.iastore, 1, 0, 0, 0, [])), (83, (.iinc 1 1, 3, 0, 0, 0, [])), (86, (.goto (-63), 3, 23, 0, 0, []))], [(89, (.return_, 1, 0, 0, 0, []))]])
/-- X11 turned -/
def pd_177 : pm_D := ((yX11_turned, cX11_turned, 2, (some .int), 2, 11), [(5, 104), (1, 12)], [[(0, (.iload_n 0, 1, 0, 0, 0, [])), (1, (.iconst 3, 1, 0, 0, 0, [])), (2, (.idiv, 1, 0, 0, 0, [])), (3, (.iconst 3, 1, 0, 0, 0, [])), (4, (.imul, 1, 0, 0, 0, [])), (5, (.iload_n 0, 1, 0, 0, 0, [])), (6, (.iconst 3, 1, 0, 0, 0, [])), (7, (.irem, 1, 0, 0, 0, []))], [(8, (.iload_n 1, 1, 0, 0, 0, [])), (9, (.iadd, 1, 0, 0, 0, [])), (10, (.iconst 3, 1, 0, 0, 0, [])), (11, (.irem, 1, 0, 0, 0, [])), (12, (.iadd, 1, 0, 0, 0, [])), (13, (.ireturn, 1, 0, 0, 0, []))]])
/-- X11 points -/
def pd_178 : pm_D := ((yX11_points, cX11_points, 3, none, 0, 11), [(5, 101), (1, 12)], [[(0, (.aload_n 0, 1, 0, 0, 0, [])), (1, (.iconst 0, 1, 0, 0, 0, [])), (2, (.putfield 318, 3, 11, 32, 0, [(5, 137)])), (5, (.iconst 0, 1, 0, 0, 0, [])), (6, (.istore_n 1, 1, 0, 0, 0, [])), (7, (.iload_n 1, 1, 0, 0, 0, []))], [(8, (.bipush 36, 2, 0, 0, 0, [])), (10, (.if_icmp .ge 16, 3, 26, 0, 0, [])), (13, (.aload_n 0, 1, 0, 0, 0, [])), (14, (.getfield 63, 3, 11, 31, 3, [(5, 136)]))], [(17, (.iload_n 1, 1, 0, 0, 0, [])), (18, (.iconst (-1), 1, 0, 0, 0, [])), (19, (.iastore, 1, 0, 0, 0, [])), (20, (.iinc 1 1, 3, 0, 0, 0, [])), (23, (.goto (-16), 3, 7, 0, 0, []))], [(26, (.iconst 0, 1, 0, 0, 0, [])), (27, (.istore_n 1, 1, 0, 0, 0, [])), (28, (.iload_n 1, 1, 0, 0, 0, [])), (29, (.iconst 3, 1, 0, 0, 0, [])), (30, (.aload_n 0, 1, 0, 0, 0, [])), (31, (.getfield 237, 3, 11, 26, 0, [(5, 131)]))], [(34, (.imul, 1, 0, 0, 0, [])), (35, (.if_icmp .ge 66, 3, 101, 0, 0, [])), (38, (.aload_n 0, 1, 0, 0, 0, [])), (39, (.getfield 63, 3, 11, 31, 3, [(5, 136)]))], [(42, (.iload_n 1, 1, 0, 0, 0, [])), (43, (.iaload, 1, 0, 0, 0, [])), (44, (.ifCond .lt 6, 3, 50, 0, 0, [])), (47, (.goto 48, 3, 95, 0, 0, []))], [(50, (.iload_n 1, 1, 0, 0, 0, [])), (51, (.istore_n 2, 1, 0, 0, 0, [])), (52, (.aload_n 0, 1, 0, 0, 0, [])), (53, (.getfield 63, 3, 11, 31, 3, [(5, 136)]))], [(56, (.iload_n 2, 1, 0, 0, 0, [])), (57, (.iaload, 1, 0, 0, 0, [])), (58, (.ifCond .ge 27, 3, 85, 0, 0, [])), (61, (.aload_n 0, 1, 0, 0, 0, [])), (62, (.getfield 63, 3, 11, 31, 3, [(5, 136)]))], [(65, (.iload_n 2, 1, 0, 0, 0, [])), (66, (.aload_n 0, 1, 0, 0, 0, [])), (67, (.getfield 318, 3, 11, 32, 0, [(5, 137)])), (70, (.iastore, 1, 0, 0, 0, [])), (71, (.aload_n 0, 1, 0, 0, 0, []))], [(72, (.getfield 57, 3, 11, 29, 3, [(5, 134)])), (75, (.iload_n 2, 1, 0, 0, 0, [])), (76, (.iconst 1, 1, 0, 0, 0, [])), (77, (.invokestatic 321, 3, 177, 0, 0, [(5, 102), (5, 103)]))], [(80, (.iaload, 1, 0, 0, 0, [])), (81, (.istore_n 2, 1, 0, 0, 0, [])), (82, (.goto (-30), 3, 52, 0, 0, [])), (85, (.aload_n 0, 1, 0, 0, 0, [])), (86, (.dup, 1, 0, 0, 0, [])), (87, (.getfield 318, 3, 11, 32, 0, [(5, 137)]))], [(90, (.iconst 1, 1, 0, 0, 0, [])), (91, (.iadd, 1, 0, 0, 0, [])), (92, (.putfield 318, 3, 11, 32, 0, [(5, 137)])), (95, (.iinc 1 1, 3, 0, 0, 0, []))], [(98, (.goto (-70), 3, 28, 0, 0, [])), (101, (.return_, 1, 0, 0, 0, []))]])
/-- X11 point -/
def pd_179 : pm_D := ((yX11_point, cX11_point, 3, (some .int), 2, 11), [(7, 59), (1, 12)], [[(0, (.iload_n 1, 1, 0, 0, 0, [])), (1, (.ifCond .lt 20, 3, 21, 0, 0, [])), (4, (.iload_n 1, 1, 0, 0, 0, [])), (5, (.aload_n 0, 1, 0, 0, 0, [])), (6, (.getfield 237, 3, 11, 26, 0, [(5, 131)]))], [(9, (.if_icmp .ge 12, 3, 21, 0, 0, [])), (12, (.iload_n 2, 1, 0, 0, 0, [])), (13, (.ifCond .lt 8, 3, 21, 0, 0, []))], [(16, (.iload_n 2, 1, 0, 0, 0, [])), (17, (.iconst 2, 1, 0, 0, 0, [])), (18, (.if_icmp .le 7, 3, 25, 0, 0, [])), (21, (.iconst (-1), 1, 0, 0, 0, [])), (22, (.goto 13, 3, 35, 0, 0, []))], [(25, (.aload_n 0, 1, 0, 0, 0, [])), (26, (.getfield 63, 3, 11, 31, 3, [(5, 136)])), (29, (.iconst 3, 1, 0, 0, 0, [])), (30, (.iload_n 1, 1, 0, 0, 0, [])), (31, (.imul, 1, 0, 0, 0, []))], [(32, (.iload_n 2, 1, 0, 0, 0, [])), (33, (.iadd, 1, 0, 0, 0, [])), (34, (.iaload, 1, 0, 0, 0, [])), (35, (.ireturn, 1, 0, 0, 0, []))]])
/-- X11 layRow -/
def pd_180 : pm_D := ((yX11_layRow, cX11_layRow, 3, none, 1, 11), [(7, 3), (1, 12)], [[(0, (.aload_n 0, 1, 0, 0, 0, [])), (1, (.getfield 69, 3, 11, 34, 3, [(5, 139)])), (4, (.iconst 0, 1, 0, 0, 0, [])), (5, (.iconst 0, 1, 0, 0, 0, [])), (6, (.iastore, 1, 0, 0, 0, [])), (7, (.iconst 0, 1, 0, 0, 0, []))], [(8, (.istore_n 2, 1, 0, 0, 0, [])), (9, (.iload_n 2, 1, 0, 0, 0, [])), (10, (.aload_n 0, 1, 0, 0, 0, [])), (11, (.invokevirtual 315, 3, 161, 0, 0, [(6, 228), (6, 230), (0, 77)])), (14, (.if_icmp .ge 61, 3, 75, 0, 0, []))], [(17, (.aload_n 0, 1, 0, 0, 0, [])), (18, (.getfield 66, 3, 11, 33, 3, [(5, 138)])), (21, (.iload_n 2, 1, 0, 0, 0, [])), (22, (.iload_n 1, 1, 0, 0, 0, [])), (23, (.ifCond .ge 13, 3, 36, 0, 0, []))], [(26, (.aload_n 0, 1, 0, 0, 0, [])), (27, (.getfield 149, 3, 11, 71, 3, [(5, 176)])), (30, (.iload_n 2, 1, 0, 0, 0, [])), (31, (.laload, 1, 0, 0, 0, []))], [(32, (.l2i, 1, 0, 0, 0, [])), (33, (.goto 14, 3, 47, 0, 0, [])), (36, (.aload_n 0, 1, 0, 0, 0, [])), (37, (.getfield 45, 3, 11, 19, 3, [(5, 124)]))], [(40, (.bipush 18, 2, 0, 0, 0, [])), (42, (.iload_n 1, 1, 0, 0, 0, [])), (43, (.imul, 1, 0, 0, 0, [])), (44, (.iload_n 2, 1, 0, 0, 0, [])), (45, (.iadd, 1, 0, 0, 0, [])), (46, (.iaload, 1, 0, 0, 0, [])), (47, (.iastore, 1, 0, 0, 0, []))], [(48, (.aload_n 0, 1, 0, 0, 0, [])), (49, (.getfield 69, 3, 11, 34, 3, [(5, 139)])), (52, (.iload_n 2, 1, 0, 0, 0, [])), (53, (.iconst 1, 1, 0, 0, 0, [])), (54, (.iadd, 1, 0, 0, 0, [])), (55, (.aload_n 0, 1, 0, 0, 0, []))], [(56, (.getfield 69, 3, 11, 34, 3, [(5, 139)])), (59, (.iload_n 2, 1, 0, 0, 0, [])), (60, (.iaload, 1, 0, 0, 0, [])), (61, (.aload_n 0, 1, 0, 0, 0, [])), (62, (.getfield 66, 3, 11, 33, 3, [(5, 138)]))], [(65, (.iload_n 2, 1, 0, 0, 0, [])), (66, (.iaload, 1, 0, 0, 0, [])), (67, (.iadd, 1, 0, 0, 0, [])), (68, (.iastore, 1, 0, 0, 0, [])), (69, (.iinc 2 1, 3, 0, 0, 0, []))], [(72, (.goto (-63), 3, 9, 0, 0, [])), (75, (.return_, 1, 0, 0, 0, []))]])
/-- X11 sumOf -/
def pd_181 : pm_D := ((yX11_sumOf, cX11_sumOf, 5, (some .long), 1, 11), [(6, 227), (1, 12)], [[(0, (.lconst 0, 1, 0, 0, 0, [])), (1, (.lstore_n 2, 1, 0, 0, 0, [])), (2, (.iconst 0, 1, 0, 0, 0, [])), (3, (.istore 4, 2, 0, 0, 0, [])), (5, (.iload 4, 2, 0, 0, 0, [])), (7, (.aload_n 0, 1, 0, 0, 0, []))], [(8, (.invokevirtual 315, 3, 161, 0, 0, [(6, 228), (6, 230), (0, 77)])), (11, (.if_icmp .ge 39, 3, 50, 0, 0, [])), (14, (.lload_n 2, 1, 0, 0, 0, [])), (15, (.iload_n 1, 1, 0, 0, 0, []))], [(16, (.ifCond .ge 13, 3, 29, 0, 0, [])), (19, (.aload_n 0, 1, 0, 0, 0, [])), (20, (.getfield 149, 3, 11, 71, 3, [(5, 176)])), (23, (.iload 4, 2, 0, 0, 0, []))], [(25, (.laload, 1, 0, 0, 0, [])), (26, (.goto 16, 3, 42, 0, 0, [])), (29, (.aload_n 0, 1, 0, 0, 0, [])), (30, (.getfield 45, 3, 11, 19, 3, [(5, 124)]))], [(33, (.bipush 18, 2, 0, 0, 0, [])), (35, (.iload_n 1, 1, 0, 0, 0, [])), (36, (.imul, 1, 0, 0, 0, [])), (37, (.iload 4, 2, 0, 0, 0, [])), (39, (.iadd, 1, 0, 0, 0, []))], [(40, (.iaload, 1, 0, 0, 0, [])), (41, (.i2l, 1, 0, 0, 0, [])), (42, (.ladd, 1, 0, 0, 0, [])), (43, (.lstore_n 2, 1, 0, 0, 0, [])), (44, (.iinc 4 1, 3, 0, 0, 0, [])), (47, (.goto (-42), 3, 5, 0, 0, []))], [(50, (.lload_n 2, 1, 0, 0, 0, [])), (51, (.lreturn, 1, 0, 0, 0, []))]])
/-- X11 on -/
def pd_182 : pm_D := ((yX11_on, cX11_on, 2, (some .int), 1, 11), [(7, 19), (1, 12)], [[(0, (.aload_n 0, 1, 0, 0, 0, [])), (1, (.getfield 66, 3, 11, 33, 3, [(5, 138)])), (4, (.aload_n 0, 1, 0, 0, 0, [])), (5, (.getfield 42, 3, 11, 18, 3, [(5, 123)]))], [(8, (.iload_n 1, 1, 0, 0, 0, [])), (9, (.iaload, 1, 0, 0, 0, [])), (10, (.iaload, 1, 0, 0, 0, [])), (11, (.ireturn, 1, 0, 0, 0, []))]])
/-- X11 round -/
def pd_183 : pm_D := ((yX11_round, cX11_round, 2, (some .int), 1, 11), [(7, 27), (1, 12)], [[(0, (.aload_n 0, 1, 0, 0, 0, [])), (1, (.iload_n 1, 1, 0, 0, 0, [])), (2, (.invokevirtual 324, 3, 182, 0, 0, [(7, 16), (7, 18), (0, 83)])), (5, (.aload_n 0, 1, 0, 0, 0, [])), (6, (.iload_n 1, 1, 0, 0, 0, [])), (7, (.iconst 1, 1, 0, 0, 0, []))], [(8, (.invokestatic 321, 3, 177, 0, 0, [(5, 102), (5, 103)])), (11, (.invokevirtual 324, 3, 182, 0, 0, [(7, 16), (7, 18), (0, 83)])), (14, (.iadd, 1, 0, 0, 0, [])), (15, (.aload_n 0, 1, 0, 0, 0, []))], [(16, (.iload_n 1, 1, 0, 0, 0, [])), (17, (.iconst 2, 1, 0, 0, 0, [])), (18, (.invokestatic 321, 3, 177, 0, 0, [(5, 102), (5, 103)])), (21, (.invokevirtual 324, 3, 182, 0, 0, [(7, 16), (7, 18), (0, 83)]))], [(24, (.isub, 1, 0, 0, 0, [])), (25, (.iconst 2, 1, 0, 0, 0, [])), (26, (.idiv, 1, 0, 0, 0, [])), (27, (.ireturn, 1, 0, 0, 0, []))]])
/-- X11 goThrough -/
def pd_184 : pm_D := ((yX11_goThrough, cX11_goThrough, 3, none, 0, 11), [(7, 23), (1, 12)], [[(0, (.aload_n 0, 1, 0, 0, 0, [])), (1, (.getfield 327, 3, 11, 38, 0, [(5, 143)])), (4, (.iconst 2, 1, 0, 0, 0, [])), (5, (.invokestatic 321, 3, 177, 0, 0, [(5, 102), (5, 103)]))], [(8, (.istore_n 1, 1, 0, 0, 0, [])), (9, (.aload_n 0, 1, 0, 0, 0, [])), (10, (.iload_n 1, 1, 0, 0, 0, [])), (11, (.invokevirtual 330, 3, 183, 0, 0, [(7, 24), (7, 26), (0, 85)])), (14, (.istore_n 2, 1, 0, 0, 0, [])), (15, (.aload_n 0, 1, 0, 0, 0, []))], [(16, (.getfield 333, 3, 11, 39, 0, [(5, 144)])), (19, (.iload_n 2, 1, 0, 0, 0, [])), (20, (.if_icmp .ge 32, 3, 52, 0, 0, [])), (23, (.aload_n 0, 1, 0, 0, 0, []))], [(24, (.aload_n 0, 1, 0, 0, 0, [])), (25, (.iload_n 1, 1, 0, 0, 0, [])), (26, (.invokevirtual 324, 3, 182, 0, 0, [(7, 16), (7, 18), (0, 83)])), (29, (.iconst 1, 1, 0, 0, 0, [])), (30, (.isub, 1, 0, 0, 0, [])), (31, (.aload_n 0, 1, 0, 0, 0, []))], [(32, (.getfield 333, 3, 11, 39, 0, [(5, 144)])), (35, (.isub, 1, 0, 0, 0, [])), (36, (.putfield 333, 3, 11, 39, 0, [(5, 144)])), (39, (.aload_n 0, 1, 0, 0, 0, []))], [(40, (.iload_n 1, 1, 0, 0, 0, [])), (41, (.putfield 327, 3, 11, 38, 0, [(5, 143)])), (44, (.aload_n 0, 1, 0, 0, 0, [])), (45, (.iconst 1, 1, 0, 0, 0, [])), (46, (.putfield 336, 3, 11, 40, 0, [(5, 145)]))], [(49, (.goto 39, 3, 88, 0, 0, [])), (52, (.aload_n 0, 1, 0, 0, 0, [])), (53, (.aload_n 0, 1, 0, 0, 0, [])), (54, (.aload_n 0, 1, 0, 0, 0, [])), (55, (.getfield 327, 3, 11, 38, 0, [(5, 143)]))], [(58, (.invokevirtual 324, 3, 182, 0, 0, [(7, 16), (7, 18), (0, 83)])), (61, (.iconst 1, 1, 0, 0, 0, [])), (62, (.isub, 1, 0, 0, 0, [])), (63, (.aload_n 0, 1, 0, 0, 0, []))], [(64, (.getfield 333, 3, 11, 39, 0, [(5, 144)])), (67, (.isub, 1, 0, 0, 0, [])), (68, (.putfield 333, 3, 11, 39, 0, [(5, 144)])), (71, (.aload_n 0, 1, 0, 0, 0, []))], [(72, (.aload_n 0, 1, 0, 0, 0, [])), (73, (.getfield 327, 3, 11, 38, 0, [(5, 143)])), (76, (.iconst 1, 1, 0, 0, 0, [])), (77, (.invokestatic 321, 3, 177, 0, 0, [(5, 102), (5, 103)]))], [(80, (.putfield 327, 3, 11, 38, 0, [(5, 143)])), (83, (.aload_n 0, 1, 0, 0, 0, [])), (84, (.iconst 0, 1, 0, 0, 0, [])), (85, (.putfield 336, 3, 11, 40, 0, [(5, 145)]))], [(88, (.return_, 1, 0, 0, 0, []))]])
/-- X11 goOver -/
def pd_185 : pm_D := ((yX11_goOver, cX11_goOver, 1, none, 0, 11), [(7, 15), (1, 12)], [[(0, (.aload_n 0, 1, 0, 0, 0, [])), (1, (.aload_n 0, 1, 0, 0, 0, [])), (2, (.aload_n 0, 1, 0, 0, 0, [])), (3, (.getfield 327, 3, 11, 38, 0, [(5, 143)])), (6, (.invokevirtual 324, 3, 182, 0, 0, [(7, 16), (7, 18), (0, 83)]))], [(9, (.iconst 1, 1, 0, 0, 0, [])), (10, (.isub, 1, 0, 0, 0, [])), (11, (.aload_n 0, 1, 0, 0, 0, [])), (12, (.getfield 333, 3, 11, 39, 0, [(5, 144)])), (15, (.isub, 1, 0, 0, 0, []))], [(16, (.putfield 333, 3, 11, 39, 0, [(5, 144)])), (19, (.aload_n 0, 1, 0, 0, 0, [])), (20, (.aload_n 0, 1, 0, 0, 0, [])), (21, (.getfield 57, 3, 11, 29, 3, [(5, 134)]))], [(24, (.aload_n 0, 1, 0, 0, 0, [])), (25, (.getfield 327, 3, 11, 38, 0, [(5, 143)])), (28, (.iaload, 1, 0, 0, 0, [])), (29, (.putfield 327, 3, 11, 38, 0, [(5, 143)]))], [(32, (.return_, 1, 0, 0, 0, []))]])
/-- X11 strand -/
def pd_186 : pm_D := ((yX11_strand, cX11_strand, 2, (some .int), 0, 11), [(7, 11), (1, 12)], [[(0, (.aload_n 0, 1, 0, 0, 0, [])), (1, (.getfield 42, 3, 11, 18, 3, [(5, 123)])), (4, (.aload_n 0, 1, 0, 0, 0, [])), (5, (.getfield 327, 3, 11, 38, 0, [(5, 143)]))], [(8, (.iaload, 1, 0, 0, 0, [])), (9, (.istore_n 1, 1, 0, 0, 0, [])), (10, (.aload_n 0, 1, 0, 0, 0, [])), (11, (.getfield 69, 3, 11, 34, 3, [(5, 139)])), (14, (.iload_n 1, 1, 0, 0, 0, [])), (15, (.iaload, 1, 0, 0, 0, []))], [(16, (.aload_n 0, 1, 0, 0, 0, [])), (17, (.getfield 60, 3, 11, 30, 3, [(5, 135)])), (20, (.iload_n 1, 1, 0, 0, 0, [])), (21, (.iaload, 1, 0, 0, 0, [])), (22, (.aload_n 0, 1, 0, 0, 0, [])), (23, (.getfield 327, 3, 11, 38, 0, [(5, 143)]))], [(26, (.if_icmp .ne 10, 3, 36, 0, 0, [])), (29, (.aload_n 0, 1, 0, 0, 0, [])), (30, (.getfield 333, 3, 11, 39, 0, [(5, 144)]))], [(33, (.goto 16, 3, 49, 0, 0, [])), (36, (.aload_n 0, 1, 0, 0, 0, [])), (37, (.getfield 66, 3, 11, 33, 3, [(5, 138)]))], [(40, (.iload_n 1, 1, 0, 0, 0, [])), (41, (.iaload, 1, 0, 0, 0, [])), (42, (.iconst 1, 1, 0, 0, 0, [])), (43, (.isub, 1, 0, 0, 0, [])), (44, (.aload_n 0, 1, 0, 0, 0, [])), (45, (.getfield 333, 3, 11, 39, 0, [(5, 144)]))], [(48, (.isub, 1, 0, 0, 0, [])), (49, (.iadd, 1, 0, 0, 0, [])), (50, (.ireturn, 1, 0, 0, 0, []))]])
/-- X11 countLoops -/
def pd_187 : pm_D := ((yX11_countLoops, cX11_countLoops, 4, none, 1, 11), [(6, 239), (1, 12)], [[(0, (.aload_n 0, 1, 0, 0, 0, [])), (1, (.iload_n 1, 1, 0, 0, 0, [])), (2, (.invokevirtual 339, 3, 180, 0, 0, [(7, 0), (7, 2), (0, 79)])), (5, (.aload_n 0, 1, 0, 0, 0, [])), (6, (.iconst 0, 1, 0, 0, 0, [])), (7, (.putfield 342, 3, 11, 36, 0, [(5, 141)]))], [(10, (.aload_n 0, 1, 0, 0, 0, [])), (11, (.iconst 0, 1, 0, 0, 0, [])), (12, (.putfield 345, 3, 11, 37, 0, [(5, 142)])), (15, (.iconst 0, 1, 0, 0, 0, []))], [(16, (.istore_n 2, 1, 0, 0, 0, [])), (17, (.iload_n 2, 1, 0, 0, 0, [])), (18, (.aload_n 0, 1, 0, 0, 0, [])), (19, (.getfield 69, 3, 11, 34, 3, [(5, 139)])), (22, (.aload_n 0, 1, 0, 0, 0, [])), (23, (.invokevirtual 315, 3, 161, 0, 0, [(6, 228), (6, 230), (0, 77)]))], [(26, (.iaload, 1, 0, 0, 0, [])), (27, (.if_icmp .ge 16, 3, 43, 0, 0, [])), (30, (.aload_n 0, 1, 0, 0, 0, [])), (31, (.getfield 72, 3, 11, 35, 3, [(5, 140)]))], [(34, (.iload_n 2, 1, 0, 0, 0, [])), (35, (.iconst 0, 1, 0, 0, 0, [])), (36, (.bastore, 1, 0, 0, 0, [])), (37, (.iinc 2 1, 3, 0, 0, 0, []))], [(40, (.goto (-23), 3, 17, 0, 0, [])), (43, (.iconst 0, 1, 0, 0, 0, [])), (44, (.istore_n 2, 1, 0, 0, 0, [])), (45, (.iload_n 2, 1, 0, 0, 0, [])), (46, (.aload_n 0, 1, 0, 0, 0, [])), (47, (.invokevirtual 315, 3, 161, 0, 0, [(6, 228), (6, 230), (0, 77)]))], [(50, (.if_icmp .ge 79, 3, 129, 0, 0, [])), (53, (.iconst 0, 1, 0, 0, 0, [])), (54, (.istore_n 3, 1, 0, 0, 0, [])), (55, (.iload_n 3, 1, 0, 0, 0, []))], [(56, (.aload_n 0, 1, 0, 0, 0, [])), (57, (.getfield 66, 3, 11, 33, 3, [(5, 138)])), (60, (.iload_n 2, 1, 0, 0, 0, [])), (61, (.iaload, 1, 0, 0, 0, [])), (62, (.if_icmp .ge 61, 3, 123, 0, 0, []))], [(65, (.aload_n 0, 1, 0, 0, 0, [])), (66, (.getfield 72, 3, 11, 35, 3, [(5, 140)])), (69, (.aload_n 0, 1, 0, 0, 0, [])), (70, (.getfield 69, 3, 11, 34, 3, [(5, 139)]))], [(73, (.iload_n 2, 1, 0, 0, 0, [])), (74, (.iaload, 1, 0, 0, 0, [])), (75, (.iload_n 3, 1, 0, 0, 0, [])), (76, (.iadd, 1, 0, 0, 0, [])), (77, (.baload, 1, 0, 0, 0, [])), (78, (.ifCond .eq 6, 3, 84, 0, 0, []))], [(81, (.goto 36, 3, 117, 0, 0, [])), (84, (.aload_n 0, 1, 0, 0, 0, [])), (85, (.dup, 1, 0, 0, 0, [])), (86, (.getfield 342, 3, 11, 36, 0, [(5, 141)]))], [(89, (.iconst 1, 1, 0, 0, 0, [])), (90, (.iadd, 1, 0, 0, 0, [])), (91, (.putfield 342, 3, 11, 36, 0, [(5, 141)])), (94, (.aload_n 0, 1, 0, 0, 0, [])), (95, (.dup, 1, 0, 0, 0, []))], [(96, (.getfield 345, 3, 11, 37, 0, [(5, 142)])), (99, (.aload_n 0, 1, 0, 0, 0, [])), (100, (.iload_n 2, 1, 0, 0, 0, [])), (101, (.iload_n 3, 1, 0, 0, 0, [])), (102, (.invokevirtual 348, 3, 188, 0, 0, [(7, 4), (7, 6), (0, 80)]))], [(105, (.ifCond .eq 7, 3, 112, 0, 0, [])), (108, (.iconst 1, 1, 0, 0, 0, [])), (109, (.goto 4, 3, 113, 0, 0, []))], [(112, (.iconst 0, 1, 0, 0, 0, [])), (113, (.iadd, 1, 0, 0, 0, [])), (114, (.putfield 345, 3, 11, 37, 0, [(5, 142)])), (117, (.iinc 3 1, 3, 0, 0, 0, []))], [(120, (.goto (-65), 3, 55, 0, 0, [])), (123, (.iinc 2 1, 3, 0, 0, 0, [])), (126, (.goto (-81), 3, 45, 0, 0, []))], [(129, (.return_, 1, 0, 0, 0, []))]])
/-- X11 isRing -/
def pd_188 : pm_D := ((yX11_isRing, cX11_isRing, 5, (some .boolean), 2, 11), [(7, 7), (1, 12)], [[(0, (.aload_n 0, 1, 0, 0, 0, [])), (1, (.aload_n 0, 1, 0, 0, 0, [])), (2, (.getfield 60, 3, 11, 30, 3, [(5, 135)])), (5, (.iload_n 1, 1, 0, 0, 0, [])), (6, (.iaload, 1, 0, 0, 0, [])), (7, (.putfield 327, 3, 11, 38, 0, [(5, 143)]))], [(10, (.aload_n 0, 1, 0, 0, 0, [])), (11, (.iload_n 2, 1, 0, 0, 0, [])), (12, (.putfield 333, 3, 11, 39, 0, [(5, 144)])), (15, (.iconst 1, 1, 0, 0, 0, []))], [(16, (.istore_n 3, 1, 0, 0, 0, [])), (17, (.iconst 1, 1, 0, 0, 0, [])), (18, (.istore 4, 2, 0, 0, 0, [])), (20, (.aload_n 0, 1, 0, 0, 0, [])), (21, (.getfield 72, 3, 11, 35, 3, [(5, 140)]))], [(24, (.aload_n 0, 1, 0, 0, 0, [])), (25, (.invokevirtual 351, 3, 186, 0, 0, [(7, 8), (7, 10), (0, 81)])), (28, (.baload, 1, 0, 0, 0, [])), (29, (.ifCond .ne 61, 3, 90, 0, 0, []))], [(32, (.aload_n 0, 1, 0, 0, 0, [])), (33, (.getfield 72, 3, 11, 35, 3, [(5, 140)])), (36, (.aload_n 0, 1, 0, 0, 0, [])), (37, (.invokevirtual 351, 3, 186, 0, 0, [(7, 8), (7, 10), (0, 81)]))], [(40, (.iconst 1, 1, 0, 0, 0, [])), (41, (.bastore, 1, 0, 0, 0, [])), (42, (.aload_n 0, 1, 0, 0, 0, [])), (43, (.invokevirtual 354, 3, 185, 0, 0, [(7, 12), (7, 14), (0, 82)])), (46, (.aload_n 0, 1, 0, 0, 0, [])), (47, (.invokevirtual 357, 3, 184, 0, 0, [(7, 20), (7, 22), (0, 84)]))], [(50, (.iload_n 3, 1, 0, 0, 0, [])), (51, (.ifCond .eq 15, 3, 66, 0, 0, [])), (54, (.aload_n 0, 1, 0, 0, 0, [])), (55, (.getfield 336, 3, 11, 40, 0, [(5, 145)]))], [(58, (.iconst 1, 1, 0, 0, 0, [])), (59, (.if_icmp .ne 7, 3, 66, 0, 0, [])), (62, (.iconst 1, 1, 0, 0, 0, [])), (63, (.goto 4, 3, 67, 0, 0, []))], [(66, (.iconst 0, 1, 0, 0, 0, [])), (67, (.istore_n 3, 1, 0, 0, 0, [])), (68, (.iload 4, 2, 0, 0, 0, [])), (70, (.ifCond .eq 14, 3, 84, 0, 0, []))], [(73, (.aload_n 0, 1, 0, 0, 0, [])), (74, (.getfield 336, 3, 11, 40, 0, [(5, 145)])), (77, (.ifCond .ne 7, 3, 84, 0, 0, []))], [(80, (.iconst 1, 1, 0, 0, 0, [])), (81, (.goto 4, 3, 85, 0, 0, [])), (84, (.iconst 0, 1, 0, 0, 0, [])), (85, (.istore 4, 2, 0, 0, 0, [])), (87, (.goto (-67), 3, 20, 0, 0, []))], [(90, (.iload_n 3, 1, 0, 0, 0, [])), (91, (.ifCond .ne 8, 3, 99, 0, 0, [])), (94, (.iload 4, 2, 0, 0, 0, []))], [(96, (.ifCond .eq 7, 3, 103, 0, 0, [])), (99, (.iconst 1, 1, 0, 0, 0, [])), (100, (.goto 4, 3, 104, 0, 0, [])), (103, (.iconst 0, 1, 0, 0, 0, []))], [(104, (.ireturn, 1, 0, 0, 0, []))]])
/-- X11 isSum -/
def pd_189 : pm_D := ((yX11_isSum, cX11_isSum, 2, (some .boolean), 1, 11), [(6, 234), (1, 12)], [[(0, (.lload_n 0, 1, 0, 0, 0, [])), (1, (.ldc2_w 360, 3, 0, 0, 18000, [(6, 235)])), (4, (.lcmp, 1, 0, 0, 0, [])), (5, (.ifCond .gt 7, 3, 12, 0, 0, []))], [(8, (.iconst 1, 1, 0, 0, 0, [])), (9, (.goto 4, 3, 13, 0, 0, [])), (12, (.iconst 0, 1, 0, 0, 0, [])), (13, (.ireturn, 1, 0, 0, 0, []))]])
/-- X11 isSingle -/
def pd_190 : pm_D := ((yX11_isSingle, cX11_isSingle, 2, (some .boolean), 1, 11), [(6, 223), (1, 12)], [[(0, (.aload_n 0, 1, 0, 0, 0, [])), (1, (.iload_n 1, 1, 0, 0, 0, [])), (2, (.invokevirtual 362, 3, 181, 0, 0, [(6, 224), (6, 226), (0, 76)])), (5, (.invokestatic 366, 3, 189, 0, 0, [(6, 232), (6, 233)]))], [(8, (.ifCond .ne 5, 3, 13, 0, 0, [])), (11, (.iconst 0, 1, 0, 0, 0, [])), (12, (.ireturn, 1, 0, 0, 0, [])), (13, (.aload_n 0, 1, 0, 0, 0, [])), (14, (.iload_n 1, 1, 0, 0, 0, [])), (15, (.invokevirtual 369, 3, 187, 0, 0, [(6, 236), (6, 238), (0, 78)]))], [(18, (.aload_n 0, 1, 0, 0, 0, [])), (19, (.getfield 342, 3, 11, 36, 0, [(5, 141)])), (22, (.iconst 1, 1, 0, 0, 0, [])), (23, (.if_icmp .ne 14, 3, 37, 0, 0, []))], [(26, (.aload_n 0, 1, 0, 0, 0, [])), (27, (.getfield 345, 3, 11, 37, 0, [(5, 142)])), (30, (.ifCond .ne 7, 3, 37, 0, 0, []))], [(33, (.iconst 1, 1, 0, 0, 0, [])), (34, (.goto 4, 3, 38, 0, 0, [])), (37, (.iconst 0, 1, 0, 0, 0, [])), (38, (.ireturn, 1, 0, 0, 0, []))]])
/-- X11 number -/
def pd_191 : pm_D := ((yX11_number, cX11_number, 3, (some .long), 2, 11), [(7, 63), (1, 12)], [[(0, (.iload_n 1, 1, 0, 0, 0, [])), (1, (.iconst (-1), 1, 0, 0, 0, [])), (2, (.if_icmp .eq 11, 3, 13, 0, 0, [])), (5, (.aload_n 0, 1, 0, 0, 0, [])), (6, (.iload_n 1, 1, 0, 0, 0, [])), (7, (.invokevirtual 372, 3, 173, 0, 0, [(7, 64), (7, 66), (0, 92)]))], [(10, (.ifCond .eq 11, 3, 21, 0, 0, [])), (13, (.aload_n 0, 1, 0, 0, 0, [])), (14, (.iload_n 2, 1, 0, 0, 0, [])), (15, (.invokevirtual 375, 3, 175, 0, 0, [(7, 68), (7, 70), (0, 93)]))], [(18, (.ifCond .ne 9, 3, 27, 0, 0, [])), (21, (.ldc2_w 378, 3, 0, 0, (-2), [(7, 72)]))], [(24, (.goto 28, 3, 52, 0, 0, [])), (27, (.iload_n 1, 1, 0, 0, 0, [])), (28, (.ifCond .ge 12, 3, 40, 0, 0, [])), (31, (.aload_n 0, 1, 0, 0, 0, []))], [(32, (.getfield 149, 3, 11, 71, 3, [(5, 176)])), (35, (.iload_n 2, 1, 0, 0, 0, [])), (36, (.laload, 1, 0, 0, 0, [])), (37, (.goto 15, 3, 52, 0, 0, []))], [(40, (.aload_n 0, 1, 0, 0, 0, [])), (41, (.getfield 45, 3, 11, 19, 3, [(5, 124)])), (44, (.bipush 18, 2, 0, 0, 0, [])), (46, (.iload_n 1, 1, 0, 0, 0, [])), (47, (.imul, 1, 0, 0, 0, []))], [(48, (.iload_n 2, 1, 0, 0, 0, [])), (49, (.iadd, 1, 0, 0, 0, [])), (50, (.iaload, 1, 0, 0, 0, [])), (51, (.i2l, 1, 0, 0, 0, [])), (52, (.lreturn, 1, 0, 0, 0, []))]])
/-- X11 loops -/
def pd_192 : pm_D := ((yX11_loops, cX11_loops, 3, (some .int), 2, 11), [(7, 76), (1, 12)], [[(0, (.iload_n 1, 1, 0, 0, 0, [])), (1, (.iconst (-1), 1, 0, 0, 0, [])), (2, (.if_icmp .eq 11, 3, 13, 0, 0, [])), (5, (.aload_n 0, 1, 0, 0, 0, [])), (6, (.iload_n 1, 1, 0, 0, 0, [])), (7, (.invokevirtual 372, 3, 173, 0, 0, [(7, 64), (7, 66), (0, 92)]))], [(10, (.ifCond .eq 12, 3, 22, 0, 0, [])), (13, (.iload_n 2, 1, 0, 0, 0, [])), (14, (.ifCond .lt 8, 3, 22, 0, 0, []))], [(17, (.iload_n 2, 1, 0, 0, 0, [])), (18, (.iconst 2, 1, 0, 0, 0, [])), (19, (.if_icmp .le 5, 3, 24, 0, 0, [])), (22, (.iconst (-1), 1, 0, 0, 0, [])), (23, (.ireturn, 1, 0, 0, 0, []))], [(24, (.aload_n 0, 1, 0, 0, 0, [])), (25, (.iload_n 1, 1, 0, 0, 0, [])), (26, (.invokevirtual 362, 3, 181, 0, 0, [(6, 224), (6, 226), (0, 76)])), (29, (.invokestatic 366, 3, 189, 0, 0, [(6, 232), (6, 233)]))], [(32, (.ifCond .ne 6, 3, 38, 0, 0, [])), (35, (.bipush (-2), 2, 0, 0, 0, [])), (37, (.ireturn, 1, 0, 0, 0, [])), (38, (.aload_n 0, 1, 0, 0, 0, [])), (39, (.iload_n 1, 1, 0, 0, 0, []))], [(40, (.invokevirtual 369, 3, 187, 0, 0, [(6, 236), (6, 238), (0, 78)])), (43, (.iload_n 2, 1, 0, 0, 0, [])), (44, (.ifCond .ne 10, 3, 54, 0, 0, [])), (47, (.aload_n 0, 1, 0, 0, 0, []))], [(48, (.getfield 342, 3, 11, 36, 0, [(5, 141)])), (51, (.goto 35, 3, 86, 0, 0, [])), (54, (.iload_n 2, 1, 0, 0, 0, [])), (55, (.iconst 1, 1, 0, 0, 0, []))], [(56, (.if_icmp .ne 10, 3, 66, 0, 0, [])), (59, (.aload_n 0, 1, 0, 0, 0, [])), (60, (.getfield 345, 3, 11, 37, 0, [(5, 142)])), (63, (.goto 23, 3, 86, 0, 0, []))], [(66, (.aload_n 0, 1, 0, 0, 0, [])), (67, (.getfield 342, 3, 11, 36, 0, [(5, 141)])), (70, (.iconst 1, 1, 0, 0, 0, [])), (71, (.if_icmp .ne 14, 3, 85, 0, 0, []))], [(74, (.aload_n 0, 1, 0, 0, 0, [])), (75, (.getfield 345, 3, 11, 37, 0, [(5, 142)])), (78, (.ifCond .ne 7, 3, 85, 0, 0, []))], [(81, (.iconst 1, 1, 0, 0, 0, [])), (82, (.goto 4, 3, 86, 0, 0, [])), (85, (.iconst 0, 1, 0, 0, 0, [])), (86, (.ireturn, 1, 0, 0, 0, []))]])
/-- X11 trace -/
def pd_193 : pm_D := ((yX11_trace, cX11_trace, 4, none, 1, 11), [(7, 84), (1, 12)], [[(0, (.aload_n 0, 1, 0, 0, 0, [])), (1, (.iload_n 1, 1, 0, 0, 0, [])), (2, (.invokevirtual 339, 3, 180, 0, 0, [(7, 0), (7, 2), (0, 79)])), (5, (.aload_n 0, 1, 0, 0, 0, [])), (6, (.iconst 0, 1, 0, 0, 0, [])), (7, (.putfield 380, 3, 11, 42, 0, [(5, 147)]))], [(10, (.iconst 0, 1, 0, 0, 0, [])), (11, (.istore_n 2, 1, 0, 0, 0, [])), (12, (.iload_n 2, 1, 0, 0, 0, [])), (13, (.aload_n 0, 1, 0, 0, 0, [])), (14, (.invokevirtual 315, 3, 161, 0, 0, [(6, 228), (6, 230), (0, 77)]))], [(17, (.if_icmp .ge 18, 3, 35, 0, 0, [])), (20, (.aload_n 0, 1, 0, 0, 0, [])), (21, (.getfield 66, 3, 11, 33, 3, [(5, 138)]))], [(24, (.iload_n 2, 1, 0, 0, 0, [])), (25, (.iaload, 1, 0, 0, 0, [])), (26, (.ifCond .ne 9, 3, 35, 0, 0, [])), (29, (.iinc 2 1, 3, 0, 0, 0, []))], [(32, (.goto (-20), 3, 12, 0, 0, [])), (35, (.iload_n 2, 1, 0, 0, 0, [])), (36, (.aload_n 0, 1, 0, 0, 0, [])), (37, (.invokevirtual 315, 3, 161, 0, 0, [(6, 228), (6, 230), (0, 77)]))], [(40, (.if_icmp .ne 4, 3, 44, 0, 0, [])), (43, (.return_, 1, 0, 0, 0, [])), (44, (.aload_n 0, 1, 0, 0, 0, [])), (45, (.aload_n 0, 1, 0, 0, 0, [])), (46, (.getfield 60, 3, 11, 30, 3, [(5, 135)]))], [(49, (.iload_n 2, 1, 0, 0, 0, [])), (50, (.iaload, 1, 0, 0, 0, [])), (51, (.putfield 327, 3, 11, 38, 0, [(5, 143)])), (54, (.aload_n 0, 1, 0, 0, 0, [])), (55, (.iconst 0, 1, 0, 0, 0, []))], [(56, (.putfield 333, 3, 11, 39, 0, [(5, 144)])), (59, (.iconst 1, 1, 0, 0, 0, [])), (60, (.istore_n 3, 1, 0, 0, 0, [])), (61, (.iload_n 3, 1, 0, 0, 0, [])), (62, (.ifCond .eq 63, 3, 125, 0, 0, []))], [(65, (.aload_n 0, 1, 0, 0, 0, [])), (66, (.getfield 76, 3, 11, 41, 3, [(5, 146)])), (69, (.aload_n 0, 1, 0, 0, 0, [])), (70, (.getfield 380, 3, 11, 42, 0, [(5, 147)]))], [(73, (.aload_n 0, 1, 0, 0, 0, [])), (74, (.getfield 327, 3, 11, 38, 0, [(5, 143)])), (77, (.iastore, 1, 0, 0, 0, [])), (78, (.aload_n 0, 1, 0, 0, 0, [])), (79, (.dup, 1, 0, 0, 0, []))], [(80, (.getfield 380, 3, 11, 42, 0, [(5, 147)])), (83, (.iconst 1, 1, 0, 0, 0, [])), (84, (.iadd, 1, 0, 0, 0, [])), (85, (.putfield 380, 3, 11, 42, 0, [(5, 147)]))], [(88, (.aload_n 0, 1, 0, 0, 0, [])), (89, (.invokevirtual 354, 3, 185, 0, 0, [(7, 12), (7, 14), (0, 82)])), (92, (.aload_n 0, 1, 0, 0, 0, [])), (93, (.invokevirtual 357, 3, 184, 0, 0, [(7, 20), (7, 22), (0, 84)]))], [(96, (.aload_n 0, 1, 0, 0, 0, [])), (97, (.getfield 327, 3, 11, 38, 0, [(5, 143)])), (100, (.aload_n 0, 1, 0, 0, 0, [])), (101, (.getfield 60, 3, 11, 30, 3, [(5, 135)]))], [(104, (.iload_n 2, 1, 0, 0, 0, [])), (105, (.iaload, 1, 0, 0, 0, [])), (106, (.if_icmp .ne 10, 3, 116, 0, 0, [])), (109, (.aload_n 0, 1, 0, 0, 0, [])), (110, (.getfield 333, 3, 11, 39, 0, [(5, 144)]))], [(113, (.ifCond .eq 7, 3, 120, 0, 0, [])), (116, (.iconst 1, 1, 0, 0, 0, [])), (117, (.goto 4, 3, 121, 0, 0, []))], [(120, (.iconst 0, 1, 0, 0, 0, [])), (121, (.istore_n 3, 1, 0, 0, 0, [])), (122, (.goto (-61), 3, 61, 0, 0, [])), (125, (.return_, 1, 0, 0, 0, []))]])
/-- X11 traced -/
def pd_194 : pm_D := ((yX11_traced, cX11_traced, 3, (some .int), 2, 11), [(7, 80), (1, 12)], [[(0, (.iload_n 1, 1, 0, 0, 0, [])), (1, (.iconst (-1), 1, 0, 0, 0, [])), (2, (.if_icmp .eq 13, 3, 15, 0, 0, [])), (5, (.aload_n 0, 1, 0, 0, 0, [])), (6, (.iload_n 1, 1, 0, 0, 0, [])), (7, (.invokevirtual 372, 3, 173, 0, 0, [(7, 64), (7, 66), (0, 92)]))], [(10, (.ifCond .ne 5, 3, 15, 0, 0, [])), (13, (.iconst (-1), 1, 0, 0, 0, [])), (14, (.ireturn, 1, 0, 0, 0, [])), (15, (.aload_n 0, 1, 0, 0, 0, []))], [(16, (.iload_n 1, 1, 0, 0, 0, [])), (17, (.invokevirtual 362, 3, 181, 0, 0, [(6, 224), (6, 226), (0, 76)])), (20, (.invokestatic 366, 3, 189, 0, 0, [(6, 232), (6, 233)])), (23, (.ifCond .ne 6, 3, 29, 0, 0, []))], [(26, (.bipush (-2), 2, 0, 0, 0, [])), (28, (.ireturn, 1, 0, 0, 0, [])), (29, (.aload_n 0, 1, 0, 0, 0, [])), (30, (.iload_n 1, 1, 0, 0, 0, [])), (31, (.invokevirtual 383, 3, 193, 0, 0, [(7, 81), (7, 83), (0, 94)]))], [(34, (.iload_n 2, 1, 0, 0, 0, [])), (35, (.ifCond .lt 25, 3, 60, 0, 0, [])), (38, (.iload_n 2, 1, 0, 0, 0, [])), (39, (.aload_n 0, 1, 0, 0, 0, []))], [(40, (.getfield 380, 3, 11, 42, 0, [(5, 147)])), (43, (.if_icmp .ge 17, 3, 60, 0, 0, [])), (46, (.aload_n 0, 1, 0, 0, 0, [])), (47, (.getfield 42, 3, 11, 18, 3, [(5, 123)]))], [(50, (.aload_n 0, 1, 0, 0, 0, [])), (51, (.getfield 76, 3, 11, 41, 3, [(5, 146)])), (54, (.iload_n 2, 1, 0, 0, 0, [])), (55, (.iaload, 1, 0, 0, 0, []))], [(56, (.iaload, 1, 0, 0, 0, [])), (57, (.goto 4, 3, 61, 0, 0, [])), (60, (.iconst (-1), 1, 0, 0, 0, [])), (61, (.ireturn, 1, 0, 0, 0, []))]])
/-- X11 findSides -/
def pd_195 : pm_D := ((yX11_findSides, cX11_findSides, 3, (some .boolean), 1, 11), [(7, 39), (1, 12)], [[(0, (.aload_n 0, 1, 0, 0, 0, [])), (1, (.iconst (-1), 1, 0, 0, 0, [])), (2, (.putfield 386, 3, 11, 53, 0, [(5, 158)])), (5, (.aload_n 0, 1, 0, 0, 0, [])), (6, (.iconst (-1), 1, 0, 0, 0, [])), (7, (.putfield 389, 3, 11, 54, 0, [(5, 159)]))], [(10, (.iconst 0, 1, 0, 0, 0, [])), (11, (.istore_n 2, 1, 0, 0, 0, [])), (12, (.iload_n 2, 1, 0, 0, 0, [])), (13, (.iconst 3, 1, 0, 0, 0, [])), (14, (.aload_n 0, 1, 0, 0, 0, [])), (15, (.getfield 237, 3, 11, 26, 0, [(5, 131)]))], [(18, (.imul, 1, 0, 0, 0, [])), (19, (.if_icmp .ge 42, 3, 61, 0, 0, [])), (22, (.aload_n 0, 1, 0, 0, 0, [])), (23, (.getfield 104, 3, 11, 51, 3, [(5, 156)]))], [(26, (.iload_n 2, 1, 0, 0, 0, [])), (27, (.iaload, 1, 0, 0, 0, [])), (28, (.iload_n 1, 1, 0, 0, 0, [])), (29, (.if_icmp .eq 6, 3, 35, 0, 0, []))], [(32, (.goto 23, 3, 55, 0, 0, [])), (35, (.aload_n 0, 1, 0, 0, 0, [])), (36, (.getfield 386, 3, 11, 53, 0, [(5, 158)])), (39, (.ifCond .ge 11, 3, 50, 0, 0, []))], [(42, (.aload_n 0, 1, 0, 0, 0, [])), (43, (.iload_n 2, 1, 0, 0, 0, [])), (44, (.putfield 386, 3, 11, 53, 0, [(5, 158)])), (47, (.goto 8, 3, 55, 0, 0, []))], [(50, (.aload_n 0, 1, 0, 0, 0, [])), (51, (.iload_n 2, 1, 0, 0, 0, [])), (52, (.putfield 389, 3, 11, 54, 0, [(5, 159)])), (55, (.iinc 2 1, 3, 0, 0, 0, []))], [(58, (.goto (-46), 3, 12, 0, 0, [])), (61, (.aload_n 0, 1, 0, 0, 0, [])), (62, (.getfield 386, 3, 11, 53, 0, [(5, 158)]))], [(65, (.iconst 3, 1, 0, 0, 0, [])), (66, (.idiv, 1, 0, 0, 0, [])), (67, (.aload_n 0, 1, 0, 0, 0, [])), (68, (.getfield 389, 3, 11, 54, 0, [(5, 159)])), (71, (.iconst 3, 1, 0, 0, 0, []))], [(72, (.idiv, 1, 0, 0, 0, [])), (73, (.if_icmp .eq 7, 3, 80, 0, 0, [])), (76, (.iconst 1, 1, 0, 0, 0, [])), (77, (.goto 4, 3, 81, 0, 0, []))], [(80, (.iconst 0, 1, 0, 0, 0, [])), (81, (.ireturn, 1, 0, 0, 0, []))]])
/-- X11 flipped -/
def pd_196 : pm_D := ((yX11_flipped, cX11_flipped, 4, (some .int), 1, 11), [(7, 43), (1, 12)], [[(0, (.aload_n 0, 1, 0, 0, 0, [])), (1, (.getfield 107, 3, 11, 52, 3, [(5, 157)])), (4, (.aload_n 0, 1, 0, 0, 0, [])), (5, (.getfield 104, 3, 11, 51, 3, [(5, 156)]))], [(8, (.aload_n 0, 1, 0, 0, 0, [])), (9, (.getfield 386, 3, 11, 53, 0, [(5, 158)])), (12, (.iconst 1, 1, 0, 0, 0, [])), (13, (.invokestatic 321, 3, 177, 0, 0, [(5, 102), (5, 103)]))], [(16, (.iaload, 1, 0, 0, 0, [])), (17, (.iaload, 1, 0, 0, 0, [])), (18, (.aload_n 0, 1, 0, 0, 0, [])), (19, (.getfield 107, 3, 11, 52, 3, [(5, 157)])), (22, (.aload_n 0, 1, 0, 0, 0, [])), (23, (.getfield 104, 3, 11, 51, 3, [(5, 156)]))], [(26, (.aload_n 0, 1, 0, 0, 0, [])), (27, (.getfield 389, 3, 11, 54, 0, [(5, 159)])), (30, (.iconst 1, 1, 0, 0, 0, [])), (31, (.invokestatic 321, 3, 177, 0, 0, [(5, 102), (5, 103)]))], [(34, (.iaload, 1, 0, 0, 0, [])), (35, (.iaload, 1, 0, 0, 0, [])), (36, (.iadd, 1, 0, 0, 0, [])), (37, (.istore_n 2, 1, 0, 0, 0, [])), (38, (.aload_n 0, 1, 0, 0, 0, [])), (39, (.getfield 107, 3, 11, 52, 3, [(5, 157)]))], [(42, (.aload_n 0, 1, 0, 0, 0, [])), (43, (.getfield 104, 3, 11, 51, 3, [(5, 156)])), (46, (.aload_n 0, 1, 0, 0, 0, [])), (47, (.getfield 386, 3, 11, 53, 0, [(5, 158)]))], [(50, (.iconst 2, 1, 0, 0, 0, [])), (51, (.invokestatic 321, 3, 177, 0, 0, [(5, 102), (5, 103)])), (54, (.iaload, 1, 0, 0, 0, [])), (55, (.iaload, 1, 0, 0, 0, []))], [(56, (.aload_n 0, 1, 0, 0, 0, [])), (57, (.getfield 107, 3, 11, 52, 3, [(5, 157)])), (60, (.aload_n 0, 1, 0, 0, 0, [])), (61, (.getfield 104, 3, 11, 51, 3, [(5, 156)]))], [(64, (.aload_n 0, 1, 0, 0, 0, [])), (65, (.getfield 389, 3, 11, 54, 0, [(5, 159)])), (68, (.iconst 2, 1, 0, 0, 0, [])), (69, (.invokestatic 321, 3, 177, 0, 0, [(5, 102), (5, 103)]))], [(72, (.iaload, 1, 0, 0, 0, [])), (73, (.iaload, 1, 0, 0, 0, [])), (74, (.iadd, 1, 0, 0, 0, [])), (75, (.istore_n 3, 1, 0, 0, 0, [])), (76, (.iload_n 2, 1, 0, 0, 0, [])), (77, (.iload_n 3, 1, 0, 0, 0, [])), (78, (.if_icmp .le 7, 3, 85, 0, 0, []))], [(81, (.iload_n 2, 1, 0, 0, 0, [])), (82, (.goto 4, 3, 86, 0, 0, [])), (85, (.iload_n 3, 1, 0, 0, 0, [])), (86, (.aload_n 0, 1, 0, 0, 0, [])), (87, (.getfield 107, 3, 11, 52, 3, [(5, 157)]))], [(90, (.iload_n 1, 1, 0, 0, 0, [])), (91, (.iaload, 1, 0, 0, 0, [])), (92, (.isub, 1, 0, 0, 0, [])), (93, (.ireturn, 1, 0, 0, 0, []))]])
/-- X11 isShort -/
def pd_197 : pm_D := ((yX11_isShort, cX11_isShort, 4, (some .boolean), 0, 11), [(7, 31), (1, 12)], [[(0, (.iconst 0, 1, 0, 0, 0, [])), (1, (.istore_n 1, 1, 0, 0, 0, [])), (2, (.iconst 1, 1, 0, 0, 0, [])), (3, (.istore_n 2, 1, 0, 0, 0, [])), (4, (.iconst 0, 1, 0, 0, 0, [])), (5, (.istore_n 3, 1, 0, 0, 0, [])), (6, (.iload_n 3, 1, 0, 0, 0, [])), (7, (.aload_n 0, 1, 0, 0, 0, []))], [(8, (.invokevirtual 315, 3, 161, 0, 0, [(6, 228), (6, 230), (0, 77)])), (11, (.if_icmp .ge 38, 3, 49, 0, 0, [])), (14, (.iload_n 1, 1, 0, 0, 0, [])), (15, (.aload_n 0, 1, 0, 0, 0, []))], [(16, (.getfield 107, 3, 11, 52, 3, [(5, 157)])), (19, (.iload_n 3, 1, 0, 0, 0, [])), (20, (.iaload, 1, 0, 0, 0, [])), (21, (.iadd, 1, 0, 0, 0, [])), (22, (.istore_n 1, 1, 0, 0, 0, [])), (23, (.iload_n 2, 1, 0, 0, 0, []))], [(24, (.ifCond .eq 17, 3, 41, 0, 0, [])), (27, (.aload_n 0, 1, 0, 0, 0, [])), (28, (.getfield 107, 3, 11, 52, 3, [(5, 157)])), (31, (.iload_n 3, 1, 0, 0, 0, []))], [(32, (.iaload, 1, 0, 0, 0, [])), (33, (.iconst 2, 1, 0, 0, 0, [])), (34, (.if_icmp .ge 7, 3, 41, 0, 0, [])), (37, (.iconst 1, 1, 0, 0, 0, [])), (38, (.goto 4, 3, 42, 0, 0, []))], [(41, (.iconst 0, 1, 0, 0, 0, [])), (42, (.istore_n 2, 1, 0, 0, 0, [])), (43, (.iinc 3 1, 3, 0, 0, 0, [])), (46, (.goto (-40), 3, 6, 0, 0, []))], [(49, (.iload_n 2, 1, 0, 0, 0, [])), (50, (.ifCond .eq 12, 3, 62, 0, 0, [])), (53, (.iload_n 1, 1, 0, 0, 0, [])), (54, (.iconst 2, 1, 0, 0, 0, [])), (55, (.if_icmp .ne 7, 3, 62, 0, 0, []))], [(58, (.iconst 1, 1, 0, 0, 0, [])), (59, (.goto 4, 3, 63, 0, 0, [])), (62, (.iconst 0, 1, 0, 0, 0, [])), (63, (.ireturn, 1, 0, 0, 0, []))]])
/-- X11 doFlip -/
def pd_198 : pm_D := ((yX11_doFlip, cX11_doFlip, 10, none, 2, 11), [(7, 47), (1, 12)], [[(0, (.aload_n 0, 1, 0, 0, 0, [])), (1, (.iload_n 2, 1, 0, 0, 0, [])), (2, (.invokevirtual 392, 3, 195, 0, 0, [(7, 36), (7, 38), (0, 88)])), (5, (.pop, 1, 0, 0, 0, [])), (6, (.iconst 5, 1, 0, 0, 0, [])), (7, (.sipush 1782, 3, 0, 0, 0, []))], [(10, (.iload_n 1, 1, 0, 0, 0, [])), (11, (.imul, 1, 0, 0, 0, [])), (12, (.aload_n 0, 1, 0, 0, 0, [])), (13, (.getfield 83, 3, 11, 44, 3, [(5, 149)]))], [(16, (.iload_n 1, 1, 0, 0, 0, [])), (17, (.iaload, 1, 0, 0, 0, [])), (18, (.iadd, 1, 0, 0, 0, [])), (19, (.imul, 1, 0, 0, 0, [])), (20, (.istore_n 3, 1, 0, 0, 0, [])), (21, (.aload_n 0, 1, 0, 0, 0, [])), (22, (.getfield 104, 3, 11, 51, 3, [(5, 156)]))], [(25, (.aload_n 0, 1, 0, 0, 0, [])), (26, (.getfield 386, 3, 11, 53, 0, [(5, 158)])), (29, (.iconst 1, 1, 0, 0, 0, [])), (30, (.invokestatic 321, 3, 177, 0, 0, [(5, 102), (5, 103)]))], [(33, (.iaload, 1, 0, 0, 0, [])), (34, (.istore 4, 2, 0, 0, 0, [])), (36, (.aload_n 0, 1, 0, 0, 0, [])), (37, (.getfield 104, 3, 11, 51, 3, [(5, 156)]))], [(40, (.aload_n 0, 1, 0, 0, 0, [])), (41, (.getfield 386, 3, 11, 53, 0, [(5, 158)])), (44, (.iconst 2, 1, 0, 0, 0, [])), (45, (.invokestatic 321, 3, 177, 0, 0, [(5, 102), (5, 103)]))], [(48, (.iaload, 1, 0, 0, 0, [])), (49, (.istore 5, 2, 0, 0, 0, [])), (51, (.aload_n 0, 1, 0, 0, 0, [])), (52, (.getfield 104, 3, 11, 51, 3, [(5, 156)])), (55, (.aload_n 0, 1, 0, 0, 0, []))], [(56, (.getfield 389, 3, 11, 54, 0, [(5, 159)])), (59, (.iconst 1, 1, 0, 0, 0, [])), (60, (.invokestatic 321, 3, 177, 0, 0, [(5, 102), (5, 103)])), (63, (.iaload, 1, 0, 0, 0, []))], [(64, (.istore 6, 2, 0, 0, 0, [])), (66, (.aload_n 0, 1, 0, 0, 0, [])), (67, (.getfield 104, 3, 11, 51, 3, [(5, 156)])), (70, (.aload_n 0, 1, 0, 0, 0, [])), (71, (.getfield 389, 3, 11, 54, 0, [(5, 159)]))], [(74, (.iconst 2, 1, 0, 0, 0, [])), (75, (.invokestatic 321, 3, 177, 0, 0, [(5, 102), (5, 103)])), (78, (.iaload, 1, 0, 0, 0, [])), (79, (.istore 7, 2, 0, 0, 0, []))], [(81, (.aload_n 0, 1, 0, 0, 0, [])), (82, (.getfield 107, 3, 11, 52, 3, [(5, 157)])), (85, (.iload_n 2, 1, 0, 0, 0, [])), (86, (.aload_n 0, 1, 0, 0, 0, [])), (87, (.iload_n 2, 1, 0, 0, 0, []))], [(88, (.invokevirtual 395, 3, 196, 0, 0, [(7, 40), (7, 42), (0, 89)])), (91, (.iastore, 1, 0, 0, 0, [])), (92, (.aload_n 0, 1, 0, 0, 0, [])), (93, (.getfield 80, 3, 11, 43, 3, [(5, 148)]))], [(96, (.iload_n 3, 1, 0, 0, 0, [])), (97, (.iload_n 2, 1, 0, 0, 0, [])), (98, (.iastore, 1, 0, 0, 0, [])), (99, (.aload_n 0, 1, 0, 0, 0, [])), (100, (.getfield 80, 3, 11, 43, 3, [(5, 148)])), (103, (.iload_n 3, 1, 0, 0, 0, []))], [(104, (.iconst 1, 1, 0, 0, 0, [])), (105, (.iadd, 1, 0, 0, 0, [])), (106, (.iload 4, 2, 0, 0, 0, [])), (108, (.iastore, 1, 0, 0, 0, [])), (109, (.aload_n 0, 1, 0, 0, 0, [])), (110, (.getfield 80, 3, 11, 43, 3, [(5, 148)]))], [(113, (.iload_n 3, 1, 0, 0, 0, [])), (114, (.iconst 2, 1, 0, 0, 0, [])), (115, (.iadd, 1, 0, 0, 0, [])), (116, (.iload 5, 2, 0, 0, 0, [])), (118, (.iastore, 1, 0, 0, 0, [])), (119, (.aload_n 0, 1, 0, 0, 0, []))], [(120, (.getfield 80, 3, 11, 43, 3, [(5, 148)])), (123, (.iload_n 3, 1, 0, 0, 0, [])), (124, (.iconst 3, 1, 0, 0, 0, [])), (125, (.iadd, 1, 0, 0, 0, [])), (126, (.iload 6, 2, 0, 0, 0, []))], [(128, (.iastore, 1, 0, 0, 0, [])), (129, (.aload_n 0, 1, 0, 0, 0, [])), (130, (.getfield 80, 3, 11, 43, 3, [(5, 148)])), (133, (.iload_n 3, 1, 0, 0, 0, [])), (134, (.iconst 4, 1, 0, 0, 0, [])), (135, (.iadd, 1, 0, 0, 0, []))], [(136, (.iload 7, 2, 0, 0, 0, [])), (138, (.iastore, 1, 0, 0, 0, [])), (139, (.aload_n 0, 1, 0, 0, 0, [])), (140, (.getfield 83, 3, 11, 44, 3, [(5, 149)])), (143, (.iload_n 1, 1, 0, 0, 0, []))], [(144, (.dup2, 1, 0, 0, 0, [])), (145, (.iaload, 1, 0, 0, 0, [])), (146, (.iconst 1, 1, 0, 0, 0, [])), (147, (.iadd, 1, 0, 0, 0, [])), (148, (.iastore, 1, 0, 0, 0, [])), (149, (.aload_n 0, 1, 0, 0, 0, [])), (150, (.getfield 386, 3, 11, 53, 0, [(5, 158)]))], [(153, (.iconst 3, 1, 0, 0, 0, [])), (154, (.idiv, 1, 0, 0, 0, [])), (155, (.iconst 3, 1, 0, 0, 0, [])), (156, (.imul, 1, 0, 0, 0, [])), (157, (.istore 8, 2, 0, 0, 0, [])), (159, (.aload_n 0, 1, 0, 0, 0, []))], [(160, (.getfield 389, 3, 11, 54, 0, [(5, 159)])), (163, (.iconst 3, 1, 0, 0, 0, [])), (164, (.idiv, 1, 0, 0, 0, [])), (165, (.iconst 3, 1, 0, 0, 0, [])), (166, (.imul, 1, 0, 0, 0, [])), (167, (.istore 9, 2, 0, 0, 0, []))], [(169, (.aload_n 0, 1, 0, 0, 0, [])), (170, (.getfield 104, 3, 11, 51, 3, [(5, 156)])), (173, (.iload 8, 2, 0, 0, 0, [])), (175, (.iload_n 2, 1, 0, 0, 0, []))], [(176, (.iastore, 1, 0, 0, 0, [])), (177, (.aload_n 0, 1, 0, 0, 0, [])), (178, (.getfield 104, 3, 11, 51, 3, [(5, 156)])), (181, (.iload 8, 2, 0, 0, 0, [])), (183, (.iconst 1, 1, 0, 0, 0, []))], [(184, (.iadd, 1, 0, 0, 0, [])), (185, (.iload 5, 2, 0, 0, 0, [])), (187, (.iastore, 1, 0, 0, 0, [])), (188, (.aload_n 0, 1, 0, 0, 0, [])), (189, (.getfield 104, 3, 11, 51, 3, [(5, 156)]))], [(192, (.iload 8, 2, 0, 0, 0, [])), (194, (.iconst 2, 1, 0, 0, 0, [])), (195, (.iadd, 1, 0, 0, 0, [])), (196, (.iload 6, 2, 0, 0, 0, [])), (198, (.iastore, 1, 0, 0, 0, [])), (199, (.aload_n 0, 1, 0, 0, 0, []))], [(200, (.getfield 104, 3, 11, 51, 3, [(5, 156)])), (203, (.iload 9, 2, 0, 0, 0, [])), (205, (.iload_n 2, 1, 0, 0, 0, [])), (206, (.iastore, 1, 0, 0, 0, [])), (207, (.aload_n 0, 1, 0, 0, 0, []))], [(208, (.getfield 104, 3, 11, 51, 3, [(5, 156)])), (211, (.iload 9, 2, 0, 0, 0, [])), (213, (.iconst 1, 1, 0, 0, 0, [])), (214, (.iadd, 1, 0, 0, 0, [])), (215, (.iload 7, 2, 0, 0, 0, []))], [(217, (.iastore, 1, 0, 0, 0, [])), (218, (.aload_n 0, 1, 0, 0, 0, [])), (219, (.getfield 104, 3, 11, 51, 3, [(5, 156)])), (222, (.iload 9, 2, 0, 0, 0, []))], [(224, (.iconst 2, 1, 0, 0, 0, [])), (225, (.iadd, 1, 0, 0, 0, [])), (226, (.iload 4, 2, 0, 0, 0, [])), (228, (.iastore, 1, 0, 0, 0, [])), (229, (.return_, 1, 0, 0, 0, []))]])
/-- X11 shorter -/
def pd_199 : pm_D := ((yX11_shorter, cX11_shorter, 2, (some .int), 0, 11), [(7, 35), (1, 12)], [[(0, (.iconst 0, 1, 0, 0, 0, [])), (1, (.istore_n 1, 1, 0, 0, 0, [])), (2, (.iload_n 1, 1, 0, 0, 0, [])), (3, (.aload_n 0, 1, 0, 0, 0, [])), (4, (.invokevirtual 315, 3, 161, 0, 0, [(6, 228), (6, 230), (0, 77)])), (7, (.if_icmp .ge 33, 3, 40, 0, 0, []))], [(10, (.aload_n 0, 1, 0, 0, 0, [])), (11, (.iload_n 1, 1, 0, 0, 0, [])), (12, (.invokevirtual 392, 3, 195, 0, 0, [(7, 36), (7, 38), (0, 88)])), (15, (.ifCond .eq 19, 3, 34, 0, 0, []))], [(18, (.aload_n 0, 1, 0, 0, 0, [])), (19, (.iload_n 1, 1, 0, 0, 0, [])), (20, (.invokevirtual 395, 3, 196, 0, 0, [(7, 40), (7, 42), (0, 89)])), (23, (.aload_n 0, 1, 0, 0, 0, []))], [(24, (.getfield 107, 3, 11, 52, 3, [(5, 157)])), (27, (.iload_n 1, 1, 0, 0, 0, [])), (28, (.iaload, 1, 0, 0, 0, [])), (29, (.if_icmp .ge 5, 3, 34, 0, 0, []))], [(32, (.iload_n 1, 1, 0, 0, 0, [])), (33, (.ireturn, 1, 0, 0, 0, [])), (34, (.iinc 1 1, 3, 0, 0, 0, [])), (37, (.goto (-35), 3, 2, 0, 0, []))], [(40, (.iconst (-1), 1, 0, 0, 0, [])), (41, (.ireturn, 1, 0, 0, 0, []))]])
/-- X11 layFlips -/
def pd_200 : pm_D := ((yX11_layFlips, cX11_layFlips, 3, none, 1, 11), [(6, 219), (1, 12)], [[(0, (.aload_n 0, 1, 0, 0, 0, [])), (1, (.getfield 83, 3, 11, 44, 3, [(5, 149)])), (4, (.iload_n 1, 1, 0, 0, 0, [])), (5, (.iconst 0, 1, 0, 0, 0, [])), (6, (.iastore, 1, 0, 0, 0, [])), (7, (.aload_n 0, 1, 0, 0, 0, []))], [(8, (.getfield 101, 3, 11, 50, 3, [(5, 155)])), (11, (.iload_n 1, 1, 0, 0, 0, [])), (12, (.iconst 0, 1, 0, 0, 0, [])), (13, (.bastore, 1, 0, 0, 0, [])), (14, (.aload_n 0, 1, 0, 0, 0, [])), (15, (.getfield 98, 3, 11, 49, 3, [(5, 154)]))], [(18, (.iload_n 1, 1, 0, 0, 0, [])), (19, (.aload_n 0, 1, 0, 0, 0, [])), (20, (.iload_n 1, 1, 0, 0, 0, [])), (21, (.invokevirtual 398, 3, 190, 0, 0, [(6, 220), (6, 222), (0, 75)]))], [(24, (.bastore, 1, 0, 0, 0, [])), (25, (.aload_n 0, 1, 0, 0, 0, [])), (26, (.getfield 98, 3, 11, 49, 3, [(5, 154)])), (29, (.iload_n 1, 1, 0, 0, 0, [])), (30, (.baload, 1, 0, 0, 0, [])), (31, (.ifCond .ne 4, 3, 35, 0, 0, []))], [(34, (.return_, 1, 0, 0, 0, [])), (35, (.iconst 0, 1, 0, 0, 0, [])), (36, (.istore_n 2, 1, 0, 0, 0, [])), (37, (.iload_n 2, 1, 0, 0, 0, [])), (38, (.bipush 36, 2, 0, 0, 0, []))], [(40, (.if_icmp .ge 21, 3, 61, 0, 0, [])), (43, (.aload_n 0, 1, 0, 0, 0, [])), (44, (.getfield 104, 3, 11, 51, 3, [(5, 156)])), (47, (.iload_n 2, 1, 0, 0, 0, []))], [(48, (.aload_n 0, 1, 0, 0, 0, [])), (49, (.getfield 42, 3, 11, 18, 3, [(5, 123)])), (52, (.iload_n 2, 1, 0, 0, 0, [])), (53, (.iaload, 1, 0, 0, 0, [])), (54, (.iastore, 1, 0, 0, 0, [])), (55, (.iinc 2 1, 3, 0, 0, 0, []))], [(58, (.goto (-21), 3, 37, 0, 0, [])), (61, (.iconst 0, 1, 0, 0, 0, [])), (62, (.istore_n 2, 1, 0, 0, 0, [])), (63, (.iload_n 2, 1, 0, 0, 0, []))], [(64, (.bipush 18, 2, 0, 0, 0, [])), (66, (.if_icmp .ge 26, 3, 92, 0, 0, [])), (69, (.aload_n 0, 1, 0, 0, 0, [])), (70, (.getfield 107, 3, 11, 52, 3, [(5, 157)]))], [(73, (.iload_n 2, 1, 0, 0, 0, [])), (74, (.aload_n 0, 1, 0, 0, 0, [])), (75, (.getfield 45, 3, 11, 19, 3, [(5, 124)])), (78, (.bipush 18, 2, 0, 0, 0, []))], [(80, (.iload_n 1, 1, 0, 0, 0, [])), (81, (.imul, 1, 0, 0, 0, [])), (82, (.iload_n 2, 1, 0, 0, 0, [])), (83, (.iadd, 1, 0, 0, 0, [])), (84, (.iaload, 1, 0, 0, 0, [])), (85, (.iastore, 1, 0, 0, 0, [])), (86, (.iinc 2 1, 3, 0, 0, 0, []))], [(89, (.goto (-26), 3, 63, 0, 0, [])), (92, (.aload_n 0, 1, 0, 0, 0, [])), (93, (.invokevirtual 401, 3, 197, 0, 0, [(7, 28), (7, 30), (0, 86)]))], [(96, (.ifCond .ne 22, 3, 118, 0, 0, [])), (99, (.aload_n 0, 1, 0, 0, 0, [])), (100, (.invokevirtual 404, 3, 199, 0, 0, [(7, 32), (7, 34), (0, 87)])), (103, (.istore_n 2, 1, 0, 0, 0, []))], [(104, (.iload_n 2, 1, 0, 0, 0, [])), (105, (.ifCond .ge 4, 3, 109, 0, 0, [])), (108, (.return_, 1, 0, 0, 0, [])), (109, (.aload_n 0, 1, 0, 0, 0, [])), (110, (.iload_n 1, 1, 0, 0, 0, [])), (111, (.iload_n 2, 1, 0, 0, 0, []))], [(112, (.invokevirtual 407, 3, 198, 0, 0, [(7, 44), (7, 46), (0, 90)])), (115, (.goto (-23), 3, 92, 0, 0, [])), (118, (.aload_n 0, 1, 0, 0, 0, [])), (119, (.getfield 101, 3, 11, 50, 3, [(5, 155)]))], [(122, (.iload_n 1, 1, 0, 0, 0, [])), (123, (.iconst 1, 1, 0, 0, 0, [])), (124, (.bastore, 1, 0, 0, 0, [])), (125, (.aload_n 0, 1, 0, 0, 0, [])), (126, (.iload_n 1, 1, 0, 0, 0, [])), (127, (.invokevirtual 410, 3, 201, 0, 0, [(7, 48), (7, 50), (0, 91)]))], [(130, (.return_, 1, 0, 0, 0, []))]])
/-- X11 layShort -/
def pd_201 : pm_D := ((yX11_layShort, cX11_layShort, 6, none, 1, 11), [(7, 51), (1, 12)], [[(0, (.iconst 1, 1, 0, 0, 0, [])), (1, (.istore_n 2, 1, 0, 0, 0, [])), (2, (.iconst 0, 1, 0, 0, 0, [])), (3, (.istore_n 3, 1, 0, 0, 0, [])), (4, (.iload_n 3, 1, 0, 0, 0, [])), (5, (.aload_n 0, 1, 0, 0, 0, [])), (6, (.getfield 237, 3, 11, 26, 0, [(5, 131)]))], [(9, (.if_icmp .ge 157, 3, 166, 0, 0, [])), (12, (.aload_n 0, 1, 0, 0, 0, [])), (13, (.getfield 107, 3, 11, 52, 3, [(5, 157)]))], [(16, (.aload_n 0, 1, 0, 0, 0, [])), (17, (.getfield 104, 3, 11, 51, 3, [(5, 156)])), (20, (.iconst 3, 1, 0, 0, 0, [])), (21, (.iload_n 3, 1, 0, 0, 0, [])), (22, (.imul, 1, 0, 0, 0, [])), (23, (.iaload, 1, 0, 0, 0, []))], [(24, (.iaload, 1, 0, 0, 0, [])), (25, (.aload_n 0, 1, 0, 0, 0, [])), (26, (.getfield 107, 3, 11, 52, 3, [(5, 157)])), (29, (.aload_n 0, 1, 0, 0, 0, [])), (30, (.getfield 104, 3, 11, 51, 3, [(5, 156)]))], [(33, (.iconst 3, 1, 0, 0, 0, [])), (34, (.iload_n 3, 1, 0, 0, 0, [])), (35, (.imul, 1, 0, 0, 0, [])), (36, (.iconst 1, 1, 0, 0, 0, [])), (37, (.iadd, 1, 0, 0, 0, [])), (38, (.iaload, 1, 0, 0, 0, [])), (39, (.iaload, 1, 0, 0, 0, []))], [(40, (.iadd, 1, 0, 0, 0, [])), (41, (.aload_n 0, 1, 0, 0, 0, [])), (42, (.getfield 107, 3, 11, 52, 3, [(5, 157)])), (45, (.aload_n 0, 1, 0, 0, 0, [])), (46, (.getfield 104, 3, 11, 51, 3, [(5, 156)]))], [(49, (.iconst 3, 1, 0, 0, 0, [])), (50, (.iload_n 3, 1, 0, 0, 0, [])), (51, (.imul, 1, 0, 0, 0, [])), (52, (.iconst 2, 1, 0, 0, 0, [])), (53, (.iadd, 1, 0, 0, 0, [])), (54, (.iaload, 1, 0, 0, 0, [])), (55, (.iaload, 1, 0, 0, 0, []))], [(56, (.iadd, 1, 0, 0, 0, [])), (57, (.istore 4, 2, 0, 0, 0, [])), (59, (.iload 4, 2, 0, 0, 0, [])), (61, (.iconst 2, 1, 0, 0, 0, [])), (62, (.if_icmp .eq 6, 3, 68, 0, 0, []))], [(65, (.goto 95, 3, 160, 0, 0, [])), (68, (.iconst 3, 1, 0, 0, 0, [])), (69, (.iload_n 3, 1, 0, 0, 0, [])), (70, (.imul, 1, 0, 0, 0, [])), (71, (.istore 5, 2, 0, 0, 0, []))], [(73, (.aload_n 0, 1, 0, 0, 0, [])), (74, (.getfield 107, 3, 11, 52, 3, [(5, 157)])), (77, (.aload_n 0, 1, 0, 0, 0, [])), (78, (.getfield 104, 3, 11, 51, 3, [(5, 156)]))], [(81, (.iload 5, 2, 0, 0, 0, [])), (83, (.iaload, 1, 0, 0, 0, [])), (84, (.iaload, 1, 0, 0, 0, [])), (85, (.ifCond .le 9, 3, 94, 0, 0, []))], [(88, (.iinc 5 1, 3, 0, 0, 0, [])), (91, (.goto (-18), 3, 73, 0, 0, [])), (94, (.aload_n 0, 1, 0, 0, 0, [])), (95, (.getfield 89, 3, 11, 46, 3, [(5, 151)]))], [(98, (.iload_n 1, 1, 0, 0, 0, [])), (99, (.aload_n 0, 1, 0, 0, 0, [])), (100, (.getfield 104, 3, 11, 51, 3, [(5, 156)])), (103, (.iload 5, 2, 0, 0, 0, []))], [(105, (.iconst 1, 1, 0, 0, 0, [])), (106, (.invokestatic 321, 3, 177, 0, 0, [(5, 102), (5, 103)])), (109, (.iaload, 1, 0, 0, 0, [])), (110, (.iastore, 1, 0, 0, 0, [])), (111, (.aload_n 0, 1, 0, 0, 0, []))], [(112, (.getfield 86, 3, 11, 45, 3, [(5, 150)])), (115, (.iload_n 1, 1, 0, 0, 0, [])), (116, (.aload_n 0, 1, 0, 0, 0, [])), (117, (.getfield 104, 3, 11, 51, 3, [(5, 156)]))], [(120, (.iload 5, 2, 0, 0, 0, [])), (122, (.iconst 2, 1, 0, 0, 0, [])), (123, (.invokestatic 321, 3, 177, 0, 0, [(5, 102), (5, 103)])), (126, (.iaload, 1, 0, 0, 0, [])), (127, (.iastore, 1, 0, 0, 0, []))], [(128, (.iload_n 2, 1, 0, 0, 0, [])), (129, (.ifCond .eq 16, 3, 145, 0, 0, [])), (132, (.aload_n 0, 1, 0, 0, 0, [])), (133, (.getfield 92, 3, 11, 47, 3, [(5, 152)]))], [(136, (.iload_n 1, 1, 0, 0, 0, [])), (137, (.aload_n 0, 1, 0, 0, 0, [])), (138, (.getfield 104, 3, 11, 51, 3, [(5, 156)])), (141, (.iload 5, 2, 0, 0, 0, [])), (143, (.iaload, 1, 0, 0, 0, []))], [(144, (.iastore, 1, 0, 0, 0, [])), (145, (.aload_n 0, 1, 0, 0, 0, [])), (146, (.getfield 95, 3, 11, 48, 3, [(5, 153)])), (149, (.iload_n 1, 1, 0, 0, 0, [])), (150, (.aload_n 0, 1, 0, 0, 0, [])), (151, (.getfield 104, 3, 11, 51, 3, [(5, 156)]))], [(154, (.iload 5, 2, 0, 0, 0, [])), (156, (.iaload, 1, 0, 0, 0, [])), (157, (.iastore, 1, 0, 0, 0, [])), (158, (.iconst 0, 1, 0, 0, 0, [])), (159, (.istore_n 2, 1, 0, 0, 0, []))], [(160, (.iinc 3 1, 3, 0, 0, 0, [])), (163, (.goto (-159), 3, 4, 0, 0, [])), (166, (.return_, 1, 0, 0, 0, []))]])
/-- X11 flips -/
def pd_202 : pm_D := ((yX11_flips, cX11_flips, 2, (some .int), 1, 11), [(7, 88), (1, 12)], [[(0, (.aload_n 0, 1, 0, 0, 0, [])), (1, (.iload_n 1, 1, 0, 0, 0, [])), (2, (.invokevirtual 372, 3, 173, 0, 0, [(7, 64), (7, 66), (0, 92)])), (5, (.ifCond .eq 12, 3, 17, 0, 0, []))], [(8, (.aload_n 0, 1, 0, 0, 0, [])), (9, (.getfield 98, 3, 11, 49, 3, [(5, 154)])), (12, (.iload_n 1, 1, 0, 0, 0, [])), (13, (.baload, 1, 0, 0, 0, [])), (14, (.ifCond .ne 7, 3, 21, 0, 0, []))], [(17, (.iconst (-1), 1, 0, 0, 0, [])), (18, (.goto 23, 3, 41, 0, 0, [])), (21, (.aload_n 0, 1, 0, 0, 0, [])), (22, (.getfield 101, 3, 11, 50, 3, [(5, 155)]))], [(25, (.iload_n 1, 1, 0, 0, 0, [])), (26, (.baload, 1, 0, 0, 0, [])), (27, (.ifCond .eq 12, 3, 39, 0, 0, [])), (30, (.aload_n 0, 1, 0, 0, 0, [])), (31, (.getfield 83, 3, 11, 44, 3, [(5, 149)]))], [(34, (.iload_n 1, 1, 0, 0, 0, [])), (35, (.iaload, 1, 0, 0, 0, [])), (36, (.goto 5, 3, 41, 0, 0, [])), (39, (.bipush (-2), 2, 0, 0, 0, []))], [(41, (.ireturn, 1, 0, 0, 0, []))]])
/-- X11 flip -/
def pd_203 : pm_D := ((yX11_flip, cX11_flip, 3, (some .int), 2, 11), [(7, 92), (1, 12)], [[(0, (.aload_n 0, 1, 0, 0, 0, [])), (1, (.iload_n 1, 1, 0, 0, 0, [])), (2, (.invokevirtual 372, 3, 173, 0, 0, [(7, 64), (7, 66), (0, 92)])), (5, (.ifCond .eq 26, 3, 31, 0, 0, []))], [(8, (.aload_n 0, 1, 0, 0, 0, [])), (9, (.getfield 101, 3, 11, 50, 3, [(5, 155)])), (12, (.iload_n 1, 1, 0, 0, 0, [])), (13, (.baload, 1, 0, 0, 0, [])), (14, (.ifCond .eq 17, 3, 31, 0, 0, []))], [(17, (.iload_n 2, 1, 0, 0, 0, [])), (18, (.ifCond .lt 13, 3, 31, 0, 0, [])), (21, (.iload_n 2, 1, 0, 0, 0, [])), (22, (.aload_n 0, 1, 0, 0, 0, [])), (23, (.getfield 83, 3, 11, 44, 3, [(5, 149)]))], [(26, (.iload_n 1, 1, 0, 0, 0, [])), (27, (.iaload, 1, 0, 0, 0, [])), (28, (.if_icmp .lt 7, 3, 35, 0, 0, [])), (31, (.iconst (-1), 1, 0, 0, 0, []))], [(32, (.goto 17, 3, 49, 0, 0, [])), (35, (.aload_n 0, 1, 0, 0, 0, [])), (36, (.getfield 80, 3, 11, 43, 3, [(5, 148)])), (39, (.iconst 5, 1, 0, 0, 0, []))], [(40, (.sipush 1782, 3, 0, 0, 0, [])), (43, (.iload_n 1, 1, 0, 0, 0, [])), (44, (.imul, 1, 0, 0, 0, [])), (45, (.iload_n 2, 1, 0, 0, 0, [])), (46, (.iadd, 1, 0, 0, 0, [])), (47, (.imul, 1, 0, 0, 0, []))], [(48, (.iaload, 1, 0, 0, 0, [])), (49, (.ireturn, 1, 0, 0, 0, []))]])
/-- X11 take -/
def pd_204 : pm_D := ((yX11_take, cX11_take, 11, none, 7, 11), [(7, 117), (1, 12)], [[(0, (.aload_n 0, 1, 0, 0, 0, [])), (1, (.getfield 413, 3, 11, 59, 2, [(5, 164)])), (4, (.ifCond .ne 4, 3, 8, 0, 0, [])), (7, (.return_, 1, 0, 0, 0, []))], [(8, (.iconst 0, 1, 0, 0, 0, [])), (9, (.istore 8, 2, 0, 0, 0, [])), (11, (.iload 8, 2, 0, 0, 0, [])), (13, (.bipush 18, 2, 0, 0, 0, [])), (15, (.if_icmp .ge 106, 3, 121, 0, 0, []))], [(18, (.iload_n 2, 1, 0, 0, 0, [])), (19, (.ifCond .eq 33, 3, 52, 0, 0, [])), (22, (.aload_n 0, 1, 0, 0, 0, [])), (23, (.getfield 113, 3, 11, 56, 3, [(5, 161)]))], [(26, (.bipush 18, 2, 0, 0, 0, [])), (28, (.iload 5, 2, 0, 0, 0, [])), (30, (.imul, 1, 0, 0, 0, [])), (31, (.iload 8, 2, 0, 0, 0, []))], [(33, (.iadd, 1, 0, 0, 0, [])), (34, (.laload, 1, 0, 0, 0, [])), (35, (.aload_n 0, 1, 0, 0, 0, [])), (36, (.getfield 113, 3, 11, 56, 3, [(5, 161)])), (39, (.bipush 18, 2, 0, 0, 0, []))], [(41, (.iload 6, 2, 0, 0, 0, [])), (43, (.imul, 1, 0, 0, 0, [])), (44, (.iload 8, 2, 0, 0, 0, [])), (46, (.iadd, 1, 0, 0, 0, [])), (47, (.laload, 1, 0, 0, 0, []))], [(48, (.ladd, 1, 0, 0, 0, [])), (49, (.goto 29, 3, 78, 0, 0, [])), (52, (.aload_n 0, 1, 0, 0, 0, [])), (53, (.getfield 113, 3, 11, 56, 3, [(5, 161)]))], [(56, (.bipush 18, 2, 0, 0, 0, [])), (58, (.iload_n 3, 1, 0, 0, 0, [])), (59, (.imul, 1, 0, 0, 0, [])), (60, (.iload 8, 2, 0, 0, 0, [])), (62, (.iadd, 1, 0, 0, 0, [])), (63, (.laload, 1, 0, 0, 0, []))], [(64, (.aload_n 0, 1, 0, 0, 0, [])), (65, (.getfield 113, 3, 11, 56, 3, [(5, 161)])), (68, (.bipush 18, 2, 0, 0, 0, [])), (70, (.iload 4, 2, 0, 0, 0, []))], [(72, (.imul, 1, 0, 0, 0, [])), (73, (.iload 8, 2, 0, 0, 0, [])), (75, (.iadd, 1, 0, 0, 0, [])), (76, (.laload, 1, 0, 0, 0, [])), (77, (.ladd, 1, 0, 0, 0, [])), (78, (.lstore 9, 2, 0, 0, 0, []))], [(80, (.aload_n 0, 1, 0, 0, 0, [])), (81, (.getfield 116, 3, 11, 57, 3, [(5, 162)])), (84, (.iload 8, 2, 0, 0, 0, [])), (86, (.lload 9, 2, 0, 0, 0, []))], [(88, (.aload_n 0, 1, 0, 0, 0, [])), (89, (.getfield 113, 3, 11, 56, 3, [(5, 161)])), (92, (.bipush 18, 2, 0, 0, 0, [])), (94, (.iload 7, 2, 0, 0, 0, []))], [(96, (.imul, 1, 0, 0, 0, [])), (97, (.iload 8, 2, 0, 0, 0, [])), (99, (.iadd, 1, 0, 0, 0, [])), (100, (.laload, 1, 0, 0, 0, [])), (101, (.lsub, 1, 0, 0, 0, [])), (102, (.ldc2_w 416, 3, 0, 0, 1000003, [(7, 118)]))], [(105, (.lrem, 1, 0, 0, 0, [])), (106, (.ldc2_w 416, 3, 0, 0, 1000003, [(7, 118)])), (109, (.ladd, 1, 0, 0, 0, [])), (110, (.ldc2_w 416, 3, 0, 0, 1000003, [(7, 118)]))], [(113, (.lrem, 1, 0, 0, 0, [])), (114, (.lastore, 1, 0, 0, 0, [])), (115, (.iinc 8 1, 3, 0, 0, 0, [])), (118, (.goto (-107), 3, 11, 0, 0, []))], [(121, (.iconst 0, 1, 0, 0, 0, [])), (122, (.istore 8, 2, 0, 0, 0, [])), (124, (.iload 8, 2, 0, 0, 0, [])), (126, (.bipush 18, 2, 0, 0, 0, []))], [(128, (.if_icmp .ge 28, 3, 156, 0, 0, [])), (131, (.aload_n 0, 1, 0, 0, 0, [])), (132, (.getfield 113, 3, 11, 56, 3, [(5, 161)])), (135, (.bipush 18, 2, 0, 0, 0, []))], [(137, (.iload_n 1, 1, 0, 0, 0, [])), (138, (.imul, 1, 0, 0, 0, [])), (139, (.iload 8, 2, 0, 0, 0, [])), (141, (.iadd, 1, 0, 0, 0, [])), (142, (.aload_n 0, 1, 0, 0, 0, [])), (143, (.getfield 116, 3, 11, 57, 3, [(5, 162)]))], [(146, (.iload 8, 2, 0, 0, 0, [])), (148, (.laload, 1, 0, 0, 0, [])), (149, (.lastore, 1, 0, 0, 0, [])), (150, (.iinc 8 1, 3, 0, 0, 0, []))], [(153, (.goto (-29), 3, 124, 0, 0, [])), (156, (.return_, 1, 0, 0, 0, []))]])
/-- X11 greater -/
def pd_205 : pm_D := ((yX11_greater, cX11_greater, 13, none, 6, 11), [(7, 113), (1, 12)], [[(0, (.aload_n 0, 1, 0, 0, 0, [])), (1, (.getfield 110, 3, 11, 55, 3, [(5, 160)])), (4, (.iload_n 2, 1, 0, 0, 0, [])), (5, (.laload, 1, 0, 0, 0, [])), (6, (.aload_n 0, 1, 0, 0, 0, [])), (7, (.getfield 110, 3, 11, 55, 3, [(5, 160)]))], [(10, (.iload_n 3, 1, 0, 0, 0, [])), (11, (.laload, 1, 0, 0, 0, [])), (12, (.ladd, 1, 0, 0, 0, [])), (13, (.lstore 7, 2, 0, 0, 0, [])), (15, (.aload_n 0, 1, 0, 0, 0, []))], [(16, (.getfield 110, 3, 11, 55, 3, [(5, 160)])), (19, (.iload 4, 2, 0, 0, 0, [])), (21, (.laload, 1, 0, 0, 0, [])), (22, (.aload_n 0, 1, 0, 0, 0, [])), (23, (.getfield 110, 3, 11, 55, 3, [(5, 160)]))], [(26, (.iload 5, 2, 0, 0, 0, [])), (28, (.laload, 1, 0, 0, 0, [])), (29, (.ladd, 1, 0, 0, 0, [])), (30, (.lstore 9, 2, 0, 0, 0, []))], [(32, (.lload 7, 2, 0, 0, 0, [])), (34, (.lload 9, 2, 0, 0, 0, [])), (36, (.lcmp, 1, 0, 0, 0, [])), (37, (.ifCond .ge 8, 3, 45, 0, 0, []))], [(40, (.lload 9, 2, 0, 0, 0, [])), (42, (.goto 5, 3, 47, 0, 0, [])), (45, (.lload 7, 2, 0, 0, 0, [])), (47, (.aload_n 0, 1, 0, 0, 0, []))], [(48, (.getfield 110, 3, 11, 55, 3, [(5, 160)])), (51, (.iload 6, 2, 0, 0, 0, [])), (53, (.laload, 1, 0, 0, 0, [])), (54, (.lsub, 1, 0, 0, 0, [])), (55, (.lstore 11, 2, 0, 0, 0, []))], [(57, (.aload_n 0, 1, 0, 0, 0, [])), (58, (.iload_n 1, 1, 0, 0, 0, [])), (59, (.lload 7, 2, 0, 0, 0, [])), (61, (.lload 9, 2, 0, 0, 0, [])), (63, (.lcmp, 1, 0, 0, 0, []))], [(64, (.ifCond .ge 7, 3, 71, 0, 0, [])), (67, (.iconst 1, 1, 0, 0, 0, [])), (68, (.goto 4, 3, 72, 0, 0, [])), (71, (.iconst 0, 1, 0, 0, 0, []))], [(72, (.iload_n 2, 1, 0, 0, 0, [])), (73, (.iload_n 3, 1, 0, 0, 0, [])), (74, (.iload 4, 2, 0, 0, 0, [])), (76, (.iload 5, 2, 0, 0, 0, [])), (78, (.iload 6, 2, 0, 0, 0, []))], [(80, (.invokevirtual 418, 3, 204, 0, 0, [(7, 114), (7, 116), (0, 99)])), (83, (.aload_n 0, 1, 0, 0, 0, [])), (84, (.getfield 110, 3, 11, 55, 3, [(5, 160)])), (87, (.iload_n 1, 1, 0, 0, 0, []))], [(88, (.lload 11, 2, 0, 0, 0, [])), (90, (.lastore, 1, 0, 0, 0, [])), (91, (.aload_n 0, 1, 0, 0, 0, [])), (92, (.aload_n 0, 1, 0, 0, 0, [])), (93, (.getfield 422, 3, 11, 58, 2, [(5, 163)]))], [(96, (.ifCond .ne 12, 3, 108, 0, 0, [])), (99, (.lload 11, 2, 0, 0, 0, [])), (101, (.ldc2_w 425, 3, 0, 0, 100000000000000, [(7, 119)]))], [(104, (.lcmp, 1, 0, 0, 0, [])), (105, (.ifCond .le 7, 3, 112, 0, 0, [])), (108, (.iconst 1, 1, 0, 0, 0, [])), (109, (.goto 4, 3, 113, 0, 0, []))], [(112, (.iconst 0, 1, 0, 0, 0, [])), (113, (.putfield 422, 3, 11, 58, 2, [(5, 163)])), (116, (.return_, 1, 0, 0, 0, []))]])
end
section
/-- X11 goFlips -/
def pd_206 : pm_D := ((yX11_goFlips, cX11_goFlips, 3, none, 1, 11), [(7, 105), (1, 12)], [[(0, (.iconst 0, 1, 0, 0, 0, [])), (1, (.istore_n 2, 1, 0, 0, 0, [])), (2, (.iload_n 2, 1, 0, 0, 0, [])), (3, (.aload_n 0, 1, 0, 0, 0, [])), (4, (.getfield 83, 3, 11, 44, 3, [(5, 149)])), (7, (.iload_n 1, 1, 0, 0, 0, []))], [(8, (.iaload, 1, 0, 0, 0, [])), (9, (.if_icmp .ge 29, 3, 38, 0, 0, [])), (12, (.aload_n 0, 1, 0, 0, 0, [])), (13, (.getfield 422, 3, 11, 58, 2, [(5, 163)]))], [(16, (.ifCond .ne 22, 3, 38, 0, 0, [])), (19, (.aload_n 0, 1, 0, 0, 0, [])), (20, (.iconst 5, 1, 0, 0, 0, [])), (21, (.sipush 1782, 3, 0, 0, 0, []))], [(24, (.iload_n 1, 1, 0, 0, 0, [])), (25, (.imul, 1, 0, 0, 0, [])), (26, (.iload_n 2, 1, 0, 0, 0, [])), (27, (.iadd, 1, 0, 0, 0, [])), (28, (.imul, 1, 0, 0, 0, [])), (29, (.invokevirtual 427, 3, 207, 0, 0, [(7, 106), (7, 108), (0, 97)]))], [(32, (.iinc 2 1, 3, 0, 0, 0, [])), (35, (.goto (-33), 3, 2, 0, 0, [])), (38, (.return_, 1, 0, 0, 0, []))]])
/-- X11 goFlip -/
def pd_207 : pm_D := ((yX11_goFlip, cX11_goFlip, 2, none, 1, 11), [(7, 109), (1, 12)], [[(0, (.aload_n 0, 1, 0, 0, 0, [])), (1, (.aload_n 0, 1, 0, 0, 0, [])), (2, (.getfield 80, 3, 11, 43, 3, [(5, 148)])), (5, (.iload_n 1, 1, 0, 0, 0, [])), (6, (.iaload, 1, 0, 0, 0, [])), (7, (.aload_n 0, 1, 0, 0, 0, []))], [(8, (.getfield 80, 3, 11, 43, 3, [(5, 148)])), (11, (.iload_n 1, 1, 0, 0, 0, [])), (12, (.iconst 1, 1, 0, 0, 0, [])), (13, (.iadd, 1, 0, 0, 0, [])), (14, (.iaload, 1, 0, 0, 0, [])), (15, (.aload_n 0, 1, 0, 0, 0, []))], [(16, (.getfield 80, 3, 11, 43, 3, [(5, 148)])), (19, (.iload_n 1, 1, 0, 0, 0, [])), (20, (.iconst 3, 1, 0, 0, 0, [])), (21, (.iadd, 1, 0, 0, 0, [])), (22, (.iaload, 1, 0, 0, 0, [])), (23, (.aload_n 0, 1, 0, 0, 0, []))], [(24, (.getfield 80, 3, 11, 43, 3, [(5, 148)])), (27, (.iload_n 1, 1, 0, 0, 0, [])), (28, (.iconst 2, 1, 0, 0, 0, [])), (29, (.iadd, 1, 0, 0, 0, [])), (30, (.iaload, 1, 0, 0, 0, [])), (31, (.aload_n 0, 1, 0, 0, 0, []))], [(32, (.getfield 80, 3, 11, 43, 3, [(5, 148)])), (35, (.iload_n 1, 1, 0, 0, 0, [])), (36, (.iconst 4, 1, 0, 0, 0, [])), (37, (.iadd, 1, 0, 0, 0, [])), (38, (.iaload, 1, 0, 0, 0, [])), (39, (.aload_n 0, 1, 0, 0, 0, []))], [(40, (.getfield 80, 3, 11, 43, 3, [(5, 148)])), (43, (.iload_n 1, 1, 0, 0, 0, [])), (44, (.iaload, 1, 0, 0, 0, [])), (45, (.invokevirtual 430, 3, 205, 0, 0, [(7, 110), (7, 112), (0, 98)]))], [(48, (.return_, 1, 0, 0, 0, []))]])
/-- X11 goBack -/
def pd_208 : pm_D := ((yX11_goBack, cX11_goBack, 3, none, 1, 11), [(7, 159), (1, 12)], [[(0, (.aload_n 0, 1, 0, 0, 0, [])), (1, (.getfield 83, 3, 11, 44, 3, [(5, 149)])), (4, (.iload_n 1, 1, 0, 0, 0, [])), (5, (.iaload, 1, 0, 0, 0, [])), (6, (.iconst 1, 1, 0, 0, 0, [])), (7, (.isub, 1, 0, 0, 0, []))], [(8, (.istore_n 2, 1, 0, 0, 0, [])), (9, (.iload_n 2, 1, 0, 0, 0, [])), (10, (.ifCond .lt 29, 3, 39, 0, 0, [])), (13, (.aload_n 0, 1, 0, 0, 0, [])), (14, (.getfield 422, 3, 11, 58, 2, [(5, 163)]))], [(17, (.ifCond .ne 22, 3, 39, 0, 0, [])), (20, (.aload_n 0, 1, 0, 0, 0, [])), (21, (.iconst 5, 1, 0, 0, 0, [])), (22, (.sipush 1782, 3, 0, 0, 0, []))], [(25, (.iload_n 1, 1, 0, 0, 0, [])), (26, (.imul, 1, 0, 0, 0, [])), (27, (.iload_n 2, 1, 0, 0, 0, [])), (28, (.iadd, 1, 0, 0, 0, [])), (29, (.imul, 1, 0, 0, 0, [])), (30, (.invokevirtual 427, 3, 207, 0, 0, [(7, 106), (7, 108), (0, 97)]))], [(33, (.iinc 2 (-1), 3, 0, 0, 0, [])), (36, (.goto (-27), 3, 9, 0, 0, [])), (39, (.return_, 1, 0, 0, 0, []))]])
/-- X11 turnOnce -/
def pd_209 : pm_D := ((yX11_turnOnce, cX11_turnOnce, 7, none, 3, 11), [(7, 155), (1, 12)], [[(0, (.iconst 0, 1, 0, 0, 0, [])), (1, (.istore 4, 2, 0, 0, 0, [])), (3, (.iload 4, 2, 0, 0, 0, [])), (5, (.bipush 18, 2, 0, 0, 0, [])), (7, (.if_icmp .ge 35, 3, 42, 0, 0, []))], [(10, (.aload_n 0, 1, 0, 0, 0, [])), (11, (.getfield 413, 3, 11, 59, 2, [(5, 164)])), (14, (.ifCond .eq 28, 3, 42, 0, 0, []))], [(17, (.aload_n 0, 1, 0, 0, 0, [])), (18, (.getfield 119, 3, 11, 60, 3, [(5, 165)])), (21, (.iload 4, 2, 0, 0, 0, [])), (23, (.aload_n 0, 1, 0, 0, 0, []))], [(24, (.getfield 113, 3, 11, 56, 3, [(5, 161)])), (27, (.bipush 18, 2, 0, 0, 0, [])), (29, (.iload_n 2, 1, 0, 0, 0, [])), (30, (.imul, 1, 0, 0, 0, [])), (31, (.iload 4, 2, 0, 0, 0, []))], [(33, (.iadd, 1, 0, 0, 0, [])), (34, (.laload, 1, 0, 0, 0, [])), (35, (.lastore, 1, 0, 0, 0, [])), (36, (.iinc 4 1, 3, 0, 0, 0, [])), (39, (.goto (-36), 3, 3, 0, 0, []))], [(42, (.aload_n 0, 1, 0, 0, 0, [])), (43, (.getfield 110, 3, 11, 55, 3, [(5, 160)])), (46, (.iload_n 2, 1, 0, 0, 0, [])), (47, (.laload, 1, 0, 0, 0, []))], [(48, (.lstore 4, 2, 0, 0, 0, [])), (50, (.aload_n 0, 1, 0, 0, 0, [])), (51, (.iload_n 2, 1, 0, 0, 0, [])), (52, (.aload_n 0, 1, 0, 0, 0, [])), (53, (.getfield 92, 3, 11, 47, 3, [(5, 152)]))], [(56, (.iload_n 1, 1, 0, 0, 0, [])), (57, (.iaload, 1, 0, 0, 0, [])), (58, (.aload_n 0, 1, 0, 0, 0, [])), (59, (.getfield 95, 3, 11, 48, 3, [(5, 153)])), (62, (.iload_n 1, 1, 0, 0, 0, [])), (63, (.iaload, 1, 0, 0, 0, []))], [(64, (.iload_n 2, 1, 0, 0, 0, [])), (65, (.iload_n 2, 1, 0, 0, 0, [])), (66, (.iload_n 3, 1, 0, 0, 0, [])), (67, (.invokevirtual 430, 3, 205, 0, 0, [(7, 110), (7, 112), (0, 98)])), (70, (.aload_n 0, 1, 0, 0, 0, [])), (71, (.getfield 110, 3, 11, 55, 3, [(5, 160)]))], [(74, (.iload_n 3, 1, 0, 0, 0, [])), (75, (.lload 4, 2, 0, 0, 0, [])), (77, (.lastore, 1, 0, 0, 0, [])), (78, (.iconst 0, 1, 0, 0, 0, [])), (79, (.istore 6, 2, 0, 0, 0, []))], [(81, (.iload 6, 2, 0, 0, 0, [])), (83, (.bipush 18, 2, 0, 0, 0, [])), (85, (.if_icmp .ge 35, 3, 120, 0, 0, []))], [(88, (.aload_n 0, 1, 0, 0, 0, [])), (89, (.getfield 413, 3, 11, 59, 2, [(5, 164)])), (92, (.ifCond .eq 28, 3, 120, 0, 0, [])), (95, (.aload_n 0, 1, 0, 0, 0, []))], [(96, (.getfield 113, 3, 11, 56, 3, [(5, 161)])), (99, (.bipush 18, 2, 0, 0, 0, [])), (101, (.iload_n 3, 1, 0, 0, 0, [])), (102, (.imul, 1, 0, 0, 0, [])), (103, (.iload 6, 2, 0, 0, 0, []))], [(105, (.iadd, 1, 0, 0, 0, [])), (106, (.aload_n 0, 1, 0, 0, 0, [])), (107, (.getfield 119, 3, 11, 60, 3, [(5, 165)])), (110, (.iload 6, 2, 0, 0, 0, []))], [(112, (.laload, 1, 0, 0, 0, [])), (113, (.lastore, 1, 0, 0, 0, [])), (114, (.iinc 6 1, 3, 0, 0, 0, [])), (117, (.goto (-36), 3, 81, 0, 0, []))], [(120, (.return_, 1, 0, 0, 0, []))]])
/-- X11 goTwist -/
def pd_210 : pm_D := ((yX11_goTwist, cX11_goTwist, 4, none, 2, 11), [(7, 151), (1, 12)], [[(0, (.aload_n 0, 1, 0, 0, 0, [])), (1, (.iload_n 1, 1, 0, 0, 0, [])), (2, (.invokevirtual 434, 3, 206, 0, 0, [(7, 102), (7, 104), (0, 96)])), (5, (.iconst 0, 1, 0, 0, 0, [])), (6, (.istore_n 3, 1, 0, 0, 0, [])), (7, (.iload_n 3, 1, 0, 0, 0, []))], [(8, (.iload_n 2, 1, 0, 0, 0, [])), (9, (.if_icmp .ge 33, 3, 42, 0, 0, [])), (12, (.aload_n 0, 1, 0, 0, 0, [])), (13, (.getfield 422, 3, 11, 58, 2, [(5, 163)]))], [(16, (.ifCond .ne 26, 3, 42, 0, 0, [])), (19, (.aload_n 0, 1, 0, 0, 0, [])), (20, (.iload_n 1, 1, 0, 0, 0, [])), (21, (.aload_n 0, 1, 0, 0, 0, [])), (22, (.getfield 89, 3, 11, 46, 3, [(5, 151)]))], [(25, (.iload_n 1, 1, 0, 0, 0, [])), (26, (.iaload, 1, 0, 0, 0, [])), (27, (.aload_n 0, 1, 0, 0, 0, [])), (28, (.getfield 86, 3, 11, 45, 3, [(5, 150)])), (31, (.iload_n 1, 1, 0, 0, 0, []))], [(32, (.iaload, 1, 0, 0, 0, [])), (33, (.invokevirtual 437, 3, 209, 0, 0, [(7, 152), (7, 154), (0, 105)])), (36, (.iinc 3 1, 3, 0, 0, 0, [])), (39, (.goto (-32), 3, 7, 0, 0, []))], [(42, (.iconst 0, 1, 0, 0, 0, [])), (43, (.istore_n 3, 1, 0, 0, 0, [])), (44, (.iload_n 3, 1, 0, 0, 0, [])), (45, (.iload_n 2, 1, 0, 0, 0, [])), (46, (.if_icmp .le 33, 3, 79, 0, 0, []))], [(49, (.aload_n 0, 1, 0, 0, 0, [])), (50, (.getfield 422, 3, 11, 58, 2, [(5, 163)])), (53, (.ifCond .ne 26, 3, 79, 0, 0, []))], [(56, (.aload_n 0, 1, 0, 0, 0, [])), (57, (.iload_n 1, 1, 0, 0, 0, [])), (58, (.aload_n 0, 1, 0, 0, 0, [])), (59, (.getfield 86, 3, 11, 45, 3, [(5, 150)])), (62, (.iload_n 1, 1, 0, 0, 0, [])), (63, (.iaload, 1, 0, 0, 0, []))], [(64, (.aload_n 0, 1, 0, 0, 0, [])), (65, (.getfield 89, 3, 11, 46, 3, [(5, 151)])), (68, (.iload_n 1, 1, 0, 0, 0, [])), (69, (.iaload, 1, 0, 0, 0, [])), (70, (.invokevirtual 437, 3, 209, 0, 0, [(7, 152), (7, 154), (0, 105)]))], [(73, (.iinc 3 (-1), 3, 0, 0, 0, [])), (76, (.goto (-32), 3, 44, 0, 0, [])), (79, (.aload_n 0, 1, 0, 0, 0, []))], [(80, (.iload_n 1, 1, 0, 0, 0, [])), (81, (.invokevirtual 441, 3, 208, 0, 0, [(7, 156), (7, 158), (0, 106)])), (84, (.return_, 1, 0, 0, 0, []))]])
/-- X11 goWord -/
def pd_211 : pm_D := ((yX11_goWord, cX11_goWord, 3, none, 1, 11), [(7, 147), (1, 12)], [[(0, (.iconst 0, 1, 0, 0, 0, [])), (1, (.istore_n 2, 1, 0, 0, 0, [])), (2, (.iload_n 2, 1, 0, 0, 0, [])), (3, (.aload_n 0, 1, 0, 0, 0, [])), (4, (.getfield 54, 3, 11, 22, 3, [(5, 127)])), (7, (.iload_n 1, 1, 0, 0, 0, []))], [(8, (.iaload, 1, 0, 0, 0, [])), (9, (.if_icmp .ge 42, 3, 51, 0, 0, [])), (12, (.aload_n 0, 1, 0, 0, 0, [])), (13, (.getfield 422, 3, 11, 58, 2, [(5, 163)]))], [(16, (.ifCond .ne 35, 3, 51, 0, 0, [])), (19, (.aload_n 0, 1, 0, 0, 0, [])), (20, (.aload_n 0, 1, 0, 0, 0, [])), (21, (.getfield 48, 3, 11, 20, 3, [(5, 125)]))], [(24, (.bipush 8, 2, 0, 0, 0, [])), (26, (.iload_n 1, 1, 0, 0, 0, [])), (27, (.imul, 1, 0, 0, 0, [])), (28, (.iload_n 2, 1, 0, 0, 0, [])), (29, (.iadd, 1, 0, 0, 0, [])), (30, (.iaload, 1, 0, 0, 0, [])), (31, (.aload_n 0, 1, 0, 0, 0, []))], [(32, (.getfield 51, 3, 11, 21, 3, [(5, 126)])), (35, (.bipush 8, 2, 0, 0, 0, [])), (37, (.iload_n 1, 1, 0, 0, 0, [])), (38, (.imul, 1, 0, 0, 0, [])), (39, (.iload_n 2, 1, 0, 0, 0, []))], [(40, (.iadd, 1, 0, 0, 0, [])), (41, (.iaload, 1, 0, 0, 0, [])), (42, (.invokevirtual 444, 3, 210, 0, 0, [(7, 148), (7, 150), (0, 104)])), (45, (.iinc 2 1, 3, 0, 0, 0, []))], [(48, (.goto (-46), 3, 2, 0, 0, [])), (51, (.return_, 1, 0, 0, 0, []))]])
/-- X11 begin -/
def pd_212 : pm_D := ((yX11_begin, cX11_begin, 3, none, 1, 11), [(7, 101), (1, 12)], [[(0, (.iconst 0, 1, 0, 0, 0, [])), (1, (.istore_n 2, 1, 0, 0, 0, [])), (2, (.iload_n 2, 1, 0, 0, 0, [])), (3, (.bipush 18, 2, 0, 0, 0, [])), (5, (.if_icmp .ge 52, 3, 57, 0, 0, []))], [(8, (.aload_n 0, 1, 0, 0, 0, [])), (9, (.getfield 110, 3, 11, 55, 3, [(5, 160)])), (12, (.iload_n 2, 1, 0, 0, 0, [])), (13, (.iload_n 2, 1, 0, 0, 0, [])), (14, (.aload_n 0, 1, 0, 0, 0, [])), (15, (.invokevirtual 315, 3, 161, 0, 0, [(6, 228), (6, 230), (0, 77)]))], [(18, (.if_icmp .lt 7, 3, 25, 0, 0, [])), (21, (.lconst 0, 1, 0, 0, 0, [])), (22, (.goto 28, 3, 50, 0, 0, []))], [(25, (.iload_n 1, 1, 0, 0, 0, [])), (26, (.ifCond .ge 12, 3, 38, 0, 0, [])), (29, (.aload_n 0, 1, 0, 0, 0, [])), (30, (.getfield 149, 3, 11, 71, 3, [(5, 176)]))], [(33, (.iload_n 2, 1, 0, 0, 0, [])), (34, (.laload, 1, 0, 0, 0, [])), (35, (.goto 15, 3, 50, 0, 0, [])), (38, (.aload_n 0, 1, 0, 0, 0, [])), (39, (.getfield 45, 3, 11, 19, 3, [(5, 124)]))], [(42, (.bipush 18, 2, 0, 0, 0, [])), (44, (.iload_n 1, 1, 0, 0, 0, [])), (45, (.imul, 1, 0, 0, 0, [])), (46, (.iload_n 2, 1, 0, 0, 0, [])), (47, (.iadd, 1, 0, 0, 0, []))], [(48, (.iaload, 1, 0, 0, 0, [])), (49, (.i2l, 1, 0, 0, 0, [])), (50, (.lastore, 1, 0, 0, 0, [])), (51, (.iinc 2 1, 3, 0, 0, 0, [])), (54, (.goto (-52), 3, 2, 0, 0, []))], [(57, (.aload_n 0, 1, 0, 0, 0, [])), (58, (.iconst 0, 1, 0, 0, 0, [])), (59, (.putfield 422, 3, 11, 58, 2, [(5, 163)])), (62, (.aload_n 0, 1, 0, 0, 0, [])), (63, (.iconst 0, 1, 0, 0, 0, []))], [(64, (.putfield 413, 3, 11, 59, 2, [(5, 164)])), (67, (.return_, 1, 0, 0, 0, []))]])
/-- X11 allOf -/
def pd_213 : pm_D := ((yX11_allOf, cX11_allOf, 4, (some .long), 0, 11), [(7, 183), (1, 12)], [[(0, (.lconst 0, 1, 0, 0, 0, [])), (1, (.lstore_n 1, 1, 0, 0, 0, [])), (2, (.iconst 0, 1, 0, 0, 0, [])), (3, (.istore_n 3, 1, 0, 0, 0, [])), (4, (.iload_n 3, 1, 0, 0, 0, [])), (5, (.aload_n 0, 1, 0, 0, 0, [])), (6, (.invokevirtual 315, 3, 161, 0, 0, [(6, 228), (6, 230), (0, 77)]))], [(9, (.if_icmp .ge 18, 3, 27, 0, 0, [])), (12, (.lload_n 1, 1, 0, 0, 0, [])), (13, (.aload_n 0, 1, 0, 0, 0, [])), (14, (.getfield 110, 3, 11, 55, 3, [(5, 160)]))], [(17, (.iload_n 3, 1, 0, 0, 0, [])), (18, (.laload, 1, 0, 0, 0, [])), (19, (.ladd, 1, 0, 0, 0, [])), (20, (.lstore_n 1, 1, 0, 0, 0, [])), (21, (.iinc 3 1, 3, 0, 0, 0, []))], [(24, (.goto (-20), 3, 4, 0, 0, [])), (27, (.lload_n 1, 1, 0, 0, 0, [])), (28, (.lreturn, 1, 0, 0, 0, []))]])
/-- X11 far -/
def pd_214 : pm_D := ((yX11_far, cX11_far, 2, (some .long), 1, 11), [(7, 122), (1, 12)], [[(0, (.lload_n 0, 1, 0, 0, 0, [])), (1, (.lconst 0, 1, 0, 0, 0, [])), (2, (.lcmp, 1, 0, 0, 0, [])), (3, (.ifCond .ge 8, 3, 11, 0, 0, [])), (6, (.lload_n 0, 1, 0, 0, 0, [])), (7, (.lneg, 1, 0, 0, 0, []))], [(8, (.goto 4, 3, 12, 0, 0, [])), (11, (.lload_n 0, 1, 0, 0, 0, [])), (12, (.lreturn, 1, 0, 0, 0, []))]])
/-- X11 cross -/
def pd_215 : pm_D := ((yX11_cross, cX11_cross, 11, (some .long), 2, 11), [(7, 96), (1, 12)], [[(0, (.iload_n 1, 1, 0, 0, 0, [])), (1, (.iconst (-1), 1, 0, 0, 0, [])), (2, (.if_icmp .eq 11, 3, 13, 0, 0, [])), (5, (.aload_n 0, 1, 0, 0, 0, [])), (6, (.iload_n 1, 1, 0, 0, 0, [])), (7, (.invokevirtual 372, 3, 173, 0, 0, [(7, 64), (7, 66), (0, 92)]))], [(10, (.ifCond .eq 20, 3, 30, 0, 0, [])), (13, (.aload_n 0, 1, 0, 0, 0, [])), (14, (.iload_n 2, 1, 0, 0, 0, [])), (15, (.invokevirtual 372, 3, 173, 0, 0, [(7, 64), (7, 66), (0, 92)]))], [(18, (.ifCond .eq 12, 3, 30, 0, 0, [])), (21, (.aload_n 0, 1, 0, 0, 0, [])), (22, (.getfield 101, 3, 11, 50, 3, [(5, 155)]))], [(25, (.iload_n 2, 1, 0, 0, 0, [])), (26, (.baload, 1, 0, 0, 0, [])), (27, (.ifCond .ne 7, 3, 34, 0, 0, [])), (30, (.ldc2_w 447, 3, 0, 0, (-1), [(7, 97)]))], [(33, (.lreturn, 1, 0, 0, 0, [])), (34, (.aload_n 0, 1, 0, 0, 0, [])), (35, (.iload_n 1, 1, 0, 0, 0, [])), (36, (.invokevirtual 449, 3, 212, 0, 0, [(7, 98), (7, 100), (0, 95)])), (39, (.aload_n 0, 1, 0, 0, 0, []))], [(40, (.iload_n 2, 1, 0, 0, 0, [])), (41, (.invokevirtual 434, 3, 206, 0, 0, [(7, 102), (7, 104), (0, 96)])), (44, (.aload_n 0, 1, 0, 0, 0, [])), (45, (.getfield 422, 3, 11, 58, 2, [(5, 163)]))], [(48, (.ifCond .eq 7, 3, 55, 0, 0, [])), (51, (.ldc2_w 378, 3, 0, 0, (-2), [(7, 72)])), (54, (.lreturn, 1, 0, 0, 0, [])), (55, (.aload_n 0, 1, 0, 0, 0, []))], [(56, (.getfield 110, 3, 11, 55, 3, [(5, 160)])), (59, (.aload_n 0, 1, 0, 0, 0, [])), (60, (.getfield 86, 3, 11, 45, 3, [(5, 150)])), (63, (.iload_n 2, 1, 0, 0, 0, []))], [(64, (.iaload, 1, 0, 0, 0, [])), (65, (.laload, 1, 0, 0, 0, [])), (66, (.lstore_n 3, 1, 0, 0, 0, [])), (67, (.aload_n 0, 1, 0, 0, 0, [])), (68, (.getfield 110, 3, 11, 55, 3, [(5, 160)])), (71, (.aload_n 0, 1, 0, 0, 0, []))], [(72, (.getfield 89, 3, 11, 46, 3, [(5, 151)])), (75, (.iload_n 2, 1, 0, 0, 0, [])), (76, (.iaload, 1, 0, 0, 0, [])), (77, (.laload, 1, 0, 0, 0, [])), (78, (.lstore 5, 2, 0, 0, 0, []))], [(80, (.lload 5, 2, 0, 0, 0, [])), (82, (.lload_n 3, 1, 0, 0, 0, [])), (83, (.lsub, 1, 0, 0, 0, [])), (84, (.invokestatic 452, 3, 214, 0, 0, [(7, 120), (7, 121)])), (87, (.lstore 7, 2, 0, 0, 0, []))], [(89, (.aload_n 0, 1, 0, 0, 0, [])), (90, (.getfield 110, 3, 11, 55, 3, [(5, 160)])), (93, (.aload_n 0, 1, 0, 0, 0, [])), (94, (.getfield 92, 3, 11, 47, 3, [(5, 152)]))], [(97, (.iload_n 2, 1, 0, 0, 0, [])), (98, (.iaload, 1, 0, 0, 0, [])), (99, (.laload, 1, 0, 0, 0, [])), (100, (.aload_n 0, 1, 0, 0, 0, [])), (101, (.getfield 110, 3, 11, 55, 3, [(5, 160)]))], [(104, (.aload_n 0, 1, 0, 0, 0, [])), (105, (.getfield 95, 3, 11, 48, 3, [(5, 153)])), (108, (.iload_n 2, 1, 0, 0, 0, [])), (109, (.iaload, 1, 0, 0, 0, [])), (110, (.laload, 1, 0, 0, 0, [])), (111, (.ladd, 1, 0, 0, 0, []))], [(112, (.lload_n 3, 1, 0, 0, 0, [])), (113, (.lsub, 1, 0, 0, 0, [])), (114, (.lload 5, 2, 0, 0, 0, [])), (116, (.lsub, 1, 0, 0, 0, [])), (117, (.lstore 9, 2, 0, 0, 0, [])), (119, (.lload 7, 2, 0, 0, 0, []))], [(121, (.lload 9, 2, 0, 0, 0, [])), (123, (.lcmp, 1, 0, 0, 0, [])), (124, (.ifCond .le 8, 3, 132, 0, 0, [])), (127, (.lload 7, 2, 0, 0, 0, []))], [(129, (.goto 5, 3, 134, 0, 0, [])), (132, (.lload 9, 2, 0, 0, 0, [])), (134, (.lreturn, 1, 0, 0, 0, []))]])
/-- X11 layOuts -/
def pd_216 : pm_D := ((yX11_layOuts, cX11_layOuts, 4, none, 2, 11), [(7, 131), (1, 12)], [[(0, (.iconst 0, 1, 0, 0, 0, [])), (1, (.istore_n 3, 1, 0, 0, 0, [])), (2, (.iload_n 3, 1, 0, 0, 0, [])), (3, (.bipush 36, 2, 0, 0, 0, [])), (5, (.if_icmp .ge 18, 3, 23, 0, 0, []))], [(8, (.aload_n 0, 1, 0, 0, 0, [])), (9, (.getfield 122, 3, 11, 61, 3, [(5, 166)])), (12, (.iload_n 2, 1, 0, 0, 0, [])), (13, (.iload_n 3, 1, 0, 0, 0, [])), (14, (.iadd, 1, 0, 0, 0, [])), (15, (.iconst 0, 1, 0, 0, 0, []))], [(16, (.iastore, 1, 0, 0, 0, [])), (17, (.iinc 3 1, 3, 0, 0, 0, [])), (20, (.goto (-18), 3, 2, 0, 0, [])), (23, (.aload_n 0, 1, 0, 0, 0, []))], [(24, (.iload_n 1, 1, 0, 0, 0, [])), (25, (.invokevirtual 383, 3, 193, 0, 0, [(7, 81), (7, 83), (0, 94)])), (28, (.iconst 0, 1, 0, 0, 0, [])), (29, (.istore_n 3, 1, 0, 0, 0, [])), (30, (.iload_n 3, 1, 0, 0, 0, [])), (31, (.aload_n 0, 1, 0, 0, 0, []))], [(32, (.getfield 380, 3, 11, 42, 0, [(5, 147)])), (35, (.if_icmp .ge 48, 3, 83, 0, 0, [])), (38, (.aload_n 0, 1, 0, 0, 0, [])), (39, (.getfield 122, 3, 11, 61, 3, [(5, 166)]))], [(42, (.iload_n 2, 1, 0, 0, 0, [])), (43, (.aload_n 0, 1, 0, 0, 0, [])), (44, (.getfield 76, 3, 11, 41, 3, [(5, 146)])), (47, (.iload_n 3, 1, 0, 0, 0, []))], [(48, (.iaload, 1, 0, 0, 0, [])), (49, (.iadd, 1, 0, 0, 0, [])), (50, (.dup2, 1, 0, 0, 0, [])), (51, (.iaload, 1, 0, 0, 0, [])), (52, (.iconst 1, 1, 0, 0, 0, [])), (53, (.iadd, 1, 0, 0, 0, [])), (54, (.iastore, 1, 0, 0, 0, [])), (55, (.aload_n 0, 1, 0, 0, 0, []))], [(56, (.getfield 122, 3, 11, 61, 3, [(5, 166)])), (59, (.iload_n 2, 1, 0, 0, 0, [])), (60, (.aload_n 0, 1, 0, 0, 0, [])), (61, (.getfield 57, 3, 11, 29, 3, [(5, 134)]))], [(64, (.aload_n 0, 1, 0, 0, 0, [])), (65, (.getfield 76, 3, 11, 41, 3, [(5, 146)])), (68, (.iload_n 3, 1, 0, 0, 0, [])), (69, (.iaload, 1, 0, 0, 0, [])), (70, (.iaload, 1, 0, 0, 0, [])), (71, (.iadd, 1, 0, 0, 0, []))], [(72, (.dup2, 1, 0, 0, 0, [])), (73, (.iaload, 1, 0, 0, 0, [])), (74, (.iconst 1, 1, 0, 0, 0, [])), (75, (.isub, 1, 0, 0, 0, [])), (76, (.iastore, 1, 0, 0, 0, [])), (77, (.iinc 3 1, 3, 0, 0, 0, []))], [(80, (.goto (-50), 3, 30, 0, 0, [])), (83, (.return_, 1, 0, 0, 0, []))]])
/-- X11 across -/
def pd_217 : pm_D := ((yX11_across, cX11_across, 5, (some .int), 2, 11), [(7, 126), (1, 12)], [[(0, (.aload_n 0, 1, 0, 0, 0, [])), (1, (.iload_n 1, 1, 0, 0, 0, [])), (2, (.invokevirtual 372, 3, 173, 0, 0, [(7, 64), (7, 66), (0, 92)])), (5, (.ifCond .eq 29, 3, 34, 0, 0, []))], [(8, (.aload_n 0, 1, 0, 0, 0, [])), (9, (.iload_n 2, 1, 0, 0, 0, [])), (10, (.invokevirtual 372, 3, 173, 0, 0, [(7, 64), (7, 66), (0, 92)])), (13, (.ifCond .eq 21, 3, 34, 0, 0, []))], [(16, (.aload_n 0, 1, 0, 0, 0, [])), (17, (.getfield 98, 3, 11, 49, 3, [(5, 154)])), (20, (.iload_n 1, 1, 0, 0, 0, [])), (21, (.baload, 1, 0, 0, 0, [])), (22, (.ifCond .eq 12, 3, 34, 0, 0, []))], [(25, (.aload_n 0, 1, 0, 0, 0, [])), (26, (.getfield 98, 3, 11, 49, 3, [(5, 154)])), (29, (.iload_n 2, 1, 0, 0, 0, [])), (30, (.baload, 1, 0, 0, 0, [])), (31, (.ifCond .ne 7, 3, 38, 0, 0, []))], [(34, (.ldc_w 456, 3, 0, 0, (-1000000), [(7, 127)])), (37, (.ireturn, 1, 0, 0, 0, [])), (38, (.aload_n 0, 1, 0, 0, 0, [])), (39, (.iload_n 1, 1, 0, 0, 0, []))], [(40, (.iconst 0, 1, 0, 0, 0, [])), (41, (.invokevirtual 457, 3, 216, 0, 0, [(7, 128), (7, 130), (0, 100)])), (44, (.aload_n 0, 1, 0, 0, 0, [])), (45, (.iload_n 2, 1, 0, 0, 0, [])), (46, (.bipush 36, 2, 0, 0, 0, []))], [(48, (.invokevirtual 457, 3, 216, 0, 0, [(7, 128), (7, 130), (0, 100)])), (51, (.iconst 0, 1, 0, 0, 0, [])), (52, (.istore_n 3, 1, 0, 0, 0, [])), (53, (.iconst 0, 1, 0, 0, 0, [])), (54, (.istore 4, 2, 0, 0, 0, []))], [(56, (.iload 4, 2, 0, 0, 0, [])), (58, (.aload_n 0, 1, 0, 0, 0, [])), (59, (.getfield 237, 3, 11, 26, 0, [(5, 131)])), (62, (.if_icmp .ge 61, 3, 123, 0, 0, []))], [(65, (.iload_n 3, 1, 0, 0, 0, [])), (66, (.aload_n 0, 1, 0, 0, 0, [])), (67, (.getfield 122, 3, 11, 61, 3, [(5, 166)])), (70, (.iconst 3, 1, 0, 0, 0, [])), (71, (.iload 4, 2, 0, 0, 0, []))], [(73, (.imul, 1, 0, 0, 0, [])), (74, (.iaload, 1, 0, 0, 0, [])), (75, (.aload_n 0, 1, 0, 0, 0, [])), (76, (.getfield 122, 3, 11, 61, 3, [(5, 166)])), (79, (.bipush 36, 2, 0, 0, 0, []))], [(81, (.iconst 3, 1, 0, 0, 0, [])), (82, (.iload 4, 2, 0, 0, 0, [])), (84, (.imul, 1, 0, 0, 0, [])), (85, (.iadd, 1, 0, 0, 0, [])), (86, (.iconst 1, 1, 0, 0, 0, [])), (87, (.iadd, 1, 0, 0, 0, []))], [(88, (.iaload, 1, 0, 0, 0, [])), (89, (.imul, 1, 0, 0, 0, [])), (90, (.aload_n 0, 1, 0, 0, 0, [])), (91, (.getfield 122, 3, 11, 61, 3, [(5, 166)])), (94, (.iconst 3, 1, 0, 0, 0, [])), (95, (.iload 4, 2, 0, 0, 0, []))], [(97, (.imul, 1, 0, 0, 0, [])), (98, (.iconst 1, 1, 0, 0, 0, [])), (99, (.iadd, 1, 0, 0, 0, [])), (100, (.iaload, 1, 0, 0, 0, [])), (101, (.aload_n 0, 1, 0, 0, 0, [])), (102, (.getfield 122, 3, 11, 61, 3, [(5, 166)]))], [(105, (.bipush 36, 2, 0, 0, 0, [])), (107, (.iconst 3, 1, 0, 0, 0, [])), (108, (.iload 4, 2, 0, 0, 0, [])), (110, (.imul, 1, 0, 0, 0, [])), (111, (.iadd, 1, 0, 0, 0, []))], [(112, (.iaload, 1, 0, 0, 0, [])), (113, (.imul, 1, 0, 0, 0, [])), (114, (.isub, 1, 0, 0, 0, [])), (115, (.iadd, 1, 0, 0, 0, [])), (116, (.istore_n 3, 1, 0, 0, 0, [])), (117, (.iinc 4 1, 3, 0, 0, 0, []))], [(120, (.goto (-64), 3, 56, 0, 0, [])), (123, (.iload_n 3, 1, 0, 0, 0, [])), (124, (.iconst 2, 1, 0, 0, 0, [])), (125, (.idiv, 1, 0, 0, 0, [])), (126, (.ireturn, 1, 0, 0, 0, []))]])
/-- X11 isFairWord -/
def pd_218 : pm_D := ((yX11_isFairWord, cX11_isFairWord, 4, (some .boolean), 1, 11), [(7, 139), (1, 12)], [[(0, (.aload_n 0, 1, 0, 0, 0, [])), (1, (.iload_n 1, 1, 0, 0, 0, [])), (2, (.invokevirtual 460, 3, 174, 0, 0, [(7, 140), (7, 142), (0, 102)])), (5, (.istore_n 2, 1, 0, 0, 0, [])), (6, (.iconst 0, 1, 0, 0, 0, [])), (7, (.istore_n 3, 1, 0, 0, 0, []))], [(8, (.iload_n 2, 1, 0, 0, 0, [])), (9, (.ifCond .eq 36, 3, 45, 0, 0, [])), (12, (.iload_n 3, 1, 0, 0, 0, [])), (13, (.aload_n 0, 1, 0, 0, 0, [])), (14, (.getfield 54, 3, 11, 22, 3, [(5, 127)]))], [(17, (.iload_n 1, 1, 0, 0, 0, [])), (18, (.iaload, 1, 0, 0, 0, [])), (19, (.if_icmp .ge 26, 3, 45, 0, 0, [])), (22, (.aload_n 0, 1, 0, 0, 0, [])), (23, (.getfield 101, 3, 11, 50, 3, [(5, 155)]))], [(26, (.aload_n 0, 1, 0, 0, 0, [])), (27, (.getfield 48, 3, 11, 20, 3, [(5, 125)])), (30, (.bipush 8, 2, 0, 0, 0, []))], [(32, (.iload_n 1, 1, 0, 0, 0, [])), (33, (.imul, 1, 0, 0, 0, [])), (34, (.iload_n 3, 1, 0, 0, 0, [])), (35, (.iadd, 1, 0, 0, 0, [])), (36, (.iaload, 1, 0, 0, 0, [])), (37, (.baload, 1, 0, 0, 0, [])), (38, (.istore_n 2, 1, 0, 0, 0, [])), (39, (.iinc 3 1, 3, 0, 0, 0, []))], [(42, (.goto (-34), 3, 8, 0, 0, [])), (45, (.iload_n 2, 1, 0, 0, 0, [])), (46, (.ireturn, 1, 0, 0, 0, []))]])
/-- X11 isAsWas -/
def pd_219 : pm_D := ((yX11_isAsWas, cX11_isAsWas, 4, (some .boolean), 1, 11), [(7, 163), (1, 12)], [[(0, (.aload_n 0, 1, 0, 0, 0, [])), (1, (.getfield 422, 3, 11, 58, 2, [(5, 163)])), (4, (.ifCond .ne 7, 3, 11, 0, 0, [])), (7, (.iconst 1, 1, 0, 0, 0, []))], [(8, (.goto 4, 3, 12, 0, 0, [])), (11, (.iconst 0, 1, 0, 0, 0, [])), (12, (.istore_n 2, 1, 0, 0, 0, [])), (13, (.iconst 0, 1, 0, 0, 0, [])), (14, (.istore_n 3, 1, 0, 0, 0, [])), (15, (.iload_n 3, 1, 0, 0, 0, []))], [(16, (.aload_n 0, 1, 0, 0, 0, [])), (17, (.invokevirtual 315, 3, 161, 0, 0, [(6, 228), (6, 230), (0, 77)])), (20, (.if_icmp .ge 41, 3, 61, 0, 0, [])), (23, (.iload_n 2, 1, 0, 0, 0, []))], [(24, (.ifCond .eq 29, 3, 53, 0, 0, [])), (27, (.aload_n 0, 1, 0, 0, 0, [])), (28, (.getfield 110, 3, 11, 55, 3, [(5, 160)])), (31, (.iload_n 3, 1, 0, 0, 0, []))], [(32, (.laload, 1, 0, 0, 0, [])), (33, (.aload_n 0, 1, 0, 0, 0, [])), (34, (.getfield 45, 3, 11, 19, 3, [(5, 124)])), (37, (.bipush 18, 2, 0, 0, 0, [])), (39, (.iload_n 1, 1, 0, 0, 0, []))], [(40, (.imul, 1, 0, 0, 0, [])), (41, (.iload_n 3, 1, 0, 0, 0, [])), (42, (.iadd, 1, 0, 0, 0, [])), (43, (.iaload, 1, 0, 0, 0, [])), (44, (.i2l, 1, 0, 0, 0, [])), (45, (.lcmp, 1, 0, 0, 0, [])), (46, (.ifCond .ne 7, 3, 53, 0, 0, []))], [(49, (.iconst 1, 1, 0, 0, 0, [])), (50, (.goto 4, 3, 54, 0, 0, [])), (53, (.iconst 0, 1, 0, 0, 0, [])), (54, (.istore_n 2, 1, 0, 0, 0, [])), (55, (.iinc 3 1, 3, 0, 0, 0, []))], [(58, (.goto (-43), 3, 15, 0, 0, [])), (61, (.iload_n 2, 1, 0, 0, 0, [])), (62, (.ireturn, 1, 0, 0, 0, []))]])
/-- X11 kept -/
def pd_220 : pm_D := ((yX11_kept, cX11_kept, 4, (some .int), 1, 11), [(7, 135), (1, 12)], [[(0, (.aload_n 0, 1, 0, 0, 0, [])), (1, (.iload_n 1, 1, 0, 0, 0, [])), (2, (.invokevirtual 463, 3, 218, 0, 0, [(7, 136), (7, 138), (0, 101)])), (5, (.ifCond .ne 5, 3, 10, 0, 0, []))], [(8, (.iconst (-1), 1, 0, 0, 0, [])), (9, (.ireturn, 1, 0, 0, 0, [])), (10, (.iconst 0, 1, 0, 0, 0, [])), (11, (.istore_n 2, 1, 0, 0, 0, [])), (12, (.iconst 0, 1, 0, 0, 0, [])), (13, (.istore_n 3, 1, 0, 0, 0, [])), (14, (.iload_n 3, 1, 0, 0, 0, [])), (15, (.aload_n 0, 1, 0, 0, 0, []))], [(16, (.getfield 293, 3, 11, 27, 0, [(5, 132)])), (19, (.if_icmp .ge 37, 3, 56, 0, 0, [])), (22, (.aload_n 0, 1, 0, 0, 0, [])), (23, (.iload_n 3, 1, 0, 0, 0, []))], [(24, (.invokevirtual 449, 3, 212, 0, 0, [(7, 98), (7, 100), (0, 95)])), (27, (.aload_n 0, 1, 0, 0, 0, [])), (28, (.iload_n 1, 1, 0, 0, 0, [])), (29, (.invokevirtual 466, 3, 211, 0, 0, [(7, 144), (7, 146), (0, 103)]))], [(32, (.iload_n 2, 1, 0, 0, 0, [])), (33, (.aload_n 0, 1, 0, 0, 0, [])), (34, (.iload_n 3, 1, 0, 0, 0, [])), (35, (.invokevirtual 469, 3, 219, 0, 0, [(7, 160), (7, 162), (0, 107)])), (38, (.ifCond .eq 9, 3, 47, 0, 0, []))], [(41, (.iconst 1, 1, 0, 0, 0, [])), (42, (.iload_n 3, 1, 0, 0, 0, [])), (43, (.ishl, 1, 0, 0, 0, [])), (44, (.goto 4, 3, 48, 0, 0, [])), (47, (.iconst 0, 1, 0, 0, 0, []))], [(48, (.ior, 1, 0, 0, 0, [])), (49, (.istore_n 2, 1, 0, 0, 0, [])), (50, (.iinc 3 1, 3, 0, 0, 0, [])), (53, (.goto (-39), 3, 14, 0, 0, []))], [(56, (.iload_n 2, 1, 0, 0, 0, [])), (57, (.ireturn, 1, 0, 0, 0, []))]])
/-- X11 alike -/
def pd_221 : pm_D := ((yX11_alike, cX11_alike, 6, (some .int), 2, 11), [(7, 167), (1, 12)], [[(0, (.aload_n 0, 1, 0, 0, 0, [])), (1, (.iload_n 1, 1, 0, 0, 0, [])), (2, (.invokevirtual 463, 3, 218, 0, 0, [(7, 136), (7, 138), (0, 101)])), (5, (.ifCond .eq 11, 3, 16, 0, 0, []))], [(8, (.aload_n 0, 1, 0, 0, 0, [])), (9, (.iload_n 2, 1, 0, 0, 0, [])), (10, (.invokevirtual 463, 3, 218, 0, 0, [(7, 136), (7, 138), (0, 101)])), (13, (.ifCond .ne 5, 3, 18, 0, 0, []))], [(16, (.iconst (-1), 1, 0, 0, 0, [])), (17, (.ireturn, 1, 0, 0, 0, [])), (18, (.iconst 0, 1, 0, 0, 0, [])), (19, (.istore_n 3, 1, 0, 0, 0, [])), (20, (.iload_n 3, 1, 0, 0, 0, [])), (21, (.aload_n 0, 1, 0, 0, 0, [])), (22, (.getfield 293, 3, 11, 27, 0, [(5, 132)]))], [(25, (.if_icmp .ge 119, 3, 144, 0, 0, [])), (28, (.aload_n 0, 1, 0, 0, 0, [])), (29, (.iload_n 3, 1, 0, 0, 0, [])), (30, (.invokevirtual 449, 3, 212, 0, 0, [(7, 98), (7, 100), (0, 95)]))], [(33, (.aload_n 0, 1, 0, 0, 0, [])), (34, (.iload_n 1, 1, 0, 0, 0, [])), (35, (.invokevirtual 466, 3, 211, 0, 0, [(7, 144), (7, 146), (0, 103)])), (38, (.aload_n 0, 1, 0, 0, 0, [])), (39, (.getfield 422, 3, 11, 58, 2, [(5, 163)]))], [(42, (.istore 4, 2, 0, 0, 0, [])), (44, (.iconst 0, 1, 0, 0, 0, [])), (45, (.istore 5, 2, 0, 0, 0, [])), (47, (.iload 5, 2, 0, 0, 0, []))], [(49, (.bipush 18, 2, 0, 0, 0, [])), (51, (.if_icmp .ge 23, 3, 74, 0, 0, [])), (54, (.aload_n 0, 1, 0, 0, 0, [])), (55, (.getfield 125, 3, 11, 62, 3, [(5, 167)]))], [(58, (.iload 5, 2, 0, 0, 0, [])), (60, (.aload_n 0, 1, 0, 0, 0, [])), (61, (.getfield 110, 3, 11, 55, 3, [(5, 160)]))], [(64, (.iload 5, 2, 0, 0, 0, [])), (66, (.laload, 1, 0, 0, 0, [])), (67, (.lastore, 1, 0, 0, 0, [])), (68, (.iinc 5 1, 3, 0, 0, 0, [])), (71, (.goto (-24), 3, 47, 0, 0, []))], [(74, (.aload_n 0, 1, 0, 0, 0, [])), (75, (.iload_n 3, 1, 0, 0, 0, [])), (76, (.invokevirtual 449, 3, 212, 0, 0, [(7, 98), (7, 100), (0, 95)])), (79, (.aload_n 0, 1, 0, 0, 0, []))], [(80, (.iload_n 2, 1, 0, 0, 0, [])), (81, (.invokevirtual 466, 3, 211, 0, 0, [(7, 144), (7, 146), (0, 103)])), (84, (.iload 4, 2, 0, 0, 0, [])), (86, (.aload_n 0, 1, 0, 0, 0, [])), (87, (.getfield 422, 3, 11, 58, 2, [(5, 163)]))], [(90, (.if_icmp .eq 5, 3, 95, 0, 0, [])), (93, (.iconst 0, 1, 0, 0, 0, [])), (94, (.ireturn, 1, 0, 0, 0, [])), (95, (.iconst 0, 1, 0, 0, 0, []))], [(96, (.istore 5, 2, 0, 0, 0, [])), (98, (.iload 5, 2, 0, 0, 0, [])), (100, (.aload_n 0, 1, 0, 0, 0, [])), (101, (.invokevirtual 315, 3, 161, 0, 0, [(6, 228), (6, 230), (0, 77)]))], [(104, (.if_icmp .ge 34, 3, 138, 0, 0, [])), (107, (.iload 4, 2, 0, 0, 0, [])), (109, (.ifCond .ne 29, 3, 138, 0, 0, []))], [(112, (.aload_n 0, 1, 0, 0, 0, [])), (113, (.getfield 125, 3, 11, 62, 3, [(5, 167)])), (116, (.iload 5, 2, 0, 0, 0, [])), (118, (.laload, 1, 0, 0, 0, [])), (119, (.aload_n 0, 1, 0, 0, 0, []))], [(120, (.getfield 110, 3, 11, 55, 3, [(5, 160)])), (123, (.iload 5, 2, 0, 0, 0, [])), (125, (.laload, 1, 0, 0, 0, [])), (126, (.lcmp, 1, 0, 0, 0, [])), (127, (.ifCond .eq 5, 3, 132, 0, 0, []))], [(130, (.iconst 0, 1, 0, 0, 0, [])), (131, (.ireturn, 1, 0, 0, 0, [])), (132, (.iinc 5 1, 3, 0, 0, 0, [])), (135, (.goto (-37), 3, 98, 0, 0, []))], [(138, (.iinc 3 1, 3, 0, 0, 0, [])), (141, (.goto (-121), 3, 20, 0, 0, []))], [(144, (.iconst 1, 1, 0, 0, 0, [])), (145, (.ireturn, 1, 0, 0, 0, []))]])
/-- X11 goOn -/
def pd_222 : pm_D := ((yX11_goOn, cX11_goOn, 4, (some .boolean), 2, 11), [(7, 175), (1, 12)], [[(0, (.aload_n 0, 1, 0, 0, 0, [])), (1, (.getfield 131, 3, 11, 64, 3, [(5, 169)])), (4, (.iload_n 1, 1, 0, 0, 0, [])), (5, (.baload, 1, 0, 0, 0, [])), (6, (.ifCond .eq 5, 3, 11, 0, 0, []))], [(9, (.iconst 0, 1, 0, 0, 0, [])), (10, (.ireturn, 1, 0, 0, 0, [])), (11, (.aload_n 0, 1, 0, 0, 0, [])), (12, (.iconst 0, 1, 0, 0, 0, [])), (13, (.putfield 422, 3, 11, 58, 2, [(5, 163)]))], [(16, (.aload_n 0, 1, 0, 0, 0, [])), (17, (.iconst 0, 1, 0, 0, 0, [])), (18, (.putfield 413, 3, 11, 59, 2, [(5, 164)])), (21, (.iconst 0, 1, 0, 0, 0, [])), (22, (.istore_n 3, 1, 0, 0, 0, [])), (23, (.iload_n 3, 1, 0, 0, 0, []))], [(24, (.bipush 18, 2, 0, 0, 0, [])), (26, (.if_icmp .ge 26, 3, 52, 0, 0, [])), (29, (.aload_n 0, 1, 0, 0, 0, [])), (30, (.getfield 110, 3, 11, 55, 3, [(5, 160)]))], [(33, (.iload_n 3, 1, 0, 0, 0, [])), (34, (.aload_n 0, 1, 0, 0, 0, [])), (35, (.getfield 128, 3, 11, 63, 3, [(5, 168)])), (38, (.bipush 18, 2, 0, 0, 0, []))], [(40, (.iload_n 1, 1, 0, 0, 0, [])), (41, (.imul, 1, 0, 0, 0, [])), (42, (.iload_n 3, 1, 0, 0, 0, [])), (43, (.iadd, 1, 0, 0, 0, [])), (44, (.laload, 1, 0, 0, 0, [])), (45, (.lastore, 1, 0, 0, 0, [])), (46, (.iinc 3 1, 3, 0, 0, 0, []))], [(49, (.goto (-26), 3, 23, 0, 0, [])), (52, (.aload_n 0, 1, 0, 0, 0, [])), (53, (.iload_n 2, 1, 0, 0, 0, [])), (54, (.invokevirtual 466, 3, 211, 0, 0, [(7, 144), (7, 146), (0, 103)]))], [(57, (.aload_n 0, 1, 0, 0, 0, [])), (58, (.getfield 131, 3, 11, 64, 3, [(5, 169)])), (61, (.iload_n 1, 1, 0, 0, 0, [])), (62, (.aload_n 0, 1, 0, 0, 0, [])), (63, (.getfield 422, 3, 11, 58, 2, [(5, 163)]))], [(66, (.bastore, 1, 0, 0, 0, [])), (67, (.iconst 0, 1, 0, 0, 0, [])), (68, (.istore_n 3, 1, 0, 0, 0, [])), (69, (.iload_n 3, 1, 0, 0, 0, [])), (70, (.bipush 18, 2, 0, 0, 0, []))], [(72, (.if_icmp .ge 26, 3, 98, 0, 0, [])), (75, (.aload_n 0, 1, 0, 0, 0, [])), (76, (.getfield 128, 3, 11, 63, 3, [(5, 168)])), (79, (.bipush 18, 2, 0, 0, 0, []))], [(81, (.iload_n 1, 1, 0, 0, 0, [])), (82, (.imul, 1, 0, 0, 0, [])), (83, (.iload_n 3, 1, 0, 0, 0, [])), (84, (.iadd, 1, 0, 0, 0, [])), (85, (.aload_n 0, 1, 0, 0, 0, [])), (86, (.getfield 110, 3, 11, 55, 3, [(5, 160)]))], [(89, (.iload_n 3, 1, 0, 0, 0, [])), (90, (.laload, 1, 0, 0, 0, [])), (91, (.lastore, 1, 0, 0, 0, [])), (92, (.iinc 3 1, 3, 0, 0, 0, [])), (95, (.goto (-26), 3, 69, 0, 0, []))], [(98, (.aload_n 0, 1, 0, 0, 0, [])), (99, (.iload_n 1, 1, 0, 0, 0, [])), (100, (.invokevirtual 469, 3, 219, 0, 0, [(7, 160), (7, 162), (0, 107)])), (103, (.ireturn, 1, 0, 0, 0, []))]])
/-- X11 order -/
def pd_223 : pm_D := ((yX11_order, cX11_order, 6, (some .int), 1, 11), [(7, 171), (1, 12)], [[(0, (.aload_n 0, 1, 0, 0, 0, [])), (1, (.iload_n 1, 1, 0, 0, 0, [])), (2, (.invokevirtual 463, 3, 218, 0, 0, [(7, 136), (7, 138), (0, 101)])), (5, (.ifCond .ne 5, 3, 10, 0, 0, []))], [(8, (.iconst (-1), 1, 0, 0, 0, [])), (9, (.ireturn, 1, 0, 0, 0, [])), (10, (.iconst 0, 1, 0, 0, 0, [])), (11, (.istore_n 2, 1, 0, 0, 0, [])), (12, (.iload_n 2, 1, 0, 0, 0, [])), (13, (.aload_n 0, 1, 0, 0, 0, [])), (14, (.getfield 293, 3, 11, 27, 0, [(5, 132)]))], [(17, (.if_icmp .ge 65, 3, 82, 0, 0, [])), (20, (.aload_n 0, 1, 0, 0, 0, [])), (21, (.getfield 131, 3, 11, 64, 3, [(5, 169)]))], [(24, (.iload_n 2, 1, 0, 0, 0, [])), (25, (.iconst 0, 1, 0, 0, 0, [])), (26, (.bastore, 1, 0, 0, 0, [])), (27, (.iconst 0, 1, 0, 0, 0, [])), (28, (.istore_n 3, 1, 0, 0, 0, [])), (29, (.iload_n 3, 1, 0, 0, 0, [])), (30, (.bipush 18, 2, 0, 0, 0, []))], [(32, (.if_icmp .ge 44, 3, 76, 0, 0, [])), (35, (.aload_n 0, 1, 0, 0, 0, [])), (36, (.getfield 128, 3, 11, 63, 3, [(5, 168)])), (39, (.bipush 18, 2, 0, 0, 0, []))], [(41, (.iload_n 2, 1, 0, 0, 0, [])), (42, (.imul, 1, 0, 0, 0, [])), (43, (.iload_n 3, 1, 0, 0, 0, [])), (44, (.iadd, 1, 0, 0, 0, [])), (45, (.iload_n 3, 1, 0, 0, 0, [])), (46, (.aload_n 0, 1, 0, 0, 0, [])), (47, (.invokevirtual 315, 3, 161, 0, 0, [(6, 228), (6, 230), (0, 77)]))], [(50, (.if_icmp .ge 18, 3, 68, 0, 0, [])), (53, (.aload_n 0, 1, 0, 0, 0, [])), (54, (.getfield 45, 3, 11, 19, 3, [(5, 124)]))], [(57, (.bipush 18, 2, 0, 0, 0, [])), (59, (.iload_n 2, 1, 0, 0, 0, [])), (60, (.imul, 1, 0, 0, 0, [])), (61, (.iload_n 3, 1, 0, 0, 0, [])), (62, (.iadd, 1, 0, 0, 0, [])), (63, (.iaload, 1, 0, 0, 0, []))], [(64, (.i2l, 1, 0, 0, 0, [])), (65, (.goto 4, 3, 69, 0, 0, [])), (68, (.lconst 0, 1, 0, 0, 0, [])), (69, (.lastore, 1, 0, 0, 0, [])), (70, (.iinc 3 1, 3, 0, 0, 0, []))], [(73, (.goto (-44), 3, 29, 0, 0, [])), (76, (.iinc 2 1, 3, 0, 0, 0, [])), (79, (.goto (-67), 3, 12, 0, 0, []))], [(82, (.iconst 1, 1, 0, 0, 0, [])), (83, (.istore_n 2, 1, 0, 0, 0, [])), (84, (.iload_n 2, 1, 0, 0, 0, [])), (85, (.bipush 40, 2, 0, 0, 0, [])), (87, (.if_icmp .gt 59, 3, 146, 0, 0, []))], [(90, (.iconst 1, 1, 0, 0, 0, [])), (91, (.istore_n 3, 1, 0, 0, 0, [])), (92, (.iconst 0, 1, 0, 0, 0, [])), (93, (.istore 4, 2, 0, 0, 0, [])), (95, (.iload 4, 2, 0, 0, 0, []))], [(97, (.aload_n 0, 1, 0, 0, 0, [])), (98, (.getfield 293, 3, 11, 27, 0, [(5, 132)])), (101, (.if_icmp .ge 33, 3, 134, 0, 0, []))], [(104, (.aload_n 0, 1, 0, 0, 0, [])), (105, (.iload 4, 2, 0, 0, 0, [])), (107, (.iload_n 1, 1, 0, 0, 0, [])), (108, (.invokevirtual 472, 3, 222, 0, 0, [(7, 172), (7, 174), (0, 108)])), (111, (.istore 5, 2, 0, 0, 0, []))], [(113, (.iload_n 3, 1, 0, 0, 0, [])), (114, (.ifCond .eq 12, 3, 126, 0, 0, [])), (117, (.iload 5, 2, 0, 0, 0, [])), (119, (.ifCond .eq 7, 3, 126, 0, 0, []))], [(122, (.iconst 1, 1, 0, 0, 0, [])), (123, (.goto 4, 3, 127, 0, 0, [])), (126, (.iconst 0, 1, 0, 0, 0, [])), (127, (.istore_n 3, 1, 0, 0, 0, []))], [(128, (.iinc 4 1, 3, 0, 0, 0, [])), (131, (.goto (-36), 3, 95, 0, 0, [])), (134, (.iload_n 3, 1, 0, 0, 0, [])), (135, (.ifCond .eq 5, 3, 140, 0, 0, []))], [(138, (.iload_n 2, 1, 0, 0, 0, [])), (139, (.ireturn, 1, 0, 0, 0, [])), (140, (.iinc 2 1, 3, 0, 0, 0, [])), (143, (.goto (-59), 3, 84, 0, 0, []))], [(146, (.iconst 0, 1, 0, 0, 0, [])), (147, (.ireturn, 1, 0, 0, 0, []))]])
/-- X11 stretch -/
def pd_224 : pm_D := ((yX11_stretch, cX11_stretch, 7, (some .long), 3, 11), [(7, 179), (1, 12)], [[(0, (.aload_n 0, 1, 0, 0, 0, [])), (1, (.iload_n 1, 1, 0, 0, 0, [])), (2, (.invokevirtual 463, 3, 218, 0, 0, [(7, 136), (7, 138), (0, 101)])), (5, (.ifCond .eq 31, 3, 36, 0, 0, []))], [(8, (.aload_n 0, 1, 0, 0, 0, [])), (9, (.iload_n 2, 1, 0, 0, 0, [])), (10, (.invokevirtual 372, 3, 173, 0, 0, [(7, 64), (7, 66), (0, 92)])), (13, (.ifCond .eq 23, 3, 36, 0, 0, []))], [(16, (.aload_n 0, 1, 0, 0, 0, [])), (17, (.iload_n 2, 1, 0, 0, 0, [])), (18, (.invokevirtual 362, 3, 181, 0, 0, [(6, 224), (6, 226), (0, 76)])), (21, (.lconst 0, 1, 0, 0, 0, [])), (22, (.lcmp, 1, 0, 0, 0, [])), (23, (.ifCond .eq 13, 3, 36, 0, 0, []))], [(26, (.iload_n 3, 1, 0, 0, 0, [])), (27, (.ifCond .lt 9, 3, 36, 0, 0, [])), (30, (.iload_n 3, 1, 0, 0, 0, [])), (31, (.bipush 20, 2, 0, 0, 0, []))], [(33, (.if_icmp .le 7, 3, 40, 0, 0, [])), (36, (.ldc2_w 447, 3, 0, 0, (-1), [(7, 97)])), (39, (.lreturn, 1, 0, 0, 0, []))], [(40, (.aload_n 0, 1, 0, 0, 0, [])), (41, (.iload_n 2, 1, 0, 0, 0, [])), (42, (.invokevirtual 449, 3, 212, 0, 0, [(7, 98), (7, 100), (0, 95)])), (45, (.lconst 0, 1, 0, 0, 0, [])), (46, (.lstore 4, 2, 0, 0, 0, []))], [(48, (.iconst 0, 1, 0, 0, 0, [])), (49, (.istore 6, 2, 0, 0, 0, [])), (51, (.iload 6, 2, 0, 0, 0, [])), (53, (.iload_n 3, 1, 0, 0, 0, [])), (54, (.if_icmp .gt 27, 3, 81, 0, 0, []))], [(57, (.aload_n 0, 1, 0, 0, 0, [])), (58, (.getfield 422, 3, 11, 58, 2, [(5, 163)])), (61, (.ifCond .ne 20, 3, 81, 0, 0, []))], [(64, (.aload_n 0, 1, 0, 0, 0, [])), (65, (.invokevirtual 475, 3, 213, 0, 0, [(7, 180), (7, 182), (0, 109)])), (68, (.lstore 4, 2, 0, 0, 0, [])), (70, (.aload_n 0, 1, 0, 0, 0, [])), (71, (.iload_n 1, 1, 0, 0, 0, []))], [(72, (.invokevirtual 466, 3, 211, 0, 0, [(7, 144), (7, 146), (0, 103)])), (75, (.iinc 6 1, 3, 0, 0, 0, [])), (78, (.goto (-27), 3, 51, 0, 0, []))], [(81, (.aload_n 0, 1, 0, 0, 0, [])), (82, (.getfield 422, 3, 11, 58, 2, [(5, 163)])), (85, (.ifCond .eq 9, 3, 94, 0, 0, []))], [(88, (.ldc2_w 378, 3, 0, 0, (-2), [(7, 72)])), (91, (.goto 14, 3, 105, 0, 0, [])), (94, (.aload_n 0, 1, 0, 0, 0, [])), (95, (.invokevirtual 475, 3, 213, 0, 0, [(7, 180), (7, 182), (0, 109)]))], [(98, (.ldc2_w 479, 3, 0, 0, 1000, [(7, 184)])), (101, (.lmul, 1, 0, 0, 0, [])), (102, (.lload 4, 2, 0, 0, 0, []))], [(104, (.ldiv, 1, 0, 0, 0, [])), (105, (.lreturn, 1, 0, 0, 0, []))]])
/-- X11 layTable -/
def pd_225 : pm_D := ((yX11_layTable, cX11_layTable, 4, (some .boolean), 2, 11), [(7, 192), (1, 12)], [[(0, (.aload_n 0, 1, 0, 0, 0, [])), (1, (.iload_n 2, 1, 0, 0, 0, [])), (2, (.invokevirtual 449, 3, 212, 0, 0, [(7, 98), (7, 100), (0, 95)])), (5, (.aload_n 0, 1, 0, 0, 0, [])), (6, (.iconst 1, 1, 0, 0, 0, [])), (7, (.putfield 413, 3, 11, 59, 2, [(5, 164)]))], [(10, (.iconst 0, 1, 0, 0, 0, [])), (11, (.istore_n 3, 1, 0, 0, 0, [])), (12, (.iload_n 3, 1, 0, 0, 0, [])), (13, (.sipush 324, 3, 0, 0, 0, []))], [(16, (.if_icmp .ge 31, 3, 47, 0, 0, [])), (19, (.aload_n 0, 1, 0, 0, 0, [])), (20, (.getfield 113, 3, 11, 56, 3, [(5, 161)])), (23, (.iload_n 3, 1, 0, 0, 0, []))], [(24, (.iload_n 3, 1, 0, 0, 0, [])), (25, (.bipush 18, 2, 0, 0, 0, [])), (27, (.idiv, 1, 0, 0, 0, [])), (28, (.iload_n 3, 1, 0, 0, 0, [])), (29, (.bipush 18, 2, 0, 0, 0, [])), (31, (.irem, 1, 0, 0, 0, []))], [(32, (.if_icmp .ne 7, 3, 39, 0, 0, [])), (35, (.lconst 1, 1, 0, 0, 0, [])), (36, (.goto 4, 3, 40, 0, 0, [])), (39, (.lconst 0, 1, 0, 0, 0, []))], [(40, (.lastore, 1, 0, 0, 0, [])), (41, (.iinc 3 1, 3, 0, 0, 0, [])), (44, (.goto (-32), 3, 12, 0, 0, [])), (47, (.aload_n 0, 1, 0, 0, 0, []))], [(48, (.iload_n 1, 1, 0, 0, 0, [])), (49, (.invokevirtual 466, 3, 211, 0, 0, [(7, 144), (7, 146), (0, 103)])), (52, (.aload_n 0, 1, 0, 0, 0, [])), (53, (.getfield 422, 3, 11, 58, 2, [(5, 163)]))], [(56, (.ifCond .ne 7, 3, 63, 0, 0, [])), (59, (.iconst 1, 1, 0, 0, 0, [])), (60, (.goto 4, 3, 64, 0, 0, [])), (63, (.iconst 0, 1, 0, 0, 0, []))], [(64, (.ireturn, 1, 0, 0, 0, []))]])
/-- X11 table -/
def pd_226 : pm_D := ((yX11_table, cX11_table, 5, (some .int), 4, 11), [(7, 188), (1, 12)], [[(0, (.aload_n 0, 1, 0, 0, 0, [])), (1, (.iload_n 1, 1, 0, 0, 0, [])), (2, (.invokevirtual 463, 3, 218, 0, 0, [(7, 136), (7, 138), (0, 101)])), (5, (.ifCond .eq 28, 3, 33, 0, 0, []))], [(8, (.aload_n 0, 1, 0, 0, 0, [])), (9, (.iload_n 2, 1, 0, 0, 0, [])), (10, (.invokevirtual 372, 3, 173, 0, 0, [(7, 64), (7, 66), (0, 92)])), (13, (.ifCond .eq 20, 3, 33, 0, 0, []))], [(16, (.aload_n 0, 1, 0, 0, 0, [])), (17, (.iload_n 3, 1, 0, 0, 0, [])), (18, (.invokevirtual 375, 3, 175, 0, 0, [(7, 68), (7, 70), (0, 93)])), (21, (.ifCond .eq 12, 3, 33, 0, 0, []))], [(24, (.aload_n 0, 1, 0, 0, 0, [])), (25, (.iload 4, 2, 0, 0, 0, [])), (27, (.invokevirtual 375, 3, 175, 0, 0, [(7, 68), (7, 70), (0, 93)])), (30, (.ifCond .ne 5, 3, 35, 0, 0, []))], [(33, (.iconst (-1), 1, 0, 0, 0, [])), (34, (.ireturn, 1, 0, 0, 0, [])), (35, (.aload_n 0, 1, 0, 0, 0, [])), (36, (.iload_n 1, 1, 0, 0, 0, [])), (37, (.iload_n 2, 1, 0, 0, 0, [])), (38, (.invokevirtual 481, 3, 225, 0, 0, [(7, 189), (7, 191), (0, 110)]))], [(41, (.ifCond .eq 19, 3, 60, 0, 0, [])), (44, (.aload_n 0, 1, 0, 0, 0, [])), (45, (.getfield 113, 3, 11, 56, 3, [(5, 161)]))], [(48, (.bipush 18, 2, 0, 0, 0, [])), (50, (.iload_n 3, 1, 0, 0, 0, [])), (51, (.imul, 1, 0, 0, 0, [])), (52, (.iload 4, 2, 0, 0, 0, [])), (54, (.iadd, 1, 0, 0, 0, [])), (55, (.laload, 1, 0, 0, 0, []))], [(56, (.l2i, 1, 0, 0, 0, [])), (57, (.goto 5, 3, 62, 0, 0, [])), (60, (.bipush (-2), 2, 0, 0, 0, [])), (62, (.ireturn, 1, 0, 0, 0, []))]])
/-- X11 raised -/
def pd_227 : pm_D := ((yX11_raised, cX11_raised, 10, (some .long), 2, 11), [(7, 208), (1, 12)], [[(0, (.lconst 1, 1, 0, 0, 0, [])), (1, (.lstore 4, 2, 0, 0, 0, [])), (3, (.lload_n 0, 1, 0, 0, 0, [])), (4, (.ldc2_w 416, 3, 0, 0, 1000003, [(7, 118)])), (7, (.lrem, 1, 0, 0, 0, []))], [(8, (.lstore 6, 2, 0, 0, 0, [])), (10, (.lload_n 2, 1, 0, 0, 0, [])), (11, (.lstore 8, 2, 0, 0, 0, [])), (13, (.lload 8, 2, 0, 0, 0, [])), (15, (.lconst 0, 1, 0, 0, 0, []))], [(16, (.lcmp, 1, 0, 0, 0, [])), (17, (.ifCond .le 43, 3, 60, 0, 0, [])), (20, (.lload 8, 2, 0, 0, 0, [])), (22, (.lconst 1, 1, 0, 0, 0, [])), (23, (.land, 1, 0, 0, 0, []))], [(24, (.lconst 1, 1, 0, 0, 0, [])), (25, (.lcmp, 1, 0, 0, 0, [])), (26, (.ifCond .ne 14, 3, 40, 0, 0, [])), (29, (.lload 4, 2, 0, 0, 0, [])), (31, (.lload 6, 2, 0, 0, 0, []))], [(33, (.lmul, 1, 0, 0, 0, [])), (34, (.ldc2_w 416, 3, 0, 0, 1000003, [(7, 118)])), (37, (.lrem, 1, 0, 0, 0, [])), (38, (.lstore 4, 2, 0, 0, 0, []))], [(40, (.lload 6, 2, 0, 0, 0, [])), (42, (.lload 6, 2, 0, 0, 0, [])), (44, (.lmul, 1, 0, 0, 0, [])), (45, (.ldc2_w 416, 3, 0, 0, 1000003, [(7, 118)]))], [(48, (.lrem, 1, 0, 0, 0, [])), (49, (.lstore 6, 2, 0, 0, 0, [])), (51, (.lload 8, 2, 0, 0, 0, [])), (53, (.iconst 1, 1, 0, 0, 0, [])), (54, (.lshr, 1, 0, 0, 0, [])), (55, (.lstore 8, 2, 0, 0, 0, []))], [(57, (.goto (-44), 3, 13, 0, 0, [])), (60, (.lload 4, 2, 0, 0, 0, [])), (62, (.lreturn, 1, 0, 0, 0, []))]])
/-- X11 timesTable -/
def pd_228 : pm_D := ((yX11_timesTable, cX11_timesTable, 6, none, 0, 11), [(7, 204), (1, 12)], [[(0, (.iconst 0, 1, 0, 0, 0, [])), (1, (.istore_n 1, 1, 0, 0, 0, [])), (2, (.iload_n 1, 1, 0, 0, 0, [])), (3, (.bipush 18, 2, 0, 0, 0, [])), (5, (.if_icmp .ge 85, 3, 90, 0, 0, []))], [(8, (.iconst 0, 1, 0, 0, 0, [])), (9, (.istore_n 2, 1, 0, 0, 0, [])), (10, (.iload_n 2, 1, 0, 0, 0, [])), (11, (.bipush 18, 2, 0, 0, 0, [])), (13, (.if_icmp .ge 71, 3, 84, 0, 0, []))], [(16, (.lconst 0, 1, 0, 0, 0, [])), (17, (.lstore_n 3, 1, 0, 0, 0, [])), (18, (.iconst 0, 1, 0, 0, 0, [])), (19, (.istore 5, 2, 0, 0, 0, [])), (21, (.iload 5, 2, 0, 0, 0, [])), (23, (.bipush 18, 2, 0, 0, 0, []))], [(25, (.if_icmp .ge 37, 3, 62, 0, 0, [])), (28, (.lload_n 3, 1, 0, 0, 0, [])), (29, (.aload_n 0, 1, 0, 0, 0, [])), (30, (.getfield 113, 3, 11, 56, 3, [(5, 161)]))], [(33, (.bipush 18, 2, 0, 0, 0, [])), (35, (.iload_n 1, 1, 0, 0, 0, [])), (36, (.imul, 1, 0, 0, 0, [])), (37, (.iload 5, 2, 0, 0, 0, [])), (39, (.iadd, 1, 0, 0, 0, []))], [(40, (.laload, 1, 0, 0, 0, [])), (41, (.aload_n 0, 1, 0, 0, 0, [])), (42, (.getfield 134, 3, 11, 65, 3, [(5, 170)])), (45, (.bipush 18, 2, 0, 0, 0, [])), (47, (.iload 5, 2, 0, 0, 0, []))], [(49, (.imul, 1, 0, 0, 0, [])), (50, (.iload_n 2, 1, 0, 0, 0, [])), (51, (.iadd, 1, 0, 0, 0, [])), (52, (.laload, 1, 0, 0, 0, [])), (53, (.lmul, 1, 0, 0, 0, [])), (54, (.ladd, 1, 0, 0, 0, [])), (55, (.lstore_n 3, 1, 0, 0, 0, []))], [(56, (.iinc 5 1, 3, 0, 0, 0, [])), (59, (.goto (-38), 3, 21, 0, 0, [])), (62, (.aload_n 0, 1, 0, 0, 0, [])), (63, (.getfield 137, 3, 11, 66, 3, [(5, 171)]))], [(66, (.bipush 18, 2, 0, 0, 0, [])), (68, (.iload_n 1, 1, 0, 0, 0, [])), (69, (.imul, 1, 0, 0, 0, [])), (70, (.iload_n 2, 1, 0, 0, 0, [])), (71, (.iadd, 1, 0, 0, 0, []))], [(72, (.lload_n 3, 1, 0, 0, 0, [])), (73, (.ldc2_w 416, 3, 0, 0, 1000003, [(7, 118)])), (76, (.lrem, 1, 0, 0, 0, [])), (77, (.lastore, 1, 0, 0, 0, [])), (78, (.iinc 2 1, 3, 0, 0, 0, []))], [(81, (.goto (-71), 3, 10, 0, 0, [])), (84, (.iinc 1 1, 3, 0, 0, 0, [])), (87, (.goto (-85), 3, 2, 0, 0, []))], [(90, (.return_, 1, 0, 0, 0, []))]])
/-- X11 layPolynomial -/
def pd_229 : pm_D := ((yX11_layPolynomial, cX11_layPolynomial, 6, none, 0, 11), [(7, 200), (1, 12)], [[(0, (.aload_n 0, 1, 0, 0, 0, [])), (1, (.invokevirtual 315, 3, 161, 0, 0, [(6, 228), (6, 230), (0, 77)])), (4, (.istore_n 1, 1, 0, 0, 0, [])), (5, (.iconst 0, 1, 0, 0, 0, [])), (6, (.istore_n 2, 1, 0, 0, 0, [])), (7, (.iload_n 2, 1, 0, 0, 0, []))], [(8, (.bipush 19, 2, 0, 0, 0, [])), (10, (.if_icmp .ge 16, 3, 26, 0, 0, [])), (13, (.aload_n 0, 1, 0, 0, 0, [])), (14, (.getfield 140, 3, 11, 67, 3, [(5, 172)]))], [(17, (.iload_n 2, 1, 0, 0, 0, [])), (18, (.lconst 0, 1, 0, 0, 0, [])), (19, (.lastore, 1, 0, 0, 0, [])), (20, (.iinc 2 1, 3, 0, 0, 0, [])), (23, (.goto (-16), 3, 7, 0, 0, []))], [(26, (.iconst 0, 1, 0, 0, 0, [])), (27, (.istore_n 2, 1, 0, 0, 0, [])), (28, (.iload_n 2, 1, 0, 0, 0, [])), (29, (.sipush 324, 3, 0, 0, 0, []))], [(32, (.if_icmp .ge 16, 3, 48, 0, 0, [])), (35, (.aload_n 0, 1, 0, 0, 0, [])), (36, (.getfield 134, 3, 11, 65, 3, [(5, 170)])), (39, (.iload_n 2, 1, 0, 0, 0, []))], [(40, (.lconst 0, 1, 0, 0, 0, [])), (41, (.lastore, 1, 0, 0, 0, [])), (42, (.iinc 2 1, 3, 0, 0, 0, [])), (45, (.goto (-17), 3, 28, 0, 0, []))], [(48, (.aload_n 0, 1, 0, 0, 0, [])), (49, (.getfield 140, 3, 11, 67, 3, [(5, 172)])), (52, (.iload_n 1, 1, 0, 0, 0, [])), (53, (.lconst 1, 1, 0, 0, 0, [])), (54, (.lastore, 1, 0, 0, 0, [])), (55, (.iconst 1, 1, 0, 0, 0, []))], [(56, (.istore_n 2, 1, 0, 0, 0, [])), (57, (.iload_n 2, 1, 0, 0, 0, [])), (58, (.iload_n 1, 1, 0, 0, 0, [])), (59, (.if_icmp .gt 161, 3, 220, 0, 0, [])), (62, (.iconst 0, 1, 0, 0, 0, [])), (63, (.istore_n 3, 1, 0, 0, 0, []))], [(64, (.iload_n 3, 1, 0, 0, 0, [])), (65, (.iload_n 1, 1, 0, 0, 0, [])), (66, (.if_icmp .ge 46, 3, 112, 0, 0, [])), (69, (.aload_n 0, 1, 0, 0, 0, [])), (70, (.getfield 134, 3, 11, 65, 3, [(5, 170)]))], [(73, (.bipush 18, 2, 0, 0, 0, [])), (75, (.iload_n 3, 1, 0, 0, 0, [])), (76, (.imul, 1, 0, 0, 0, [])), (77, (.iload_n 3, 1, 0, 0, 0, [])), (78, (.iadd, 1, 0, 0, 0, [])), (79, (.aload_n 0, 1, 0, 0, 0, []))], [(80, (.getfield 134, 3, 11, 65, 3, [(5, 170)])), (83, (.bipush 18, 2, 0, 0, 0, [])), (85, (.iload_n 3, 1, 0, 0, 0, [])), (86, (.imul, 1, 0, 0, 0, [])), (87, (.iload_n 3, 1, 0, 0, 0, []))], [(88, (.iadd, 1, 0, 0, 0, [])), (89, (.laload, 1, 0, 0, 0, [])), (90, (.aload_n 0, 1, 0, 0, 0, [])), (91, (.getfield 140, 3, 11, 67, 3, [(5, 172)])), (94, (.iload_n 1, 1, 0, 0, 0, [])), (95, (.iload_n 2, 1, 0, 0, 0, []))], [(96, (.isub, 1, 0, 0, 0, [])), (97, (.iconst 1, 1, 0, 0, 0, [])), (98, (.iadd, 1, 0, 0, 0, [])), (99, (.laload, 1, 0, 0, 0, [])), (100, (.ladd, 1, 0, 0, 0, [])), (101, (.ldc2_w 416, 3, 0, 0, 1000003, [(7, 118)]))], [(104, (.lrem, 1, 0, 0, 0, [])), (105, (.lastore, 1, 0, 0, 0, [])), (106, (.iinc 3 1, 3, 0, 0, 0, [])), (109, (.goto (-45), 3, 64, 0, 0, []))], [(112, (.aload_n 0, 1, 0, 0, 0, [])), (113, (.invokevirtual 484, 3, 228, 0, 0, [(7, 201), (7, 203), (0, 112)])), (116, (.lconst 0, 1, 0, 0, 0, [])), (117, (.lstore_n 3, 1, 0, 0, 0, [])), (118, (.iconst 0, 1, 0, 0, 0, [])), (119, (.istore 5, 2, 0, 0, 0, []))], [(121, (.iload 5, 2, 0, 0, 0, [])), (123, (.iload_n 1, 1, 0, 0, 0, [])), (124, (.if_icmp .ge 25, 3, 149, 0, 0, [])), (127, (.lload_n 3, 1, 0, 0, 0, []))], [(128, (.aload_n 0, 1, 0, 0, 0, [])), (129, (.getfield 137, 3, 11, 66, 3, [(5, 171)])), (132, (.bipush 18, 2, 0, 0, 0, [])), (134, (.iload 5, 2, 0, 0, 0, []))], [(136, (.imul, 1, 0, 0, 0, [])), (137, (.iload 5, 2, 0, 0, 0, [])), (139, (.iadd, 1, 0, 0, 0, [])), (140, (.laload, 1, 0, 0, 0, [])), (141, (.ladd, 1, 0, 0, 0, [])), (142, (.lstore_n 3, 1, 0, 0, 0, [])), (143, (.iinc 5 1, 3, 0, 0, 0, []))], [(146, (.goto (-25), 3, 121, 0, 0, [])), (149, (.aload_n 0, 1, 0, 0, 0, [])), (150, (.getfield 140, 3, 11, 67, 3, [(5, 172)]))], [(153, (.iload_n 1, 1, 0, 0, 0, [])), (154, (.iload_n 2, 1, 0, 0, 0, [])), (155, (.isub, 1, 0, 0, 0, [])), (156, (.ldc2_w 416, 3, 0, 0, 1000003, [(7, 118)])), (159, (.lload_n 3, 1, 0, 0, 0, []))], [(160, (.ldc2_w 416, 3, 0, 0, 1000003, [(7, 118)])), (163, (.lrem, 1, 0, 0, 0, [])), (164, (.lsub, 1, 0, 0, 0, [])), (165, (.ldc2_w 416, 3, 0, 0, 1000003, [(7, 118)]))], [(168, (.lrem, 1, 0, 0, 0, [])), (169, (.iload_n 2, 1, 0, 0, 0, [])), (170, (.i2l, 1, 0, 0, 0, [])), (171, (.ldc2_w 487, 3, 0, 0, 1000001, [(7, 205)])), (174, (.invokestatic 489, 3, 227, 0, 0, [(7, 206), (7, 207)]))], [(177, (.lmul, 1, 0, 0, 0, [])), (178, (.ldc2_w 416, 3, 0, 0, 1000003, [(7, 118)])), (181, (.lrem, 1, 0, 0, 0, [])), (182, (.lastore, 1, 0, 0, 0, [])), (183, (.iconst 0, 1, 0, 0, 0, []))], [(184, (.istore 5, 2, 0, 0, 0, [])), (186, (.iload 5, 2, 0, 0, 0, [])), (188, (.sipush 324, 3, 0, 0, 0, [])), (191, (.if_icmp .ge 23, 3, 214, 0, 0, []))], [(194, (.aload_n 0, 1, 0, 0, 0, [])), (195, (.getfield 134, 3, 11, 65, 3, [(5, 170)])), (198, (.iload 5, 2, 0, 0, 0, []))], [(200, (.aload_n 0, 1, 0, 0, 0, [])), (201, (.getfield 137, 3, 11, 66, 3, [(5, 171)])), (204, (.iload 5, 2, 0, 0, 0, [])), (206, (.laload, 1, 0, 0, 0, [])), (207, (.lastore, 1, 0, 0, 0, []))], [(208, (.iinc 5 1, 3, 0, 0, 0, [])), (211, (.goto (-25), 3, 186, 0, 0, [])), (214, (.iinc 2 1, 3, 0, 0, 0, []))], [(217, (.goto (-160), 3, 57, 0, 0, [])), (220, (.return_, 1, 0, 0, 0, []))]])
/-- X11 polynomial -/
def pd_230 : pm_D := ((yX11_polynomial, cX11_polynomial, 4, (some .int), 3, 11), [(7, 196), (1, 12)], [[(0, (.aload_n 0, 1, 0, 0, 0, [])), (1, (.iload_n 1, 1, 0, 0, 0, [])), (2, (.invokevirtual 463, 3, 218, 0, 0, [(7, 136), (7, 138), (0, 101)])), (5, (.ifCond .eq 23, 3, 28, 0, 0, []))], [(8, (.aload_n 0, 1, 0, 0, 0, [])), (9, (.iload_n 2, 1, 0, 0, 0, [])), (10, (.invokevirtual 372, 3, 173, 0, 0, [(7, 64), (7, 66), (0, 92)])), (13, (.ifCond .eq 15, 3, 28, 0, 0, []))], [(16, (.iload_n 3, 1, 0, 0, 0, [])), (17, (.ifCond .lt 11, 3, 28, 0, 0, [])), (20, (.iload_n 3, 1, 0, 0, 0, [])), (21, (.aload_n 0, 1, 0, 0, 0, [])), (22, (.invokevirtual 315, 3, 161, 0, 0, [(6, 228), (6, 230), (0, 77)]))], [(25, (.if_icmp .le 5, 3, 30, 0, 0, [])), (28, (.iconst (-1), 1, 0, 0, 0, [])), (29, (.ireturn, 1, 0, 0, 0, [])), (30, (.aload_n 0, 1, 0, 0, 0, [])), (31, (.iload_n 1, 1, 0, 0, 0, []))], [(32, (.iload_n 2, 1, 0, 0, 0, [])), (33, (.invokevirtual 481, 3, 225, 0, 0, [(7, 189), (7, 191), (0, 110)])), (36, (.ifCond .ne 6, 3, 42, 0, 0, [])), (39, (.bipush (-2), 2, 0, 0, 0, []))], [(41, (.ireturn, 1, 0, 0, 0, [])), (42, (.aload_n 0, 1, 0, 0, 0, [])), (43, (.invokevirtual 493, 3, 229, 0, 0, [(7, 197), (7, 199), (0, 111)])), (46, (.aload_n 0, 1, 0, 0, 0, [])), (47, (.getfield 140, 3, 11, 67, 3, [(5, 172)]))], [(50, (.iload_n 3, 1, 0, 0, 0, [])), (51, (.laload, 1, 0, 0, 0, [])), (52, (.l2i, 1, 0, 0, 0, [])), (53, (.ireturn, 1, 0, 0, 0, []))]])
/-- X11 triedFits -/
def pd_231 : pm_D := ((yX11_triedFits, cX11_triedFits, 6, (some .boolean), 0, 11), [(7, 217), (1, 12)], [[(0, (.iconst 1, 1, 0, 0, 0, [])), (1, (.istore_n 1, 1, 0, 0, 0, [])), (2, (.iconst 0, 1, 0, 0, 0, [])), (3, (.istore_n 2, 1, 0, 0, 0, [])), (4, (.iload_n 2, 1, 0, 0, 0, [])), (5, (.aload_n 0, 1, 0, 0, 0, [])), (6, (.getfield 237, 3, 11, 26, 0, [(5, 131)]))], [(9, (.if_icmp .ge 106, 3, 115, 0, 0, [])), (12, (.aload_n 0, 1, 0, 0, 0, [])), (13, (.getfield 146, 3, 11, 69, 3, [(5, 174)]))], [(16, (.aload_n 0, 1, 0, 0, 0, [])), (17, (.getfield 42, 3, 11, 18, 3, [(5, 123)])), (20, (.iconst 3, 1, 0, 0, 0, [])), (21, (.iload_n 2, 1, 0, 0, 0, [])), (22, (.imul, 1, 0, 0, 0, [])), (23, (.iaload, 1, 0, 0, 0, []))], [(24, (.iaload, 1, 0, 0, 0, [])), (25, (.istore_n 3, 1, 0, 0, 0, [])), (26, (.aload_n 0, 1, 0, 0, 0, [])), (27, (.getfield 146, 3, 11, 69, 3, [(5, 174)])), (30, (.aload_n 0, 1, 0, 0, 0, [])), (31, (.getfield 42, 3, 11, 18, 3, [(5, 123)]))], [(34, (.iconst 3, 1, 0, 0, 0, [])), (35, (.iload_n 2, 1, 0, 0, 0, [])), (36, (.imul, 1, 0, 0, 0, [])), (37, (.iconst 1, 1, 0, 0, 0, [])), (38, (.iadd, 1, 0, 0, 0, [])), (39, (.iaload, 1, 0, 0, 0, []))], [(40, (.iaload, 1, 0, 0, 0, [])), (41, (.istore 4, 2, 0, 0, 0, [])), (43, (.aload_n 0, 1, 0, 0, 0, [])), (44, (.getfield 146, 3, 11, 69, 3, [(5, 174)])), (47, (.aload_n 0, 1, 0, 0, 0, []))], [(48, (.getfield 42, 3, 11, 18, 3, [(5, 123)])), (51, (.iconst 3, 1, 0, 0, 0, [])), (52, (.iload_n 2, 1, 0, 0, 0, [])), (53, (.imul, 1, 0, 0, 0, [])), (54, (.iconst 2, 1, 0, 0, 0, [])), (55, (.iadd, 1, 0, 0, 0, []))], [(56, (.iaload, 1, 0, 0, 0, [])), (57, (.iaload, 1, 0, 0, 0, [])), (58, (.istore 5, 2, 0, 0, 0, [])), (60, (.iload_n 1, 1, 0, 0, 0, [])), (61, (.ifCond .eq 46, 3, 107, 0, 0, []))], [(64, (.iload_n 3, 1, 0, 0, 0, [])), (65, (.iload 4, 2, 0, 0, 0, [])), (67, (.iadd, 1, 0, 0, 0, [])), (68, (.iload 5, 2, 0, 0, 0, [])), (70, (.iadd, 1, 0, 0, 0, [])), (71, (.iconst 2, 1, 0, 0, 0, []))], [(72, (.irem, 1, 0, 0, 0, [])), (73, (.ifCond .ne 34, 3, 107, 0, 0, [])), (76, (.iload_n 3, 1, 0, 0, 0, [])), (77, (.iload 4, 2, 0, 0, 0, [])), (79, (.iload 5, 2, 0, 0, 0, []))], [(81, (.iadd, 1, 0, 0, 0, [])), (82, (.if_icmp .gt 25, 3, 107, 0, 0, [])), (85, (.iload 4, 2, 0, 0, 0, [])), (87, (.iload_n 3, 1, 0, 0, 0, []))], [(88, (.iload 5, 2, 0, 0, 0, [])), (90, (.iadd, 1, 0, 0, 0, [])), (91, (.if_icmp .gt 16, 3, 107, 0, 0, [])), (94, (.iload 5, 2, 0, 0, 0, []))], [(96, (.iload_n 3, 1, 0, 0, 0, [])), (97, (.iload 4, 2, 0, 0, 0, [])), (99, (.iadd, 1, 0, 0, 0, [])), (100, (.if_icmp .gt 7, 3, 107, 0, 0, [])), (103, (.iconst 1, 1, 0, 0, 0, []))], [(104, (.goto 4, 3, 108, 0, 0, [])), (107, (.iconst 0, 1, 0, 0, 0, [])), (108, (.istore_n 1, 1, 0, 0, 0, [])), (109, (.iinc 2 1, 3, 0, 0, 0, []))], [(112, (.goto (-108), 3, 4, 0, 0, [])), (115, (.iload_n 1, 1, 0, 0, 0, [])), (116, (.ireturn, 1, 0, 0, 0, []))]])
/-- X11 hasLoop -/
def pd_232 : pm_D := ((yX11_hasLoop, cX11_hasLoop, 3, (some .boolean), 0, 11), [(7, 221), (1, 12)], [[(0, (.aload_n 0, 1, 0, 0, 0, [])), (1, (.getfield 69, 3, 11, 34, 3, [(5, 139)])), (4, (.iconst 0, 1, 0, 0, 0, [])), (5, (.iconst 0, 1, 0, 0, 0, [])), (6, (.iastore, 1, 0, 0, 0, [])), (7, (.iconst 0, 1, 0, 0, 0, []))], [(8, (.istore_n 1, 1, 0, 0, 0, [])), (9, (.iload_n 1, 1, 0, 0, 0, [])), (10, (.aload_n 0, 1, 0, 0, 0, [])), (11, (.invokevirtual 315, 3, 161, 0, 0, [(6, 228), (6, 230), (0, 77)])), (14, (.if_icmp .ge 42, 3, 56, 0, 0, []))], [(17, (.aload_n 0, 1, 0, 0, 0, [])), (18, (.getfield 66, 3, 11, 33, 3, [(5, 138)])), (21, (.iload_n 1, 1, 0, 0, 0, [])), (22, (.aload_n 0, 1, 0, 0, 0, [])), (23, (.getfield 146, 3, 11, 69, 3, [(5, 174)]))], [(26, (.iload_n 1, 1, 0, 0, 0, [])), (27, (.iaload, 1, 0, 0, 0, [])), (28, (.iastore, 1, 0, 0, 0, [])), (29, (.aload_n 0, 1, 0, 0, 0, [])), (30, (.getfield 69, 3, 11, 34, 3, [(5, 139)]))], [(33, (.iload_n 1, 1, 0, 0, 0, [])), (34, (.iconst 1, 1, 0, 0, 0, [])), (35, (.iadd, 1, 0, 0, 0, [])), (36, (.aload_n 0, 1, 0, 0, 0, [])), (37, (.getfield 69, 3, 11, 34, 3, [(5, 139)]))], [(40, (.iload_n 1, 1, 0, 0, 0, [])), (41, (.iaload, 1, 0, 0, 0, [])), (42, (.aload_n 0, 1, 0, 0, 0, [])), (43, (.getfield 66, 3, 11, 33, 3, [(5, 138)])), (46, (.iload_n 1, 1, 0, 0, 0, [])), (47, (.iaload, 1, 0, 0, 0, []))], [(48, (.iadd, 1, 0, 0, 0, [])), (49, (.iastore, 1, 0, 0, 0, [])), (50, (.iinc 1 1, 3, 0, 0, 0, [])), (53, (.goto (-44), 3, 9, 0, 0, []))], [(56, (.iconst 0, 1, 0, 0, 0, [])), (57, (.istore_n 1, 1, 0, 0, 0, [])), (58, (.iload_n 1, 1, 0, 0, 0, [])), (59, (.aload_n 0, 1, 0, 0, 0, [])), (60, (.getfield 69, 3, 11, 34, 3, [(5, 139)])), (63, (.aload_n 0, 1, 0, 0, 0, []))], [(64, (.invokevirtual 315, 3, 161, 0, 0, [(6, 228), (6, 230), (0, 77)])), (67, (.iaload, 1, 0, 0, 0, [])), (68, (.if_icmp .ge 16, 3, 84, 0, 0, [])), (71, (.aload_n 0, 1, 0, 0, 0, []))], [(72, (.getfield 72, 3, 11, 35, 3, [(5, 140)])), (75, (.iload_n 1, 1, 0, 0, 0, [])), (76, (.iconst 0, 1, 0, 0, 0, [])), (77, (.bastore, 1, 0, 0, 0, [])), (78, (.iinc 1 1, 3, 0, 0, 0, []))], [(81, (.goto (-23), 3, 58, 0, 0, [])), (84, (.iconst 0, 1, 0, 0, 0, [])), (85, (.istore_n 1, 1, 0, 0, 0, [])), (86, (.iload_n 1, 1, 0, 0, 0, [])), (87, (.aload_n 0, 1, 0, 0, 0, []))], [(88, (.invokevirtual 315, 3, 161, 0, 0, [(6, 228), (6, 230), (0, 77)])), (91, (.if_icmp .ge 54, 3, 145, 0, 0, [])), (94, (.iconst 0, 1, 0, 0, 0, [])), (95, (.istore_n 2, 1, 0, 0, 0, []))], [(96, (.iload_n 2, 1, 0, 0, 0, [])), (97, (.aload_n 0, 1, 0, 0, 0, [])), (98, (.getfield 66, 3, 11, 33, 3, [(5, 138)])), (101, (.iload_n 1, 1, 0, 0, 0, [])), (102, (.iaload, 1, 0, 0, 0, [])), (103, (.if_icmp .ge 36, 3, 139, 0, 0, []))], [(106, (.aload_n 0, 1, 0, 0, 0, [])), (107, (.getfield 72, 3, 11, 35, 3, [(5, 140)])), (110, (.aload_n 0, 1, 0, 0, 0, [])), (111, (.getfield 69, 3, 11, 34, 3, [(5, 139)]))], [(114, (.iload_n 1, 1, 0, 0, 0, [])), (115, (.iaload, 1, 0, 0, 0, [])), (116, (.iload_n 2, 1, 0, 0, 0, [])), (117, (.iadd, 1, 0, 0, 0, [])), (118, (.baload, 1, 0, 0, 0, [])), (119, (.ifCond .ne 14, 3, 133, 0, 0, []))], [(122, (.aload_n 0, 1, 0, 0, 0, [])), (123, (.iload_n 1, 1, 0, 0, 0, [])), (124, (.iload_n 2, 1, 0, 0, 0, [])), (125, (.invokevirtual 348, 3, 188, 0, 0, [(7, 4), (7, 6), (0, 80)]))], [(128, (.ifCond .ne 5, 3, 133, 0, 0, [])), (131, (.iconst 1, 1, 0, 0, 0, [])), (132, (.ireturn, 1, 0, 0, 0, [])), (133, (.iinc 2 1, 3, 0, 0, 0, []))], [(136, (.goto (-40), 3, 96, 0, 0, [])), (139, (.iinc 1 1, 3, 0, 0, 0, [])), (142, (.goto (-56), 3, 86, 0, 0, []))], [(145, (.iconst 0, 1, 0, 0, 0, [])), (146, (.ireturn, 1, 0, 0, 0, []))]])
/-- X11 isLeft -/
def pd_233 : pm_D := ((yX11_isLeft, cX11_isLeft, 4, (some .boolean), 1, 11), [(7, 225), (1, 12)], [[(0, (.iconst 0, 1, 0, 0, 0, [])), (1, (.istore_n 2, 1, 0, 0, 0, [])), (2, (.iload_n 2, 1, 0, 0, 0, [])), (3, (.bipush 18, 2, 0, 0, 0, [])), (5, (.if_icmp .ge 34, 3, 39, 0, 0, []))], [(8, (.aload_n 0, 1, 0, 0, 0, [])), (9, (.getfield 110, 3, 11, 55, 3, [(5, 160)])), (12, (.iload_n 2, 1, 0, 0, 0, [])), (13, (.iload_n 2, 1, 0, 0, 0, [])), (14, (.aload_n 0, 1, 0, 0, 0, [])), (15, (.invokevirtual 315, 3, 161, 0, 0, [(6, 228), (6, 230), (0, 77)]))], [(18, (.if_icmp .ge 13, 3, 31, 0, 0, [])), (21, (.aload_n 0, 1, 0, 0, 0, [])), (22, (.getfield 146, 3, 11, 69, 3, [(5, 174)]))], [(25, (.iload_n 2, 1, 0, 0, 0, [])), (26, (.iaload, 1, 0, 0, 0, [])), (27, (.i2l, 1, 0, 0, 0, [])), (28, (.goto 4, 3, 32, 0, 0, [])), (31, (.lconst 0, 1, 0, 0, 0, []))], [(32, (.lastore, 1, 0, 0, 0, [])), (33, (.iinc 2 1, 3, 0, 0, 0, [])), (36, (.goto (-34), 3, 2, 0, 0, [])), (39, (.aload_n 0, 1, 0, 0, 0, []))], [(40, (.iconst 0, 1, 0, 0, 0, [])), (41, (.putfield 422, 3, 11, 58, 2, [(5, 163)])), (44, (.aload_n 0, 1, 0, 0, 0, [])), (45, (.iconst 0, 1, 0, 0, 0, [])), (46, (.putfield 413, 3, 11, 59, 2, [(5, 164)]))], [(49, (.aload_n 0, 1, 0, 0, 0, [])), (50, (.iload_n 1, 1, 0, 0, 0, [])), (51, (.invokevirtual 466, 3, 211, 0, 0, [(7, 144), (7, 146), (0, 103)])), (54, (.aload_n 0, 1, 0, 0, 0, [])), (55, (.getfield 422, 3, 11, 58, 2, [(5, 163)]))], [(58, (.ifCond .ne 7, 3, 65, 0, 0, [])), (61, (.iconst 1, 1, 0, 0, 0, [])), (62, (.goto 4, 3, 66, 0, 0, []))], [(65, (.iconst 0, 1, 0, 0, 0, [])), (66, (.istore_n 2, 1, 0, 0, 0, [])), (67, (.iconst 0, 1, 0, 0, 0, [])), (68, (.istore_n 3, 1, 0, 0, 0, [])), (69, (.iload_n 3, 1, 0, 0, 0, [])), (70, (.aload_n 0, 1, 0, 0, 0, [])), (71, (.invokevirtual 315, 3, 161, 0, 0, [(6, 228), (6, 230), (0, 77)]))], [(74, (.if_icmp .ge 36, 3, 110, 0, 0, [])), (77, (.iload_n 2, 1, 0, 0, 0, [])), (78, (.ifCond .eq 24, 3, 102, 0, 0, []))], [(81, (.aload_n 0, 1, 0, 0, 0, [])), (82, (.getfield 110, 3, 11, 55, 3, [(5, 160)])), (85, (.iload_n 3, 1, 0, 0, 0, [])), (86, (.laload, 1, 0, 0, 0, [])), (87, (.aload_n 0, 1, 0, 0, 0, []))], [(88, (.getfield 146, 3, 11, 69, 3, [(5, 174)])), (91, (.iload_n 3, 1, 0, 0, 0, [])), (92, (.iaload, 1, 0, 0, 0, [])), (93, (.i2l, 1, 0, 0, 0, [])), (94, (.lcmp, 1, 0, 0, 0, [])), (95, (.ifCond .ne 7, 3, 102, 0, 0, []))], [(98, (.iconst 1, 1, 0, 0, 0, [])), (99, (.goto 4, 3, 103, 0, 0, [])), (102, (.iconst 0, 1, 0, 0, 0, [])), (103, (.istore_n 2, 1, 0, 0, 0, []))], [(104, (.iinc 3 1, 3, 0, 0, 0, [])), (107, (.goto (-38), 3, 69, 0, 0, [])), (110, (.iload_n 2, 1, 0, 0, 0, [])), (111, (.ireturn, 1, 0, 0, 0, []))]])
/-- X11 nextTried -/
def pd_234 : pm_D := ((yX11_nextTried, cX11_nextTried, 3, (some .boolean), 1, 11), [(7, 237), (1, 12)], [[(0, (.aload_n 0, 1, 0, 0, 0, [])), (1, (.invokevirtual 315, 3, 161, 0, 0, [(6, 228), (6, 230), (0, 77)])), (4, (.iconst 1, 1, 0, 0, 0, [])), (5, (.isub, 1, 0, 0, 0, [])), (6, (.istore_n 2, 1, 0, 0, 0, [])), (7, (.iload_n 2, 1, 0, 0, 0, []))], [(8, (.ifCond .lt 38, 3, 46, 0, 0, [])), (11, (.aload_n 0, 1, 0, 0, 0, [])), (12, (.getfield 146, 3, 11, 69, 3, [(5, 174)])), (15, (.iload_n 2, 1, 0, 0, 0, []))], [(16, (.iaload, 1, 0, 0, 0, [])), (17, (.iload_n 1, 1, 0, 0, 0, [])), (18, (.if_icmp .ge 15, 3, 33, 0, 0, [])), (21, (.aload_n 0, 1, 0, 0, 0, [])), (22, (.getfield 146, 3, 11, 69, 3, [(5, 174)]))], [(25, (.iload_n 2, 1, 0, 0, 0, [])), (26, (.dup2, 1, 0, 0, 0, [])), (27, (.iaload, 1, 0, 0, 0, [])), (28, (.iconst 1, 1, 0, 0, 0, [])), (29, (.iadd, 1, 0, 0, 0, [])), (30, (.iastore, 1, 0, 0, 0, [])), (31, (.iconst 1, 1, 0, 0, 0, []))], [(32, (.ireturn, 1, 0, 0, 0, [])), (33, (.aload_n 0, 1, 0, 0, 0, [])), (34, (.getfield 146, 3, 11, 69, 3, [(5, 174)])), (37, (.iload_n 2, 1, 0, 0, 0, [])), (38, (.iconst 0, 1, 0, 0, 0, [])), (39, (.iastore, 1, 0, 0, 0, []))], [(40, (.iinc 2 (-1), 3, 0, 0, 0, [])), (43, (.goto (-36), 3, 7, 0, 0, [])), (46, (.iconst 0, 1, 0, 0, 0, [])), (47, (.ireturn, 1, 0, 0, 0, []))]])
/-- X11 least -/
def pd_235 : pm_D := ((yX11_least, cX11_least, 6, (some .int), 2, 11), [(7, 212), (1, 12)], [[(0, (.aload_n 0, 1, 0, 0, 0, [])), (1, (.iconst 0, 1, 0, 0, 0, [])), (2, (.putfield 311, 3, 11, 70, 2, [(5, 175)])), (5, (.aload_n 0, 1, 0, 0, 0, [])), (6, (.iload_n 1, 1, 0, 0, 0, [])), (7, (.invokevirtual 463, 3, 218, 0, 0, [(7, 136), (7, 138), (0, 101)]))], [(10, (.ifCond .eq 13, 3, 23, 0, 0, [])), (13, (.iload_n 2, 1, 0, 0, 0, [])), (14, (.iconst 1, 1, 0, 0, 0, [])), (15, (.if_icmp .lt 8, 3, 23, 0, 0, []))], [(18, (.iload_n 2, 1, 0, 0, 0, [])), (19, (.iconst 3, 1, 0, 0, 0, [])), (20, (.if_icmp .le 5, 3, 25, 0, 0, [])), (23, (.iconst (-1), 1, 0, 0, 0, []))], [(24, (.ireturn, 1, 0, 0, 0, [])), (25, (.lconst 1, 1, 0, 0, 0, [])), (26, (.lstore_n 3, 1, 0, 0, 0, [])), (27, (.iconst 0, 1, 0, 0, 0, [])), (28, (.istore 5, 2, 0, 0, 0, [])), (30, (.iload 5, 2, 0, 0, 0, []))], [(32, (.aload_n 0, 1, 0, 0, 0, [])), (33, (.invokevirtual 315, 3, 161, 0, 0, [(6, 228), (6, 230), (0, 77)])), (36, (.if_icmp .ge 16, 3, 52, 0, 0, [])), (39, (.lload_n 3, 1, 0, 0, 0, []))], [(40, (.iload_n 2, 1, 0, 0, 0, [])), (41, (.iconst 1, 1, 0, 0, 0, [])), (42, (.iadd, 1, 0, 0, 0, [])), (43, (.i2l, 1, 0, 0, 0, [])), (44, (.lmul, 1, 0, 0, 0, [])), (45, (.lstore_n 3, 1, 0, 0, 0, [])), (46, (.iinc 5 1, 3, 0, 0, 0, []))], [(49, (.goto (-19), 3, 30, 0, 0, [])), (52, (.lload_n 3, 1, 0, 0, 0, [])), (53, (.ldc2_w 496, 3, 0, 0, 60000, [(7, 213)]))], [(56, (.lcmp, 1, 0, 0, 0, [])), (57, (.ifCond .le 6, 3, 63, 0, 0, [])), (60, (.bipush (-2), 2, 0, 0, 0, [])), (62, (.ireturn, 1, 0, 0, 0, [])), (63, (.iconst 0, 1, 0, 0, 0, []))], [(64, (.istore 5, 2, 0, 0, 0, [])), (66, (.iload 5, 2, 0, 0, 0, [])), (68, (.bipush 18, 2, 0, 0, 0, [])), (70, (.if_icmp .ge 17, 3, 87, 0, 0, []))], [(73, (.aload_n 0, 1, 0, 0, 0, [])), (74, (.getfield 146, 3, 11, 69, 3, [(5, 174)])), (77, (.iload 5, 2, 0, 0, 0, [])), (79, (.iconst 0, 1, 0, 0, 0, []))], [(80, (.iastore, 1, 0, 0, 0, [])), (81, (.iinc 5 1, 3, 0, 0, 0, [])), (84, (.goto (-18), 3, 66, 0, 0, [])), (87, (.iconst 1, 1, 0, 0, 0, []))], [(88, (.istore 5, 2, 0, 0, 0, [])), (90, (.iload 5, 2, 0, 0, 0, [])), (92, (.ifCond .eq 44, 3, 136, 0, 0, [])), (95, (.aload_n 0, 1, 0, 0, 0, []))], [(96, (.invokevirtual 498, 3, 231, 0, 0, [(7, 214), (7, 216), (0, 113)])), (99, (.ifCond .eq 27, 3, 126, 0, 0, [])), (102, (.aload_n 0, 1, 0, 0, 0, [])), (103, (.invokevirtual 501, 3, 232, 0, 0, [(7, 218), (7, 220), (0, 114)]))], [(106, (.ifCond .eq 20, 3, 126, 0, 0, [])), (109, (.aload_n 0, 1, 0, 0, 0, [])), (110, (.iload_n 1, 1, 0, 0, 0, [])), (111, (.invokevirtual 504, 3, 233, 0, 0, [(7, 222), (7, 224), (0, 115)]))], [(114, (.ifCond .eq 12, 3, 126, 0, 0, [])), (117, (.aload_n 0, 1, 0, 0, 0, [])), (118, (.invokevirtual 507, 3, 236, 0, 0, [(7, 226), (7, 228), (0, 116)]))], [(121, (.aload_n 0, 1, 0, 0, 0, [])), (122, (.invokevirtual 510, 3, 237, 0, 0, [(7, 230), (7, 232), (0, 117)])), (125, (.ireturn, 1, 0, 0, 0, [])), (126, (.aload_n 0, 1, 0, 0, 0, [])), (127, (.iload_n 2, 1, 0, 0, 0, []))], [(128, (.invokevirtual 513, 3, 234, 0, 0, [(7, 234), (7, 236), (0, 118)])), (131, (.istore 5, 2, 0, 0, 0, [])), (133, (.goto (-43), 3, 90, 0, 0, []))], [(136, (.iconst (-1), 1, 0, 0, 0, [])), (137, (.ireturn, 1, 0, 0, 0, []))]])
/-- X11 putDown -/
def pd_236 : pm_D := ((yX11_putDown, cX11_putDown, 2, none, 0, 11), [(7, 229), (1, 12)], [[(0, (.iconst 0, 1, 0, 0, 0, [])), (1, (.istore_n 1, 1, 0, 0, 0, [])), (2, (.iload_n 1, 1, 0, 0, 0, [])), (3, (.bipush 18, 2, 0, 0, 0, [])), (5, (.if_icmp .ge 21, 3, 26, 0, 0, []))], [(8, (.aload_n 0, 1, 0, 0, 0, [])), (9, (.getfield 143, 3, 11, 68, 3, [(5, 173)])), (12, (.iload_n 1, 1, 0, 0, 0, [])), (13, (.aload_n 0, 1, 0, 0, 0, [])), (14, (.getfield 146, 3, 11, 69, 3, [(5, 174)]))], [(17, (.iload_n 1, 1, 0, 0, 0, [])), (18, (.iaload, 1, 0, 0, 0, [])), (19, (.iastore, 1, 0, 0, 0, [])), (20, (.iinc 1 1, 3, 0, 0, 0, [])), (23, (.goto (-21), 3, 2, 0, 0, []))], [(26, (.aload_n 0, 1, 0, 0, 0, [])), (27, (.iconst 1, 1, 0, 0, 0, [])), (28, (.putfield 311, 3, 11, 70, 2, [(5, 175)])), (31, (.return_, 1, 0, 0, 0, []))]])
/-- X11 lainAll -/
def pd_237 : pm_D := ((yX11_lainAll, cX11_lainAll, 3, (some .int), 0, 11), [(7, 233), (1, 12)], [[(0, (.iconst 0, 1, 0, 0, 0, [])), (1, (.istore_n 1, 1, 0, 0, 0, [])), (2, (.iconst 0, 1, 0, 0, 0, [])), (3, (.istore_n 2, 1, 0, 0, 0, [])), (4, (.iload_n 2, 1, 0, 0, 0, [])), (5, (.aload_n 0, 1, 0, 0, 0, [])), (6, (.invokevirtual 315, 3, 161, 0, 0, [(6, 228), (6, 230), (0, 77)]))], [(9, (.if_icmp .ge 18, 3, 27, 0, 0, [])), (12, (.iload_n 1, 1, 0, 0, 0, [])), (13, (.aload_n 0, 1, 0, 0, 0, [])), (14, (.getfield 143, 3, 11, 68, 3, [(5, 173)]))], [(17, (.iload_n 2, 1, 0, 0, 0, [])), (18, (.iaload, 1, 0, 0, 0, [])), (19, (.iadd, 1, 0, 0, 0, [])), (20, (.istore_n 1, 1, 0, 0, 0, [])), (21, (.iinc 2 1, 3, 0, 0, 0, []))], [(24, (.goto (-20), 3, 4, 0, 0, [])), (27, (.iload_n 1, 1, 0, 0, 0, [])), (28, (.ireturn, 1, 0, 0, 0, []))]])
/-- X11 lies -/
def pd_238 : pm_D := ((yX11_lies, cX11_lies, 2, (some .int), 1, 11), [(8, 1), (1, 12)], [[(0, (.aload_n 0, 1, 0, 0, 0, [])), (1, (.getfield 311, 3, 11, 70, 2, [(5, 175)])), (4, (.ifCond .eq 20, 3, 24, 0, 0, [])), (7, (.aload_n 0, 1, 0, 0, 0, []))], [(8, (.iload_n 1, 1, 0, 0, 0, [])), (9, (.invokevirtual 375, 3, 175, 0, 0, [(7, 68), (7, 70), (0, 93)])), (12, (.ifCond .eq 12, 3, 24, 0, 0, [])), (15, (.aload_n 0, 1, 0, 0, 0, []))], [(16, (.getfield 143, 3, 11, 68, 3, [(5, 173)])), (19, (.iload_n 1, 1, 0, 0, 0, [])), (20, (.iaload, 1, 0, 0, 0, [])), (21, (.goto 4, 3, 25, 0, 0, []))], [(24, (.iconst (-1), 1, 0, 0, 0, [])), (25, (.ireturn, 1, 0, 0, 0, []))]])
/-- X11 nowAll -/
def pd_239 : pm_D := ((yX11_nowAll, cX11_nowAll, 1, (some .long), 0, 11), [(8, 17), (1, 12)], [[(0, (.aload_n 0, 1, 0, 0, 0, [])), (1, (.iconst (-1), 1, 0, 0, 0, [])), (2, (.invokevirtual 362, 3, 181, 0, 0, [(6, 224), (6, 226), (0, 76)])), (5, (.lreturn, 1, 0, 0, 0, []))]])
/-- X11 shiftOut -/
def pd_240 : pm_D := ((yX11_shiftOut, cX11_shiftOut, 2, none, 0, 11), [(8, 13), (1, 12)], [[(0, (.iconst 0, 1, 0, 0, 0, [])), (1, (.istore_n 1, 1, 0, 0, 0, [])), (2, (.iload_n 1, 1, 0, 0, 0, [])), (3, (.sipush 1080, 3, 0, 0, 0, [])), (6, (.if_icmp .ge 24, 3, 30, 0, 0, []))], [(9, (.aload_n 0, 1, 0, 0, 0, [])), (10, (.getfield 152, 3, 11, 72, 3, [(5, 177)])), (13, (.iload_n 1, 1, 0, 0, 0, [])), (14, (.aload_n 0, 1, 0, 0, 0, [])), (15, (.getfield 152, 3, 11, 72, 3, [(5, 177)]))], [(18, (.iload_n 1, 1, 0, 0, 0, [])), (19, (.bipush 18, 2, 0, 0, 0, [])), (21, (.iadd, 1, 0, 0, 0, [])), (22, (.laload, 1, 0, 0, 0, [])), (23, (.lastore, 1, 0, 0, 0, []))], [(24, (.iinc 1 1, 3, 0, 0, 0, [])), (27, (.goto (-25), 3, 2, 0, 0, [])), (30, (.aload_n 0, 1, 0, 0, 0, [])), (31, (.dup, 1, 0, 0, 0, []))], [(32, (.getfield 305, 3, 11, 73, 0, [(5, 178)])), (35, (.iconst 1, 1, 0, 0, 0, [])), (36, (.isub, 1, 0, 0, 0, [])), (37, (.putfield 305, 3, 11, 73, 0, [(5, 178)]))], [(40, (.return_, 1, 0, 0, 0, []))]])
/-- X11 act -/
def pd_241 : pm_D := ((yX11_act, cX11_act, 2, (some .long), 0, 11), [(8, 9), (1, 12)], [[(0, (.aload_n 0, 1, 0, 0, 0, [])), (1, (.getfield 305, 3, 11, 73, 0, [(5, 178)])), (4, (.bipush 60, 2, 0, 0, 0, [])), (6, (.if_icmp .ne 7, 3, 13, 0, 0, []))], [(9, (.aload_n 0, 1, 0, 0, 0, [])), (10, (.invokevirtual 516, 3, 240, 0, 0, [(8, 10), (8, 12), (0, 120)])), (13, (.iconst 0, 1, 0, 0, 0, [])), (14, (.istore_n 1, 1, 0, 0, 0, [])), (15, (.iload_n 1, 1, 0, 0, 0, []))], [(16, (.bipush 18, 2, 0, 0, 0, [])), (18, (.if_icmp .ge 41, 3, 59, 0, 0, [])), (21, (.aload_n 0, 1, 0, 0, 0, [])), (22, (.getfield 152, 3, 11, 72, 3, [(5, 177)]))], [(25, (.bipush 18, 2, 0, 0, 0, [])), (27, (.aload_n 0, 1, 0, 0, 0, [])), (28, (.getfield 305, 3, 11, 73, 0, [(5, 178)])), (31, (.imul, 1, 0, 0, 0, []))], [(32, (.iload_n 1, 1, 0, 0, 0, [])), (33, (.iadd, 1, 0, 0, 0, [])), (34, (.aload_n 0, 1, 0, 0, 0, [])), (35, (.getfield 149, 3, 11, 71, 3, [(5, 176)])), (38, (.iload_n 1, 1, 0, 0, 0, [])), (39, (.laload, 1, 0, 0, 0, []))], [(40, (.lastore, 1, 0, 0, 0, [])), (41, (.aload_n 0, 1, 0, 0, 0, [])), (42, (.getfield 149, 3, 11, 71, 3, [(5, 176)])), (45, (.iload_n 1, 1, 0, 0, 0, [])), (46, (.aload_n 0, 1, 0, 0, 0, [])), (47, (.getfield 110, 3, 11, 55, 3, [(5, 160)]))], [(50, (.iload_n 1, 1, 0, 0, 0, [])), (51, (.laload, 1, 0, 0, 0, [])), (52, (.lastore, 1, 0, 0, 0, [])), (53, (.iinc 1 1, 3, 0, 0, 0, []))], [(56, (.goto (-41), 3, 15, 0, 0, [])), (59, (.aload_n 0, 1, 0, 0, 0, [])), (60, (.dup, 1, 0, 0, 0, [])), (61, (.getfield 305, 3, 11, 73, 0, [(5, 178)]))], [(64, (.iconst 1, 1, 0, 0, 0, [])), (65, (.iadd, 1, 0, 0, 0, [])), (66, (.putfield 305, 3, 11, 73, 0, [(5, 178)])), (69, (.aload_n 0, 1, 0, 0, 0, [])), (70, (.iconst 0, 1, 0, 0, 0, [])), (71, (.putfield 308, 3, 11, 74, 0, [(5, 179)]))], [(74, (.aload_n 0, 1, 0, 0, 0, [])), (75, (.invokevirtual 519, 3, 239, 0, 0, [(8, 14), (8, 16), (0, 121)])), (78, (.lreturn, 1, 0, 0, 0, []))]])
/-- X11 lay -/
def pd_242 : pm_D := ((yX11_lay, cX11_lay, 2, (some .long), 1, 11), [(8, 5), (1, 12)], [[(0, (.aload_n 0, 1, 0, 0, 0, [])), (1, (.iload_n 1, 1, 0, 0, 0, [])), (2, (.invokevirtual 372, 3, 173, 0, 0, [(7, 64), (7, 66), (0, 92)])), (5, (.ifCond .ne 7, 3, 12, 0, 0, []))], [(8, (.ldc2_w 447, 3, 0, 0, (-1), [(7, 97)])), (11, (.lreturn, 1, 0, 0, 0, [])), (12, (.aload_n 0, 1, 0, 0, 0, [])), (13, (.iload_n 1, 1, 0, 0, 0, [])), (14, (.invokevirtual 449, 3, 212, 0, 0, [(7, 98), (7, 100), (0, 95)]))], [(17, (.aload_n 0, 1, 0, 0, 0, [])), (18, (.invokevirtual 522, 3, 241, 0, 0, [(8, 6), (8, 8), (0, 119)])), (21, (.lreturn, 1, 0, 0, 0, []))]])
/-- X11 twist -/
def pd_243 : pm_D := ((yX11_twist, cX11_twist, 3, (some .long), 2, 11), [(8, 21), (1, 12)], [[(0, (.aload_n 0, 1, 0, 0, 0, [])), (1, (.iload_n 1, 1, 0, 0, 0, [])), (2, (.invokevirtual 372, 3, 173, 0, 0, [(7, 64), (7, 66), (0, 92)])), (5, (.ifCond .eq 28, 3, 33, 0, 0, []))], [(8, (.aload_n 0, 1, 0, 0, 0, [])), (9, (.getfield 101, 3, 11, 50, 3, [(5, 155)])), (12, (.iload_n 1, 1, 0, 0, 0, [])), (13, (.baload, 1, 0, 0, 0, [])), (14, (.ifCond .eq 19, 3, 33, 0, 0, []))], [(17, (.iload_n 2, 1, 0, 0, 0, [])), (18, (.ifCond .eq 15, 3, 33, 0, 0, [])), (21, (.iload_n 2, 1, 0, 0, 0, [])), (22, (.bipush (-99), 2, 0, 0, 0, []))], [(24, (.if_icmp .lt 9, 3, 33, 0, 0, [])), (27, (.iload_n 2, 1, 0, 0, 0, [])), (28, (.bipush 99, 2, 0, 0, 0, [])), (30, (.if_icmp .le 7, 3, 37, 0, 0, []))], [(33, (.ldc2_w 447, 3, 0, 0, (-1), [(7, 97)])), (36, (.lreturn, 1, 0, 0, 0, [])), (37, (.aload_n 0, 1, 0, 0, 0, [])), (38, (.iconst (-1), 1, 0, 0, 0, [])), (39, (.invokevirtual 449, 3, 212, 0, 0, [(7, 98), (7, 100), (0, 95)]))], [(42, (.aload_n 0, 1, 0, 0, 0, [])), (43, (.iload_n 1, 1, 0, 0, 0, [])), (44, (.iload_n 2, 1, 0, 0, 0, [])), (45, (.invokevirtual 444, 3, 210, 0, 0, [(7, 148), (7, 150), (0, 104)]))], [(48, (.aload_n 0, 1, 0, 0, 0, [])), (49, (.getfield 422, 3, 11, 58, 2, [(5, 163)])), (52, (.ifCond .eq 9, 3, 61, 0, 0, [])), (55, (.ldc2_w 378, 3, 0, 0, (-2), [(7, 72)]))], [(58, (.goto 7, 3, 65, 0, 0, [])), (61, (.aload_n 0, 1, 0, 0, 0, [])), (62, (.invokevirtual 522, 3, 241, 0, 0, [(8, 6), (8, 8), (0, 119)]))], [(65, (.lreturn, 1, 0, 0, 0, []))]])
/-- X11 go -/
def pd_244 : pm_D := ((yX11_go, cX11_go, 2, (some .long), 1, 11), [(8, 25), (1, 12)], [[(0, (.aload_n 0, 1, 0, 0, 0, [])), (1, (.iload_n 1, 1, 0, 0, 0, [])), (2, (.invokevirtual 463, 3, 218, 0, 0, [(7, 136), (7, 138), (0, 101)])), (5, (.ifCond .ne 7, 3, 12, 0, 0, []))], [(8, (.ldc2_w 447, 3, 0, 0, (-1), [(7, 97)])), (11, (.lreturn, 1, 0, 0, 0, [])), (12, (.aload_n 0, 1, 0, 0, 0, [])), (13, (.iconst (-1), 1, 0, 0, 0, [])), (14, (.invokevirtual 449, 3, 212, 0, 0, [(7, 98), (7, 100), (0, 95)]))], [(17, (.aload_n 0, 1, 0, 0, 0, [])), (18, (.iload_n 1, 1, 0, 0, 0, [])), (19, (.invokevirtual 466, 3, 211, 0, 0, [(7, 144), (7, 146), (0, 103)])), (22, (.aload_n 0, 1, 0, 0, 0, [])), (23, (.getfield 422, 3, 11, 58, 2, [(5, 163)]))], [(26, (.ifCond .eq 9, 3, 35, 0, 0, [])), (29, (.ldc2_w 378, 3, 0, 0, (-2), [(7, 72)]))], [(32, (.goto 7, 3, 39, 0, 0, [])), (35, (.aload_n 0, 1, 0, 0, 0, [])), (36, (.invokevirtual 522, 3, 241, 0, 0, [(8, 6), (8, 8), (0, 119)])), (39, (.lreturn, 1, 0, 0, 0, []))]])
/-- X11 exchange -/
def pd_245 : pm_D := ((yX11_exchange, cX11_exchange, 5, none, 1, 11), [(8, 33), (1, 12)], [[(0, (.iconst 0, 1, 0, 0, 0, [])), (1, (.istore_n 2, 1, 0, 0, 0, [])), (2, (.iload_n 2, 1, 0, 0, 0, [])), (3, (.bipush 18, 2, 0, 0, 0, [])), (5, (.if_icmp .ge 45, 3, 50, 0, 0, []))], [(8, (.aload_n 0, 1, 0, 0, 0, [])), (9, (.getfield 152, 3, 11, 72, 3, [(5, 177)])), (12, (.bipush 18, 2, 0, 0, 0, [])), (14, (.iload_n 1, 1, 0, 0, 0, [])), (15, (.imul, 1, 0, 0, 0, []))], [(16, (.iload_n 2, 1, 0, 0, 0, [])), (17, (.iadd, 1, 0, 0, 0, [])), (18, (.laload, 1, 0, 0, 0, [])), (19, (.lstore_n 3, 1, 0, 0, 0, [])), (20, (.aload_n 0, 1, 0, 0, 0, [])), (21, (.getfield 152, 3, 11, 72, 3, [(5, 177)]))], [(24, (.bipush 18, 2, 0, 0, 0, [])), (26, (.iload_n 1, 1, 0, 0, 0, [])), (27, (.imul, 1, 0, 0, 0, [])), (28, (.iload_n 2, 1, 0, 0, 0, [])), (29, (.iadd, 1, 0, 0, 0, [])), (30, (.aload_n 0, 1, 0, 0, 0, [])), (31, (.getfield 149, 3, 11, 71, 3, [(5, 176)]))], [(34, (.iload_n 2, 1, 0, 0, 0, [])), (35, (.laload, 1, 0, 0, 0, [])), (36, (.lastore, 1, 0, 0, 0, [])), (37, (.aload_n 0, 1, 0, 0, 0, [])), (38, (.getfield 149, 3, 11, 71, 3, [(5, 176)]))], [(41, (.iload_n 2, 1, 0, 0, 0, [])), (42, (.lload_n 3, 1, 0, 0, 0, [])), (43, (.lastore, 1, 0, 0, 0, [])), (44, (.iinc 2 1, 3, 0, 0, 0, [])), (47, (.goto (-45), 3, 2, 0, 0, []))], [(50, (.return_, 1, 0, 0, 0, []))]])
/-- X11 undo -/
def pd_246 : pm_D := ((yX11_undo, cX11_undo, 1, (some .boolean), 0, 11), [(8, 29), (1, 12)], [[(0, (.aload_n 0, 1, 0, 0, 0, [])), (1, (.getfield 305, 3, 11, 73, 0, [(5, 178)])), (4, (.ifCond .ne 5, 3, 9, 0, 0, [])), (7, (.iconst 0, 1, 0, 0, 0, []))], [(8, (.ireturn, 1, 0, 0, 0, [])), (9, (.aload_n 0, 1, 0, 0, 0, [])), (10, (.dup, 1, 0, 0, 0, [])), (11, (.getfield 305, 3, 11, 73, 0, [(5, 178)])), (14, (.iconst 1, 1, 0, 0, 0, [])), (15, (.isub, 1, 0, 0, 0, []))], [(16, (.putfield 305, 3, 11, 73, 0, [(5, 178)])), (19, (.aload_n 0, 1, 0, 0, 0, [])), (20, (.aload_n 0, 1, 0, 0, 0, [])), (21, (.getfield 305, 3, 11, 73, 0, [(5, 178)]))], [(24, (.invokevirtual 525, 3, 245, 0, 0, [(8, 30), (8, 32), (0, 122)])), (27, (.aload_n 0, 1, 0, 0, 0, [])), (28, (.dup, 1, 0, 0, 0, [])), (29, (.getfield 308, 3, 11, 74, 0, [(5, 179)]))], [(32, (.iconst 1, 1, 0, 0, 0, [])), (33, (.iadd, 1, 0, 0, 0, [])), (34, (.putfield 308, 3, 11, 74, 0, [(5, 179)])), (37, (.iconst 1, 1, 0, 0, 0, [])), (38, (.ireturn, 1, 0, 0, 0, []))]])
/-- X11 redo -/
def pd_247 : pm_D := ((yX11_redo, cX11_redo, 1, (some .boolean), 0, 11), [(8, 37), (1, 12)], [[(0, (.aload_n 0, 1, 0, 0, 0, [])), (1, (.getfield 308, 3, 11, 74, 0, [(5, 179)])), (4, (.ifCond .ne 5, 3, 9, 0, 0, [])), (7, (.iconst 0, 1, 0, 0, 0, []))], [(8, (.ireturn, 1, 0, 0, 0, [])), (9, (.aload_n 0, 1, 0, 0, 0, [])), (10, (.aload_n 0, 1, 0, 0, 0, [])), (11, (.getfield 305, 3, 11, 73, 0, [(5, 178)])), (14, (.invokevirtual 525, 3, 245, 0, 0, [(8, 30), (8, 32), (0, 122)]))], [(17, (.aload_n 0, 1, 0, 0, 0, [])), (18, (.dup, 1, 0, 0, 0, [])), (19, (.getfield 305, 3, 11, 73, 0, [(5, 178)])), (22, (.iconst 1, 1, 0, 0, 0, [])), (23, (.iadd, 1, 0, 0, 0, []))], [(24, (.putfield 305, 3, 11, 73, 0, [(5, 178)])), (27, (.aload_n 0, 1, 0, 0, 0, [])), (28, (.dup, 1, 0, 0, 0, [])), (29, (.getfield 308, 3, 11, 74, 0, [(5, 179)]))], [(32, (.iconst 1, 1, 0, 0, 0, [])), (33, (.isub, 1, 0, 0, 0, [])), (34, (.putfield 308, 3, 11, 74, 0, [(5, 179)])), (37, (.iconst 1, 1, 0, 0, 0, [])), (38, (.ireturn, 1, 0, 0, 0, []))]])
/-- X11 sideIn -/
def pd_248 : pm_D := ((yX11_sideIn, cX11_sideIn, 4, (some .int), 2, 11), [(8, 49), (1, 12)], [[(0, (.iconst 0, 1, 0, 0, 0, [])), (1, (.istore_n 3, 1, 0, 0, 0, [])), (2, (.iload_n 3, 1, 0, 0, 0, [])), (3, (.iconst 3, 1, 0, 0, 0, [])), (4, (.if_icmp .ge 29, 3, 33, 0, 0, [])), (7, (.aload_n 0, 1, 0, 0, 0, []))], [(8, (.getfield 42, 3, 11, 18, 3, [(5, 123)])), (11, (.iconst 3, 1, 0, 0, 0, [])), (12, (.iload_n 1, 1, 0, 0, 0, [])), (13, (.imul, 1, 0, 0, 0, [])), (14, (.iload_n 3, 1, 0, 0, 0, [])), (15, (.iadd, 1, 0, 0, 0, []))], [(16, (.iaload, 1, 0, 0, 0, [])), (17, (.iload_n 2, 1, 0, 0, 0, [])), (18, (.if_icmp .ne 9, 3, 27, 0, 0, [])), (21, (.iconst 3, 1, 0, 0, 0, [])), (22, (.iload_n 1, 1, 0, 0, 0, [])), (23, (.imul, 1, 0, 0, 0, []))], [(24, (.iload_n 3, 1, 0, 0, 0, [])), (25, (.iadd, 1, 0, 0, 0, [])), (26, (.ireturn, 1, 0, 0, 0, [])), (27, (.iinc 3 1, 3, 0, 0, 0, [])), (30, (.goto (-28), 3, 2, 0, 0, []))], [(33, (.iconst (-1), 1, 0, 0, 0, [])), (34, (.ireturn, 1, 0, 0, 0, []))]])
/-- X11 readSketch -/
def pd_249 : pm_D := ((yX11_readSketch, cX11_readSketch, 6, (some .boolean), 1, 11), [(8, 45), (1, 12)], [[(0, (.aload_n 0, 1, 0, 0, 0, [])), (1, (.iconst 0, 1, 0, 0, 0, [])), (2, (.putfield 528, 3, 11, 76, 0, [(5, 181)])), (5, (.iload_n 1, 1, 0, 0, 0, [])), (6, (.ifCond .ne 7, 3, 13, 0, 0, []))], [(9, (.iconst (-1), 1, 0, 0, 0, [])), (10, (.goto 12, 3, 22, 0, 0, [])), (13, (.aload_n 0, 1, 0, 0, 0, [])), (14, (.getfield 7, 3, 11, 0, 3, [(5, 105)]))], [(17, (.iconst 0, 1, 0, 0, 0, [])), (18, (.iaload, 1, 0, 0, 0, [])), (19, (.bipush 48, 2, 0, 0, 0, [])), (21, (.isub, 1, 0, 0, 0, [])), (22, (.istore_n 2, 1, 0, 0, 0, [])), (23, (.iload_n 2, 1, 0, 0, 0, []))], [(24, (.istore_n 3, 1, 0, 0, 0, [])), (25, (.iload_n 2, 1, 0, 0, 0, [])), (26, (.ifCond .lt 11, 3, 37, 0, 0, [])), (29, (.iload_n 2, 1, 0, 0, 0, [])), (30, (.aload_n 0, 1, 0, 0, 0, [])), (31, (.getfield 237, 3, 11, 26, 0, [(5, 131)]))], [(34, (.if_icmp .lt 5, 3, 39, 0, 0, [])), (37, (.iconst 0, 1, 0, 0, 0, [])), (38, (.ireturn, 1, 0, 0, 0, [])), (39, (.iconst 1, 1, 0, 0, 0, []))], [(40, (.istore 4, 2, 0, 0, 0, [])), (42, (.iload 4, 2, 0, 0, 0, [])), (44, (.iload_n 1, 1, 0, 0, 0, [])), (45, (.if_icmp .ge 64, 3, 109, 0, 0, []))], [(48, (.aload_n 0, 1, 0, 0, 0, [])), (49, (.iload_n 2, 1, 0, 0, 0, [])), (50, (.aload_n 0, 1, 0, 0, 0, [])), (51, (.getfield 7, 3, 11, 0, 3, [(5, 105)])), (54, (.iload 4, 2, 0, 0, 0, []))], [(56, (.iaload, 1, 0, 0, 0, [])), (57, (.bipush 97, 2, 0, 0, 0, [])), (59, (.isub, 1, 0, 0, 0, [])), (60, (.invokevirtual 531, 3, 248, 0, 0, [(8, 46), (8, 48), (0, 124)])), (63, (.istore 5, 2, 0, 0, 0, []))], [(65, (.iload 5, 2, 0, 0, 0, [])), (67, (.ifCond .ge 5, 3, 72, 0, 0, [])), (70, (.iconst 0, 1, 0, 0, 0, [])), (71, (.ireturn, 1, 0, 0, 0, []))], [(72, (.aload_n 0, 1, 0, 0, 0, [])), (73, (.getfield 155, 3, 11, 75, 3, [(5, 180)])), (76, (.aload_n 0, 1, 0, 0, 0, [])), (77, (.getfield 528, 3, 11, 76, 0, [(5, 181)]))], [(80, (.iload 5, 2, 0, 0, 0, [])), (82, (.iastore, 1, 0, 0, 0, [])), (83, (.aload_n 0, 1, 0, 0, 0, [])), (84, (.dup, 1, 0, 0, 0, [])), (85, (.getfield 528, 3, 11, 76, 0, [(5, 181)]))], [(88, (.iconst 1, 1, 0, 0, 0, [])), (89, (.iadd, 1, 0, 0, 0, [])), (90, (.putfield 528, 3, 11, 76, 0, [(5, 181)])), (93, (.aload_n 0, 1, 0, 0, 0, [])), (94, (.getfield 57, 3, 11, 29, 3, [(5, 134)]))], [(97, (.iload 5, 2, 0, 0, 0, [])), (99, (.iaload, 1, 0, 0, 0, [])), (100, (.iconst 3, 1, 0, 0, 0, [])), (101, (.idiv, 1, 0, 0, 0, [])), (102, (.istore_n 2, 1, 0, 0, 0, [])), (103, (.iinc 4 1, 3, 0, 0, 0, []))], [(106, (.goto (-64), 3, 42, 0, 0, [])), (109, (.iload_n 2, 1, 0, 0, 0, [])), (110, (.iload_n 3, 1, 0, 0, 0, [])), (111, (.if_icmp .ne 7, 3, 118, 0, 0, []))], [(114, (.iconst 1, 1, 0, 0, 0, [])), (115, (.goto 4, 3, 119, 0, 0, [])), (118, (.iconst 0, 1, 0, 0, 0, [])), (119, (.ireturn, 1, 0, 0, 0, []))]])
/-- X11 leaveOut -/
def pd_250 : pm_D := ((yX11_leaveOut, cX11_leaveOut, 3, none, 0, 11), [(8, 53), (1, 12)], [[(0, (.iconst 0, 1, 0, 0, 0, [])), (1, (.istore_n 1, 1, 0, 0, 0, [])), (2, (.iconst 0, 1, 0, 0, 0, [])), (3, (.istore_n 2, 1, 0, 0, 0, [])), (4, (.iload_n 2, 1, 0, 0, 0, [])), (5, (.aload_n 0, 1, 0, 0, 0, [])), (6, (.getfield 528, 3, 11, 76, 0, [(5, 181)]))], [(9, (.if_icmp .ge 56, 3, 65, 0, 0, [])), (12, (.iload_n 1, 1, 0, 0, 0, [])), (13, (.ifCond .le 31, 3, 44, 0, 0, []))], [(16, (.aload_n 0, 1, 0, 0, 0, [])), (17, (.getfield 155, 3, 11, 75, 3, [(5, 180)])), (20, (.iload_n 2, 1, 0, 0, 0, [])), (21, (.iaload, 1, 0, 0, 0, [])), (22, (.aload_n 0, 1, 0, 0, 0, [])), (23, (.getfield 57, 3, 11, 29, 3, [(5, 134)]))], [(26, (.aload_n 0, 1, 0, 0, 0, [])), (27, (.getfield 155, 3, 11, 75, 3, [(5, 180)])), (30, (.iload_n 1, 1, 0, 0, 0, [])), (31, (.iconst 1, 1, 0, 0, 0, []))], [(32, (.isub, 1, 0, 0, 0, [])), (33, (.iaload, 1, 0, 0, 0, [])), (34, (.iaload, 1, 0, 0, 0, [])), (35, (.if_icmp .ne 9, 3, 44, 0, 0, [])), (38, (.iinc 1 (-1), 3, 0, 0, 0, []))], [(41, (.goto 18, 3, 59, 0, 0, [])), (44, (.aload_n 0, 1, 0, 0, 0, [])), (45, (.getfield 155, 3, 11, 75, 3, [(5, 180)]))], [(48, (.iload_n 1, 1, 0, 0, 0, [])), (49, (.aload_n 0, 1, 0, 0, 0, [])), (50, (.getfield 155, 3, 11, 75, 3, [(5, 180)])), (53, (.iload_n 2, 1, 0, 0, 0, [])), (54, (.iaload, 1, 0, 0, 0, [])), (55, (.iastore, 1, 0, 0, 0, []))], [(56, (.iinc 1 1, 3, 0, 0, 0, [])), (59, (.iinc 2 1, 3, 0, 0, 0, [])), (62, (.goto (-58), 3, 4, 0, 0, []))], [(65, (.aload_n 0, 1, 0, 0, 0, [])), (66, (.iconst 0, 1, 0, 0, 0, [])), (67, (.putfield 534, 3, 11, 77, 0, [(5, 182)])), (70, (.iload_n 1, 1, 0, 0, 0, [])), (71, (.aload_n 0, 1, 0, 0, 0, []))], [(72, (.getfield 534, 3, 11, 77, 0, [(5, 182)])), (75, (.isub, 1, 0, 0, 0, [])), (76, (.iconst 1, 1, 0, 0, 0, [])), (77, (.if_icmp .le 44, 3, 121, 0, 0, []))], [(80, (.aload_n 0, 1, 0, 0, 0, [])), (81, (.getfield 155, 3, 11, 75, 3, [(5, 180)])), (84, (.iload_n 1, 1, 0, 0, 0, [])), (85, (.iconst 1, 1, 0, 0, 0, [])), (86, (.isub, 1, 0, 0, 0, [])), (87, (.iaload, 1, 0, 0, 0, []))], [(88, (.aload_n 0, 1, 0, 0, 0, [])), (89, (.getfield 57, 3, 11, 29, 3, [(5, 134)])), (92, (.aload_n 0, 1, 0, 0, 0, [])), (93, (.getfield 155, 3, 11, 75, 3, [(5, 180)]))], [(96, (.aload_n 0, 1, 0, 0, 0, [])), (97, (.getfield 534, 3, 11, 77, 0, [(5, 182)])), (100, (.iaload, 1, 0, 0, 0, [])), (101, (.iaload, 1, 0, 0, 0, [])), (102, (.if_icmp .ne 19, 3, 121, 0, 0, []))], [(105, (.iinc 1 (-1), 3, 0, 0, 0, [])), (108, (.aload_n 0, 1, 0, 0, 0, [])), (109, (.dup, 1, 0, 0, 0, [])), (110, (.getfield 534, 3, 11, 77, 0, [(5, 182)]))], [(113, (.iconst 1, 1, 0, 0, 0, [])), (114, (.iadd, 1, 0, 0, 0, [])), (115, (.putfield 534, 3, 11, 77, 0, [(5, 182)])), (118, (.goto (-48), 3, 70, 0, 0, []))], [(121, (.aload_n 0, 1, 0, 0, 0, [])), (122, (.iload_n 1, 1, 0, 0, 0, [])), (123, (.aload_n 0, 1, 0, 0, 0, [])), (124, (.getfield 534, 3, 11, 77, 0, [(5, 182)])), (127, (.isub, 1, 0, 0, 0, []))], [(128, (.putfield 528, 3, 11, 76, 0, [(5, 181)])), (131, (.return_, 1, 0, 0, 0, []))]])
/-- X11 isPath -/
def pd_251 : pm_D := ((yX11_isPath, cX11_isPath, 5, (some .boolean), 2, 11), [(8, 61), (1, 12)], [[(0, (.iconst 0, 1, 0, 0, 0, [])), (1, (.istore_n 3, 1, 0, 0, 0, [])), (2, (.iload_n 3, 1, 0, 0, 0, [])), (3, (.aload_n 0, 1, 0, 0, 0, [])), (4, (.getfield 528, 3, 11, 76, 0, [(5, 181)])), (7, (.if_icmp .ge 72, 3, 79, 0, 0, []))], [(10, (.iload_n 2, 1, 0, 0, 0, [])), (11, (.ifCond .eq 29, 3, 40, 0, 0, [])), (14, (.aload_n 0, 1, 0, 0, 0, [])), (15, (.getfield 57, 3, 11, 29, 3, [(5, 134)]))], [(18, (.aload_n 0, 1, 0, 0, 0, [])), (19, (.getfield 76, 3, 11, 41, 3, [(5, 146)])), (22, (.iload_n 1, 1, 0, 0, 0, [])), (23, (.aload_n 0, 1, 0, 0, 0, []))], [(24, (.getfield 528, 3, 11, 76, 0, [(5, 181)])), (27, (.iadd, 1, 0, 0, 0, [])), (28, (.iload_n 3, 1, 0, 0, 0, [])), (29, (.isub, 1, 0, 0, 0, [])), (30, (.aload_n 0, 1, 0, 0, 0, [])), (31, (.getfield 528, 3, 11, 76, 0, [(5, 181)]))], [(34, (.irem, 1, 0, 0, 0, [])), (35, (.iaload, 1, 0, 0, 0, [])), (36, (.iaload, 1, 0, 0, 0, [])), (37, (.goto 16, 3, 53, 0, 0, []))], [(40, (.aload_n 0, 1, 0, 0, 0, [])), (41, (.getfield 76, 3, 11, 41, 3, [(5, 146)])), (44, (.iload_n 1, 1, 0, 0, 0, [])), (45, (.iload_n 3, 1, 0, 0, 0, [])), (46, (.iadd, 1, 0, 0, 0, [])), (47, (.aload_n 0, 1, 0, 0, 0, []))], [(48, (.getfield 528, 3, 11, 76, 0, [(5, 181)])), (51, (.irem, 1, 0, 0, 0, [])), (52, (.iaload, 1, 0, 0, 0, [])), (53, (.istore 4, 2, 0, 0, 0, [])), (55, (.aload_n 0, 1, 0, 0, 0, []))], [(56, (.getfield 155, 3, 11, 75, 3, [(5, 180)])), (59, (.aload_n 0, 1, 0, 0, 0, [])), (60, (.getfield 534, 3, 11, 77, 0, [(5, 182)])), (63, (.iload_n 3, 1, 0, 0, 0, []))], [(64, (.iadd, 1, 0, 0, 0, [])), (65, (.iaload, 1, 0, 0, 0, [])), (66, (.iload 4, 2, 0, 0, 0, [])), (68, (.if_icmp .eq 5, 3, 73, 0, 0, [])), (71, (.iconst 0, 1, 0, 0, 0, []))], [(72, (.ireturn, 1, 0, 0, 0, [])), (73, (.iinc 3 1, 3, 0, 0, 0, [])), (76, (.goto (-74), 3, 2, 0, 0, [])), (79, (.iconst 1, 1, 0, 0, 0, []))], [(80, (.ireturn, 1, 0, 0, 0, []))]])
/-- X11 isTrue -/
def pd_252 : pm_D := ((yX11_isTrue, cX11_isTrue, 4, (some .boolean), 0, 11), [(8, 57), (1, 12)], [[(0, (.aload_n 0, 1, 0, 0, 0, [])), (1, (.getfield 528, 3, 11, 76, 0, [(5, 181)])), (4, (.ifCond .ne 5, 3, 9, 0, 0, [])), (7, (.iconst 0, 1, 0, 0, 0, []))], [(8, (.ireturn, 1, 0, 0, 0, [])), (9, (.iconst 0, 1, 0, 0, 0, [])), (10, (.istore_n 1, 1, 0, 0, 0, [])), (11, (.iload_n 1, 1, 0, 0, 0, [])), (12, (.bipush 18, 2, 0, 0, 0, [])), (14, (.if_icmp .ge 16, 3, 30, 0, 0, []))], [(17, (.aload_n 0, 1, 0, 0, 0, [])), (18, (.getfield 146, 3, 11, 69, 3, [(5, 174)])), (21, (.iload_n 1, 1, 0, 0, 0, [])), (22, (.iconst 0, 1, 0, 0, 0, [])), (23, (.iastore, 1, 0, 0, 0, []))], [(24, (.iinc 1 1, 3, 0, 0, 0, [])), (27, (.goto (-16), 3, 11, 0, 0, [])), (30, (.iconst 0, 1, 0, 0, 0, [])), (31, (.istore_n 1, 1, 0, 0, 0, []))], [(32, (.iload_n 1, 1, 0, 0, 0, [])), (33, (.aload_n 0, 1, 0, 0, 0, [])), (34, (.getfield 528, 3, 11, 76, 0, [(5, 181)])), (37, (.if_icmp .ge 34, 3, 71, 0, 0, []))], [(40, (.aload_n 0, 1, 0, 0, 0, [])), (41, (.getfield 146, 3, 11, 69, 3, [(5, 174)])), (44, (.aload_n 0, 1, 0, 0, 0, [])), (45, (.getfield 42, 3, 11, 18, 3, [(5, 123)]))], [(48, (.aload_n 0, 1, 0, 0, 0, [])), (49, (.getfield 155, 3, 11, 75, 3, [(5, 180)])), (52, (.aload_n 0, 1, 0, 0, 0, [])), (53, (.getfield 534, 3, 11, 77, 0, [(5, 182)]))], [(56, (.iload_n 1, 1, 0, 0, 0, [])), (57, (.iadd, 1, 0, 0, 0, [])), (58, (.iaload, 1, 0, 0, 0, [])), (59, (.iaload, 1, 0, 0, 0, [])), (60, (.dup2, 1, 0, 0, 0, [])), (61, (.iaload, 1, 0, 0, 0, [])), (62, (.iconst 1, 1, 0, 0, 0, [])), (63, (.iadd, 1, 0, 0, 0, []))], [(64, (.iastore, 1, 0, 0, 0, [])), (65, (.iinc 1 1, 3, 0, 0, 0, [])), (68, (.goto (-36), 3, 32, 0, 0, [])), (71, (.aload_n 0, 1, 0, 0, 0, []))], [(72, (.invokevirtual 498, 3, 231, 0, 0, [(7, 214), (7, 216), (0, 113)])), (75, (.ifCond .ne 5, 3, 80, 0, 0, [])), (78, (.iconst 0, 1, 0, 0, 0, [])), (79, (.ireturn, 1, 0, 0, 0, []))], [(80, (.iconst 0, 1, 0, 0, 0, [])), (81, (.istore_n 1, 1, 0, 0, 0, [])), (82, (.iload_n 1, 1, 0, 0, 0, [])), (83, (.bipush 18, 2, 0, 0, 0, [])), (85, (.if_icmp .ge 34, 3, 119, 0, 0, []))], [(88, (.aload_n 0, 1, 0, 0, 0, [])), (89, (.getfield 158, 3, 11, 78, 3, [(5, 183)])), (92, (.iload_n 1, 1, 0, 0, 0, [])), (93, (.aload_n 0, 1, 0, 0, 0, [])), (94, (.getfield 149, 3, 11, 71, 3, [(5, 176)]))], [(97, (.iload_n 1, 1, 0, 0, 0, [])), (98, (.laload, 1, 0, 0, 0, [])), (99, (.lastore, 1, 0, 0, 0, [])), (100, (.aload_n 0, 1, 0, 0, 0, [])), (101, (.getfield 149, 3, 11, 71, 3, [(5, 176)]))], [(104, (.iload_n 1, 1, 0, 0, 0, [])), (105, (.aload_n 0, 1, 0, 0, 0, [])), (106, (.getfield 146, 3, 11, 69, 3, [(5, 174)])), (109, (.iload_n 1, 1, 0, 0, 0, [])), (110, (.iaload, 1, 0, 0, 0, [])), (111, (.i2l, 1, 0, 0, 0, []))], [(112, (.lastore, 1, 0, 0, 0, [])), (113, (.iinc 1 1, 3, 0, 0, 0, [])), (116, (.goto (-34), 3, 82, 0, 0, [])), (119, (.aload_n 0, 1, 0, 0, 0, []))], [(120, (.iconst (-1), 1, 0, 0, 0, [])), (121, (.invokevirtual 398, 3, 190, 0, 0, [(6, 220), (6, 222), (0, 75)])), (124, (.istore_n 1, 1, 0, 0, 0, [])), (125, (.iload_n 1, 1, 0, 0, 0, [])), (126, (.ifCond .eq 8, 3, 134, 0, 0, []))], [(129, (.aload_n 0, 1, 0, 0, 0, [])), (130, (.iconst (-1), 1, 0, 0, 0, [])), (131, (.invokevirtual 383, 3, 193, 0, 0, [(7, 81), (7, 83), (0, 94)])), (134, (.iconst 0, 1, 0, 0, 0, [])), (135, (.istore_n 2, 1, 0, 0, 0, []))], [(136, (.iload_n 2, 1, 0, 0, 0, [])), (137, (.bipush 18, 2, 0, 0, 0, [])), (139, (.if_icmp .ge 21, 3, 160, 0, 0, [])), (142, (.aload_n 0, 1, 0, 0, 0, [])), (143, (.getfield 149, 3, 11, 71, 3, [(5, 176)]))], [(146, (.iload_n 2, 1, 0, 0, 0, [])), (147, (.aload_n 0, 1, 0, 0, 0, [])), (148, (.getfield 158, 3, 11, 78, 3, [(5, 183)])), (151, (.iload_n 2, 1, 0, 0, 0, []))], [(152, (.laload, 1, 0, 0, 0, [])), (153, (.lastore, 1, 0, 0, 0, [])), (154, (.iinc 2 1, 3, 0, 0, 0, [])), (157, (.goto (-21), 3, 136, 0, 0, []))], [(160, (.iload_n 1, 1, 0, 0, 0, [])), (161, (.ifCond .eq 18, 3, 179, 0, 0, [])), (164, (.aload_n 0, 1, 0, 0, 0, [])), (165, (.getfield 380, 3, 11, 42, 0, [(5, 147)]))], [(168, (.aload_n 0, 1, 0, 0, 0, [])), (169, (.getfield 528, 3, 11, 76, 0, [(5, 181)])), (172, (.if_icmp .ne 7, 3, 179, 0, 0, [])), (175, (.iconst 1, 1, 0, 0, 0, []))], [(176, (.goto 4, 3, 180, 0, 0, [])), (179, (.iconst 0, 1, 0, 0, 0, [])), (180, (.istore_n 1, 1, 0, 0, 0, [])), (181, (.iconst 0, 1, 0, 0, 0, [])), (182, (.istore_n 2, 1, 0, 0, 0, [])), (183, (.iconst 0, 1, 0, 0, 0, []))], [(184, (.istore_n 3, 1, 0, 0, 0, [])), (185, (.iload_n 3, 1, 0, 0, 0, [])), (186, (.aload_n 0, 1, 0, 0, 0, [])), (187, (.getfield 528, 3, 11, 76, 0, [(5, 181)])), (190, (.if_icmp .ge 41, 3, 231, 0, 0, []))], [(193, (.iload_n 1, 1, 0, 0, 0, [])), (194, (.ifCond .eq 37, 3, 231, 0, 0, [])), (197, (.iload_n 2, 1, 0, 0, 0, [])), (198, (.ifCond .ne 33, 3, 231, 0, 0, []))], [(201, (.aload_n 0, 1, 0, 0, 0, [])), (202, (.iload_n 3, 1, 0, 0, 0, [])), (203, (.iconst 0, 1, 0, 0, 0, [])), (204, (.invokevirtual 537, 3, 251, 0, 0, [(8, 58), (8, 60), (0, 127)])), (207, (.ifCond .ne 12, 3, 219, 0, 0, []))], [(210, (.aload_n 0, 1, 0, 0, 0, [])), (211, (.iload_n 3, 1, 0, 0, 0, [])), (212, (.iconst 1, 1, 0, 0, 0, [])), (213, (.invokevirtual 537, 3, 251, 0, 0, [(8, 58), (8, 60), (0, 127)]))], [(216, (.ifCond .eq 7, 3, 223, 0, 0, [])), (219, (.iconst 1, 1, 0, 0, 0, [])), (220, (.goto 4, 3, 224, 0, 0, [])), (223, (.iconst 0, 1, 0, 0, 0, []))], [(224, (.istore_n 2, 1, 0, 0, 0, [])), (225, (.iinc 3 1, 3, 0, 0, 0, [])), (228, (.goto (-43), 3, 185, 0, 0, [])), (231, (.iload_n 2, 1, 0, 0, 0, []))], [(232, (.ireturn, 1, 0, 0, 0, []))]])
/-- X11 sketch -/
def pd_253 : pm_D := ((yX11_sketch, cX11_sketch, 2, (some .int), 0, 11), [(8, 41), (1, 12)], [[(0, (.aload_n 0, 1, 0, 0, 0, [])), (1, (.getfield 170, 3, 11, 1, 0, [(5, 106)])), (4, (.istore_n 1, 1, 0, 0, 0, [])), (5, (.aload_n 0, 1, 0, 0, 0, [])), (6, (.iconst 0, 1, 0, 0, 0, [])), (7, (.putfield 170, 3, 11, 1, 0, [(5, 106)]))], [(10, (.aload_n 0, 1, 0, 0, 0, [])), (11, (.iconst 0, 1, 0, 0, 0, [])), (12, (.putfield 311, 3, 11, 70, 2, [(5, 175)])), (15, (.aload_n 0, 1, 0, 0, 0, []))], [(16, (.iload_n 1, 1, 0, 0, 0, [])), (17, (.invokevirtual 541, 3, 249, 0, 0, [(8, 42), (8, 44), (0, 123)])), (20, (.ifCond .ne 5, 3, 25, 0, 0, [])), (23, (.iconst (-1), 1, 0, 0, 0, []))], [(24, (.ireturn, 1, 0, 0, 0, [])), (25, (.aload_n 0, 1, 0, 0, 0, [])), (26, (.invokevirtual 544, 3, 250, 0, 0, [(8, 50), (8, 52), (0, 125)])), (29, (.aload_n 0, 1, 0, 0, 0, [])), (30, (.invokevirtual 547, 3, 252, 0, 0, [(8, 54), (8, 56), (0, 126)]))], [(33, (.ifCond .ne 6, 3, 39, 0, 0, [])), (36, (.bipush (-2), 2, 0, 0, 0, [])), (38, (.ireturn, 1, 0, 0, 0, [])), (39, (.aload_n 0, 1, 0, 0, 0, []))], [(40, (.invokevirtual 507, 3, 236, 0, 0, [(7, 226), (7, 228), (0, 116)])), (43, (.aload_n 0, 1, 0, 0, 0, [])), (44, (.getfield 528, 3, 11, 76, 0, [(5, 181)])), (47, (.ireturn, 1, 0, 0, 0, []))]])
/-- X11 isBox -/
def pd_254 : pm_D := ((yX11_isBox, cX11_isBox, 1, (some .boolean), 1, 11), [(8, 68), (1, 12)], [[(0, (.iload_n 0, 1, 0, 0, 0, [])), (1, (.ifCond .lt 12, 3, 13, 0, 0, [])), (4, (.iload_n 0, 1, 0, 0, 0, [])), (5, (.iconst 3, 1, 0, 0, 0, [])), (6, (.if_icmp .ge 7, 3, 13, 0, 0, []))], [(9, (.iconst 1, 1, 0, 0, 0, [])), (10, (.goto 4, 3, 14, 0, 0, [])), (13, (.iconst 0, 1, 0, 0, 0, [])), (14, (.ireturn, 1, 0, 0, 0, []))]])
/-- X11 image -/
def pd_255 : pm_D := ((yX11_image, cX11_image, 3, (some .long), 1, 11), [(8, 65), (1, 12)], [[(0, (.iload_n 1, 1, 0, 0, 0, [])), (1, (.invokestatic 550, 3, 254, 0, 0, [(8, 66), (8, 67)])), (4, (.ifCond .ne 7, 3, 11, 0, 0, [])), (7, (.ldc2_w 447, 3, 0, 0, (-1), [(7, 97)]))], [(10, (.lreturn, 1, 0, 0, 0, [])), (11, (.aload_n 0, 1, 0, 0, 0, [])), (12, (.getfield 161, 3, 11, 79, 3, [(5, 184)])), (15, (.iload_n 1, 1, 0, 0, 0, []))], [(16, (.iconst 1, 1, 0, 0, 0, [])), (17, (.bastore, 1, 0, 0, 0, [])), (18, (.iconst 0, 1, 0, 0, 0, [])), (19, (.istore_n 2, 1, 0, 0, 0, [])), (20, (.iload_n 2, 1, 0, 0, 0, [])), (21, (.bipush 18, 2, 0, 0, 0, [])), (23, (.if_icmp .ge 26, 3, 49, 0, 0, []))], [(26, (.aload_n 0, 1, 0, 0, 0, [])), (27, (.getfield 164, 3, 11, 80, 3, [(5, 185)])), (30, (.bipush 18, 2, 0, 0, 0, []))], [(32, (.iload_n 1, 1, 0, 0, 0, [])), (33, (.imul, 1, 0, 0, 0, [])), (34, (.iload_n 2, 1, 0, 0, 0, [])), (35, (.iadd, 1, 0, 0, 0, [])), (36, (.aload_n 0, 1, 0, 0, 0, [])), (37, (.getfield 149, 3, 11, 71, 3, [(5, 176)]))], [(40, (.iload_n 2, 1, 0, 0, 0, [])), (41, (.laload, 1, 0, 0, 0, [])), (42, (.lastore, 1, 0, 0, 0, [])), (43, (.iinc 2 1, 3, 0, 0, 0, [])), (46, (.goto (-26), 3, 20, 0, 0, []))], [(49, (.aload_n 0, 1, 0, 0, 0, [])), (50, (.invokevirtual 519, 3, 239, 0, 0, [(8, 14), (8, 16), (0, 121)])), (53, (.lreturn, 1, 0, 0, 0, []))]])
/-- X11 back -/
def pd_256 : pm_D := ((yX11_back, cX11_back, 3, (some .long), 1, 11), [(8, 72), (1, 12)], [[(0, (.iload_n 1, 1, 0, 0, 0, [])), (1, (.invokestatic 550, 3, 254, 0, 0, [(8, 66), (8, 67)])), (4, (.ifCond .eq 12, 3, 16, 0, 0, [])), (7, (.aload_n 0, 1, 0, 0, 0, []))], [(8, (.getfield 161, 3, 11, 79, 3, [(5, 184)])), (11, (.iload_n 1, 1, 0, 0, 0, [])), (12, (.baload, 1, 0, 0, 0, [])), (13, (.ifCond .ne 7, 3, 20, 0, 0, []))], [(16, (.ldc2_w 447, 3, 0, 0, (-1), [(7, 97)])), (19, (.lreturn, 1, 0, 0, 0, [])), (20, (.iconst 0, 1, 0, 0, 0, [])), (21, (.istore_n 2, 1, 0, 0, 0, [])), (22, (.iload_n 2, 1, 0, 0, 0, [])), (23, (.bipush 18, 2, 0, 0, 0, []))], [(25, (.if_icmp .ge 26, 3, 51, 0, 0, [])), (28, (.aload_n 0, 1, 0, 0, 0, [])), (29, (.getfield 149, 3, 11, 71, 3, [(5, 176)]))], [(32, (.iload_n 2, 1, 0, 0, 0, [])), (33, (.aload_n 0, 1, 0, 0, 0, [])), (34, (.getfield 164, 3, 11, 80, 3, [(5, 185)])), (37, (.bipush 18, 2, 0, 0, 0, [])), (39, (.iload_n 1, 1, 0, 0, 0, []))], [(40, (.imul, 1, 0, 0, 0, [])), (41, (.iload_n 2, 1, 0, 0, 0, [])), (42, (.iadd, 1, 0, 0, 0, [])), (43, (.laload, 1, 0, 0, 0, [])), (44, (.lastore, 1, 0, 0, 0, [])), (45, (.iinc 2 1, 3, 0, 0, 0, []))], [(48, (.goto (-26), 3, 22, 0, 0, [])), (51, (.aload_n 0, 1, 0, 0, 0, [])), (52, (.iconst 0, 1, 0, 0, 0, [])), (53, (.putfield 305, 3, 11, 73, 0, [(5, 178)]))], [(56, (.aload_n 0, 1, 0, 0, 0, [])), (57, (.iconst 0, 1, 0, 0, 0, [])), (58, (.putfield 308, 3, 11, 74, 0, [(5, 179)])), (61, (.aload_n 0, 1, 0, 0, 0, [])), (62, (.invokevirtual 519, 3, 239, 0, 0, [(8, 14), (8, 16), (0, 121)]))], [(65, (.lreturn, 1, 0, 0, 0, []))]])
/-- X11 about -/
def pd_257 : pm_D := ((yX11_about, cX11_about, 2, (some .int), 1, 11), [(8, 76), (1, 12)], [[(0, (.iload_n 1, 1, 0, 0, 0, [])), (1, (.tableswitch 110 0 8 #[51, 56, 61, 66, 85, 90, 95, 100, 105], 51, 0, 0, 0, []))], [], [], [], [], [], [(52, (.aload_n 0, 1, 0, 0, 0, [])), (53, (.getfield 237, 3, 11, 26, 0, [(5, 131)]))], [(56, (.ireturn, 1, 0, 0, 0, [])), (57, (.aload_n 0, 1, 0, 0, 0, [])), (58, (.invokevirtual 315, 3, 161, 0, 0, [(6, 228), (6, 230), (0, 77)])), (61, (.ireturn, 1, 0, 0, 0, [])), (62, (.aload_n 0, 1, 0, 0, 0, [])), (63, (.getfield 318, 3, 11, 32, 0, [(5, 137)]))], [(66, (.ireturn, 1, 0, 0, 0, [])), (67, (.iconst 2, 1, 0, 0, 0, [])), (68, (.aload_n 0, 1, 0, 0, 0, [])), (69, (.getfield 318, 3, 11, 32, 0, [(5, 137)]))], [(72, (.isub, 1, 0, 0, 0, [])), (73, (.aload_n 0, 1, 0, 0, 0, [])), (74, (.invokevirtual 315, 3, 161, 0, 0, [(6, 228), (6, 230), (0, 77)])), (77, (.iadd, 1, 0, 0, 0, [])), (78, (.aload_n 0, 1, 0, 0, 0, [])), (79, (.getfield 237, 3, 11, 26, 0, [(5, 131)]))], [(82, (.isub, 1, 0, 0, 0, [])), (83, (.iconst 2, 1, 0, 0, 0, [])), (84, (.idiv, 1, 0, 0, 0, [])), (85, (.ireturn, 1, 0, 0, 0, [])), (86, (.aload_n 0, 1, 0, 0, 0, [])), (87, (.getfield 293, 3, 11, 27, 0, [(5, 132)]))], [(90, (.ireturn, 1, 0, 0, 0, [])), (91, (.aload_n 0, 1, 0, 0, 0, [])), (92, (.getfield 296, 3, 11, 28, 0, [(5, 133)])), (95, (.ireturn, 1, 0, 0, 0, []))], [(96, (.aload_n 0, 1, 0, 0, 0, [])), (97, (.getfield 305, 3, 11, 73, 0, [(5, 178)])), (100, (.ireturn, 1, 0, 0, 0, [])), (101, (.aload_n 0, 1, 0, 0, 0, [])), (102, (.getfield 308, 3, 11, 74, 0, [(5, 179)]))], [(105, (.ireturn, 1, 0, 0, 0, [])), (106, (.aload_n 0, 1, 0, 0, 0, [])), (107, (.getfield 170, 3, 11, 1, 0, [(5, 106)])), (110, (.ireturn, 1, 0, 0, 0, [])), (111, (.iconst (-1), 1, 0, 0, 0, []))], [(112, (.ireturn, 1, 0, 0, 0, []))]])
/-- J9 floorMod_f86c9 -/
def pd_258 : pm_D := ((yJ9_floorMod_f86c9, cJ9_floorMod_f86c9, 6, (some .long), 2, 99), [(4, 201), (1, 13)], [[(0, (.lload_n 0, 1, 0, 0, 0, [])), (1, (.lload_n 2, 1, 0, 0, 0, [])), (2, (.lrem, 1, 0, 0, 0, [])), (3, (.lstore 4, 2, 0, 0, 0, [])), (5, (.lload_n 0, 1, 0, 0, 0, [])), (6, (.lload_n 2, 1, 0, 0, 0, [])), (7, (.lxor, 1, 0, 0, 0, []))], [(8, (.lconst 0, 1, 0, 0, 0, [])), (9, (.lcmp, 1, 0, 0, 0, [])), (10, (.ifCond .ge 15, 3, 25, 0, 0, [])), (13, (.lload 4, 2, 0, 0, 0, [])), (15, (.lconst 0, 1, 0, 0, 0, []))], [(16, (.lcmp, 1, 0, 0, 0, [])), (17, (.ifCond .eq 8, 3, 25, 0, 0, [])), (20, (.lload 4, 2, 0, 0, 0, [])), (22, (.lload_n 2, 1, 0, 0, 0, [])), (23, (.ladd, 1, 0, 0, 0, []))], [(24, (.lreturn, 1, 0, 0, 0, [])), (25, (.lload 4, 2, 0, 0, 0, [])), (27, (.lreturn, 1, 0, 0, 0, []))]])
/-- J9 abs_0f7a4 -/
def pd_259 : pm_D := ((yJ9_abs_0f7a4, cJ9_abs_0f7a4, 1, (some .int), 1, 99), [(4, 125), (1, 13)], [[(0, (.iload_n 0, 1, 0, 0, 0, [])), (1, (.ifCond .ge 8, 3, 9, 0, 0, [])), (4, (.iload_n 0, 1, 0, 0, 0, [])), (5, (.ineg, 1, 0, 0, 0, [])), (6, (.goto 4, 3, 10, 0, 0, []))], [(9, (.iload_n 0, 1, 0, 0, 0, [])), (10, (.ireturn, 1, 0, 0, 0, []))]])
/-- J9 abs_067f4 -/
def pd_260 : pm_D := ((yJ9_abs_067f4, cJ9_abs_067f4, 2, (some .long), 1, 99), [(4, 86), (1, 13)], [[(0, (.lload_n 0, 1, 0, 0, 0, [])), (1, (.lconst 0, 1, 0, 0, 0, [])), (2, (.lcmp, 1, 0, 0, 0, [])), (3, (.ifCond .ge 8, 3, 11, 0, 0, [])), (6, (.lload_n 0, 1, 0, 0, 0, [])), (7, (.lneg, 1, 0, 0, 0, []))], [(8, (.goto 4, 3, 12, 0, 0, [])), (11, (.lload_n 0, 1, 0, 0, 0, [])), (12, (.lreturn, 1, 0, 0, 0, []))]])
/-- J9 max_7cf53 -/
def pd_261 : pm_D := ((yJ9_max_7cf53, cJ9_max_7cf53, 2, (some .int), 2, 99), [(4, 232), (1, 13)], [[(0, (.iload_n 0, 1, 0, 0, 0, [])), (1, (.iload_n 1, 1, 0, 0, 0, [])), (2, (.if_icmp .lt 7, 3, 9, 0, 0, [])), (5, (.iload_n 0, 1, 0, 0, 0, [])), (6, (.goto 4, 3, 10, 0, 0, []))], [(9, (.iload_n 1, 1, 0, 0, 0, [])), (10, (.ireturn, 1, 0, 0, 0, []))]])
/-- J9 max_f86c9 -/
def pd_262 : pm_D := ((yJ9_max_f86c9, cJ9_max_f86c9, 4, (some .long), 2, 99), [(3, 211), (1, 13)], [[(0, (.lload_n 0, 1, 0, 0, 0, [])), (1, (.lload_n 2, 1, 0, 0, 0, [])), (2, (.lcmp, 1, 0, 0, 0, [])), (3, (.ifCond .lt 7, 3, 10, 0, 0, [])), (6, (.lload_n 0, 1, 0, 0, 0, [])), (7, (.goto 4, 3, 11, 0, 0, []))], [(10, (.lload_n 2, 1, 0, 0, 0, [])), (11, (.lreturn, 1, 0, 0, 0, []))]])
/-- J9 min_7cf53 -/
def pd_263 : pm_D := ((yJ9_min_7cf53, cJ9_min_7cf53, 2, (some .int), 2, 99), [(3, 11), (1, 13)], [[(0, (.iload_n 0, 1, 0, 0, 0, [])), (1, (.iload_n 1, 1, 0, 0, 0, [])), (2, (.if_icmp .gt 7, 3, 9, 0, 0, [])), (5, (.iload_n 0, 1, 0, 0, 0, [])), (6, (.goto 4, 3, 10, 0, 0, []))], [(9, (.iload_n 1, 1, 0, 0, 0, [])), (10, (.ireturn, 1, 0, 0, 0, []))]])
def pr_0 : List pm_D := [pd_1, pd_2, pd_3, pd_4, pd_5, pd_6, pd_7, pd_8, pd_9, pd_10, pd_11, pd_12, pd_13, pd_14, pd_15, pd_16]
def pr_1 : List pm_D := [pd_17, pd_18, pd_19, pd_20, pd_21, pd_22, pd_23, pd_24, pd_25, pd_26, pd_27, pd_28, pd_29, pd_30, pd_31, pd_32]
def pr_2 : List pm_D := [pd_33, pd_34, pd_35, pd_36, pd_37, pd_38, pd_39, pd_40, pd_41, pd_42, pd_43, pd_44, pd_45, pd_46, pd_47, pd_48]
def pr_3 : List pm_D := [pd_49, pd_50, pd_51, pd_52, pd_53, pd_54, pd_55, pd_56, pd_57, pd_58, pd_59, pd_60, pd_61, pd_62, pd_63, pd_64]
def pr_4 : List pm_D := [pd_65, pd_66, pd_67, pd_68, pd_69, pd_70, pd_71, pd_72, pd_73, pd_74, pd_75, pd_76, pd_77, pd_78, pd_79, pd_80]
def pr_5 : List pm_D := [pd_81, pd_82, pd_83, pd_84, pd_85, pd_86, pd_87, pd_88, pd_89, pd_90, pd_91, pd_92, pd_93, pd_94, pd_95, pd_96]
def pr_6 : List pm_D := [pd_97, pd_98, pd_99, pd_100, pd_101, pd_102, pd_103, pd_104, pd_105, pd_106, pd_107, pd_108, pd_109, pd_110, pd_111, pd_112]
def pr_7 : List pm_D := [pd_113, pd_114, pd_115, pd_116, pd_117, pd_118, pd_119, pd_120, pd_121, pd_122, pd_123, pd_124, pd_125, pd_126, pd_127, pd_128]
def pr_8 : List pm_D := [pd_129, pd_130, pd_131, pd_132, pd_133, pd_134, pd_135, pd_136, pd_137, pd_138, pd_139, pd_140, pd_141, pd_142, pd_143, pd_144]
def pr_9 : List pm_D := [pd_145, pd_146, pd_147, pd_148, pd_149, pd_150, pd_151, pd_152, pd_153, pd_154, pd_155, pd_156, pd_157, pd_158, pd_159, pd_160]
def pr_10 : List pm_D := [pd_161, pd_162, pd_163, pd_164, pd_165, pd_166, pd_167, pd_168, pd_169, pd_170, pd_171, pd_172, pd_173, pd_174, pd_175, pd_176]
def pr_11 : List pm_D := [pd_177, pd_178, pd_179, pd_180, pd_181, pd_182, pd_183, pd_184, pd_185, pd_186, pd_187, pd_188, pd_189, pd_190, pd_191, pd_192]
def pr_12 : List pm_D := [pd_193, pd_194, pd_195, pd_196, pd_197, pd_198, pd_199, pd_200, pd_201, pd_202, pd_203, pd_204, pd_205, pd_206, pd_207, pd_208]
def pr_13 : List pm_D := [pd_209, pd_210, pd_211, pd_212, pd_213, pd_214, pd_215, pd_216, pd_217, pd_218, pd_219, pd_220, pd_221, pd_222, pd_223, pd_224]
def pr_14 : List pm_D := [pd_225, pd_226, pd_227, pd_228, pd_229, pd_230, pd_231, pd_232, pd_233, pd_234, pd_235, pd_236, pd_237, pd_238, pd_239, pd_240]
def pr_15 : List pm_D := [pd_241, pd_242, pd_243, pd_244, pd_245, pd_246, pd_247, pd_248, pd_249, pd_250, pd_251, pd_252, pd_253, pd_254, pd_255, pd_256]
def pr_16 : List pm_D := [pd_257, pd_258, pd_259, pd_260, pd_261, pd_262, pd_263]
def pm_tab : List (List pm_D) := [pr_0, pr_1, pr_2, pr_3, pr_4, pr_5, pr_6, pr_7, pr_8, pr_9, pr_10, pr_11, pr_12, pr_13, pr_14, pr_15, pr_16]
def pl_0 : List (List (Nat × pm_I)) := [[(0, (.new 7, 3, 10, 0, 0, [(1, 14), (1, 15), (1, 1)])), (3, (.dup, 1, 0, 0, 0, [])), (4, (.invokespecial 9, 3, 101, 0, 0, [(1, 16), (1, 17)])), (7, (.astore_n 1, 1, 0, 0, 0, []))], [(8, (.new 10, 3, 11, 0, 0, [(5, 91), (5, 92), (1, 12)])), (11, (.dup, 1, 0, 0, 0, [])), (12, (.invokespecial 12, 3, 145, 0, 0, [(5, 93), (5, 94)])), (15, (.astore_n 2, 1, 0, 0, 0, []))], [(16, (.iconst 0, 1, 0, 0, 0, [])), (17, (.istore_n 3, 1, 0, 0, 0, [])), (18, (.iload_n 3, 1, 0, 0, 0, [])), (19, (.aload_n 0, 1, 0, 0, 0, [])), (20, (.arraylength, 1, 0, 0, 0, [])), (21, (.bipush 6, 2, 0, 0, 0, [])), (23, (.isub, 1, 0, 0, 0, []))], [(24, (.if_icmp .gt 991, 3, 1015, 0, 0, [])), (27, (.aload_n 0, 1, 0, 0, 0, [])), (28, (.iload_n 3, 1, 0, 0, 0, [])), (29, (.iaload, 1, 0, 0, 0, [])), (30, (.bipush 31, 2, 0, 0, 0, []))], [(32, (.iand, 1, 0, 0, 0, [])), (33, (.tableswitch 976 0 28 #[131, 194, 217, 230, 253, 286, 320, 353, 386, 409, 442, 476, 509, 532, 565, 588, 632, 685, 728, 761, 784, 808, 842, 866, 879, 892, 905, 929, 953], 131, 0, 0, 0, []))], [], [], []]
def pl_1 : List (List (Nat × pm_I)) := [[], [], [], [], [], [], [], []]
def pl_2 : List (List (Nat × pm_I)) := [[], [], [], [], [(164, (.aload_n 1, 1, 0, 0, 0, [])), (165, (.aload_n 0, 1, 0, 0, 0, [])), (166, (.iload_n 3, 1, 0, 0, 0, [])), (167, (.iconst 1, 1, 0, 0, 0, []))], [(168, (.iadd, 1, 0, 0, 0, [])), (169, (.iaload, 1, 0, 0, 0, [])), (170, (.aload_n 0, 1, 0, 0, 0, [])), (171, (.iload_n 3, 1, 0, 0, 0, [])), (172, (.iconst 2, 1, 0, 0, 0, [])), (173, (.iadd, 1, 0, 0, 0, [])), (174, (.iaload, 1, 0, 0, 0, [])), (175, (.aload_n 0, 1, 0, 0, 0, []))], [(176, (.iload_n 3, 1, 0, 0, 0, [])), (177, (.iconst 3, 1, 0, 0, 0, [])), (178, (.iadd, 1, 0, 0, 0, [])), (179, (.iaload, 1, 0, 0, 0, [])), (180, (.aload_n 0, 1, 0, 0, 0, [])), (181, (.iload_n 3, 1, 0, 0, 0, [])), (182, (.iconst 4, 1, 0, 0, 0, [])), (183, (.iadd, 1, 0, 0, 0, []))], [(184, (.iaload, 1, 0, 0, 0, [])), (185, (.aload_n 0, 1, 0, 0, 0, [])), (186, (.iload_n 3, 1, 0, 0, 0, [])), (187, (.iconst 5, 1, 0, 0, 0, [])), (188, (.iadd, 1, 0, 0, 0, [])), (189, (.iaload, 1, 0, 0, 0, [])), (190, (.invokevirtual 13, 3, 102, 0, 0, [(2, 229), (2, 230), (2, 231)]))]]
def pl_3 : List (List (Nat × pm_I)) := [[(193, (.aload_n 2, 1, 0, 0, 0, [])), (194, (.aload_n 0, 1, 0, 0, 0, [])), (195, (.iload_n 3, 1, 0, 0, 0, [])), (196, (.iconst 1, 1, 0, 0, 0, [])), (197, (.iadd, 1, 0, 0, 0, [])), (198, (.iaload, 1, 0, 0, 0, [])), (199, (.aload_n 0, 1, 0, 0, 0, []))], [(200, (.iload_n 3, 1, 0, 0, 0, [])), (201, (.iconst 2, 1, 0, 0, 0, [])), (202, (.iadd, 1, 0, 0, 0, [])), (203, (.iaload, 1, 0, 0, 0, [])), (204, (.aload_n 0, 1, 0, 0, 0, [])), (205, (.iload_n 3, 1, 0, 0, 0, [])), (206, (.iconst 3, 1, 0, 0, 0, [])), (207, (.iadd, 1, 0, 0, 0, []))], [(208, (.iaload, 1, 0, 0, 0, [])), (209, (.aload_n 0, 1, 0, 0, 0, [])), (210, (.iload_n 3, 1, 0, 0, 0, [])), (211, (.iconst 4, 1, 0, 0, 0, [])), (212, (.iadd, 1, 0, 0, 0, [])), (213, (.iaload, 1, 0, 0, 0, [])), (214, (.aload_n 0, 1, 0, 0, 0, [])), (215, (.iload_n 3, 1, 0, 0, 0, []))], [(216, (.iconst 5, 1, 0, 0, 0, [])), (217, (.iadd, 1, 0, 0, 0, [])), (218, (.iaload, 1, 0, 0, 0, [])), (219, (.invokevirtual 17, 3, 146, 0, 0, [(6, 109), (6, 110), (6, 111)])), (222, (.if_icmp .eq 787, 3, 1009, 0, 0, []))], [(225, (.iconst 0, 1, 0, 0, 0, [])), (226, (.ireturn, 1, 0, 0, 0, [])), (227, (.aload_n 1, 1, 0, 0, 0, [])), (228, (.aload_n 0, 1, 0, 0, 0, [])), (229, (.iload_n 3, 1, 0, 0, 0, [])), (230, (.iconst 1, 1, 0, 0, 0, [])), (231, (.iadd, 1, 0, 0, 0, []))], [(232, (.iaload, 1, 0, 0, 0, [])), (233, (.invokevirtual 18, 3, 104, 0, 0, [(2, 237), (2, 238), (2, 239)])), (236, (.aload_n 2, 1, 0, 0, 0, [])), (237, (.aload_n 0, 1, 0, 0, 0, [])), (238, (.iload_n 3, 1, 0, 0, 0, [])), (239, (.iconst 1, 1, 0, 0, 0, []))], [(240, (.iadd, 1, 0, 0, 0, [])), (241, (.iaload, 1, 0, 0, 0, [])), (242, (.invokevirtual 22, 3, 148, 0, 0, [(6, 117), (6, 118), (6, 119)])), (245, (.if_icmp .eq 764, 3, 1009, 0, 0, []))], [(248, (.iconst 0, 1, 0, 0, 0, [])), (249, (.ireturn, 1, 0, 0, 0, [])), (250, (.aload_n 1, 1, 0, 0, 0, [])), (251, (.invokevirtual 23, 3, 105, 0, 0, [(3, 1), (3, 2), (3, 3)])), (254, (.aload_n 2, 1, 0, 0, 0, [])), (255, (.invokevirtual 27, 3, 171, 0, 0, [(6, 121), (6, 122), (6, 123)]))]]
def pl_4 : List (List (Nat × pm_I)) := [[(258, (.if_icmp .eq 751, 3, 1009, 0, 0, [])), (261, (.iconst 0, 1, 0, 0, 0, [])), (262, (.ireturn, 1, 0, 0, 0, [])), (263, (.aload_n 1, 1, 0, 0, 0, []))], [(264, (.aload_n 0, 1, 0, 0, 0, [])), (265, (.iload_n 3, 1, 0, 0, 0, [])), (266, (.iconst 1, 1, 0, 0, 0, [])), (267, (.iadd, 1, 0, 0, 0, [])), (268, (.iaload, 1, 0, 0, 0, [])), (269, (.invokevirtual 28, 3, 106, 0, 0, [(3, 232), (3, 233), (3, 234)]))], [(272, (.aload_n 2, 1, 0, 0, 0, [])), (273, (.aload_n 0, 1, 0, 0, 0, [])), (274, (.iload_n 3, 1, 0, 0, 0, [])), (275, (.iconst 1, 1, 0, 0, 0, [])), (276, (.iadd, 1, 0, 0, 0, [])), (277, (.iaload, 1, 0, 0, 0, [])), (278, (.invokevirtual 31, 3, 172, 0, 0, [(7, 52), (7, 53), (7, 54)]))], [(281, (.if_icmp .eq 728, 3, 1009, 0, 0, [])), (284, (.iconst 0, 1, 0, 0, 0, [])), (285, (.ireturn, 1, 0, 0, 0, [])), (286, (.aload_n 1, 1, 0, 0, 0, [])), (287, (.aload_n 0, 1, 0, 0, 0, []))], [(288, (.iload_n 3, 1, 0, 0, 0, [])), (289, (.iconst 1, 1, 0, 0, 0, [])), (290, (.iadd, 1, 0, 0, 0, [])), (291, (.iaload, 1, 0, 0, 0, [])), (292, (.aload_n 0, 1, 0, 0, 0, [])), (293, (.iload_n 3, 1, 0, 0, 0, [])), (294, (.iconst 2, 1, 0, 0, 0, [])), (295, (.iadd, 1, 0, 0, 0, []))], [(296, (.iaload, 1, 0, 0, 0, [])), (297, (.invokevirtual 32, 3, 107, 0, 0, [(3, 236), (3, 237), (3, 238)])), (300, (.aload_n 2, 1, 0, 0, 0, [])), (301, (.aload_n 0, 1, 0, 0, 0, [])), (302, (.iload_n 3, 1, 0, 0, 0, [])), (303, (.iconst 1, 1, 0, 0, 0, []))], [(304, (.iadd, 1, 0, 0, 0, [])), (305, (.iaload, 1, 0, 0, 0, [])), (306, (.aload_n 0, 1, 0, 0, 0, [])), (307, (.iload_n 3, 1, 0, 0, 0, [])), (308, (.iconst 2, 1, 0, 0, 0, [])), (309, (.iadd, 1, 0, 0, 0, [])), (310, (.iaload, 1, 0, 0, 0, [])), (311, (.invokevirtual 36, 3, 179, 0, 0, [(7, 56), (7, 57), (7, 58)]))], [(314, (.if_icmp .eq 695, 3, 1009, 0, 0, [])), (317, (.iconst 0, 1, 0, 0, 0, [])), (318, (.ireturn, 1, 0, 0, 0, [])), (319, (.aload_n 1, 1, 0, 0, 0, []))]]
def pl_5 : List (List (Nat × pm_I)) := [[(320, (.aload_n 0, 1, 0, 0, 0, [])), (321, (.iload_n 3, 1, 0, 0, 0, [])), (322, (.iconst 1, 1, 0, 0, 0, [])), (323, (.iadd, 1, 0, 0, 0, [])), (324, (.iaload, 1, 0, 0, 0, [])), (325, (.aload_n 0, 1, 0, 0, 0, [])), (326, (.iload_n 3, 1, 0, 0, 0, [])), (327, (.iconst 2, 1, 0, 0, 0, []))], [(328, (.iadd, 1, 0, 0, 0, [])), (329, (.iaload, 1, 0, 0, 0, [])), (330, (.invokevirtual 37, 3, 108, 0, 0, [(4, 0), (4, 1), (4, 2)])), (333, (.aload_n 2, 1, 0, 0, 0, [])), (334, (.aload_n 0, 1, 0, 0, 0, [])), (335, (.iload_n 3, 1, 0, 0, 0, []))], [(336, (.iconst 1, 1, 0, 0, 0, [])), (337, (.iadd, 1, 0, 0, 0, [])), (338, (.iaload, 1, 0, 0, 0, [])), (339, (.aload_n 0, 1, 0, 0, 0, [])), (340, (.iload_n 3, 1, 0, 0, 0, [])), (341, (.iconst 2, 1, 0, 0, 0, [])), (342, (.iadd, 1, 0, 0, 0, [])), (343, (.iaload, 1, 0, 0, 0, []))], [(344, (.invokevirtual 41, 3, 191, 0, 0, [(7, 60), (7, 61), (7, 62)])), (347, (.lcmp, 1, 0, 0, 0, [])), (348, (.ifCond .eq 661, 3, 1009, 0, 0, [])), (351, (.iconst 0, 1, 0, 0, 0, []))], [(352, (.ireturn, 1, 0, 0, 0, [])), (353, (.aload_n 1, 1, 0, 0, 0, [])), (354, (.aload_n 0, 1, 0, 0, 0, [])), (355, (.iload_n 3, 1, 0, 0, 0, [])), (356, (.iconst 1, 1, 0, 0, 0, [])), (357, (.iadd, 1, 0, 0, 0, [])), (358, (.iaload, 1, 0, 0, 0, [])), (359, (.aload_n 0, 1, 0, 0, 0, []))], [(360, (.iload_n 3, 1, 0, 0, 0, [])), (361, (.iconst 2, 1, 0, 0, 0, [])), (362, (.iadd, 1, 0, 0, 0, [])), (363, (.iaload, 1, 0, 0, 0, [])), (364, (.invokevirtual 42, 3, 109, 0, 0, [(4, 18), (4, 19), (4, 20)])), (367, (.aload_n 2, 1, 0, 0, 0, []))], [(368, (.aload_n 0, 1, 0, 0, 0, [])), (369, (.iload_n 3, 1, 0, 0, 0, [])), (370, (.iconst 1, 1, 0, 0, 0, [])), (371, (.iadd, 1, 0, 0, 0, [])), (372, (.iaload, 1, 0, 0, 0, [])), (373, (.aload_n 0, 1, 0, 0, 0, [])), (374, (.iload_n 3, 1, 0, 0, 0, [])), (375, (.iconst 2, 1, 0, 0, 0, []))], [(376, (.iadd, 1, 0, 0, 0, [])), (377, (.iaload, 1, 0, 0, 0, [])), (378, (.invokevirtual 45, 3, 192, 0, 0, [(7, 73), (7, 74), (7, 75)])), (381, (.if_icmp .eq 628, 3, 1009, 0, 0, []))]]
def pl_6 : List (List (Nat × pm_I)) := [[(384, (.iconst 0, 1, 0, 0, 0, [])), (385, (.ireturn, 1, 0, 0, 0, [])), (386, (.aload_n 1, 1, 0, 0, 0, [])), (387, (.aload_n 0, 1, 0, 0, 0, [])), (388, (.iload_n 3, 1, 0, 0, 0, [])), (389, (.iconst 1, 1, 0, 0, 0, [])), (390, (.iadd, 1, 0, 0, 0, [])), (391, (.iaload, 1, 0, 0, 0, []))], [(392, (.aload_n 0, 1, 0, 0, 0, [])), (393, (.iload_n 3, 1, 0, 0, 0, [])), (394, (.iconst 2, 1, 0, 0, 0, [])), (395, (.iadd, 1, 0, 0, 0, [])), (396, (.iaload, 1, 0, 0, 0, [])), (397, (.invokevirtual 46, 3, 110, 0, 0, [(4, 25), (4, 26), (4, 27)]))], [(400, (.aload_n 2, 1, 0, 0, 0, [])), (401, (.aload_n 0, 1, 0, 0, 0, [])), (402, (.iload_n 3, 1, 0, 0, 0, [])), (403, (.iconst 1, 1, 0, 0, 0, [])), (404, (.iadd, 1, 0, 0, 0, [])), (405, (.iaload, 1, 0, 0, 0, [])), (406, (.aload_n 0, 1, 0, 0, 0, [])), (407, (.iload_n 3, 1, 0, 0, 0, []))], [(408, (.iconst 2, 1, 0, 0, 0, [])), (409, (.iadd, 1, 0, 0, 0, [])), (410, (.iaload, 1, 0, 0, 0, [])), (411, (.invokevirtual 49, 3, 194, 0, 0, [(7, 77), (7, 78), (7, 79)])), (414, (.if_icmp .eq 595, 3, 1009, 0, 0, []))], [(417, (.iconst 0, 1, 0, 0, 0, [])), (418, (.ireturn, 1, 0, 0, 0, [])), (419, (.aload_n 1, 1, 0, 0, 0, [])), (420, (.aload_n 0, 1, 0, 0, 0, [])), (421, (.iload_n 3, 1, 0, 0, 0, [])), (422, (.iconst 1, 1, 0, 0, 0, [])), (423, (.iadd, 1, 0, 0, 0, []))], [(424, (.iaload, 1, 0, 0, 0, [])), (425, (.invokevirtual 50, 3, 111, 0, 0, [(4, 37), (4, 38), (4, 39)])), (428, (.aload_n 2, 1, 0, 0, 0, [])), (429, (.aload_n 0, 1, 0, 0, 0, [])), (430, (.iload_n 3, 1, 0, 0, 0, [])), (431, (.iconst 1, 1, 0, 0, 0, []))], [(432, (.iadd, 1, 0, 0, 0, [])), (433, (.iaload, 1, 0, 0, 0, [])), (434, (.invokevirtual 53, 3, 202, 0, 0, [(7, 85), (7, 86), (7, 87)])), (437, (.if_icmp .eq 572, 3, 1009, 0, 0, []))], [(440, (.iconst 0, 1, 0, 0, 0, [])), (441, (.ireturn, 1, 0, 0, 0, [])), (442, (.aload_n 1, 1, 0, 0, 0, [])), (443, (.aload_n 0, 1, 0, 0, 0, [])), (444, (.iload_n 3, 1, 0, 0, 0, [])), (445, (.iconst 1, 1, 0, 0, 0, [])), (446, (.iadd, 1, 0, 0, 0, [])), (447, (.iaload, 1, 0, 0, 0, []))]]
def pl_7 : List (List (Nat × pm_I)) := [[(448, (.aload_n 0, 1, 0, 0, 0, [])), (449, (.iload_n 3, 1, 0, 0, 0, [])), (450, (.iconst 2, 1, 0, 0, 0, [])), (451, (.iadd, 1, 0, 0, 0, [])), (452, (.iaload, 1, 0, 0, 0, [])), (453, (.invokevirtual 54, 3, 112, 0, 0, [(4, 45), (4, 46), (4, 47)]))], [(456, (.aload_n 2, 1, 0, 0, 0, [])), (457, (.aload_n 0, 1, 0, 0, 0, [])), (458, (.iload_n 3, 1, 0, 0, 0, [])), (459, (.iconst 1, 1, 0, 0, 0, [])), (460, (.iadd, 1, 0, 0, 0, [])), (461, (.iaload, 1, 0, 0, 0, [])), (462, (.aload_n 0, 1, 0, 0, 0, [])), (463, (.iload_n 3, 1, 0, 0, 0, []))], [(464, (.iconst 2, 1, 0, 0, 0, [])), (465, (.iadd, 1, 0, 0, 0, [])), (466, (.iaload, 1, 0, 0, 0, [])), (467, (.invokevirtual 57, 3, 203, 0, 0, [(7, 89), (7, 90), (7, 91)])), (470, (.if_icmp .eq 539, 3, 1009, 0, 0, []))], [(473, (.iconst 0, 1, 0, 0, 0, [])), (474, (.ireturn, 1, 0, 0, 0, [])), (475, (.aload_n 1, 1, 0, 0, 0, [])), (476, (.aload_n 0, 1, 0, 0, 0, [])), (477, (.iload_n 3, 1, 0, 0, 0, [])), (478, (.iconst 1, 1, 0, 0, 0, [])), (479, (.iadd, 1, 0, 0, 0, []))], [(480, (.iaload, 1, 0, 0, 0, [])), (481, (.aload_n 0, 1, 0, 0, 0, [])), (482, (.iload_n 3, 1, 0, 0, 0, [])), (483, (.iconst 2, 1, 0, 0, 0, [])), (484, (.iadd, 1, 0, 0, 0, [])), (485, (.iaload, 1, 0, 0, 0, [])), (486, (.invokevirtual 58, 3, 113, 0, 0, [(4, 53), (4, 54), (4, 55)]))], [(489, (.aload_n 2, 1, 0, 0, 0, [])), (490, (.aload_n 0, 1, 0, 0, 0, [])), (491, (.iload_n 3, 1, 0, 0, 0, [])), (492, (.iconst 1, 1, 0, 0, 0, [])), (493, (.iadd, 1, 0, 0, 0, [])), (494, (.iaload, 1, 0, 0, 0, [])), (495, (.aload_n 0, 1, 0, 0, 0, []))], [(496, (.iload_n 3, 1, 0, 0, 0, [])), (497, (.iconst 2, 1, 0, 0, 0, [])), (498, (.iadd, 1, 0, 0, 0, [])), (499, (.iaload, 1, 0, 0, 0, [])), (500, (.invokevirtual 61, 3, 215, 0, 0, [(7, 93), (7, 94), (7, 95)])), (503, (.lcmp, 1, 0, 0, 0, []))], [(504, (.ifCond .eq 505, 3, 1009, 0, 0, [])), (507, (.iconst 0, 1, 0, 0, 0, [])), (508, (.ireturn, 1, 0, 0, 0, [])), (509, (.aload_n 1, 1, 0, 0, 0, [])), (510, (.aload_n 0, 1, 0, 0, 0, [])), (511, (.iload_n 3, 1, 0, 0, 0, []))]]
def pl_8 : List (List (Nat × pm_I)) := [[(512, (.iconst 1, 1, 0, 0, 0, [])), (513, (.iadd, 1, 0, 0, 0, [])), (514, (.iaload, 1, 0, 0, 0, [])), (515, (.aload_n 0, 1, 0, 0, 0, [])), (516, (.iload_n 3, 1, 0, 0, 0, [])), (517, (.iconst 2, 1, 0, 0, 0, [])), (518, (.iadd, 1, 0, 0, 0, [])), (519, (.iaload, 1, 0, 0, 0, []))], [(520, (.invokevirtual 62, 3, 114, 0, 0, [(4, 87), (4, 88), (4, 89)])), (523, (.aload_n 2, 1, 0, 0, 0, [])), (524, (.aload_n 0, 1, 0, 0, 0, [])), (525, (.iload_n 3, 1, 0, 0, 0, [])), (526, (.iconst 1, 1, 0, 0, 0, [])), (527, (.iadd, 1, 0, 0, 0, []))], [(528, (.iaload, 1, 0, 0, 0, [])), (529, (.aload_n 0, 1, 0, 0, 0, [])), (530, (.iload_n 3, 1, 0, 0, 0, [])), (531, (.iconst 2, 1, 0, 0, 0, [])), (532, (.iadd, 1, 0, 0, 0, [])), (533, (.iaload, 1, 0, 0, 0, [])), (534, (.invokevirtual 65, 3, 217, 0, 0, [(7, 123), (7, 124), (7, 125)]))], [(537, (.if_icmp .eq 472, 3, 1009, 0, 0, [])), (540, (.iconst 0, 1, 0, 0, 0, [])), (541, (.ireturn, 1, 0, 0, 0, [])), (542, (.aload_n 1, 1, 0, 0, 0, [])), (543, (.aload_n 0, 1, 0, 0, 0, []))], [(544, (.iload_n 3, 1, 0, 0, 0, [])), (545, (.iconst 1, 1, 0, 0, 0, [])), (546, (.iadd, 1, 0, 0, 0, [])), (547, (.iaload, 1, 0, 0, 0, [])), (548, (.invokevirtual 66, 3, 115, 0, 0, [(4, 102), (4, 103), (4, 104)])), (551, (.aload_n 2, 1, 0, 0, 0, []))], [(552, (.aload_n 0, 1, 0, 0, 0, [])), (553, (.iload_n 3, 1, 0, 0, 0, [])), (554, (.iconst 1, 1, 0, 0, 0, [])), (555, (.iadd, 1, 0, 0, 0, [])), (556, (.iaload, 1, 0, 0, 0, [])), (557, (.invokevirtual 69, 3, 220, 0, 0, [(7, 132), (7, 133), (7, 134)]))], [(560, (.if_icmp .eq 449, 3, 1009, 0, 0, [])), (563, (.iconst 0, 1, 0, 0, 0, [])), (564, (.ireturn, 1, 0, 0, 0, [])), (565, (.aload_n 1, 1, 0, 0, 0, [])), (566, (.aload_n 0, 1, 0, 0, 0, [])), (567, (.iload_n 3, 1, 0, 0, 0, []))], [(568, (.iconst 1, 1, 0, 0, 0, [])), (569, (.iadd, 1, 0, 0, 0, [])), (570, (.iaload, 1, 0, 0, 0, [])), (571, (.aload_n 0, 1, 0, 0, 0, [])), (572, (.iload_n 3, 1, 0, 0, 0, [])), (573, (.iconst 2, 1, 0, 0, 0, [])), (574, (.iadd, 1, 0, 0, 0, [])), (575, (.iaload, 1, 0, 0, 0, []))]]
def pl_9 : List (List (Nat × pm_I)) := [[(576, (.invokevirtual 70, 3, 116, 0, 0, [(4, 137), (4, 138), (4, 139)])), (579, (.aload_n 2, 1, 0, 0, 0, [])), (580, (.aload_n 0, 1, 0, 0, 0, [])), (581, (.iload_n 3, 1, 0, 0, 0, [])), (582, (.iconst 1, 1, 0, 0, 0, [])), (583, (.iadd, 1, 0, 0, 0, []))], [(584, (.iaload, 1, 0, 0, 0, [])), (585, (.aload_n 0, 1, 0, 0, 0, [])), (586, (.iload_n 3, 1, 0, 0, 0, [])), (587, (.iconst 2, 1, 0, 0, 0, [])), (588, (.iadd, 1, 0, 0, 0, [])), (589, (.iaload, 1, 0, 0, 0, [])), (590, (.invokevirtual 73, 3, 221, 0, 0, [(7, 164), (7, 165), (7, 166)]))], [(593, (.if_icmp .eq 416, 3, 1009, 0, 0, [])), (596, (.iconst 0, 1, 0, 0, 0, [])), (597, (.ireturn, 1, 0, 0, 0, [])), (598, (.aload_n 1, 1, 0, 0, 0, [])), (599, (.aload_n 0, 1, 0, 0, 0, []))], [(600, (.iload_n 3, 1, 0, 0, 0, [])), (601, (.iconst 1, 1, 0, 0, 0, [])), (602, (.iadd, 1, 0, 0, 0, [])), (603, (.iaload, 1, 0, 0, 0, [])), (604, (.invokevirtual 74, 3, 117, 0, 0, [(4, 141), (4, 142), (4, 143)])), (607, (.aload_n 2, 1, 0, 0, 0, []))], [(608, (.aload_n 0, 1, 0, 0, 0, [])), (609, (.iload_n 3, 1, 0, 0, 0, [])), (610, (.iconst 1, 1, 0, 0, 0, [])), (611, (.iadd, 1, 0, 0, 0, [])), (612, (.iaload, 1, 0, 0, 0, [])), (613, (.invokevirtual 77, 3, 223, 0, 0, [(7, 168), (7, 169), (7, 170)]))], [(616, (.if_icmp .eq 393, 3, 1009, 0, 0, [])), (619, (.iconst 0, 1, 0, 0, 0, [])), (620, (.ireturn, 1, 0, 0, 0, [])), (621, (.aload_n 1, 1, 0, 0, 0, [])), (622, (.aload_n 0, 1, 0, 0, 0, [])), (623, (.iload_n 3, 1, 0, 0, 0, []))], [(624, (.iconst 1, 1, 0, 0, 0, [])), (625, (.iadd, 1, 0, 0, 0, [])), (626, (.iaload, 1, 0, 0, 0, [])), (627, (.aload_n 0, 1, 0, 0, 0, [])), (628, (.iload_n 3, 1, 0, 0, 0, [])), (629, (.iconst 2, 1, 0, 0, 0, [])), (630, (.iadd, 1, 0, 0, 0, [])), (631, (.iaload, 1, 0, 0, 0, []))], [(632, (.aload_n 0, 1, 0, 0, 0, [])), (633, (.iload_n 3, 1, 0, 0, 0, [])), (634, (.iconst 3, 1, 0, 0, 0, [])), (635, (.iadd, 1, 0, 0, 0, [])), (636, (.iaload, 1, 0, 0, 0, [])), (637, (.invokevirtual 78, 3, 118, 0, 0, [(4, 145), (4, 146), (4, 147)]))]]
def pl_10 : List (List (Nat × pm_I)) := [[(640, (.aload_n 2, 1, 0, 0, 0, [])), (641, (.aload_n 0, 1, 0, 0, 0, [])), (642, (.iload_n 3, 1, 0, 0, 0, [])), (643, (.iconst 1, 1, 0, 0, 0, [])), (644, (.iadd, 1, 0, 0, 0, [])), (645, (.iaload, 1, 0, 0, 0, [])), (646, (.aload_n 0, 1, 0, 0, 0, [])), (647, (.iload_n 3, 1, 0, 0, 0, []))], [(648, (.iconst 2, 1, 0, 0, 0, [])), (649, (.iadd, 1, 0, 0, 0, [])), (650, (.iaload, 1, 0, 0, 0, [])), (651, (.aload_n 0, 1, 0, 0, 0, [])), (652, (.iload_n 3, 1, 0, 0, 0, [])), (653, (.iconst 3, 1, 0, 0, 0, [])), (654, (.iadd, 1, 0, 0, 0, [])), (655, (.iaload, 1, 0, 0, 0, []))], [(656, (.invokevirtual 82, 3, 224, 0, 0, [(7, 176), (7, 177), (7, 178)])), (659, (.lcmp, 1, 0, 0, 0, [])), (660, (.ifCond .eq 349, 3, 1009, 0, 0, [])), (663, (.iconst 0, 1, 0, 0, 0, []))], [(664, (.ireturn, 1, 0, 0, 0, [])), (665, (.aload_n 1, 1, 0, 0, 0, [])), (666, (.aload_n 0, 1, 0, 0, 0, [])), (667, (.iload_n 3, 1, 0, 0, 0, [])), (668, (.iconst 1, 1, 0, 0, 0, [])), (669, (.iadd, 1, 0, 0, 0, [])), (670, (.iaload, 1, 0, 0, 0, [])), (671, (.aload_n 0, 1, 0, 0, 0, []))], [(672, (.iload_n 3, 1, 0, 0, 0, [])), (673, (.iconst 2, 1, 0, 0, 0, [])), (674, (.iadd, 1, 0, 0, 0, [])), (675, (.iaload, 1, 0, 0, 0, [])), (676, (.aload_n 0, 1, 0, 0, 0, [])), (677, (.iload_n 3, 1, 0, 0, 0, [])), (678, (.iconst 3, 1, 0, 0, 0, [])), (679, (.iadd, 1, 0, 0, 0, []))], [(680, (.iaload, 1, 0, 0, 0, [])), (681, (.aload_n 0, 1, 0, 0, 0, [])), (682, (.iload_n 3, 1, 0, 0, 0, [])), (683, (.iconst 4, 1, 0, 0, 0, [])), (684, (.iadd, 1, 0, 0, 0, [])), (685, (.iaload, 1, 0, 0, 0, [])), (686, (.invokevirtual 83, 3, 119, 0, 0, [(4, 155), (4, 156), (4, 157)]))], [(689, (.aload_n 2, 1, 0, 0, 0, [])), (690, (.aload_n 0, 1, 0, 0, 0, [])), (691, (.iload_n 3, 1, 0, 0, 0, [])), (692, (.iconst 1, 1, 0, 0, 0, [])), (693, (.iadd, 1, 0, 0, 0, [])), (694, (.iaload, 1, 0, 0, 0, [])), (695, (.aload_n 0, 1, 0, 0, 0, []))], [(696, (.iload_n 3, 1, 0, 0, 0, [])), (697, (.iconst 2, 1, 0, 0, 0, [])), (698, (.iadd, 1, 0, 0, 0, [])), (699, (.iaload, 1, 0, 0, 0, [])), (700, (.aload_n 0, 1, 0, 0, 0, [])), (701, (.iload_n 3, 1, 0, 0, 0, [])), (702, (.iconst 3, 1, 0, 0, 0, [])), (703, (.iadd, 1, 0, 0, 0, []))]]
def pl_11 : List (List (Nat × pm_I)) := [[(704, (.iaload, 1, 0, 0, 0, [])), (705, (.aload_n 0, 1, 0, 0, 0, [])), (706, (.iload_n 3, 1, 0, 0, 0, [])), (707, (.iconst 4, 1, 0, 0, 0, [])), (708, (.iadd, 1, 0, 0, 0, [])), (709, (.iaload, 1, 0, 0, 0, [])), (710, (.invokevirtual 87, 3, 226, 0, 0, [(7, 185), (7, 186), (7, 187)]))], [(713, (.if_icmp .eq 296, 3, 1009, 0, 0, [])), (716, (.iconst 0, 1, 0, 0, 0, [])), (717, (.ireturn, 1, 0, 0, 0, [])), (718, (.aload_n 1, 1, 0, 0, 0, [])), (719, (.aload_n 0, 1, 0, 0, 0, []))], [(720, (.iload_n 3, 1, 0, 0, 0, [])), (721, (.iconst 1, 1, 0, 0, 0, [])), (722, (.iadd, 1, 0, 0, 0, [])), (723, (.iaload, 1, 0, 0, 0, [])), (724, (.aload_n 0, 1, 0, 0, 0, [])), (725, (.iload_n 3, 1, 0, 0, 0, [])), (726, (.iconst 2, 1, 0, 0, 0, [])), (727, (.iadd, 1, 0, 0, 0, []))], [(728, (.iaload, 1, 0, 0, 0, [])), (729, (.aload_n 0, 1, 0, 0, 0, [])), (730, (.iload_n 3, 1, 0, 0, 0, [])), (731, (.iconst 3, 1, 0, 0, 0, [])), (732, (.iadd, 1, 0, 0, 0, [])), (733, (.iaload, 1, 0, 0, 0, [])), (734, (.invokevirtual 88, 3, 120, 0, 0, [(4, 179), (4, 180), (4, 181)]))], [(737, (.aload_n 2, 1, 0, 0, 0, [])), (738, (.aload_n 0, 1, 0, 0, 0, [])), (739, (.iload_n 3, 1, 0, 0, 0, [])), (740, (.iconst 1, 1, 0, 0, 0, [])), (741, (.iadd, 1, 0, 0, 0, [])), (742, (.iaload, 1, 0, 0, 0, [])), (743, (.aload_n 0, 1, 0, 0, 0, []))], [(744, (.iload_n 3, 1, 0, 0, 0, [])), (745, (.iconst 2, 1, 0, 0, 0, [])), (746, (.iadd, 1, 0, 0, 0, [])), (747, (.iaload, 1, 0, 0, 0, [])), (748, (.aload_n 0, 1, 0, 0, 0, [])), (749, (.iload_n 3, 1, 0, 0, 0, [])), (750, (.iconst 3, 1, 0, 0, 0, [])), (751, (.iadd, 1, 0, 0, 0, []))], [(752, (.iaload, 1, 0, 0, 0, [])), (753, (.invokevirtual 92, 3, 230, 0, 0, [(7, 193), (7, 194), (7, 195)])), (756, (.if_icmp .eq 253, 3, 1009, 0, 0, [])), (759, (.iconst 0, 1, 0, 0, 0, []))], [(760, (.ireturn, 1, 0, 0, 0, [])), (761, (.aload_n 1, 1, 0, 0, 0, [])), (762, (.aload_n 0, 1, 0, 0, 0, [])), (763, (.iload_n 3, 1, 0, 0, 0, [])), (764, (.iconst 1, 1, 0, 0, 0, [])), (765, (.iadd, 1, 0, 0, 0, [])), (766, (.iaload, 1, 0, 0, 0, [])), (767, (.aload_n 0, 1, 0, 0, 0, []))]]
def pl_12 : List (List (Nat × pm_I)) := [[(768, (.iload_n 3, 1, 0, 0, 0, [])), (769, (.iconst 2, 1, 0, 0, 0, [])), (770, (.iadd, 1, 0, 0, 0, [])), (771, (.iaload, 1, 0, 0, 0, [])), (772, (.invokevirtual 93, 3, 121, 0, 0, [(4, 202), (4, 203), (4, 204)])), (775, (.aload_n 2, 1, 0, 0, 0, []))], [(776, (.aload_n 0, 1, 0, 0, 0, [])), (777, (.iload_n 3, 1, 0, 0, 0, [])), (778, (.iconst 1, 1, 0, 0, 0, [])), (779, (.iadd, 1, 0, 0, 0, [])), (780, (.iaload, 1, 0, 0, 0, [])), (781, (.aload_n 0, 1, 0, 0, 0, [])), (782, (.iload_n 3, 1, 0, 0, 0, [])), (783, (.iconst 2, 1, 0, 0, 0, []))], [(784, (.iadd, 1, 0, 0, 0, [])), (785, (.iaload, 1, 0, 0, 0, [])), (786, (.invokevirtual 96, 3, 235, 0, 0, [(7, 209), (7, 210), (7, 211)])), (789, (.if_icmp .eq 220, 3, 1009, 0, 0, []))], [(792, (.iconst 0, 1, 0, 0, 0, [])), (793, (.ireturn, 1, 0, 0, 0, [])), (794, (.aload_n 1, 1, 0, 0, 0, [])), (795, (.aload_n 0, 1, 0, 0, 0, [])), (796, (.iload_n 3, 1, 0, 0, 0, [])), (797, (.iconst 1, 1, 0, 0, 0, [])), (798, (.iadd, 1, 0, 0, 0, [])), (799, (.iaload, 1, 0, 0, 0, []))], [(800, (.invokevirtual 97, 3, 122, 0, 0, [(4, 237), (4, 238), (4, 239)])), (803, (.aload_n 2, 1, 0, 0, 0, [])), (804, (.aload_n 0, 1, 0, 0, 0, [])), (805, (.iload_n 3, 1, 0, 0, 0, [])), (806, (.iconst 1, 1, 0, 0, 0, [])), (807, (.iadd, 1, 0, 0, 0, []))], [(808, (.iaload, 1, 0, 0, 0, [])), (809, (.invokevirtual 100, 3, 238, 0, 0, [(7, 238), (7, 239), (8, 0)])), (812, (.if_icmp .eq 197, 3, 1009, 0, 0, [])), (815, (.iconst 0, 1, 0, 0, 0, []))], [(816, (.ireturn, 1, 0, 0, 0, [])), (817, (.aload_n 1, 1, 0, 0, 0, [])), (818, (.aload_n 0, 1, 0, 0, 0, [])), (819, (.iload_n 3, 1, 0, 0, 0, [])), (820, (.iconst 1, 1, 0, 0, 0, [])), (821, (.iadd, 1, 0, 0, 0, [])), (822, (.iaload, 1, 0, 0, 0, [])), (823, (.invokevirtual 101, 3, 123, 0, 0, [(5, 1), (5, 2), (5, 3)]))], [(826, (.aload_n 2, 1, 0, 0, 0, [])), (827, (.aload_n 0, 1, 0, 0, 0, [])), (828, (.iload_n 3, 1, 0, 0, 0, [])), (829, (.iconst 1, 1, 0, 0, 0, [])), (830, (.iadd, 1, 0, 0, 0, [])), (831, (.iaload, 1, 0, 0, 0, []))]]
def pl_13 : List (List (Nat × pm_I)) := [[(832, (.invokevirtual 105, 3, 242, 0, 0, [(8, 2), (8, 3), (8, 4)])), (835, (.lcmp, 1, 0, 0, 0, [])), (836, (.ifCond .eq 173, 3, 1009, 0, 0, [])), (839, (.iconst 0, 1, 0, 0, 0, []))], [(840, (.ireturn, 1, 0, 0, 0, [])), (841, (.aload_n 1, 1, 0, 0, 0, [])), (842, (.aload_n 0, 1, 0, 0, 0, [])), (843, (.iload_n 3, 1, 0, 0, 0, [])), (844, (.iconst 1, 1, 0, 0, 0, [])), (845, (.iadd, 1, 0, 0, 0, [])), (846, (.iaload, 1, 0, 0, 0, [])), (847, (.aload_n 0, 1, 0, 0, 0, []))], [(848, (.iload_n 3, 1, 0, 0, 0, [])), (849, (.iconst 2, 1, 0, 0, 0, [])), (850, (.iadd, 1, 0, 0, 0, [])), (851, (.iaload, 1, 0, 0, 0, [])), (852, (.invokevirtual 106, 3, 124, 0, 0, [(5, 10), (5, 11), (5, 12)])), (855, (.aload_n 2, 1, 0, 0, 0, []))], [(856, (.aload_n 0, 1, 0, 0, 0, [])), (857, (.iload_n 3, 1, 0, 0, 0, [])), (858, (.iconst 1, 1, 0, 0, 0, [])), (859, (.iadd, 1, 0, 0, 0, [])), (860, (.iaload, 1, 0, 0, 0, [])), (861, (.aload_n 0, 1, 0, 0, 0, [])), (862, (.iload_n 3, 1, 0, 0, 0, [])), (863, (.iconst 2, 1, 0, 0, 0, []))], [(864, (.iadd, 1, 0, 0, 0, [])), (865, (.iaload, 1, 0, 0, 0, [])), (866, (.invokevirtual 109, 3, 243, 0, 0, [(8, 18), (8, 19), (8, 20)])), (869, (.lcmp, 1, 0, 0, 0, [])), (870, (.ifCond .eq 139, 3, 1009, 0, 0, []))], [(873, (.iconst 0, 1, 0, 0, 0, [])), (874, (.ireturn, 1, 0, 0, 0, [])), (875, (.aload_n 1, 1, 0, 0, 0, [])), (876, (.aload_n 0, 1, 0, 0, 0, [])), (877, (.iload_n 3, 1, 0, 0, 0, [])), (878, (.iconst 1, 1, 0, 0, 0, [])), (879, (.iadd, 1, 0, 0, 0, []))], [(880, (.iaload, 1, 0, 0, 0, [])), (881, (.invokevirtual 110, 3, 125, 0, 0, [(5, 19), (5, 20), (5, 21)])), (884, (.aload_n 2, 1, 0, 0, 0, [])), (885, (.aload_n 0, 1, 0, 0, 0, [])), (886, (.iload_n 3, 1, 0, 0, 0, [])), (887, (.iconst 1, 1, 0, 0, 0, []))], [(888, (.iadd, 1, 0, 0, 0, [])), (889, (.iaload, 1, 0, 0, 0, [])), (890, (.invokevirtual 113, 3, 244, 0, 0, [(8, 22), (8, 23), (8, 24)])), (893, (.lcmp, 1, 0, 0, 0, [])), (894, (.ifCond .eq 115, 3, 1009, 0, 0, []))]]
def pl_14 : List (List (Nat × pm_I)) := [[(897, (.iconst 0, 1, 0, 0, 0, [])), (898, (.ireturn, 1, 0, 0, 0, [])), (899, (.aload_n 1, 1, 0, 0, 0, [])), (900, (.invokevirtual 114, 3, 127, 0, 0, [(5, 23), (5, 24), (5, 25)])), (903, (.aload_n 2, 1, 0, 0, 0, []))], [(904, (.invokevirtual 118, 3, 246, 0, 0, [(8, 26), (8, 27), (8, 28)])), (907, (.if_icmp .eq 102, 3, 1009, 0, 0, [])), (910, (.iconst 0, 1, 0, 0, 0, [])), (911, (.ireturn, 1, 0, 0, 0, []))], [(912, (.aload_n 1, 1, 0, 0, 0, [])), (913, (.invokevirtual 119, 3, 128, 0, 0, [(5, 31), (5, 32), (5, 33)])), (916, (.aload_n 2, 1, 0, 0, 0, [])), (917, (.invokevirtual 122, 3, 247, 0, 0, [(8, 34), (8, 35), (8, 36)]))], [(920, (.if_icmp .eq 89, 3, 1009, 0, 0, [])), (923, (.iconst 0, 1, 0, 0, 0, [])), (924, (.ireturn, 1, 0, 0, 0, [])), (925, (.aload_n 1, 1, 0, 0, 0, [])), (926, (.invokevirtual 123, 3, 129, 0, 0, [(5, 39), (5, 40), (5, 41)]))], [(929, (.aload_n 2, 1, 0, 0, 0, [])), (930, (.invokevirtual 126, 3, 253, 0, 0, [(8, 38), (8, 39), (8, 40)])), (933, (.if_icmp .eq 76, 3, 1009, 0, 0, []))], [(936, (.iconst 0, 1, 0, 0, 0, [])), (937, (.ireturn, 1, 0, 0, 0, [])), (938, (.aload_n 1, 1, 0, 0, 0, [])), (939, (.aload_n 0, 1, 0, 0, 0, [])), (940, (.iload_n 3, 1, 0, 0, 0, [])), (941, (.iconst 1, 1, 0, 0, 0, [])), (942, (.iadd, 1, 0, 0, 0, [])), (943, (.iaload, 1, 0, 0, 0, []))], [(944, (.invokevirtual 127, 3, 130, 0, 0, [(5, 79), (5, 80), (5, 81)])), (947, (.aload_n 2, 1, 0, 0, 0, [])), (948, (.aload_n 0, 1, 0, 0, 0, [])), (949, (.iload_n 3, 1, 0, 0, 0, [])), (950, (.iconst 1, 1, 0, 0, 0, [])), (951, (.iadd, 1, 0, 0, 0, []))], [(952, (.iaload, 1, 0, 0, 0, [])), (953, (.invokevirtual 130, 3, 255, 0, 0, [(8, 62), (8, 63), (8, 64)])), (956, (.lcmp, 1, 0, 0, 0, [])), (957, (.ifCond .eq 52, 3, 1009, 0, 0, []))]]
def pl_15 : List (List (Nat × pm_I)) := [[(960, (.iconst 0, 1, 0, 0, 0, [])), (961, (.ireturn, 1, 0, 0, 0, [])), (962, (.aload_n 1, 1, 0, 0, 0, [])), (963, (.aload_n 0, 1, 0, 0, 0, [])), (964, (.iload_n 3, 1, 0, 0, 0, [])), (965, (.iconst 1, 1, 0, 0, 0, [])), (966, (.iadd, 1, 0, 0, 0, [])), (967, (.iaload, 1, 0, 0, 0, []))], [(968, (.invokevirtual 131, 3, 131, 0, 0, [(5, 83), (5, 84), (5, 85)])), (971, (.aload_n 2, 1, 0, 0, 0, [])), (972, (.aload_n 0, 1, 0, 0, 0, [])), (973, (.iload_n 3, 1, 0, 0, 0, [])), (974, (.iconst 1, 1, 0, 0, 0, [])), (975, (.iadd, 1, 0, 0, 0, []))], [(976, (.iaload, 1, 0, 0, 0, [])), (977, (.invokevirtual 134, 3, 256, 0, 0, [(8, 69), (8, 70), (8, 71)])), (980, (.lcmp, 1, 0, 0, 0, [])), (981, (.ifCond .eq 28, 3, 1009, 0, 0, []))], [(984, (.iconst 0, 1, 0, 0, 0, [])), (985, (.ireturn, 1, 0, 0, 0, [])), (986, (.aload_n 1, 1, 0, 0, 0, [])), (987, (.aload_n 0, 1, 0, 0, 0, [])), (988, (.iload_n 3, 1, 0, 0, 0, [])), (989, (.iconst 1, 1, 0, 0, 0, [])), (990, (.iadd, 1, 0, 0, 0, [])), (991, (.iaload, 1, 0, 0, 0, []))], [(992, (.invokevirtual 135, 3, 132, 0, 0, [(5, 87), (5, 88), (5, 89)])), (995, (.aload_n 2, 1, 0, 0, 0, [])), (996, (.aload_n 0, 1, 0, 0, 0, [])), (997, (.iload_n 3, 1, 0, 0, 0, [])), (998, (.iconst 1, 1, 0, 0, 0, [])), (999, (.iadd, 1, 0, 0, 0, []))], [(1000, (.iaload, 1, 0, 0, 0, [])), (1001, (.invokevirtual 138, 3, 257, 0, 0, [(8, 73), (8, 74), (8, 75)])), (1004, (.if_icmp .eq 5, 3, 1009, 0, 0, [])), (1007, (.iconst 0, 1, 0, 0, 0, []))], [(1008, (.ireturn, 1, 0, 0, 0, [])), (1009, (.iinc 3 6, 3, 0, 0, 0, [])), (1012, (.goto (-994), 3, 18, 0, 0, [])), (1015, (.iconst 1, 1, 0, 0, 0, []))], [(1016, (.ireturn, 1, 0, 0, 0, []))]]
def pd_law : List (List (Nat × pm_I)) := pl_0 ++ (pl_1 ++ (pl_2 ++ (pl_3 ++ (pl_4 ++ (pl_5 ++ (pl_6 ++ (pl_7 ++ (pl_8 ++ (pl_9 ++ (pl_10 ++ (pl_11 ++ (pl_12 ++ (pl_13 ++ (pl_14 ++ (pl_15)))))))))))))))
def pm_cs (k : Nat) : List Value := match k with
  | 0 => [.int 0, .int 0, .int 0, .null]
  | 1 => [.null, .null, .int 0]
  | 2 => [.null, .null, .null, .int 0, .int 0]
  | 3 => [.null, .null, .null]
  | 4 => [.int 0, .int 0, .null, .int 0, .null, .int 0, .int 0, .int 0, .int 0, .int 0, .long 0]
  | 5 => [.int 0, .int 0, .int 0, .int 0, .int 0, .int 0, .null]
  | 6 => [.null, .null, .null, .null, .int 0, .int 0, .int 0, .int 0, .int 0, .int 0, .long 0]
  | 7 => [.int 0, .int 0, .int 0, .int 0, .int 0, .null, .null, .null, .null]
  | 8 => [.int 0, .int 0, .int 0, .int 0, .int 0, .null, .null, .null, .null, .null, .null, .null, .null, .null, .null, .null, .null]
  | 9 => [.int 0, .int 0, .null, .null, .null, .null, .null, .null, .int 0, .int 0, .int 0, .int 0, .int 0, .int 0]
  | 10 => [.null, .null, .null, .null, .null, .null, .null, .null, .null, .null, .null, .null, .null, .null, .null, .int 0, .int 0, .int 0, .int 0]
  | 11 => [.null, .int 0, .int 0, .int 0, .int 0, .int 0, .int 0, .int 0, .int 0, .long 0, .null, .null, .null, .null, .null, .null, .null, .null, .null, .null, .null, .null, .null, .int 0, .int 0, .int 0, .int 0, .int 0, .int 0, .null, .null, .null, .int 0, .null, .null, .null, .int 0, .int 0, .int 0, .int 0, .int 0, .null, .int 0, .null, .null, .null, .null, .null, .null, .null, .null, .null, .null, .int 0, .int 0, .null, .null, .null, .int 0, .int 0, .null, .null, .null, .null, .null, .null, .null, .null, .null, .null, .int 0, .null, .null, .int 0, .int 0, .null, .int 0, .int 0, .null, .null, .null]
  | _ => []
end
section
/-! the tables are right: decided -/
set_option maxRecDepth 100000 in
theorem pk_1 : pm_dOk (pm_msT pm_tab) pd_1 := ⟨by decide +kernel, by decide +kernel⟩
set_option maxRecDepth 100000 in
theorem pk_2 : pm_dOk (pm_msT pm_tab) pd_2 := ⟨by decide +kernel, by decide +kernel⟩
set_option maxRecDepth 100000 in
theorem pk_3 : pm_dOk (pm_msT pm_tab) pd_3 := ⟨by decide +kernel, by decide +kernel⟩
set_option maxRecDepth 100000 in
theorem pk_4 : pm_dOk (pm_msT pm_tab) pd_4 := ⟨by decide +kernel, by decide +kernel⟩
set_option maxRecDepth 100000 in
theorem pk_5 : pm_dOk (pm_msT pm_tab) pd_5 := ⟨by decide +kernel, by decide +kernel⟩
set_option maxRecDepth 100000 in
theorem pk_6 : pm_dOk (pm_msT pm_tab) pd_6 := ⟨by decide +kernel, by decide +kernel⟩
set_option maxRecDepth 100000 in
theorem pk_7 : pm_dOk (pm_msT pm_tab) pd_7 := ⟨by decide +kernel, by decide +kernel⟩
set_option maxRecDepth 100000 in
theorem pk_8 : pm_dOk (pm_msT pm_tab) pd_8 := ⟨by decide +kernel, by decide +kernel⟩
set_option maxRecDepth 100000 in
theorem pk_9 : pm_dOk (pm_msT pm_tab) pd_9 := ⟨by decide +kernel, by decide +kernel⟩
set_option maxRecDepth 100000 in
theorem pk_10 : pm_dOk (pm_msT pm_tab) pd_10 := ⟨by decide +kernel, by decide +kernel⟩
set_option maxRecDepth 100000 in
theorem pk_11 : pm_dOk (pm_msT pm_tab) pd_11 := ⟨by decide +kernel, by decide +kernel⟩
set_option maxRecDepth 100000 in
theorem pk_12 : pm_dOk (pm_msT pm_tab) pd_12 := ⟨by decide +kernel, by decide +kernel⟩
set_option maxRecDepth 100000 in
theorem pk_13 : pm_dOk (pm_msT pm_tab) pd_13 := ⟨by decide +kernel, by decide +kernel⟩
set_option maxRecDepth 100000 in
theorem pk_14 : pm_dOk (pm_msT pm_tab) pd_14 := ⟨by decide +kernel, by decide +kernel⟩
set_option maxRecDepth 100000 in
theorem pk_15 : pm_dOk (pm_msT pm_tab) pd_15 := ⟨by decide +kernel, by decide +kernel⟩
set_option maxRecDepth 100000 in
theorem pk_16 : pm_dOk (pm_msT pm_tab) pd_16 := ⟨by decide +kernel, by decide +kernel⟩
set_option maxRecDepth 100000 in
theorem pk_17 : pm_dOk (pm_msT pm_tab) pd_17 := ⟨by decide +kernel, by decide +kernel⟩
set_option maxRecDepth 100000 in
theorem pk_18 : pm_dOk (pm_msT pm_tab) pd_18 := ⟨by decide +kernel, by decide +kernel⟩
set_option maxRecDepth 100000 in
theorem pk_19 : pm_dOk (pm_msT pm_tab) pd_19 := ⟨by decide +kernel, by decide +kernel⟩
set_option maxRecDepth 100000 in
theorem pk_20 : pm_dOk (pm_msT pm_tab) pd_20 := ⟨by decide +kernel, by decide +kernel⟩
set_option maxRecDepth 100000 in
theorem pk_21 : pm_dOk (pm_msT pm_tab) pd_21 := ⟨by decide +kernel, by decide +kernel⟩
set_option maxRecDepth 100000 in
theorem pk_22 : pm_dOk (pm_msT pm_tab) pd_22 := ⟨by decide +kernel, by decide +kernel⟩
set_option maxRecDepth 100000 in
theorem pk_23 : pm_dOk (pm_msT pm_tab) pd_23 := ⟨by decide +kernel, by decide +kernel⟩
set_option maxRecDepth 100000 in
theorem pk_24 : pm_dOk (pm_msT pm_tab) pd_24 := ⟨by decide +kernel, by decide +kernel⟩
set_option maxRecDepth 100000 in
theorem pk_25 : pm_dOk (pm_msT pm_tab) pd_25 := ⟨by decide +kernel, by decide +kernel⟩
set_option maxRecDepth 100000 in
theorem pk_26 : pm_dOk (pm_msT pm_tab) pd_26 := ⟨by decide +kernel, by decide +kernel⟩
set_option maxRecDepth 100000 in
theorem pk_27 : pm_dOk (pm_msT pm_tab) pd_27 := ⟨by decide +kernel, by decide +kernel⟩
set_option maxRecDepth 100000 in
theorem pk_28 : pm_dOk (pm_msT pm_tab) pd_28 := ⟨by decide +kernel, by decide +kernel⟩
set_option maxRecDepth 100000 in
theorem pk_29 : pm_dOk (pm_msT pm_tab) pd_29 := ⟨by decide +kernel, by decide +kernel⟩
set_option maxRecDepth 100000 in
theorem pk_30 : pm_dOk (pm_msT pm_tab) pd_30 := ⟨by decide +kernel, by decide +kernel⟩
set_option maxRecDepth 100000 in
theorem pk_31 : pm_dOk (pm_msT pm_tab) pd_31 := ⟨by decide +kernel, by decide +kernel⟩
set_option maxRecDepth 100000 in
theorem pk_32 : pm_dOk (pm_msT pm_tab) pd_32 := ⟨by decide +kernel, by decide +kernel⟩
set_option maxRecDepth 100000 in
theorem pk_33 : pm_dOk (pm_msT pm_tab) pd_33 := ⟨by decide +kernel, by decide +kernel⟩
set_option maxRecDepth 100000 in
theorem pk_34 : pm_dOk (pm_msT pm_tab) pd_34 := ⟨by decide +kernel, by decide +kernel⟩
set_option maxRecDepth 100000 in
theorem pk_35 : pm_dOk (pm_msT pm_tab) pd_35 := ⟨by decide +kernel, by decide +kernel⟩
set_option maxRecDepth 100000 in
theorem pk_36 : pm_dOk (pm_msT pm_tab) pd_36 := ⟨by decide +kernel, by decide +kernel⟩
set_option maxRecDepth 100000 in
theorem pk_37 : pm_dOk (pm_msT pm_tab) pd_37 := ⟨by decide +kernel, by decide +kernel⟩
set_option maxRecDepth 100000 in
theorem pk_38 : pm_dOk (pm_msT pm_tab) pd_38 := ⟨by decide +kernel, by decide +kernel⟩
set_option maxRecDepth 100000 in
theorem pk_39 : pm_dOk (pm_msT pm_tab) pd_39 := ⟨by decide +kernel, by decide +kernel⟩
set_option maxRecDepth 100000 in
theorem pk_40 : pm_dOk (pm_msT pm_tab) pd_40 := ⟨by decide +kernel, by decide +kernel⟩
set_option maxRecDepth 100000 in
theorem pk_41 : pm_dOk (pm_msT pm_tab) pd_41 := ⟨by decide +kernel, by decide +kernel⟩
set_option maxRecDepth 100000 in
theorem pk_42 : pm_dOk (pm_msT pm_tab) pd_42 := ⟨by decide +kernel, by decide +kernel⟩
set_option maxRecDepth 100000 in
theorem pk_43 : pm_dOk (pm_msT pm_tab) pd_43 := ⟨by decide +kernel, by decide +kernel⟩
set_option maxRecDepth 100000 in
theorem pk_44 : pm_dOk (pm_msT pm_tab) pd_44 := ⟨by decide +kernel, by decide +kernel⟩
set_option maxRecDepth 100000 in
theorem pk_45 : pm_dOk (pm_msT pm_tab) pd_45 := ⟨by decide +kernel, by decide +kernel⟩
set_option maxRecDepth 100000 in
theorem pk_46 : pm_dOk (pm_msT pm_tab) pd_46 := ⟨by decide +kernel, by decide +kernel⟩
set_option maxRecDepth 100000 in
theorem pk_47 : pm_dOk (pm_msT pm_tab) pd_47 := ⟨by decide +kernel, by decide +kernel⟩
set_option maxRecDepth 100000 in
theorem pk_48 : pm_dOk (pm_msT pm_tab) pd_48 := ⟨by decide +kernel, by decide +kernel⟩
set_option maxRecDepth 100000 in
theorem pk_49 : pm_dOk (pm_msT pm_tab) pd_49 := ⟨by decide +kernel, by decide +kernel⟩
set_option maxRecDepth 100000 in
theorem pk_50 : pm_dOk (pm_msT pm_tab) pd_50 := ⟨by decide +kernel, by decide +kernel⟩
end
section
set_option maxRecDepth 100000 in
theorem pk_51 : pm_dOk (pm_msT pm_tab) pd_51 := ⟨by decide +kernel, by decide +kernel⟩
set_option maxRecDepth 100000 in
theorem pk_52 : pm_dOk (pm_msT pm_tab) pd_52 := ⟨by decide +kernel, by decide +kernel⟩
set_option maxRecDepth 100000 in
theorem pk_53 : pm_dOk (pm_msT pm_tab) pd_53 := ⟨by decide +kernel, by decide +kernel⟩
set_option maxRecDepth 100000 in
theorem pk_54 : pm_dOk (pm_msT pm_tab) pd_54 := ⟨by decide +kernel, by decide +kernel⟩
set_option maxRecDepth 100000 in
theorem pk_55 : pm_dOk (pm_msT pm_tab) pd_55 := ⟨by decide +kernel, by decide +kernel⟩
set_option maxRecDepth 100000 in
theorem pk_56 : pm_dOk (pm_msT pm_tab) pd_56 := ⟨by decide +kernel, by decide +kernel⟩
set_option maxRecDepth 100000 in
theorem pk_57 : pm_dOk (pm_msT pm_tab) pd_57 := ⟨by decide +kernel, by decide +kernel⟩
set_option maxRecDepth 100000 in
theorem pk_58 : pm_dOk (pm_msT pm_tab) pd_58 := ⟨by decide +kernel, by decide +kernel⟩
set_option maxRecDepth 100000 in
theorem pk_59 : pm_dOk (pm_msT pm_tab) pd_59 := ⟨by decide +kernel, by decide +kernel⟩
set_option maxRecDepth 100000 in
theorem pk_60 : pm_dOk (pm_msT pm_tab) pd_60 := ⟨by decide +kernel, by decide +kernel⟩
set_option maxRecDepth 100000 in
theorem pk_61 : pm_dOk (pm_msT pm_tab) pd_61 := ⟨by decide +kernel, by decide +kernel⟩
set_option maxRecDepth 100000 in
theorem pk_62 : pm_dOk (pm_msT pm_tab) pd_62 := ⟨by decide +kernel, by decide +kernel⟩
set_option maxRecDepth 100000 in
theorem pk_63 : pm_dOk (pm_msT pm_tab) pd_63 := ⟨by decide +kernel, by decide +kernel⟩
set_option maxRecDepth 100000 in
theorem pk_64 : pm_dOk (pm_msT pm_tab) pd_64 := ⟨by decide +kernel, by decide +kernel⟩
set_option maxRecDepth 100000 in
theorem pk_65 : pm_dOk (pm_msT pm_tab) pd_65 := ⟨by decide +kernel, by decide +kernel⟩
set_option maxRecDepth 100000 in
theorem pk_66 : pm_dOk (pm_msT pm_tab) pd_66 := ⟨by decide +kernel, by decide +kernel⟩
set_option maxRecDepth 100000 in
theorem pk_67 : pm_dOk (pm_msT pm_tab) pd_67 := ⟨by decide +kernel, by decide +kernel⟩
set_option maxRecDepth 100000 in
theorem pk_68 : pm_dOk (pm_msT pm_tab) pd_68 := ⟨by decide +kernel, by decide +kernel⟩
set_option maxRecDepth 100000 in
theorem pk_69 : pm_dOk (pm_msT pm_tab) pd_69 := ⟨by decide +kernel, by decide +kernel⟩
set_option maxRecDepth 100000 in
theorem pk_70 : pm_dOk (pm_msT pm_tab) pd_70 := ⟨by decide +kernel, by decide +kernel⟩
set_option maxRecDepth 100000 in
theorem pk_71 : pm_dOk (pm_msT pm_tab) pd_71 := ⟨by decide +kernel, by decide +kernel⟩
set_option maxRecDepth 100000 in
theorem pk_72 : pm_dOk (pm_msT pm_tab) pd_72 := ⟨by decide +kernel, by decide +kernel⟩
set_option maxRecDepth 100000 in
theorem pk_73 : pm_dOk (pm_msT pm_tab) pd_73 := ⟨by decide +kernel, by decide +kernel⟩
set_option maxRecDepth 100000 in
theorem pk_74 : pm_dOk (pm_msT pm_tab) pd_74 := ⟨by decide +kernel, by decide +kernel⟩
set_option maxRecDepth 100000 in
theorem pk_75 : pm_dOk (pm_msT pm_tab) pd_75 := ⟨by decide +kernel, by decide +kernel⟩
set_option maxRecDepth 100000 in
theorem pk_76 : pm_dOk (pm_msT pm_tab) pd_76 := ⟨by decide +kernel, by decide +kernel⟩
set_option maxRecDepth 100000 in
theorem pk_77 : pm_dOk (pm_msT pm_tab) pd_77 := ⟨by decide +kernel, by decide +kernel⟩
set_option maxRecDepth 100000 in
theorem pk_78 : pm_dOk (pm_msT pm_tab) pd_78 := ⟨by decide +kernel, by decide +kernel⟩
set_option maxRecDepth 100000 in
theorem pk_79 : pm_dOk (pm_msT pm_tab) pd_79 := ⟨by decide +kernel, by decide +kernel⟩
set_option maxRecDepth 100000 in
theorem pk_80 : pm_dOk (pm_msT pm_tab) pd_80 := ⟨by decide +kernel, by decide +kernel⟩
set_option maxRecDepth 100000 in
theorem pk_81 : pm_dOk (pm_msT pm_tab) pd_81 := ⟨by decide +kernel, by decide +kernel⟩
set_option maxRecDepth 100000 in
theorem pk_82 : pm_dOk (pm_msT pm_tab) pd_82 := ⟨by decide +kernel, by decide +kernel⟩
set_option maxRecDepth 100000 in
theorem pk_83 : pm_dOk (pm_msT pm_tab) pd_83 := ⟨by decide +kernel, by decide +kernel⟩
set_option maxRecDepth 100000 in
theorem pk_84 : pm_dOk (pm_msT pm_tab) pd_84 := ⟨by decide +kernel, by decide +kernel⟩
set_option maxRecDepth 100000 in
theorem pk_85 : pm_dOk (pm_msT pm_tab) pd_85 := ⟨by decide +kernel, by decide +kernel⟩
set_option maxRecDepth 100000 in
theorem pk_86 : pm_dOk (pm_msT pm_tab) pd_86 := ⟨by decide +kernel, by decide +kernel⟩
set_option maxRecDepth 100000 in
theorem pk_87 : pm_dOk (pm_msT pm_tab) pd_87 := ⟨by decide +kernel, by decide +kernel⟩
set_option maxRecDepth 100000 in
theorem pk_88 : pm_dOk (pm_msT pm_tab) pd_88 := ⟨by decide +kernel, by decide +kernel⟩
set_option maxRecDepth 100000 in
theorem pk_89 : pm_dOk (pm_msT pm_tab) pd_89 := ⟨by decide +kernel, by decide +kernel⟩
set_option maxRecDepth 100000 in
theorem pk_90 : pm_dOk (pm_msT pm_tab) pd_90 := ⟨by decide +kernel, by decide +kernel⟩
set_option maxRecDepth 100000 in
theorem pk_91 : pm_dOk (pm_msT pm_tab) pd_91 := ⟨by decide +kernel, by decide +kernel⟩
set_option maxRecDepth 100000 in
theorem pk_92 : pm_dOk (pm_msT pm_tab) pd_92 := ⟨by decide +kernel, by decide +kernel⟩
set_option maxRecDepth 100000 in
theorem pk_93 : pm_dOk (pm_msT pm_tab) pd_93 := ⟨by decide +kernel, by decide +kernel⟩
set_option maxRecDepth 100000 in
theorem pk_94 : pm_dOk (pm_msT pm_tab) pd_94 := ⟨by decide +kernel, by decide +kernel⟩
set_option maxRecDepth 100000 in
theorem pk_95 : pm_dOk (pm_msT pm_tab) pd_95 := ⟨by decide +kernel, by decide +kernel⟩
set_option maxRecDepth 100000 in
theorem pk_96 : pm_dOk (pm_msT pm_tab) pd_96 := ⟨by decide +kernel, by decide +kernel⟩
set_option maxRecDepth 100000 in
theorem pk_97 : pm_dOk (pm_msT pm_tab) pd_97 := ⟨by decide +kernel, by decide +kernel⟩
set_option maxRecDepth 100000 in
theorem pk_98 : pm_dOk (pm_msT pm_tab) pd_98 := ⟨by decide +kernel, by decide +kernel⟩
set_option maxRecDepth 100000 in
theorem pk_99 : pm_dOk (pm_msT pm_tab) pd_99 := ⟨by decide +kernel, by decide +kernel⟩
end
section
set_option maxRecDepth 100000 in
theorem pk_100 : pm_dOk (pm_msT pm_tab) pd_100 := ⟨by decide +kernel, by decide +kernel⟩
set_option maxRecDepth 100000 in
theorem pk_101 : pm_dOk (pm_msT pm_tab) pd_101 := ⟨by decide +kernel, by decide +kernel⟩
set_option maxRecDepth 100000 in
theorem pk_102 : pm_dOk (pm_msT pm_tab) pd_102 := ⟨by decide +kernel, by decide +kernel⟩
set_option maxRecDepth 100000 in
theorem pk_103 : pm_dOk (pm_msT pm_tab) pd_103 := ⟨by decide +kernel, by decide +kernel⟩
set_option maxRecDepth 100000 in
theorem pk_104 : pm_dOk (pm_msT pm_tab) pd_104 := ⟨by decide +kernel, by decide +kernel⟩
set_option maxRecDepth 100000 in
theorem pk_105 : pm_dOk (pm_msT pm_tab) pd_105 := ⟨by decide +kernel, by decide +kernel⟩
set_option maxRecDepth 100000 in
theorem pk_106 : pm_dOk (pm_msT pm_tab) pd_106 := ⟨by decide +kernel, by decide +kernel⟩
set_option maxRecDepth 100000 in
theorem pk_107 : pm_dOk (pm_msT pm_tab) pd_107 := ⟨by decide +kernel, by decide +kernel⟩
set_option maxRecDepth 100000 in
theorem pk_108 : pm_dOk (pm_msT pm_tab) pd_108 := ⟨by decide +kernel, by decide +kernel⟩
set_option maxRecDepth 100000 in
theorem pk_109 : pm_dOk (pm_msT pm_tab) pd_109 := ⟨by decide +kernel, by decide +kernel⟩
set_option maxRecDepth 100000 in
theorem pk_110 : pm_dOk (pm_msT pm_tab) pd_110 := ⟨by decide +kernel, by decide +kernel⟩
set_option maxRecDepth 100000 in
theorem pk_111 : pm_dOk (pm_msT pm_tab) pd_111 := ⟨by decide +kernel, by decide +kernel⟩
set_option maxRecDepth 100000 in
theorem pk_112 : pm_dOk (pm_msT pm_tab) pd_112 := ⟨by decide +kernel, by decide +kernel⟩
set_option maxRecDepth 100000 in
theorem pk_113 : pm_dOk (pm_msT pm_tab) pd_113 := ⟨by decide +kernel, by decide +kernel⟩
set_option maxRecDepth 100000 in
theorem pk_114 : pm_dOk (pm_msT pm_tab) pd_114 := ⟨by decide +kernel, by decide +kernel⟩
set_option maxRecDepth 100000 in
theorem pk_115 : pm_dOk (pm_msT pm_tab) pd_115 := ⟨by decide +kernel, by decide +kernel⟩
set_option maxRecDepth 100000 in
theorem pk_116 : pm_dOk (pm_msT pm_tab) pd_116 := ⟨by decide +kernel, by decide +kernel⟩
set_option maxRecDepth 100000 in
theorem pk_117 : pm_dOk (pm_msT pm_tab) pd_117 := ⟨by decide +kernel, by decide +kernel⟩
set_option maxRecDepth 100000 in
theorem pk_118 : pm_dOk (pm_msT pm_tab) pd_118 := ⟨by decide +kernel, by decide +kernel⟩
set_option maxRecDepth 100000 in
theorem pk_119 : pm_dOk (pm_msT pm_tab) pd_119 := ⟨by decide +kernel, by decide +kernel⟩
set_option maxRecDepth 100000 in
theorem pk_120 : pm_dOk (pm_msT pm_tab) pd_120 := ⟨by decide +kernel, by decide +kernel⟩
set_option maxRecDepth 100000 in
theorem pk_121 : pm_dOk (pm_msT pm_tab) pd_121 := ⟨by decide +kernel, by decide +kernel⟩
set_option maxRecDepth 100000 in
theorem pk_122 : pm_dOk (pm_msT pm_tab) pd_122 := ⟨by decide +kernel, by decide +kernel⟩
set_option maxRecDepth 100000 in
theorem pk_123 : pm_dOk (pm_msT pm_tab) pd_123 := ⟨by decide +kernel, by decide +kernel⟩
set_option maxRecDepth 100000 in
theorem pk_124 : pm_dOk (pm_msT pm_tab) pd_124 := ⟨by decide +kernel, by decide +kernel⟩
set_option maxRecDepth 100000 in
theorem pk_125 : pm_dOk (pm_msT pm_tab) pd_125 := ⟨by decide +kernel, by decide +kernel⟩
set_option maxRecDepth 100000 in
theorem pk_126 : pm_dOk (pm_msT pm_tab) pd_126 := ⟨by decide +kernel, by decide +kernel⟩
set_option maxRecDepth 100000 in
theorem pk_127 : pm_dOk (pm_msT pm_tab) pd_127 := ⟨by decide +kernel, by decide +kernel⟩
set_option maxRecDepth 100000 in
theorem pk_128 : pm_dOk (pm_msT pm_tab) pd_128 := ⟨by decide +kernel, by decide +kernel⟩
set_option maxRecDepth 100000 in
theorem pk_129 : pm_dOk (pm_msT pm_tab) pd_129 := ⟨by decide +kernel, by decide +kernel⟩
set_option maxRecDepth 100000 in
theorem pk_130 : pm_dOk (pm_msT pm_tab) pd_130 := ⟨by decide +kernel, by decide +kernel⟩
set_option maxRecDepth 100000 in
theorem pk_131 : pm_dOk (pm_msT pm_tab) pd_131 := ⟨by decide +kernel, by decide +kernel⟩
set_option maxRecDepth 100000 in
theorem pk_132 : pm_dOk (pm_msT pm_tab) pd_132 := ⟨by decide +kernel, by decide +kernel⟩
set_option maxRecDepth 100000 in
theorem pk_133 : pm_dOk (pm_msT pm_tab) pd_133 := ⟨by decide +kernel, by decide +kernel⟩
set_option maxRecDepth 100000 in
theorem pk_134 : pm_dOk (pm_msT pm_tab) pd_134 := ⟨by decide +kernel, by decide +kernel⟩
set_option maxRecDepth 100000 in
theorem pk_135 : pm_dOk (pm_msT pm_tab) pd_135 := ⟨by decide +kernel, by decide +kernel⟩
set_option maxRecDepth 100000 in
theorem pk_136 : pm_dOk (pm_msT pm_tab) pd_136 := ⟨by decide +kernel, by decide +kernel⟩
set_option maxRecDepth 100000 in
theorem pk_137 : pm_dOk (pm_msT pm_tab) pd_137 := ⟨by decide +kernel, by decide +kernel⟩
set_option maxRecDepth 100000 in
theorem pk_138 : pm_dOk (pm_msT pm_tab) pd_138 := ⟨by decide +kernel, by decide +kernel⟩
set_option maxRecDepth 100000 in
theorem pk_139 : pm_dOk (pm_msT pm_tab) pd_139 := ⟨by decide +kernel, by decide +kernel⟩
set_option maxRecDepth 100000 in
theorem pk_140 : pm_dOk (pm_msT pm_tab) pd_140 := ⟨by decide +kernel, by decide +kernel⟩
set_option maxRecDepth 100000 in
theorem pk_141 : pm_dOk (pm_msT pm_tab) pd_141 := ⟨by decide +kernel, by decide +kernel⟩
set_option maxRecDepth 100000 in
theorem pk_142 : pm_dOk (pm_msT pm_tab) pd_142 := ⟨by decide +kernel, by decide +kernel⟩
set_option maxRecDepth 100000 in
theorem pk_143 : pm_dOk (pm_msT pm_tab) pd_143 := ⟨by decide +kernel, by decide +kernel⟩
set_option maxRecDepth 100000 in
theorem pk_144 : pm_dOk (pm_msT pm_tab) pd_144 := ⟨by decide +kernel, by decide +kernel⟩
set_option maxRecDepth 100000 in
theorem pk_145 : pm_dOk (pm_msT pm_tab) pd_145 := ⟨by decide +kernel, by decide +kernel⟩
set_option maxRecDepth 100000 in
theorem pk_146 : pm_dOk (pm_msT pm_tab) pd_146 := ⟨by decide +kernel, by decide +kernel⟩
set_option maxRecDepth 100000 in
theorem pk_147 : pm_dOk (pm_msT pm_tab) pd_147 := ⟨by decide +kernel, by decide +kernel⟩
set_option maxRecDepth 100000 in
theorem pk_148 : pm_dOk (pm_msT pm_tab) pd_148 := ⟨by decide +kernel, by decide +kernel⟩
set_option maxRecDepth 100000 in
theorem pk_149 : pm_dOk (pm_msT pm_tab) pd_149 := ⟨by decide +kernel, by decide +kernel⟩
set_option maxRecDepth 100000 in
theorem pk_150 : pm_dOk (pm_msT pm_tab) pd_150 := ⟨by decide +kernel, by decide +kernel⟩
set_option maxRecDepth 100000 in
theorem pk_151 : pm_dOk (pm_msT pm_tab) pd_151 := ⟨by decide +kernel, by decide +kernel⟩
set_option maxRecDepth 100000 in
theorem pk_152 : pm_dOk (pm_msT pm_tab) pd_152 := ⟨by decide +kernel, by decide +kernel⟩
set_option maxRecDepth 100000 in
theorem pk_153 : pm_dOk (pm_msT pm_tab) pd_153 := ⟨by decide +kernel, by decide +kernel⟩
end
section
set_option maxRecDepth 100000 in
theorem pk_154 : pm_dOk (pm_msT pm_tab) pd_154 := ⟨by decide +kernel, by decide +kernel⟩
set_option maxRecDepth 100000 in
theorem pk_155 : pm_dOk (pm_msT pm_tab) pd_155 := ⟨by decide +kernel, by decide +kernel⟩
set_option maxRecDepth 100000 in
theorem pk_156 : pm_dOk (pm_msT pm_tab) pd_156 := ⟨by decide +kernel, by decide +kernel⟩
set_option maxRecDepth 100000 in
theorem pk_157 : pm_dOk (pm_msT pm_tab) pd_157 := ⟨by decide +kernel, by decide +kernel⟩
set_option maxRecDepth 100000 in
theorem pk_158 : pm_dOk (pm_msT pm_tab) pd_158 := ⟨by decide +kernel, by decide +kernel⟩
set_option maxRecDepth 100000 in
theorem pk_159 : pm_dOk (pm_msT pm_tab) pd_159 := ⟨by decide +kernel, by decide +kernel⟩
set_option maxRecDepth 100000 in
theorem pk_160 : pm_dOk (pm_msT pm_tab) pd_160 := ⟨by decide +kernel, by decide +kernel⟩
set_option maxRecDepth 100000 in
theorem pk_161 : pm_dOk (pm_msT pm_tab) pd_161 := ⟨by decide +kernel, by decide +kernel⟩
set_option maxRecDepth 100000 in
theorem pk_162 : pm_dOk (pm_msT pm_tab) pd_162 := ⟨by decide +kernel, by decide +kernel⟩
set_option maxRecDepth 100000 in
theorem pk_163 : pm_dOk (pm_msT pm_tab) pd_163 := ⟨by decide +kernel, by decide +kernel⟩
set_option maxRecDepth 100000 in
theorem pk_164 : pm_dOk (pm_msT pm_tab) pd_164 := ⟨by decide +kernel, by decide +kernel⟩
set_option maxRecDepth 100000 in
theorem pk_165 : pm_dOk (pm_msT pm_tab) pd_165 := ⟨by decide +kernel, by decide +kernel⟩
set_option maxRecDepth 100000 in
theorem pk_166 : pm_dOk (pm_msT pm_tab) pd_166 := ⟨by decide +kernel, by decide +kernel⟩
set_option maxRecDepth 100000 in
theorem pk_167 : pm_dOk (pm_msT pm_tab) pd_167 := ⟨by decide +kernel, by decide +kernel⟩
set_option maxRecDepth 100000 in
theorem pk_168 : pm_dOk (pm_msT pm_tab) pd_168 := ⟨by decide +kernel, by decide +kernel⟩
set_option maxRecDepth 100000 in
theorem pk_169 : pm_dOk (pm_msT pm_tab) pd_169 := ⟨by decide +kernel, by decide +kernel⟩
set_option maxRecDepth 100000 in
theorem pk_170 : pm_dOk (pm_msT pm_tab) pd_170 := ⟨by decide +kernel, by decide +kernel⟩
set_option maxRecDepth 100000 in
theorem pk_171 : pm_dOk (pm_msT pm_tab) pd_171 := ⟨by decide +kernel, by decide +kernel⟩
set_option maxRecDepth 100000 in
theorem pk_172 : pm_dOk (pm_msT pm_tab) pd_172 := ⟨by decide +kernel, by decide +kernel⟩
set_option maxRecDepth 100000 in
theorem pk_173 : pm_dOk (pm_msT pm_tab) pd_173 := ⟨by decide +kernel, by decide +kernel⟩
set_option maxRecDepth 100000 in
theorem pk_174 : pm_dOk (pm_msT pm_tab) pd_174 := ⟨by decide +kernel, by decide +kernel⟩
set_option maxRecDepth 100000 in
theorem pk_175 : pm_dOk (pm_msT pm_tab) pd_175 := ⟨by decide +kernel, by decide +kernel⟩
set_option maxRecDepth 100000 in
theorem pk_176 : pm_dOk (pm_msT pm_tab) pd_176 := ⟨by decide +kernel, by decide +kernel⟩
set_option maxRecDepth 100000 in
theorem pk_177 : pm_dOk (pm_msT pm_tab) pd_177 := ⟨by decide +kernel, by decide +kernel⟩
set_option maxRecDepth 100000 in
theorem pk_178 : pm_dOk (pm_msT pm_tab) pd_178 := ⟨by decide +kernel, by decide +kernel⟩
set_option maxRecDepth 100000 in
theorem pk_179 : pm_dOk (pm_msT pm_tab) pd_179 := ⟨by decide +kernel, by decide +kernel⟩
set_option maxRecDepth 100000 in
theorem pk_180 : pm_dOk (pm_msT pm_tab) pd_180 := ⟨by decide +kernel, by decide +kernel⟩
set_option maxRecDepth 100000 in
theorem pk_181 : pm_dOk (pm_msT pm_tab) pd_181 := ⟨by decide +kernel, by decide +kernel⟩
set_option maxRecDepth 100000 in
theorem pk_182 : pm_dOk (pm_msT pm_tab) pd_182 := ⟨by decide +kernel, by decide +kernel⟩
set_option maxRecDepth 100000 in
theorem pk_183 : pm_dOk (pm_msT pm_tab) pd_183 := ⟨by decide +kernel, by decide +kernel⟩
set_option maxRecDepth 100000 in
theorem pk_184 : pm_dOk (pm_msT pm_tab) pd_184 := ⟨by decide +kernel, by decide +kernel⟩
set_option maxRecDepth 100000 in
theorem pk_185 : pm_dOk (pm_msT pm_tab) pd_185 := ⟨by decide +kernel, by decide +kernel⟩
set_option maxRecDepth 100000 in
theorem pk_186 : pm_dOk (pm_msT pm_tab) pd_186 := ⟨by decide +kernel, by decide +kernel⟩
set_option maxRecDepth 100000 in
theorem pk_187 : pm_dOk (pm_msT pm_tab) pd_187 := ⟨by decide +kernel, by decide +kernel⟩
set_option maxRecDepth 100000 in
theorem pk_188 : pm_dOk (pm_msT pm_tab) pd_188 := ⟨by decide +kernel, by decide +kernel⟩
set_option maxRecDepth 100000 in
theorem pk_189 : pm_dOk (pm_msT pm_tab) pd_189 := ⟨by decide +kernel, by decide +kernel⟩
set_option maxRecDepth 100000 in
theorem pk_190 : pm_dOk (pm_msT pm_tab) pd_190 := ⟨by decide +kernel, by decide +kernel⟩
set_option maxRecDepth 100000 in
theorem pk_191 : pm_dOk (pm_msT pm_tab) pd_191 := ⟨by decide +kernel, by decide +kernel⟩
set_option maxRecDepth 100000 in
theorem pk_192 : pm_dOk (pm_msT pm_tab) pd_192 := ⟨by decide +kernel, by decide +kernel⟩
set_option maxRecDepth 100000 in
theorem pk_193 : pm_dOk (pm_msT pm_tab) pd_193 := ⟨by decide +kernel, by decide +kernel⟩
set_option maxRecDepth 100000 in
theorem pk_194 : pm_dOk (pm_msT pm_tab) pd_194 := ⟨by decide +kernel, by decide +kernel⟩
set_option maxRecDepth 100000 in
theorem pk_195 : pm_dOk (pm_msT pm_tab) pd_195 := ⟨by decide +kernel, by decide +kernel⟩
set_option maxRecDepth 100000 in
theorem pk_196 : pm_dOk (pm_msT pm_tab) pd_196 := ⟨by decide +kernel, by decide +kernel⟩
end
section
set_option maxRecDepth 100000 in
theorem pk_197 : pm_dOk (pm_msT pm_tab) pd_197 := ⟨by decide +kernel, by decide +kernel⟩
set_option maxRecDepth 100000 in
theorem pk_198 : pm_dOk (pm_msT pm_tab) pd_198 := ⟨by decide +kernel, by decide +kernel⟩
set_option maxRecDepth 100000 in
theorem pk_199 : pm_dOk (pm_msT pm_tab) pd_199 := ⟨by decide +kernel, by decide +kernel⟩
set_option maxRecDepth 100000 in
theorem pk_200 : pm_dOk (pm_msT pm_tab) pd_200 := ⟨by decide +kernel, by decide +kernel⟩
set_option maxRecDepth 100000 in
theorem pk_201 : pm_dOk (pm_msT pm_tab) pd_201 := ⟨by decide +kernel, by decide +kernel⟩
set_option maxRecDepth 100000 in
theorem pk_202 : pm_dOk (pm_msT pm_tab) pd_202 := ⟨by decide +kernel, by decide +kernel⟩
set_option maxRecDepth 100000 in
theorem pk_203 : pm_dOk (pm_msT pm_tab) pd_203 := ⟨by decide +kernel, by decide +kernel⟩
set_option maxRecDepth 100000 in
theorem pk_204 : pm_dOk (pm_msT pm_tab) pd_204 := ⟨by decide +kernel, by decide +kernel⟩
set_option maxRecDepth 100000 in
theorem pk_205 : pm_dOk (pm_msT pm_tab) pd_205 := ⟨by decide +kernel, by decide +kernel⟩
set_option maxRecDepth 100000 in
theorem pk_206 : pm_dOk (pm_msT pm_tab) pd_206 := ⟨by decide +kernel, by decide +kernel⟩
set_option maxRecDepth 100000 in
theorem pk_207 : pm_dOk (pm_msT pm_tab) pd_207 := ⟨by decide +kernel, by decide +kernel⟩
set_option maxRecDepth 100000 in
theorem pk_208 : pm_dOk (pm_msT pm_tab) pd_208 := ⟨by decide +kernel, by decide +kernel⟩
set_option maxRecDepth 100000 in
theorem pk_209 : pm_dOk (pm_msT pm_tab) pd_209 := ⟨by decide +kernel, by decide +kernel⟩
set_option maxRecDepth 100000 in
theorem pk_210 : pm_dOk (pm_msT pm_tab) pd_210 := ⟨by decide +kernel, by decide +kernel⟩
set_option maxRecDepth 100000 in
theorem pk_211 : pm_dOk (pm_msT pm_tab) pd_211 := ⟨by decide +kernel, by decide +kernel⟩
set_option maxRecDepth 100000 in
theorem pk_212 : pm_dOk (pm_msT pm_tab) pd_212 := ⟨by decide +kernel, by decide +kernel⟩
set_option maxRecDepth 100000 in
theorem pk_213 : pm_dOk (pm_msT pm_tab) pd_213 := ⟨by decide +kernel, by decide +kernel⟩
set_option maxRecDepth 100000 in
theorem pk_214 : pm_dOk (pm_msT pm_tab) pd_214 := ⟨by decide +kernel, by decide +kernel⟩
set_option maxRecDepth 100000 in
theorem pk_215 : pm_dOk (pm_msT pm_tab) pd_215 := ⟨by decide +kernel, by decide +kernel⟩
set_option maxRecDepth 100000 in
theorem pk_216 : pm_dOk (pm_msT pm_tab) pd_216 := ⟨by decide +kernel, by decide +kernel⟩
set_option maxRecDepth 100000 in
theorem pk_217 : pm_dOk (pm_msT pm_tab) pd_217 := ⟨by decide +kernel, by decide +kernel⟩
set_option maxRecDepth 100000 in
theorem pk_218 : pm_dOk (pm_msT pm_tab) pd_218 := ⟨by decide +kernel, by decide +kernel⟩
set_option maxRecDepth 100000 in
theorem pk_219 : pm_dOk (pm_msT pm_tab) pd_219 := ⟨by decide +kernel, by decide +kernel⟩
set_option maxRecDepth 100000 in
theorem pk_220 : pm_dOk (pm_msT pm_tab) pd_220 := ⟨by decide +kernel, by decide +kernel⟩
set_option maxRecDepth 100000 in
theorem pk_221 : pm_dOk (pm_msT pm_tab) pd_221 := ⟨by decide +kernel, by decide +kernel⟩
set_option maxRecDepth 100000 in
theorem pk_222 : pm_dOk (pm_msT pm_tab) pd_222 := ⟨by decide +kernel, by decide +kernel⟩
set_option maxRecDepth 100000 in
theorem pk_223 : pm_dOk (pm_msT pm_tab) pd_223 := ⟨by decide +kernel, by decide +kernel⟩
set_option maxRecDepth 100000 in
theorem pk_224 : pm_dOk (pm_msT pm_tab) pd_224 := ⟨by decide +kernel, by decide +kernel⟩
set_option maxRecDepth 100000 in
theorem pk_225 : pm_dOk (pm_msT pm_tab) pd_225 := ⟨by decide +kernel, by decide +kernel⟩
set_option maxRecDepth 100000 in
theorem pk_226 : pm_dOk (pm_msT pm_tab) pd_226 := ⟨by decide +kernel, by decide +kernel⟩
set_option maxRecDepth 100000 in
theorem pk_227 : pm_dOk (pm_msT pm_tab) pd_227 := ⟨by decide +kernel, by decide +kernel⟩
set_option maxRecDepth 100000 in
theorem pk_228 : pm_dOk (pm_msT pm_tab) pd_228 := ⟨by decide +kernel, by decide +kernel⟩
set_option maxRecDepth 100000 in
theorem pk_229 : pm_dOk (pm_msT pm_tab) pd_229 := ⟨by decide +kernel, by decide +kernel⟩
set_option maxRecDepth 100000 in
theorem pk_230 : pm_dOk (pm_msT pm_tab) pd_230 := ⟨by decide +kernel, by decide +kernel⟩
end
section
set_option maxRecDepth 100000 in
theorem pk_231 : pm_dOk (pm_msT pm_tab) pd_231 := ⟨by decide +kernel, by decide +kernel⟩
set_option maxRecDepth 100000 in
theorem pk_232 : pm_dOk (pm_msT pm_tab) pd_232 := ⟨by decide +kernel, by decide +kernel⟩
set_option maxRecDepth 100000 in
theorem pk_233 : pm_dOk (pm_msT pm_tab) pd_233 := ⟨by decide +kernel, by decide +kernel⟩
set_option maxRecDepth 100000 in
theorem pk_234 : pm_dOk (pm_msT pm_tab) pd_234 := ⟨by decide +kernel, by decide +kernel⟩
set_option maxRecDepth 100000 in
theorem pk_235 : pm_dOk (pm_msT pm_tab) pd_235 := ⟨by decide +kernel, by decide +kernel⟩
set_option maxRecDepth 100000 in
theorem pk_236 : pm_dOk (pm_msT pm_tab) pd_236 := ⟨by decide +kernel, by decide +kernel⟩
set_option maxRecDepth 100000 in
theorem pk_237 : pm_dOk (pm_msT pm_tab) pd_237 := ⟨by decide +kernel, by decide +kernel⟩
set_option maxRecDepth 100000 in
theorem pk_238 : pm_dOk (pm_msT pm_tab) pd_238 := ⟨by decide +kernel, by decide +kernel⟩
set_option maxRecDepth 100000 in
theorem pk_239 : pm_dOk (pm_msT pm_tab) pd_239 := ⟨by decide +kernel, by decide +kernel⟩
set_option maxRecDepth 100000 in
theorem pk_240 : pm_dOk (pm_msT pm_tab) pd_240 := ⟨by decide +kernel, by decide +kernel⟩
set_option maxRecDepth 100000 in
theorem pk_241 : pm_dOk (pm_msT pm_tab) pd_241 := ⟨by decide +kernel, by decide +kernel⟩
set_option maxRecDepth 100000 in
theorem pk_242 : pm_dOk (pm_msT pm_tab) pd_242 := ⟨by decide +kernel, by decide +kernel⟩
set_option maxRecDepth 100000 in
theorem pk_243 : pm_dOk (pm_msT pm_tab) pd_243 := ⟨by decide +kernel, by decide +kernel⟩
set_option maxRecDepth 100000 in
theorem pk_244 : pm_dOk (pm_msT pm_tab) pd_244 := ⟨by decide +kernel, by decide +kernel⟩
set_option maxRecDepth 100000 in
theorem pk_245 : pm_dOk (pm_msT pm_tab) pd_245 := ⟨by decide +kernel, by decide +kernel⟩
set_option maxRecDepth 100000 in
theorem pk_246 : pm_dOk (pm_msT pm_tab) pd_246 := ⟨by decide +kernel, by decide +kernel⟩
set_option maxRecDepth 100000 in
theorem pk_247 : pm_dOk (pm_msT pm_tab) pd_247 := ⟨by decide +kernel, by decide +kernel⟩
set_option maxRecDepth 100000 in
theorem pk_248 : pm_dOk (pm_msT pm_tab) pd_248 := ⟨by decide +kernel, by decide +kernel⟩
set_option maxRecDepth 100000 in
theorem pk_249 : pm_dOk (pm_msT pm_tab) pd_249 := ⟨by decide +kernel, by decide +kernel⟩
set_option maxRecDepth 100000 in
theorem pk_250 : pm_dOk (pm_msT pm_tab) pd_250 := ⟨by decide +kernel, by decide +kernel⟩
set_option maxRecDepth 100000 in
theorem pk_251 : pm_dOk (pm_msT pm_tab) pd_251 := ⟨by decide +kernel, by decide +kernel⟩
set_option maxRecDepth 100000 in
theorem pk_252 : pm_dOk (pm_msT pm_tab) pd_252 := ⟨by decide +kernel, by decide +kernel⟩
set_option maxRecDepth 100000 in
theorem pk_253 : pm_dOk (pm_msT pm_tab) pd_253 := ⟨by decide +kernel, by decide +kernel⟩
set_option maxRecDepth 100000 in
theorem pk_254 : pm_dOk (pm_msT pm_tab) pd_254 := ⟨by decide +kernel, by decide +kernel⟩
set_option maxRecDepth 100000 in
theorem pk_255 : pm_dOk (pm_msT pm_tab) pd_255 := ⟨by decide +kernel, by decide +kernel⟩
set_option maxRecDepth 100000 in
theorem pk_256 : pm_dOk (pm_msT pm_tab) pd_256 := ⟨by decide +kernel, by decide +kernel⟩
set_option maxRecDepth 100000 in
theorem pk_257 : pm_dOk (pm_msT pm_tab) pd_257 := ⟨by decide +kernel, by decide +kernel⟩
set_option maxRecDepth 100000 in
theorem pk_258 : pm_dOk (pm_msT pm_tab) pd_258 := ⟨by decide +kernel, by decide +kernel⟩
set_option maxRecDepth 100000 in
theorem pk_259 : pm_dOk (pm_msT pm_tab) pd_259 := ⟨by decide +kernel, by decide +kernel⟩
set_option maxRecDepth 100000 in
theorem pk_260 : pm_dOk (pm_msT pm_tab) pd_260 := ⟨by decide +kernel, by decide +kernel⟩
set_option maxRecDepth 100000 in
theorem pk_261 : pm_dOk (pm_msT pm_tab) pd_261 := ⟨by decide +kernel, by decide +kernel⟩
set_option maxRecDepth 100000 in
theorem pk_262 : pm_dOk (pm_msT pm_tab) pd_262 := ⟨by decide +kernel, by decide +kernel⟩
set_option maxRecDepth 100000 in
theorem pk_263 : pm_dOk (pm_msT pm_tab) pd_263 := ⟨by decide +kernel, by decide +kernel⟩
theorem pkr_0 : ∀ x ∈ pr_0, pm_dOk (pm_msT pm_tab) x := List.forall_mem_cons.mpr ⟨pk_1, List.forall_mem_cons.mpr ⟨pk_2, List.forall_mem_cons.mpr ⟨pk_3, List.forall_mem_cons.mpr ⟨pk_4, List.forall_mem_cons.mpr ⟨pk_5, List.forall_mem_cons.mpr ⟨pk_6, List.forall_mem_cons.mpr ⟨pk_7, List.forall_mem_cons.mpr ⟨pk_8, List.forall_mem_cons.mpr ⟨pk_9, List.forall_mem_cons.mpr ⟨pk_10, List.forall_mem_cons.mpr ⟨pk_11, List.forall_mem_cons.mpr ⟨pk_12, List.forall_mem_cons.mpr ⟨pk_13, List.forall_mem_cons.mpr ⟨pk_14, List.forall_mem_cons.mpr ⟨pk_15, List.forall_mem_cons.mpr ⟨pk_16, fun _ h => absurd h List.not_mem_nil⟩⟩⟩⟩⟩⟩⟩⟩⟩⟩⟩⟩⟩⟩⟩⟩
theorem pkr_1 : ∀ x ∈ pr_1, pm_dOk (pm_msT pm_tab) x := List.forall_mem_cons.mpr ⟨pk_17, List.forall_mem_cons.mpr ⟨pk_18, List.forall_mem_cons.mpr ⟨pk_19, List.forall_mem_cons.mpr ⟨pk_20, List.forall_mem_cons.mpr ⟨pk_21, List.forall_mem_cons.mpr ⟨pk_22, List.forall_mem_cons.mpr ⟨pk_23, List.forall_mem_cons.mpr ⟨pk_24, List.forall_mem_cons.mpr ⟨pk_25, List.forall_mem_cons.mpr ⟨pk_26, List.forall_mem_cons.mpr ⟨pk_27, List.forall_mem_cons.mpr ⟨pk_28, List.forall_mem_cons.mpr ⟨pk_29, List.forall_mem_cons.mpr ⟨pk_30, List.forall_mem_cons.mpr ⟨pk_31, List.forall_mem_cons.mpr ⟨pk_32, fun _ h => absurd h List.not_mem_nil⟩⟩⟩⟩⟩⟩⟩⟩⟩⟩⟩⟩⟩⟩⟩⟩
theorem pkr_2 : ∀ x ∈ pr_2, pm_dOk (pm_msT pm_tab) x := List.forall_mem_cons.mpr ⟨pk_33, List.forall_mem_cons.mpr ⟨pk_34, List.forall_mem_cons.mpr ⟨pk_35, List.forall_mem_cons.mpr ⟨pk_36, List.forall_mem_cons.mpr ⟨pk_37, List.forall_mem_cons.mpr ⟨pk_38, List.forall_mem_cons.mpr ⟨pk_39, List.forall_mem_cons.mpr ⟨pk_40, List.forall_mem_cons.mpr ⟨pk_41, List.forall_mem_cons.mpr ⟨pk_42, List.forall_mem_cons.mpr ⟨pk_43, List.forall_mem_cons.mpr ⟨pk_44, List.forall_mem_cons.mpr ⟨pk_45, List.forall_mem_cons.mpr ⟨pk_46, List.forall_mem_cons.mpr ⟨pk_47, List.forall_mem_cons.mpr ⟨pk_48, fun _ h => absurd h List.not_mem_nil⟩⟩⟩⟩⟩⟩⟩⟩⟩⟩⟩⟩⟩⟩⟩⟩
theorem pkr_3 : ∀ x ∈ pr_3, pm_dOk (pm_msT pm_tab) x := List.forall_mem_cons.mpr ⟨pk_49, List.forall_mem_cons.mpr ⟨pk_50, List.forall_mem_cons.mpr ⟨pk_51, List.forall_mem_cons.mpr ⟨pk_52, List.forall_mem_cons.mpr ⟨pk_53, List.forall_mem_cons.mpr ⟨pk_54, List.forall_mem_cons.mpr ⟨pk_55, List.forall_mem_cons.mpr ⟨pk_56, List.forall_mem_cons.mpr ⟨pk_57, List.forall_mem_cons.mpr ⟨pk_58, List.forall_mem_cons.mpr ⟨pk_59, List.forall_mem_cons.mpr ⟨pk_60, List.forall_mem_cons.mpr ⟨pk_61, List.forall_mem_cons.mpr ⟨pk_62, List.forall_mem_cons.mpr ⟨pk_63, List.forall_mem_cons.mpr ⟨pk_64, fun _ h => absurd h List.not_mem_nil⟩⟩⟩⟩⟩⟩⟩⟩⟩⟩⟩⟩⟩⟩⟩⟩
theorem pkr_4 : ∀ x ∈ pr_4, pm_dOk (pm_msT pm_tab) x := List.forall_mem_cons.mpr ⟨pk_65, List.forall_mem_cons.mpr ⟨pk_66, List.forall_mem_cons.mpr ⟨pk_67, List.forall_mem_cons.mpr ⟨pk_68, List.forall_mem_cons.mpr ⟨pk_69, List.forall_mem_cons.mpr ⟨pk_70, List.forall_mem_cons.mpr ⟨pk_71, List.forall_mem_cons.mpr ⟨pk_72, List.forall_mem_cons.mpr ⟨pk_73, List.forall_mem_cons.mpr ⟨pk_74, List.forall_mem_cons.mpr ⟨pk_75, List.forall_mem_cons.mpr ⟨pk_76, List.forall_mem_cons.mpr ⟨pk_77, List.forall_mem_cons.mpr ⟨pk_78, List.forall_mem_cons.mpr ⟨pk_79, List.forall_mem_cons.mpr ⟨pk_80, fun _ h => absurd h List.not_mem_nil⟩⟩⟩⟩⟩⟩⟩⟩⟩⟩⟩⟩⟩⟩⟩⟩
theorem pkr_5 : ∀ x ∈ pr_5, pm_dOk (pm_msT pm_tab) x := List.forall_mem_cons.mpr ⟨pk_81, List.forall_mem_cons.mpr ⟨pk_82, List.forall_mem_cons.mpr ⟨pk_83, List.forall_mem_cons.mpr ⟨pk_84, List.forall_mem_cons.mpr ⟨pk_85, List.forall_mem_cons.mpr ⟨pk_86, List.forall_mem_cons.mpr ⟨pk_87, List.forall_mem_cons.mpr ⟨pk_88, List.forall_mem_cons.mpr ⟨pk_89, List.forall_mem_cons.mpr ⟨pk_90, List.forall_mem_cons.mpr ⟨pk_91, List.forall_mem_cons.mpr ⟨pk_92, List.forall_mem_cons.mpr ⟨pk_93, List.forall_mem_cons.mpr ⟨pk_94, List.forall_mem_cons.mpr ⟨pk_95, List.forall_mem_cons.mpr ⟨pk_96, fun _ h => absurd h List.not_mem_nil⟩⟩⟩⟩⟩⟩⟩⟩⟩⟩⟩⟩⟩⟩⟩⟩
theorem pkr_6 : ∀ x ∈ pr_6, pm_dOk (pm_msT pm_tab) x := List.forall_mem_cons.mpr ⟨pk_97, List.forall_mem_cons.mpr ⟨pk_98, List.forall_mem_cons.mpr ⟨pk_99, List.forall_mem_cons.mpr ⟨pk_100, List.forall_mem_cons.mpr ⟨pk_101, List.forall_mem_cons.mpr ⟨pk_102, List.forall_mem_cons.mpr ⟨pk_103, List.forall_mem_cons.mpr ⟨pk_104, List.forall_mem_cons.mpr ⟨pk_105, List.forall_mem_cons.mpr ⟨pk_106, List.forall_mem_cons.mpr ⟨pk_107, List.forall_mem_cons.mpr ⟨pk_108, List.forall_mem_cons.mpr ⟨pk_109, List.forall_mem_cons.mpr ⟨pk_110, List.forall_mem_cons.mpr ⟨pk_111, List.forall_mem_cons.mpr ⟨pk_112, fun _ h => absurd h List.not_mem_nil⟩⟩⟩⟩⟩⟩⟩⟩⟩⟩⟩⟩⟩⟩⟩⟩
theorem pkr_7 : ∀ x ∈ pr_7, pm_dOk (pm_msT pm_tab) x := List.forall_mem_cons.mpr ⟨pk_113, List.forall_mem_cons.mpr ⟨pk_114, List.forall_mem_cons.mpr ⟨pk_115, List.forall_mem_cons.mpr ⟨pk_116, List.forall_mem_cons.mpr ⟨pk_117, List.forall_mem_cons.mpr ⟨pk_118, List.forall_mem_cons.mpr ⟨pk_119, List.forall_mem_cons.mpr ⟨pk_120, List.forall_mem_cons.mpr ⟨pk_121, List.forall_mem_cons.mpr ⟨pk_122, List.forall_mem_cons.mpr ⟨pk_123, List.forall_mem_cons.mpr ⟨pk_124, List.forall_mem_cons.mpr ⟨pk_125, List.forall_mem_cons.mpr ⟨pk_126, List.forall_mem_cons.mpr ⟨pk_127, List.forall_mem_cons.mpr ⟨pk_128, fun _ h => absurd h List.not_mem_nil⟩⟩⟩⟩⟩⟩⟩⟩⟩⟩⟩⟩⟩⟩⟩⟩
theorem pkr_8 : ∀ x ∈ pr_8, pm_dOk (pm_msT pm_tab) x := List.forall_mem_cons.mpr ⟨pk_129, List.forall_mem_cons.mpr ⟨pk_130, List.forall_mem_cons.mpr ⟨pk_131, List.forall_mem_cons.mpr ⟨pk_132, List.forall_mem_cons.mpr ⟨pk_133, List.forall_mem_cons.mpr ⟨pk_134, List.forall_mem_cons.mpr ⟨pk_135, List.forall_mem_cons.mpr ⟨pk_136, List.forall_mem_cons.mpr ⟨pk_137, List.forall_mem_cons.mpr ⟨pk_138, List.forall_mem_cons.mpr ⟨pk_139, List.forall_mem_cons.mpr ⟨pk_140, List.forall_mem_cons.mpr ⟨pk_141, List.forall_mem_cons.mpr ⟨pk_142, List.forall_mem_cons.mpr ⟨pk_143, List.forall_mem_cons.mpr ⟨pk_144, fun _ h => absurd h List.not_mem_nil⟩⟩⟩⟩⟩⟩⟩⟩⟩⟩⟩⟩⟩⟩⟩⟩
theorem pkr_9 : ∀ x ∈ pr_9, pm_dOk (pm_msT pm_tab) x := List.forall_mem_cons.mpr ⟨pk_145, List.forall_mem_cons.mpr ⟨pk_146, List.forall_mem_cons.mpr ⟨pk_147, List.forall_mem_cons.mpr ⟨pk_148, List.forall_mem_cons.mpr ⟨pk_149, List.forall_mem_cons.mpr ⟨pk_150, List.forall_mem_cons.mpr ⟨pk_151, List.forall_mem_cons.mpr ⟨pk_152, List.forall_mem_cons.mpr ⟨pk_153, List.forall_mem_cons.mpr ⟨pk_154, List.forall_mem_cons.mpr ⟨pk_155, List.forall_mem_cons.mpr ⟨pk_156, List.forall_mem_cons.mpr ⟨pk_157, List.forall_mem_cons.mpr ⟨pk_158, List.forall_mem_cons.mpr ⟨pk_159, List.forall_mem_cons.mpr ⟨pk_160, fun _ h => absurd h List.not_mem_nil⟩⟩⟩⟩⟩⟩⟩⟩⟩⟩⟩⟩⟩⟩⟩⟩
theorem pkr_10 : ∀ x ∈ pr_10, pm_dOk (pm_msT pm_tab) x := List.forall_mem_cons.mpr ⟨pk_161, List.forall_mem_cons.mpr ⟨pk_162, List.forall_mem_cons.mpr ⟨pk_163, List.forall_mem_cons.mpr ⟨pk_164, List.forall_mem_cons.mpr ⟨pk_165, List.forall_mem_cons.mpr ⟨pk_166, List.forall_mem_cons.mpr ⟨pk_167, List.forall_mem_cons.mpr ⟨pk_168, List.forall_mem_cons.mpr ⟨pk_169, List.forall_mem_cons.mpr ⟨pk_170, List.forall_mem_cons.mpr ⟨pk_171, List.forall_mem_cons.mpr ⟨pk_172, List.forall_mem_cons.mpr ⟨pk_173, List.forall_mem_cons.mpr ⟨pk_174, List.forall_mem_cons.mpr ⟨pk_175, List.forall_mem_cons.mpr ⟨pk_176, fun _ h => absurd h List.not_mem_nil⟩⟩⟩⟩⟩⟩⟩⟩⟩⟩⟩⟩⟩⟩⟩⟩
theorem pkr_11 : ∀ x ∈ pr_11, pm_dOk (pm_msT pm_tab) x := List.forall_mem_cons.mpr ⟨pk_177, List.forall_mem_cons.mpr ⟨pk_178, List.forall_mem_cons.mpr ⟨pk_179, List.forall_mem_cons.mpr ⟨pk_180, List.forall_mem_cons.mpr ⟨pk_181, List.forall_mem_cons.mpr ⟨pk_182, List.forall_mem_cons.mpr ⟨pk_183, List.forall_mem_cons.mpr ⟨pk_184, List.forall_mem_cons.mpr ⟨pk_185, List.forall_mem_cons.mpr ⟨pk_186, List.forall_mem_cons.mpr ⟨pk_187, List.forall_mem_cons.mpr ⟨pk_188, List.forall_mem_cons.mpr ⟨pk_189, List.forall_mem_cons.mpr ⟨pk_190, List.forall_mem_cons.mpr ⟨pk_191, List.forall_mem_cons.mpr ⟨pk_192, fun _ h => absurd h List.not_mem_nil⟩⟩⟩⟩⟩⟩⟩⟩⟩⟩⟩⟩⟩⟩⟩⟩
theorem pkr_12 : ∀ x ∈ pr_12, pm_dOk (pm_msT pm_tab) x := List.forall_mem_cons.mpr ⟨pk_193, List.forall_mem_cons.mpr ⟨pk_194, List.forall_mem_cons.mpr ⟨pk_195, List.forall_mem_cons.mpr ⟨pk_196, List.forall_mem_cons.mpr ⟨pk_197, List.forall_mem_cons.mpr ⟨pk_198, List.forall_mem_cons.mpr ⟨pk_199, List.forall_mem_cons.mpr ⟨pk_200, List.forall_mem_cons.mpr ⟨pk_201, List.forall_mem_cons.mpr ⟨pk_202, List.forall_mem_cons.mpr ⟨pk_203, List.forall_mem_cons.mpr ⟨pk_204, List.forall_mem_cons.mpr ⟨pk_205, List.forall_mem_cons.mpr ⟨pk_206, List.forall_mem_cons.mpr ⟨pk_207, List.forall_mem_cons.mpr ⟨pk_208, fun _ h => absurd h List.not_mem_nil⟩⟩⟩⟩⟩⟩⟩⟩⟩⟩⟩⟩⟩⟩⟩⟩
theorem pkr_13 : ∀ x ∈ pr_13, pm_dOk (pm_msT pm_tab) x := List.forall_mem_cons.mpr ⟨pk_209, List.forall_mem_cons.mpr ⟨pk_210, List.forall_mem_cons.mpr ⟨pk_211, List.forall_mem_cons.mpr ⟨pk_212, List.forall_mem_cons.mpr ⟨pk_213, List.forall_mem_cons.mpr ⟨pk_214, List.forall_mem_cons.mpr ⟨pk_215, List.forall_mem_cons.mpr ⟨pk_216, List.forall_mem_cons.mpr ⟨pk_217, List.forall_mem_cons.mpr ⟨pk_218, List.forall_mem_cons.mpr ⟨pk_219, List.forall_mem_cons.mpr ⟨pk_220, List.forall_mem_cons.mpr ⟨pk_221, List.forall_mem_cons.mpr ⟨pk_222, List.forall_mem_cons.mpr ⟨pk_223, List.forall_mem_cons.mpr ⟨pk_224, fun _ h => absurd h List.not_mem_nil⟩⟩⟩⟩⟩⟩⟩⟩⟩⟩⟩⟩⟩⟩⟩⟩
theorem pkr_14 : ∀ x ∈ pr_14, pm_dOk (pm_msT pm_tab) x := List.forall_mem_cons.mpr ⟨pk_225, List.forall_mem_cons.mpr ⟨pk_226, List.forall_mem_cons.mpr ⟨pk_227, List.forall_mem_cons.mpr ⟨pk_228, List.forall_mem_cons.mpr ⟨pk_229, List.forall_mem_cons.mpr ⟨pk_230, List.forall_mem_cons.mpr ⟨pk_231, List.forall_mem_cons.mpr ⟨pk_232, List.forall_mem_cons.mpr ⟨pk_233, List.forall_mem_cons.mpr ⟨pk_234, List.forall_mem_cons.mpr ⟨pk_235, List.forall_mem_cons.mpr ⟨pk_236, List.forall_mem_cons.mpr ⟨pk_237, List.forall_mem_cons.mpr ⟨pk_238, List.forall_mem_cons.mpr ⟨pk_239, List.forall_mem_cons.mpr ⟨pk_240, fun _ h => absurd h List.not_mem_nil⟩⟩⟩⟩⟩⟩⟩⟩⟩⟩⟩⟩⟩⟩⟩⟩
theorem pkr_15 : ∀ x ∈ pr_15, pm_dOk (pm_msT pm_tab) x := List.forall_mem_cons.mpr ⟨pk_241, List.forall_mem_cons.mpr ⟨pk_242, List.forall_mem_cons.mpr ⟨pk_243, List.forall_mem_cons.mpr ⟨pk_244, List.forall_mem_cons.mpr ⟨pk_245, List.forall_mem_cons.mpr ⟨pk_246, List.forall_mem_cons.mpr ⟨pk_247, List.forall_mem_cons.mpr ⟨pk_248, List.forall_mem_cons.mpr ⟨pk_249, List.forall_mem_cons.mpr ⟨pk_250, List.forall_mem_cons.mpr ⟨pk_251, List.forall_mem_cons.mpr ⟨pk_252, List.forall_mem_cons.mpr ⟨pk_253, List.forall_mem_cons.mpr ⟨pk_254, List.forall_mem_cons.mpr ⟨pk_255, List.forall_mem_cons.mpr ⟨pk_256, fun _ h => absurd h List.not_mem_nil⟩⟩⟩⟩⟩⟩⟩⟩⟩⟩⟩⟩⟩⟩⟩⟩
theorem pkr_16 : ∀ x ∈ pr_16, pm_dOk (pm_msT pm_tab) x := List.forall_mem_cons.mpr ⟨pk_257, List.forall_mem_cons.mpr ⟨pk_258, List.forall_mem_cons.mpr ⟨pk_259, List.forall_mem_cons.mpr ⟨pk_260, List.forall_mem_cons.mpr ⟨pk_261, List.forall_mem_cons.mpr ⟨pk_262, List.forall_mem_cons.mpr ⟨pk_263, fun _ h => absurd h List.not_mem_nil⟩⟩⟩⟩⟩⟩⟩
theorem pm_tabOk : ∀ r ∈ pm_tab, ∀ x ∈ r, pm_dOk (pm_msT pm_tab) x := List.forall_mem_cons.mpr ⟨pkr_0, List.forall_mem_cons.mpr ⟨pkr_1, List.forall_mem_cons.mpr ⟨pkr_2, List.forall_mem_cons.mpr ⟨pkr_3, List.forall_mem_cons.mpr ⟨pkr_4, List.forall_mem_cons.mpr ⟨pkr_5, List.forall_mem_cons.mpr ⟨pkr_6, List.forall_mem_cons.mpr ⟨pkr_7, List.forall_mem_cons.mpr ⟨pkr_8, List.forall_mem_cons.mpr ⟨pkr_9, List.forall_mem_cons.mpr ⟨pkr_10, List.forall_mem_cons.mpr ⟨pkr_11, List.forall_mem_cons.mpr ⟨pkr_12, List.forall_mem_cons.mpr ⟨pkr_13, List.forall_mem_cons.mpr ⟨pkr_14, List.forall_mem_cons.mpr ⟨pkr_15, List.forall_mem_cons.mpr ⟨pkr_16, fun _ h => absurd h List.not_mem_nil⟩⟩⟩⟩⟩⟩⟩⟩⟩⟩⟩⟩⟩⟩⟩⟩⟩
end
section
set_option maxRecDepth 100000 in
theorem pkl_0 : pm_ckb (pm_msT pm_tab) code RL "law" pl_0 = true := by decide +kernel
set_option maxRecDepth 100000 in
theorem pkl_1 : pm_ckb (pm_msT pm_tab) code RL "law" pl_1 = true := by decide +kernel
set_option maxRecDepth 100000 in
theorem pkl_2 : pm_ckb (pm_msT pm_tab) code RL "law" pl_2 = true := by decide +kernel
set_option maxRecDepth 100000 in
theorem pkl_3 : pm_ckb (pm_msT pm_tab) code RL "law" pl_3 = true := by decide +kernel
end
section
set_option maxRecDepth 100000 in
theorem pkl_4 : pm_ckb (pm_msT pm_tab) code RL "law" pl_4 = true := by decide +kernel
set_option maxRecDepth 100000 in
theorem pkl_5 : pm_ckb (pm_msT pm_tab) code RL "law" pl_5 = true := by decide +kernel
set_option maxRecDepth 100000 in
theorem pkl_6 : pm_ckb (pm_msT pm_tab) code RL "law" pl_6 = true := by decide +kernel
set_option maxRecDepth 100000 in
theorem pkl_7 : pm_ckb (pm_msT pm_tab) code RL "law" pl_7 = true := by decide +kernel
end
section
set_option maxRecDepth 100000 in
theorem pkl_8 : pm_ckb (pm_msT pm_tab) code RL "law" pl_8 = true := by decide +kernel
set_option maxRecDepth 100000 in
theorem pkl_9 : pm_ckb (pm_msT pm_tab) code RL "law" pl_9 = true := by decide +kernel
set_option maxRecDepth 100000 in
theorem pkl_10 : pm_ckb (pm_msT pm_tab) code RL "law" pl_10 = true := by decide +kernel
set_option maxRecDepth 100000 in
theorem pkl_11 : pm_ckb (pm_msT pm_tab) code RL "law" pl_11 = true := by decide +kernel
end
section
set_option maxRecDepth 100000 in
theorem pkl_12 : pm_ckb (pm_msT pm_tab) code RL "law" pl_12 = true := by decide +kernel
set_option maxRecDepth 100000 in
theorem pkl_13 : pm_ckb (pm_msT pm_tab) code RL "law" pl_13 = true := by decide +kernel
set_option maxRecDepth 100000 in
theorem pkl_14 : pm_ckb (pm_msT pm_tab) code RL "law" pl_14 = true := by decide +kernel
set_option maxRecDepth 100000 in
theorem pkl_15 : pm_ckb (pm_msT pm_tab) code RL "law" pl_15 = true := by decide +kernel
end
section
theorem pm_ckb_app {ms : Nat → Option pm_M} {cc : ByteArray} {own mname : String} {a b : List (List (Nat × pm_I))} (h1 : pm_ckb ms cc own mname a = true) (h2 : pm_ckb ms cc own mname b = true) : pm_ckb ms cc own mname (a ++ b) = true := by
  unfold pm_ckb at *
  rw [List.all_append, h1, h2]
  rfl
theorem pk_law : pm_ckb (pm_msT pm_tab) code RL "law" pd_law = true := pm_ckb_app pkl_0 (pm_ckb_app pkl_1 (pm_ckb_app pkl_2 (pm_ckb_app pkl_3 (pm_ckb_app pkl_4 (pm_ckb_app pkl_5 (pm_ckb_app pkl_6 (pm_ckb_app pkl_7 (pm_ckb_app pkl_8 (pm_ckb_app pkl_9 (pm_ckb_app pkl_10 (pm_ckb_app pkl_11 (pm_ckb_app pkl_12 (pm_ckb_app pkl_13 (pm_ckb_app pkl_14 (pkl_15)))))))))))))))
end
section
/-! the classes, as the tables have them -/
set_option maxRecDepth 100000 in
theorem pin_0 : pm_hs [(2, 27), (2, 29), (2, 31), (2, 33)] (u_ws RX0 TX0 4) = true := by decide +kernel
theorem pdf_0 : ∀ j, j < 4 → defaultValue (tyX0 j) = vp_V (pm_cs 0) j := by decide +kernel
theorem psh_0 : ∀ v ∈ pm_cs 0, ∀ b base, pm_sh b base v = v := by
  intro v hv b base
  have h2 : ∀ v ∈ pm_cs 0, v = .int 0 ∨ v = .long 0 ∨ v = .null := by decide +kernel
  rcases h2 v hv with rfl | rfl | rfl <;> rfl
set_option maxRecDepth 100000 in
theorem pin_1 : pm_hs [(1, 223), (1, 225), (1, 227)] (u_ws RX1 TX1 3) = true := by decide +kernel
theorem pdf_1 : ∀ j, j < 3 → defaultValue (tyX1 j) = vp_V (pm_cs 1) j := by decide +kernel
theorem psh_1 : ∀ v ∈ pm_cs 1, ∀ b base, pm_sh b base v = v := by
  intro v hv b base
  have h2 : ∀ v ∈ pm_cs 1, v = .int 0 ∨ v = .long 0 ∨ v = .null := by decide +kernel
  rcases h2 v hv with rfl | rfl | rfl <;> rfl
set_option maxRecDepth 100000 in
theorem pin_2 : pm_hs [(2, 2), (2, 4), (2, 6), (2, 8), (2, 10)] (u_ws RX2 TX2 5) = true := by decide +kernel
theorem pdf_2 : ∀ j, j < 5 → defaultValue (tyX2 j) = vp_V (pm_cs 2) j := by decide +kernel
theorem psh_2 : ∀ v ∈ pm_cs 2, ∀ b base, pm_sh b base v = v := by
  intro v hv b base
  have h2 : ∀ v ∈ pm_cs 2, v = .int 0 ∨ v = .long 0 ∨ v = .null := by decide +kernel
  rcases h2 v hv with rfl | rfl | rfl <;> rfl
set_option maxRecDepth 100000 in
theorem pin_3 : pm_hs [(1, 206), (1, 208), (1, 210)] (u_ws RX3 TX3 3) = true := by decide +kernel
theorem pdf_3 : ∀ j, j < 3 → defaultValue (tyX3 j) = vp_V (pm_cs 3) j := by decide +kernel
theorem psh_3 : ∀ v ∈ pm_cs 3, ∀ b base, pm_sh b base v = v := by
  intro v hv b base
  have h2 : ∀ v ∈ pm_cs 3, v = .int 0 ∨ v = .long 0 ∨ v = .null := by decide +kernel
  rcases h2 v hv with rfl | rfl | rfl <;> rfl
set_option maxRecDepth 100000 in
theorem pin_4 : pm_hs [(1, 41), (1, 43), (1, 45), (1, 47), (1, 49), (1, 51), (1, 53), (1, 55), (1, 57), (1, 59), (1, 61)] (u_ws RX4 TX4 11) = true := by decide +kernel
theorem pdf_4 : ∀ j, j < 11 → defaultValue (tyX4 j) = vp_V (pm_cs 4) j := by decide +kernel
theorem psh_4 : ∀ v ∈ pm_cs 4, ∀ b base, pm_sh b base v = v := by
  intro v hv b base
  have h2 : ∀ v ∈ pm_cs 4, v = .int 0 ∨ v = .long 0 ∨ v = .null := by decide +kernel
  rcases h2 v hv with rfl | rfl | rfl <;> rfl
set_option maxRecDepth 100000 in
theorem pin_5 : pm_hs [(1, 188), (1, 190), (1, 192), (1, 194), (1, 196), (1, 198), (1, 200)] (u_ws RX5 TX5 7) = true := by decide +kernel
theorem pdf_5 : ∀ j, j < 7 → defaultValue (tyX5 j) = vp_V (pm_cs 5) j := by decide +kernel
theorem psh_5 : ∀ v ∈ pm_cs 5, ∀ b base, pm_sh b base v = v := by
  intro v hv b base
  have h2 : ∀ v ∈ pm_cs 5, v = .int 0 ∨ v = .long 0 ∨ v = .null := by decide +kernel
  rcases h2 v hv with rfl | rfl | rfl <;> rfl
set_option maxRecDepth 100000 in
theorem pin_6 : pm_hs [(1, 141), (1, 143), (1, 145), (1, 147), (1, 149), (1, 151), (1, 153), (1, 155), (1, 157), (1, 159), (1, 161)] (u_ws RX6 TX6 11) = true := by decide +kernel
theorem pdf_6 : ∀ j, j < 11 → defaultValue (tyX6 j) = vp_V (pm_cs 6) j := by decide +kernel
theorem psh_6 : ∀ v ∈ pm_cs 6, ∀ b base, pm_sh b base v = v := by
  intro v hv b base
  have h2 : ∀ v ∈ pm_cs 6, v = .int 0 ∨ v = .long 0 ∨ v = .null := by decide +kernel
  rcases h2 v hv with rfl | rfl | rfl <;> rfl
set_option maxRecDepth 100000 in
theorem pin_7 : pm_hs [(2, 52), (2, 54), (2, 56), (2, 58), (2, 60), (2, 62), (2, 64), (2, 66), (2, 68)] (u_ws RX7 TX7 9) = true := by decide +kernel
theorem pdf_7 : ∀ j, j < 9 → defaultValue (tyX7 j) = vp_V (pm_cs 7) j := by decide +kernel
theorem psh_7 : ∀ v ∈ pm_cs 7, ∀ b base, pm_sh b base v = v := by
  intro v hv b base
  have h2 : ∀ v ∈ pm_cs 7, v = .int 0 ∨ v = .long 0 ∨ v = .null := by decide +kernel
  rcases h2 v hv with rfl | rfl | rfl <;> rfl
set_option maxRecDepth 100000 in
theorem pin_8 : pm_hs [(2, 135), (2, 137), (2, 139), (2, 141), (2, 143), (2, 145), (2, 147), (2, 149), (2, 151), (2, 153), (2, 155), (2, 157), (2, 159), (2, 161), (2, 163), (2, 165), (2, 167)] (u_ws RX8 TX8 17) = true := by decide +kernel
theorem pdf_8 : ∀ j, j < 17 → defaultValue (tyX8 j) = vp_V (pm_cs 8) j := by decide +kernel
theorem psh_8 : ∀ v ∈ pm_cs 8, ∀ b base, pm_sh b base v = v := by
  intro v hv b base
  have h2 : ∀ v ∈ pm_cs 8, v = .int 0 ∨ v = .long 0 ∨ v = .null := by decide +kernel
  rcases h2 v hv with rfl | rfl | rfl <;> rfl
set_option maxRecDepth 100000 in
theorem pin_9 : pm_hs [(1, 87), (1, 89), (1, 91), (1, 93), (1, 95), (1, 97), (1, 99), (1, 101), (1, 103), (1, 105), (1, 107), (1, 109), (1, 111), (1, 113)] (u_ws RX9 TX9 14) = true := by decide +kernel
theorem pdf_9 : ∀ j, j < 14 → defaultValue (tyX9 j) = vp_V (pm_cs 9) j := by decide +kernel
theorem psh_9 : ∀ v ∈ pm_cs 9, ∀ b base, pm_sh b base v = v := by
  intro v hv b base
  have h2 : ∀ v ∈ pm_cs 9, v = .int 0 ∨ v = .long 0 ∨ v = .null := by decide +kernel
  rcases h2 v hv with rfl | rfl | rfl <;> rfl
set_option maxRecDepth 100000 in
theorem pin_10 : pm_hs [(2, 190), (2, 192), (2, 194), (2, 196), (2, 198), (2, 200), (2, 202), (2, 204), (2, 206), (2, 208), (2, 210), (2, 212), (2, 214), (2, 216), (2, 218), (2, 220), (2, 222), (2, 224), (2, 226)] (u_ws RX10 TX10 19) = true := by decide +kernel
theorem pdf_10 : ∀ j, j < 19 → defaultValue (tyX10 j) = vp_V (pm_cs 10) j := by decide +kernel
theorem psh_10 : ∀ v ∈ pm_cs 10, ∀ b base, pm_sh b base v = v := by
  intro v hv b base
  have h2 : ∀ v ∈ pm_cs 10, v = .int 0 ∨ v = .long 0 ∨ v = .null := by decide +kernel
  rcases h2 v hv with rfl | rfl | rfl <;> rfl
set_option maxRecDepth 100000 in
theorem pin_11 : pm_hs [(5, 186), (5, 188), (5, 190), (5, 192), (5, 194), (5, 196), (5, 198), (5, 200), (5, 202), (5, 204), (5, 206), (5, 208), (5, 210), (5, 212), (5, 214), (5, 216), (5, 218), (5, 220), (5, 222), (5, 224), (5, 226), (5, 228), (5, 230), (5, 232), (5, 234), (5, 236), (5, 238), (6, 0), (6, 2), (6, 4), (6, 6), (6, 8), (6, 10), (6, 12), (6, 14), (6, 16), (6, 18), (6, 20), (6, 22), (6, 24), (6, 26), (6, 28), (6, 30), (6, 32), (6, 34), (6, 36), (6, 38), (6, 40), (6, 42), (6, 44), (6, 46), (6, 48), (6, 50), (6, 52), (6, 54), (6, 56), (6, 58), (6, 60), (6, 62), (6, 64), (6, 66), (6, 68), (6, 70), (6, 72), (6, 74), (6, 76), (6, 78), (6, 80), (6, 82), (6, 84), (6, 86), (6, 88), (6, 90), (6, 92), (6, 94), (6, 96), (6, 98), (6, 100), (6, 102), (6, 104), (6, 106)] (u_ws RX11 TX11 81) = true := by decide +kernel
theorem pdf_11 : ∀ j, j < 81 → defaultValue (tyX11 j) = vp_V (pm_cs 11) j := by decide +kernel
theorem psh_11 : ∀ v ∈ pm_cs 11, ∀ b base, pm_sh b base v = v := by
  intro v hv b base
  have h2 : ∀ v ∈ pm_cs 11, v = .int 0 ∨ v = .long 0 ∨ v = .null := by decide +kernel
  rcases h2 v hv with rfl | rfl | rfl <;> rfl
theorem pm_clsOk2 : pm_clOk vwCl pm_TB pm_cs := by
  intro ci C T N h
  match ci, h with
  | 0, h => cases h; exact ⟨fun w hw => pm_hs_in _ _ pin_0 w hw, nmX0, ⟨tyX0, tyX0_ok, pdf_0⟩, rfl, psh_0⟩
  | 1, h => cases h; exact ⟨fun w hw => pm_hs_in _ _ pin_1 w hw, nmX1, ⟨tyX1, tyX1_ok, pdf_1⟩, rfl, psh_1⟩
  | 2, h => cases h; exact ⟨fun w hw => pm_hs_in _ _ pin_2 w hw, nmX2, ⟨tyX2, tyX2_ok, pdf_2⟩, rfl, psh_2⟩
  | 3, h => cases h; exact ⟨fun w hw => pm_hs_in _ _ pin_3 w hw, nmX3, ⟨tyX3, tyX3_ok, pdf_3⟩, rfl, psh_3⟩
  | 4, h => cases h; exact ⟨fun w hw => pm_hs_in _ _ pin_4 w hw, nmX4, ⟨tyX4, tyX4_ok, pdf_4⟩, rfl, psh_4⟩
  | 5, h => cases h; exact ⟨fun w hw => pm_hs_in _ _ pin_5 w hw, nmX5, ⟨tyX5, tyX5_ok, pdf_5⟩, rfl, psh_5⟩
  | 6, h => cases h; exact ⟨fun w hw => pm_hs_in _ _ pin_6 w hw, nmX6, ⟨tyX6, tyX6_ok, pdf_6⟩, rfl, psh_6⟩
  | 7, h => cases h; exact ⟨fun w hw => pm_hs_in _ _ pin_7 w hw, nmX7, ⟨tyX7, tyX7_ok, pdf_7⟩, rfl, psh_7⟩
  | 8, h => cases h; exact ⟨fun w hw => pm_hs_in _ _ pin_8 w hw, nmX8, ⟨tyX8, tyX8_ok, pdf_8⟩, rfl, psh_8⟩
  | 9, h => cases h; exact ⟨fun w hw => pm_hs_in _ _ pin_9 w hw, nmX9, ⟨tyX9, tyX9_ok, pdf_9⟩, rfl, psh_9⟩
  | 10, h => cases h; exact ⟨fun w hw => pm_hs_in _ _ pin_10 w hw, nmX10, ⟨tyX10, tyX10_ok, pdf_10⟩, rfl, psh_10⟩
  | 11, h => cases h; exact ⟨fun w hw => pm_hs_in _ _ pin_11 w hw, nmX11, ⟨tyX11, tyX11_ok, pdf_11⟩, rfl, psh_11⟩
  | n + 12, h => exact pm_no h
def pm_iw : List Cond := [.instantiable RX0 4, .instantiable RX1 3, .instantiable RX2 5, .instantiable RX3 3, .instantiable RX4 11, .instantiable RX5 7, .instantiable RX6 11, .instantiable RX7 9, .instantiable RX8 17, .instantiable RX9 14, .instantiable RX10 19, .instantiable RX11 81, .arrayClass .int, .arrayClass .long, .arrayClass .byte, .arrayClass .boolean, .arrayOver (.array .long), .arrayOver (.array .int), .arrayOver (.object pm_RD)]
set_option maxRecDepth 100000 in
theorem pin_iw : pm_hs [(2, 14), (1, 214), (1, 231), (1, 119), (1, 23), (1, 166), (1, 125), (2, 37), (2, 73), (1, 66), (1, 15), (5, 92), (1, 117), (1, 116), (1, 64), (2, 170), (2, 20), (2, 80), (1, 165)] pm_iw = true := by decide +kernel
theorem pm_inst_in (k : Nat) (q : vw_C) (h : vwCl[k]? = some q) : Jvm.Cond.instantiable q.1 q.2.2 ∈ pm_TB := by
  match k, h with
  | 0, h => cases h; exact pm_hs_in _ _ pin_iw _ (List.mem_of_getElem? (i := 0) rfl)
  | 1, h => cases h; exact pm_hs_in _ _ pin_iw _ (List.mem_of_getElem? (i := 1) rfl)
  | 2, h => cases h; exact pm_hs_in _ _ pin_iw _ (List.mem_of_getElem? (i := 2) rfl)
  | 3, h => cases h; exact pm_hs_in _ _ pin_iw _ (List.mem_of_getElem? (i := 3) rfl)
  | 4, h => cases h; exact pm_hs_in _ _ pin_iw _ (List.mem_of_getElem? (i := 4) rfl)
  | 5, h => cases h; exact pm_hs_in _ _ pin_iw _ (List.mem_of_getElem? (i := 5) rfl)
  | 6, h => cases h; exact pm_hs_in _ _ pin_iw _ (List.mem_of_getElem? (i := 6) rfl)
  | 7, h => cases h; exact pm_hs_in _ _ pin_iw _ (List.mem_of_getElem? (i := 7) rfl)
  | 8, h => cases h; exact pm_hs_in _ _ pin_iw _ (List.mem_of_getElem? (i := 8) rfl)
  | 9, h => cases h; exact pm_hs_in _ _ pin_iw _ (List.mem_of_getElem? (i := 9) rfl)
  | 10, h => cases h; exact pm_hs_in _ _ pin_iw _ (List.mem_of_getElem? (i := 10) rfl)
  | 11, h => cases h; exact pm_hs_in _ _ pin_iw _ (List.mem_of_getElem? (i := 11) rfl)
  | n + 12, h => exact pm_no h
theorem piw_0 : Jvm.Cond.arrayClass .int ∈ pm_TB := pm_hs_in _ _ pin_iw _ (List.mem_of_getElem? (i := 12) rfl)
theorem piw_1 : Jvm.Cond.arrayClass .long ∈ pm_TB := pm_hs_in _ _ pin_iw _ (List.mem_of_getElem? (i := 13) rfl)
theorem piw_2 : Jvm.Cond.arrayClass .byte ∈ pm_TB := pm_hs_in _ _ pin_iw _ (List.mem_of_getElem? (i := 14) rfl)
theorem piw_3 : Jvm.Cond.arrayClass .boolean ∈ pm_TB := pm_hs_in _ _ pin_iw _ (List.mem_of_getElem? (i := 15) rfl)
theorem piw_4 : Jvm.Cond.arrayOver (.array .long) ∈ pm_TB := pm_hs_in _ _ pin_iw _ (List.mem_of_getElem? (i := 16) rfl)
theorem piw_5 : Jvm.Cond.arrayOver (.array .int) ∈ pm_TB := pm_hs_in _ _ pin_iw _ (List.mem_of_getElem? (i := 17) rfl)
theorem piw_6 : Jvm.Cond.arrayOver (.object pm_RD) ∈ pm_TB := pm_hs_in _ _ pin_iw _ (List.mem_of_getElem? (i := 18) rfl)
theorem pm_known {A : Array Value} {s : State} (hts : ∀ w ∈ pm_TB, w.before A s = true) : ∃ (D : va_G) (cA : Nat → ClassId), va_K D vwCl (pm_tys pm_RD cA) s := by
  have hex : ∀ k : Nat, ∃ (cC : ClassId) (iS : Nat → Nat), ∀ q : vw_C, vwCl[k]? = some q → u_Kn s q.1 q.2.1 q.2.2 cC iS := by
    intro k
    cases h : vwCl[k]? with
    | none => exact ⟨0, fun _ => 0, fun q hq => by cases hq⟩
    | some q =>
      obtain ⟨C, T, N⟩ := q
      obtain ⟨cC, iS, hk⟩ := u_known (C := C) (T := T) (N := N) (n := N) hts (pm_clsOk2 _ _ _ _ h).1 (hts _ (pm_inst_in _ _ h))
      exact ⟨cC, iS, fun q hq => by cases hq; exact hk⟩
  have hpr : ∀ ty : FieldType, (Jvm.Cond.arrayClass ty).before A s = true → ∃ cA : ClassId, ArrOfT s cA ty ∧ s.vm.findClass ("[" ++ ty.toString) = some cA := by
    intro ty h
    obtain ⟨cA, kA, comp, h1, h2, h3⟩ := Cond.arrayClass_spec h
    exact ⟨cA, fun n z => ⟨fun k h => (by cases h), kA, h2, comp, h3⟩, h1⟩
  have har : ∀ ty : FieldType, (Jvm.Cond.arrayOver (.array ty)).before A s = true → ∃ cA : ClassId, ArrOfT s cA (.array ty) ∧ s.vm.findClass ("[" ++ (FieldType.array ty).toString) = some cA := by
    intro ty h
    obtain ⟨comp, cA, kA, h1, h2, h3, h4, h5⟩ := arrayOverA_spec h
    exact ⟨cA, fun n z => ⟨fun k h => (by cases h), kA, h3, comp, h4⟩, h5⟩
  obtain ⟨a0, p0, q0⟩ := hpr _ (hts _ piw_0)
  obtain ⟨a1, p1, q1⟩ := hpr _ (hts _ piw_1)
  obtain ⟨a2, p2, q2⟩ := hpr _ (hts _ piw_2)
  obtain ⟨a3, p3, q3⟩ := hpr _ (hts _ piw_3)
  obtain ⟨a4, p4, q4⟩ := har _ (hts _ piw_4)
  obtain ⟨a5, p5, q5⟩ := har _ (hts _ piw_5)
  obtain ⟨comp, a6, k6, h1, h2, h3, h4, h5⟩ := Cond.arrayOver_spec (hts _ piw_6)
  refine ⟨(fun k => Classical.choose (hex k), fun k => Classical.choose (Classical.choose_spec (hex k))), fun k => match k with | 0 => a0 | 1 => a1 | 2 => a2 | 3 => a3 | 4 => a4 | 5 => a5 | _ => a6, ?_, ?_⟩
  · intro k q hq
    exact Classical.choose_spec (Classical.choose_spec (hex k)) q hq
  · intro k q hq
    match k, hq with
    | 0, hq => cases hq; exact ⟨p0, q0⟩
    | 1, hq => cases hq; exact ⟨p1, q1⟩
    | 2, hq => cases hq; exact ⟨p2, q2⟩
    | 3, hq => cases hq; exact ⟨p3, q3⟩
    | 4, hq => cases hq; exact ⟨p4, q4⟩
    | 5, hq => cases hq; exact ⟨p5, q5⟩
    | 6, hq => cases hq; exact ⟨fun n z => ⟨fun k h => (by cases h), k6, h3, comp, h4⟩, k6, comp, h3, h4, h1, h5⟩
    | n + 7, hq => exact pm_no hq
end
section
/-! THE CLAIM OUT OF ONE WALK OF THE LAW'S BODY. Your part is whole_start (and what it stands on); all else here is the same for every law, but numbers. -/
def R_law : String := "LoopGroundLaw"
def lw_P (b : Addr) (xs : List Int32) (args : Array Value) (s : State) : Prop := args = #[.ref b] ∧ s.IntsAt b xs ∧ xs.length ≤ 6 ∧ (Jvm.Cond.and given_1 narrow_1).before args s = true
def lw_Q (_ : Array Value) (s : State) (o : Outcome) (t : State) : Prop := o = .returned (some (.int 1)) ∧ Framed s o t [] 600000 7302250
def lw_Z (below : List Frame) (a : Array Value) (s : State) : State → Prop := fun t => ∃ o, t.status = .running ∧ Ended t below o ∧ lw_Q a s o t
/-- the law's own end, with 1 on the stack, nothing written that was there before, its room as the claim has it -/
theorem lw_ret {p : Program} {l : Launch} {e : Env} {s : State} {m : MethodId} {below : List Frame} {meth : Method} {c : Code} {b : Nat} (hx : p.tables.exec = Jvm.exec) (hb : c.code = code) (hr : meth.sig.returnType = ret) (hlocks : meth.locks = false) {pc : Nat} {H : Heap} {ls : Array Slot} (hdg : decode code pc = .ok (.ireturn, 1)) : W p l e room_1 s m #[Value.ref b] below meth c H [] 600000 7302250 (lw_Z below #[Value.ref b] s) (F0 m pc ls [.int 1]) := by
  intro T hT X
  obtain ⟨fs, hret, hrun, hended, hW, hframe⟩ := X.leave (v := some (.int 1)) (hlocks := hlocks) (fun h => by rw [hr] at h; cases h)
  have hmeth' : T.vm.method? m = some meth := X.method'
  refine ⟨T.setFrames fs, ?_, .returned (some (.int 1)), hrun, hended, rfl, ⟨_, rfl⟩, hW, hframe⟩
  jvm_step X.here [X.here.top, hx, hb, hdg, hmeth', hr, ret, narrow_b1]
  (try refine ⟨rfl, ?_⟩); (try refine ⟨rfl, ?_⟩)
  first | (intro acts; rw [hret _ acts rfl rfl rfl]) | rw [hret _ _ rfl rfl rfl]
  exact Steps.refl _
/-- what holds at the law's entry: the machine, the code, the tables' words (any of lw_tbl by 'hts w (by decide +kernel)'), the script of L ints xs at the cell b, what the Statement gives of the start (any of its parts by flat_of_before) -/
def lw_At (p : Program) (s : State) (m : MethodId) (meth : Method) (c : Code) (b L : Nat) (xs : Nat → Int32) : Prop :=
  p.tables.exec = Jvm.exec ∧ c.code = code ∧ meth.sig.returnType = ret ∧ c.maxLocals = 4 ∧ s.vm.findClass R_law = some m.cls ∧ (∀ w ∈ lw_tbl, w.before #[Value.ref b] s = true) ∧ va_X b L xs s s.heap ∧ b < s.heap.size ∧ meth.locks = false ∧ (Jvm.Cond.and given_1 narrow_1).before #[Value.ref b] s = true
theorem pm_okI_nm {cl : List vw_C} {TB : List Cond} {RD : String} {ms : Nat → Option pm_M} {cc : ByteArray} {own mname : String} {pc : Nat} {q : pm_I} (h : pm_okI cl TB RD ms cc own "law" pc q) : pm_okI cl TB RD ms cc own mname pc q := by
  obtain ⟨h1, h2, h3, h4, h5, h6, h7⟩ := h
  refine ⟨h1, h2, h3, h4, h5, ?_, h7⟩
  obtain ⟨i, n, r1, r2, cst, hs⟩ := q
  dsimp only at h6 ⊢
  cases i <;> first | exact h6 | skip
  obtain ⟨C, T, N, ty, o1, o2, o3, o4, o5, o6⟩ := h6
  exact ⟨C, T, N, ty, o1, o2, o3, o4, o5, fun hf => absurd (o6 hf).1 (by decide)⟩
noncomputable abbrev pm_ms : Nat → Option pm_M := pm_msT pm_tab
noncomputable abbrev pm_ins : Nat → Nat → Option pm_I := pm_inT pm_tab
/-- the law's run of the small machine -/
noncomputable def pm_law (fuel : Nat) (L : Nat) (xs : Nat → Int32) : Option pm_R := pm_run (pm_step pm_cs pm_ms (pm_call pm_cs pm_ms pm_ins fuel 9) (some (L, xs)) 4 (some .boolean)) (pm_at_pc pd_law) fuel (0, [(0, .ref 0)], [], [])
set_option maxHeartbeats 2000000 in
/-- what the small machine answers is what the claim asks -/
theorem pm_whole {p : Program} {e : Env} {s : State} {m : MethodId} {below : List Frame} {meth : Method} {c : Code} (l : Launch) {b L : Nat} {xs : Nat → Int32} (C0 : lw_At p s m meth c b L xs) {fuel : Nat} {hE : pm_H} (hrun : pm_law fuel L xs = some (some (.int 1), hE)) (h1 : hE.length ≤ 600000) (h2 : pm_sls hE ≤ 7302250) :
    W p l e room_1 s m #[Value.ref b] below meth c s.heap [] 0 0 (lw_Z below #[Value.ref b] s) (entryFrame m ([Value.ref b] : List Value).toArray 4) := by
  obtain ⟨hx, hb, hr, hml, hown, hts0, hX, hbl, hlocks, hgv⟩ := C0
  have hts : ∀ w ∈ pm_TB, w.before #[Value.ref b] s = true := fun w hw => hts0 w (List.mem_filter.mp hw).1
  have hst : ∀ w ∈ pm_TB, pm_stb w = true := fun w hw => (List.mem_filter.mp hw).2
  obtain ⟨D, cA, hK⟩ := pm_known hts
  have hms : pm_msOk pm_ms pm_TB := pm_tab_ms pm_tabOk
  have hins : pm_insOk vwCl pm_TB pm_RD pm_ms pm_ins := pm_tab_ins pm_tabOk
  have hcall := pm_callOk (l := l) (fuel := fuel) hst pm_clsOk2 hms hins 9
  have hl := lv_entry ([.ref b]) (n := 4) (Nat.le_of_ble_eq_true rfl)
  rw [lg_entry_eq]
  generalize (lg_sl ([.ref b]) ++ List.replicate (4 - (lg_sl ([.ref b])).length) Slot.unset).toArray = ls at hl ⊢
  have hl : lv_has ls 4 (pm_lv b s.heap.size [(0, .ref 0)]) := hl
  have hP : va_P D vwCl (pm_ws (pm_tr cA b s.heap.size) s.heap.size []) s.heap := fun k q h => by cases h
  refine pm_runOk (R := room_1) (scr := some (L, xs)) (n0 := 0) (z0 := 0) (hE := hE) (v := some (.int 1)) (cs := pm_cs) (ins := pm_at_pc pd_law) hx hb hml hst hts pm_clsOk2 hms hown hK (fun n ys e9 => by cases e9; exact ⟨hX, hbl, hbl⟩) hcall (Nat.le_of_ble_eq_true rfl) (Nat.le_of_ble_eq_true rfl) (fun pc q e9 => pm_okI_nm (pm_ckb_ok pk_law e9)) (Nat.add_zero _).symm (by show hE.length ≤ 0 + 600000; omega) (by show pm_sls hE ≤ 0 + 7302250; omega) ?_ fuel (0, [(0, .ref 0)], [], []) hrun ls s.heap [] 0 0 hl hP va_S.rf rfl rfl
  intro i pc ls st H locs cells slots hdg q1 hP1 hS1 hc1 hs1
  cases i <;> simp only [pm_ret] at q1 <;> try exact pm_no q1
  case ireturn =>
    split at q1
    · rename_i e9; cases e9
    · split at q1
      · cases q1
        refine va_forget (fun q hq => hS1.2.2 q hq) ?_
        refine W.widen (k := 600000) (n := 7302250) (by omega) (by omega) ?_
        exact lw_ret hx hb hr hlocks hdg
      · cases q1
    · cases q1
  all_goals (split at q1 <;> cases q1)
end
section
/-! walking the small machine, an instruction a row -/
theorem pm_r {step : pm_I → pm_F → pm_O} {ins : Nat → Option pm_I} {n : Nat} {F F' : pm_F} {q : pm_I} {r : Option pm_R} (h1 : ins F.1 = some q) (h2 : step q F = some (.inl F')) (h3 : pm_run step ins n F' = r) : pm_run step ins (n + 1) F = r := by
  rw [pm_run_succ, h1]
  dsimp only
  rw [h2]
  exact h3
theorem pm_rE {step : pm_I → pm_F → pm_O} {ins : Nat → Option pm_I} {n : Nat} {F : pm_F} {q : pm_I} {x : pm_R} (h1 : ins F.1 = some q) (h2 : step q F = some (.inr x)) : pm_run step ins (n + 1) F = some x := by
  rw [pm_run_succ, h1]
  dsimp only
  rw [h2]
section PMW
variable {cs : Nat → List Value} {ms : Nat → Option pm_M} {call : pm_C} {scr : pm_S} {nL : Nat} {rt : Option FieldType} {pc len r1 r2 : Nat} {cst : Int} {hs : List (Nat × Nat)} {lv : pm_L} {st r : List Value} {h h' : pm_H}
theorem pm_sG {x a : Nat} {v : Value} (hf : pm_gf r1 r2 (pm_cell h a) = some v) : pm_step cs ms call scr nL rt (.getfield x, len, r1, r2, cst, hs) (pc, lv, .ref a :: r, h) = some (.inl (pc + 3, lv, v :: r, h)) := by
  show pm_o4 _ _ (pm_psh h r (pm_gf r1 r2 (pm_cell h a))) = _
  rw [hf]; rfl
theorem pm_sP {x a : Nat} {v : Value} {y : pm_E} (hf : pm_pf r1 r2 cst v (pm_cell h a) = some y) : pm_step cs ms call scr nL rt (.putfield x, len, r1, r2, cst, hs) (pc, lv, v :: .ref a :: r, h) = some (.inl (pc + 3, lv, r, pm_wr h a y)) := by
  show pm_o4 _ _ (pm_wrs h a r (pm_pf r1 r2 cst v (pm_cell h a))) = _
  rw [hf]; rfl
theorem pm_sV {x na ci a nl : Nat} {y : MethodName} {bs : ByteArray} {rt' : Option FieldType} {as : List Value} {v : Option Value} (hm : ms r1 = some (y, bs, nl, rt', na, ci)) (hp : pm_pop_n na [] st = some (as, .ref a :: r)) (hw : Nat.ble (pm_wt r) 8 = true) (ho : pm_clsOk ci (pm_cell h a) = true) (hc : call r1 (.ref a :: as) h = some (v, h')) :
    pm_step cs ms call scr nL rt (.invokevirtual x, len, r1, r2, cst, hs) (pc, lv, st, h) = some (.inl (pc + 3, lv, v.toList ++ r, h')) := by
  have e : pm_na ms r1 = (na, ci) := by unfold pm_na; rw [hm]
  show pm_o4 _ _ (pm_inv call (.invokevirtual x) r1 (pm_na ms r1).1 (pm_na ms r1).2 st h) = _
  rw [e]
  simp only [pm_inv]
  rw [hp]
  dsimp only
  rw [hw, ho, hc]
  rfl
theorem pm_sS {x na ci nl : Nat} {y : MethodName} {bs : ByteArray} {rt' : Option FieldType} {as : List Value} {v : Option Value} (hm : ms r1 = some (y, bs, nl, rt', na, ci)) (hp : pm_pop_n na [] st = some (as, r)) (hw : Nat.ble (pm_wt r) 8 = true) (hc : call r1 as h = some (v, h')) :
    pm_step cs ms call scr nL rt (.invokestatic x, len, r1, r2, cst, hs) (pc, lv, st, h) = some (.inl (pc + 3, lv, v.toList ++ r, h')) := by
  have e : pm_na ms r1 = (na, ci) := by unfold pm_na; rw [hm]
  show pm_o4 _ _ (pm_inv call (.invokestatic x) r1 (pm_na ms r1).1 (pm_na ms r1).2 st h) = _
  rw [e]
  simp only [pm_inv]
  rw [hp]
  dsimp only
  rw [hw, hc]
  rfl
theorem pm_sI {x k na ci a nl : Nat} {y : MethodName} {bs : ByteArray} {rt' : Option FieldType} {as : List Value} {v : Option Value} (hm : ms (k + 1) = some (y, bs, nl, rt', na, ci)) (hp : pm_pop_n na [] st = some (as, .ref a :: r)) (hw : Nat.ble (pm_wt r) 8 = true) (hc : call (k + 1) (.ref a :: as) h = some (v, h')) :
    pm_step cs ms call scr nL rt (.invokespecial x, len, k + 1, r2, cst, hs) (pc, lv, st, h) = some (.inl (pc + 3, lv, v.toList ++ r, h')) := by
  have e : pm_na ms (k + 1) = (na, ci) := by unfold pm_na; rw [hm]
  show pm_o4 _ _ (pm_inv call (.invokespecial x) (k + 1) (pm_na ms (k + 1)).1 (pm_na ms (k + 1)).2 st h) = _
  rw [e]
  simp only [pm_inv]
  rw [hp]
  dsimp only
  rw [hw, hc]
  rfl
theorem pm_sN {x a : Nat} {e : pm_E} (he : (.inr (r1, cs r1) : pm_E) = e) (hl : h.length + 1 = a) : pm_step cs ms call scr nL rt (.new x, len, r1, r2, cst, hs) (pc, lv, st, h) = some (.inl (pc + 3, lv, .ref a :: st, h ++ [e])) := by
  subst he; subst hl; rfl
theorem pm_sJ {i : Instr} {pc' : Nat} {st' : List Value} (hg : pm_grp i = 3) (hj : pm_jmp i pc r1 st = some (pc', st')) : pm_step cs ms call scr nL rt (i, len, r1, r2, cst, hs) (pc, lv, st, h) = some (.inl (pc', lv, st', h)) := by
  show (match pm_grp i with
    | 0 => pm_o0 (pc + pm_aln i) lv h (pm_alu i cst st)
    | 1 => pm_o1 (pc + pm_ldn i) lv st h (pm_ld i lv)
    | 2 => pm_o2 (pc + pm_ston i) h (pm_sto nL i lv st)
    | 3 => pm_o3 lv h (pm_jmp i pc r1 st)
    | 4 => pm_o4 (pc + pm_memn i) lv (pm_mem cs scr i r1 r2 cst st h)
    | 5 => pm_o4 (pc + 3) lv (pm_inv call i r1 (pm_na ms r1).1 (pm_na ms r1).2 st h)
    | _ => pm_o6 h (pm_ret i rt st)) = _
  rw [hg]
  show pm_o3 lv h (pm_jmp i pc r1 st) = _
  rw [hj]
  rfl
end PMW
theorem pm_jt {b : Bool} {t pc : Nat} {r : List Value} (h : b = true) : pm_if b t pc r = some (t, r) := by subst h; rfl
theorem pm_jf {b : Bool} {t pc : Nat} {r : List Value} (h : b = false) : pm_if b t pc r = some (pc + 3, r) := by subst h; rfl
noncomputable def pt_h (o : Option pm_R) : pm_H := match o with
  | some (_, h) => h
  | none => []
noncomputable def pt_v (o : Option pm_R) : Option Value := match o with
  | some (v, _) => v
  | none => none
theorem pt_some {o : Option pm_R} {v : Option Value} (h : (o.isSome && decide (pt_v o = v)) = true) : o = some (v, pt_h o) := by
  rw [Bool.and_eq_true, decide_eq_true_eq] at h
  cases o with
  | none => cases h.1
  | some x =>
    obtain ⟨w, y⟩ := x
    obtain ⟨-, h2⟩ := h
    cases h2
    rfl
noncomputable abbrev pC (d k : Nat) (as : List Value) (h : pm_H) : Option pm_R := pm_call pm_cs pm_ms pm_ins 10000 d k as h
/-- a call is its method's run -/
theorem pm_cE {d k nL na ci : Nat} {y : MethodName} {bs : ByteArray} {rt : Option FieldType} {as : List Value} {h : pm_H} {r : Option pm_R} (hm : pm_ms k = some (y, bs, nL, rt, na, ci)) (hw : Nat.ble (pm_wt as) nL = true) (hr : pm_run (pm_step pm_cs pm_ms (pC d) none nL rt) (pm_ins k) 10000 (0, lv_args 0 as, [], h) = r) : pC (d + 1) k as h = r := by
  show pm_call pm_cs pm_ms pm_ins 10000 (d + 1) k as h = r
  rw [pm_call_succ, hm]
  dsimp only
  rw [hw]
  exact hr
noncomputable def ph_0 : pm_H := [.inr (10, pm_cs 10)]
noncomputable def ph_1 : pm_H := pt_h (pC 9 101 [.ref 1] ph_0)
noncomputable def ph_2 : pm_H := ph_1 ++ [.inr (11, pm_cs 11)]
/-- both made -/
noncomputable def ph_3 : pm_H := pt_h (pC 9 145 [.ref 225] ph_2)
set_option maxRecDepth 100000 in
theorem pc_1 : pC 9 101 [.ref 1] ph_0 = some (none, ph_1) := pt_some (by decide +kernel)
set_option maxRecDepth 100000 in
theorem pz_1 : ph_1.length + 1 = 225 := by decide +kernel
set_option maxRecDepth 100000 in
theorem pc_3 : pC 9 145 [.ref 225] ph_2 = some (none, ph_3) := pt_some (by decide +kernel)
set_option maxRecDepth 100000 in
theorem pz_3 : (Nat.ble ph_3.length 600000 && Nat.ble (pm_sls ph_3) 7302250) = true := by decide +kernel
set_option maxRecDepth 100000 in
theorem po_3 : (pm_clsOk 10 (pm_cell ph_3 1) && pm_clsOk 11 (pm_cell ph_3 225)) = true := by decide +kernel
/-- a call on both, freshly made, with one answer -/
def pq_ok (kx km : Nat) (as : List Value) (v : Value) : Prop := ∃ h1 h2, pC 9 kx (.ref 1 :: as) ph_3 = some (some v, h1) ∧ pC 9 km (.ref 225 :: as) h1 = some (some v, h2) ∧ pm_clsOk 11 (pm_cell h1 225) = true ∧ h2.length ≤ 600000 ∧ pm_sls h2 ≤ 7302250
noncomputable def pq_ck (kx km : Nat) (as : List Value) (v : Value) : Bool := match pC 9 kx (.ref 1 :: as) ph_3 with
  | some (some w, h1) => match pC 9 km (.ref 225 :: as) h1 with
    | some (some u, h2) => decide (w = v) && (decide (u = v) && (pm_clsOk 11 (pm_cell h1 225) && (Nat.ble h2.length 600000 && Nat.ble (pm_sls h2) 7302250)))
    | _ => false
  | _ => false
theorem pq_of {kx km : Nat} {as : List Value} {v : Value} (h : pq_ck kx km as v = true) : pq_ok kx km as v := by
  unfold pq_ck at h
  split at h
  · rename_i w h1 e1
    split at h
    · rename_i u h2 e2
      simp only [Bool.and_eq_true, decide_eq_true_eq] at h
      obtain ⟨rfl, rfl, g1, g2, g3⟩ := h
      exact ⟨h1, h2, e1, e2, g1, Nat.le_of_ble_eq_true g2, Nat.le_of_ble_eq_true g3⟩
    · cases h
  · cases h
set_option maxRecDepth 100000 in
theorem pq_ground : pq_ok 105 171 [] (.int 0) := pq_of (by decide +kernel)
end

/-- an index in range, as a place -/
def pm_ix (i : Int32) (n : Nat) : Option Nat := if i < 0 then none else match Nat.ble n i.toNatClampNeg with
  | true => none
  | false => some i.toNatClampNeg
/-- array loads: kinds 0 int, 1 long, 2 byte, 3 boolean, 4 long[], 5 int[], 6 a class' objects -/
def pm_rdi (i : Int32) (e : Option pm_E) : Option Value := match e with
  | some (.inl (k, n, .inl f)) => match Nat.beq k 0 with
    | true => match pm_ix i n with
      | some j => some (.int (f j))
      | none => none
    | false => none
  | _ => none
def pm_rdb (i : Int32) (e : Option pm_E) : Option Value := match e with
  | some (.inl (k, n, .inl f)) => match Nat.beq k 2, Nat.beq k 3 with
    | false, false => none
    | _, _ => match pm_ix i n with
      | some j => some (.int (f j))
      | none => none
  | _ => none
def pm_rdl (i : Int32) (e : Option pm_E) : Option Value := match e with
  | some (.inl (k, n, .inr (.inl f))) => match Nat.beq k 1 with
    | true => match pm_ix i n with
      | some j => some (.long (f j))
      | none => none
    | false => none
  | _ => none
def pm_rda (i : Int32) (e : Option pm_E) : Option Value := match e with
  | some (.inl (k, n, .inr (.inr (.inr (.inr f))))) => match Nat.beq k 4, Nat.beq k 5, Nat.beq k 6 with
    | false, false, false => none
    | _, _, _ => match pm_ix i n with
      | some j => some (va_rf (f j))
      | none => none
  | _ => none
def pm_scr (i : Int32) (s : pm_S) : Option Value := match s with
  | some (n, xs) => match pm_ix i n with
    | some j => some (.int (xs j))
    | none => none
  | none => none
/-- array stores -/
def pm_wri (i x : Int32) (e : Option pm_E) : Option pm_E := match e with
  | some (.inl (k, n, .inl f)) => match Nat.beq k 0 with
    | true => match pm_ix i n with
      | some j => some (.inl (k, n, .inl (upd f j x)))
      | none => none
    | false => none
  | _ => none
def pm_wrb (i x : Int32) (e : Option pm_E) : Option pm_E := match e with
  | some (.inl (k, n, .inl f)) => match Nat.beq k 2, Nat.beq k 3 with
    | true, _ => match pm_ix i n with
      | some j => some (.inl (k, n, .inl (upd f j (vp_nar .byte x))))
      | none => none
    | _, true => match pm_ix i n with
      | some j => some (.inl (k, n, .inl (upd f j (vp_nar .boolean x))))
      | none => none
    | _, _ => none
  | _ => none
def pm_wrl (i : Int32) (x : Int64) (e : Option pm_E) : Option pm_E := match e with
  | some (.inl (k, n, .inr (.inl f))) => match Nat.beq k 1 with
    | true => match pm_ix i n with
      | some j => some (.inl (k, n, .inr (.inl (vp_updL f j x))))
      | none => none
    | false => none
  | _ => none
/-- a reference to an object of the class ci into an array of kind 6 -/
def pm_wra (ci : Nat) (i : Int32) (x : Nat) (o e : Option pm_E) : Option pm_E := match e, o with
  | some (.inl (k, n, .inr (.inr (.inr (.inr f))))), some (.inr (c, _)) => match Nat.beq k 6, Nat.beq c ci with
    | true, true => match pm_ix i n with
      | some j => some (.inl (k, n, .inr (.inr (.inr (.inr (va_up f j (some x)))))))
      | none => none
    | _, _ => none
  | _, _ => none
noncomputable def pm_gf (r1 r2 : Nat) (e : Option pm_E) : Option Value := match e with
  | some (.inr (c, fs)) => match Nat.beq c r1 with
    | true => pm_nth fs r2
    | false => none
  | _ => none
noncomputable def pm_pf (r1 r2 : Nat) (ty : Int) (v : Value) (e : Option pm_E) : Option pm_E := match e with
  | some (.inr (c, fs)) => match Nat.beq c r1, pm_fit ty v, Nat.ble (r2 + 1) fs.length with
    | true, true, true => some (.inr (c, pm_put fs v r2))
    | _, _, _ => none
  | _ => none
def pm_len (e : Option pm_E) : Option Value := match e with
  | some (.inl (k, n, _)) => match Nat.ble k 6 with
    | true => some (.int (Int32.ofNat n))
    | false => none
  | _ => none
noncomputable def pm_wrs (h : pm_H) (a : Nat) (r : List Value) (e : Option pm_E) : Option (List Value × pm_H) := match e with
  | some e => some (r, pm_wr h a e)
  | none => none
def pm_psh (h : pm_H) (r : List Value) (v : Option Value) : Option (List Value × pm_H) := match v with
  | some v => some (v :: r, h)
  | none => none
/-- a length that may be -/
def pm_sz (n : Int32) : Option Nat := if n < 0 then none else match Nat.ble n.toNatClampNeg 67108864 with
  | true => some n.toNatClampNeg
  | false => none
def pm_new (h : pm_H) (r : List Value) (e : pm_E) : Option (List Value × pm_H) := some (.ref (h.length + 1) :: r, h ++ [e])
def pm_nwa (h : pm_H) (r : List Value) (n : Int32) (f : Nat → pm_E) : Option (List Value × pm_H) := match pm_sz n with
  | some N => pm_new h r (f N)
  | none => none
/-- an empty array of a kind -/
def pm_zero (k N : Nat) : pm_E := match k with
  | 1 => .inl (1, N, .inr (.inl (fun _ => 0)))
  | 0 => .inl (0, N, .inl (fun _ => 0))
  | k => .inl (k, N, .inl (fun _ => 0))
def pm_nwm (h : pm_H) (r : List Value) (r1 r2 : Nat) (n k : Int32) : Option (List Value × pm_H) := match pm_sz n, pm_sz k with
  | some N, some K => some (.ref (h.length + 1) :: r, h ++ (.inl (r1, N, .inr (.inr (.inr (.inr (fun i => if i < N then some (h.length + 2 + i) else none))))) :: List.replicate N (pm_zero r2 K)))
  | _, _ => none
/-- what works on the cells: cs are the classes' fields as they are born -/
noncomputable def pm_mem (cs : Nat → List Value) (scr : pm_S) (q : Instr) (r1 r2 : Nat) (cst : Int) (st : List Value) (h : pm_H) : Option (List Value × pm_H) := match q with
  | .getfield _ => match st with
    | .ref a :: r => pm_psh h r (pm_gf r1 r2 (pm_cell h a))
    | _ => none
  | .putfield _ => match st with
    | v :: .ref a :: r => pm_wrs h a r (pm_pf r1 r2 cst v (pm_cell h a))
    | _ => none
  | .iaload => match st with
    | .int i :: .ref a :: r => match a with
      | 0 => pm_psh h r (pm_scr i scr)
      | a + 1 => pm_psh h r (pm_rdi i (pm_cell h (a + 1)))
    | _ => none
  | .baload => match st with
    | .int i :: .ref a :: r => pm_psh h r (pm_rdb i (pm_cell h a))
    | _ => none
  | .laload => match st with
    | .int i :: .ref a :: r => pm_psh h r (pm_rdl i (pm_cell h a))
    | _ => none
  | .aaload => match st with
    | .int i :: .ref a :: r => pm_psh h r (pm_rda i (pm_cell h a))
    | _ => none
  | .iastore => match st with
    | .int x :: .int i :: .ref a :: r => pm_wrs h a r (pm_wri i x (pm_cell h a))
    | _ => none
  | .bastore => match st with
    | .int x :: .int i :: .ref a :: r => pm_wrs h a r (pm_wrb i x (pm_cell h a))
    | _ => none
  | .lastore => match st with
    | .long x :: .int i :: .ref a :: r => pm_wrs h a r (pm_wrl i x (pm_cell h a))
    | _ => none
  | .aastore => match st with
    | .ref x :: .int i :: .ref a :: r => pm_wrs h a r (pm_wra r1 i x (pm_cell h x) (pm_cell h a))
    | _ => none
  | .arraylength => match st with
    | .ref a :: r => match a with
      | 0 => match scr with
        | some (n, _) => some (.int (Int32.ofNat n) :: r, h)
        | none => none
      | a + 1 => pm_psh h r (pm_len (pm_cell h (a + 1)))
    | _ => none
  | .newarray ty => match st with
    | .int n :: r => match ty with
      | .int => pm_nwa h r n (pm_zero 0)
      | .long => pm_nwa h r n (pm_zero 1)
      | .byte => pm_nwa h r n (pm_zero 2)
      | .boolean => pm_nwa h r n (pm_zero 3)
      | _ => none
    | _ => none
  | .anewarray _ => match st with
    | .int n :: r => pm_nwa h r n (fun N => .inl (6, N, .inr (.inr (.inr (.inr (fun _ => none))))))
    | _ => none
  | .multianewarray _ _ => match st with
    | .int k :: .int n :: r => pm_nwm h r r1 r2 n k
    | _ => none
  | .new _ => pm_new h st (.inr (r1, cs r1))
  | _ => none
def pm_memn (q : Instr) : Nat := match q with
  | .getfield _ => 3
  | .putfield _ => 3
  | .newarray _ => 2
  | .anewarray _ => 3
  | .multianewarray _ _ => 4
  | .new _ => 3
  | _ => 1
/-- a method's end: its answer is of its type -/
def pm_ret (q : Instr) (rt : Option FieldType) (st : List Value) : Option (Option Value) := match q with
  | .return_ => match rt, st with
    | none, [] => some none
    | _, _ => none
  | .ireturn => match rt, st with
    | some .int, [.int x] => some (some (.int x))
    | some .boolean, [.int x] => if x = 0 ∨ x = 1 then some (some (.int x)) else none
    | _, _ => none
  | .lreturn => match rt, st with
    | some .long, [.long x] => some (some (.long x))
    | _, _ => none
  | .areturn => match rt, st with
    | some (.object _), [.ref a] => some (some (.ref a))
    | some (.object _), [.null] => some (some .null)
    | some (.array _), [.ref a] => some (some (.ref a))
    | some (.array _), [.null] => some (some .null)
    | _, _ => none
  | _ => none
/-- n values off a stack, the last first -/
def pm_pop_n : Nat → List Value → List Value → Option (List Value × List Value)
  | 0, as, st => some (as, st)
  | n + 1, as, v :: st => pm_pop_n n (v :: as) st
  | _ + 1, _, [] => none
def pm_cat (v : Value) : Nat := match v with
  | .long _ => 2
  | .double _ => 2
  | _ => 1
def pm_wt : List Value → Nat
  | [] => 0
  | v :: r => pm_cat v + pm_wt r
def pm_clsOk (ci : Nat) (e : Option pm_E) : Bool := match e with
  | some (.inr (c, _)) => Nat.beq c ci
  | _ => false
abbrev pm_C : Type := Nat → List Value → pm_H → Option pm_R
/-- a call: r1 is the callee (0: Object's constructor), na how many arguments it has, ci its class -/
noncomputable def pm_inv (call : pm_C) (q : Instr) (k na ci : Nat) (st : List Value) (h : pm_H) : Option (List Value × pm_H) := match q with
  | .invokestatic _ => match pm_pop_n na [] st with
    | some (as, r) => match Nat.ble (pm_wt r) 8, call k as h with
      | true, some (v, h') => some (v.toList ++ r, h')
      | _, _ => none
    | none => none
  | .invokevirtual _ => match pm_pop_n na [] st with
    | some (as, .ref a :: r) => match Nat.ble (pm_wt r) 8, pm_clsOk ci (pm_cell h a), call k (.ref a :: as) h with
      | true, true, some (v, h') => some (v.toList ++ r, h')
      | _, _, _ => none
    | _ => none
  | .invokespecial _ => match k with
    | 0 => match st with
      | .ref _ :: r => match Nat.ble (pm_wt r) 8 with
        | true => some (r, h)
        | false => none
      | _ => none
    | k + 1 => match pm_pop_n na [] st with
      | some (as, .ref a :: r) => match Nat.ble (pm_wt r) 8, call (k + 1) (.ref a :: as) h with
        | true, some (v, h') => some (v.toList ++ r, h')
        | _, _ => none
      | _ => none
  | _ => none
/-- which of the groups an instruction is in: 0 stack, 1 load, 2 store, 3 jump, 4 cells, 5 call, 6 end -/
def pm_grp (q : Instr) : Nat := match q with
  | .iload_n _ => 1 | .iload _ => 1 | .lload_n _ => 1 | .lload _ => 1 | .aload_n _ => 1 | .aload _ => 1
  | .istore_n _ => 2 | .istore _ => 2 | .lstore_n _ => 2 | .lstore _ => 2 | .astore_n _ => 2 | .astore _ => 2 | .iinc _ _ => 2
  | .goto _ => 3 | .ifCond _ _ => 3 | .if_icmp _ _ => 3 | .ifnull _ => 3 | .ifnonnull _ => 3 | .tableswitch _ _ _ _ => 3
  | .getfield _ => 4 | .putfield _ => 4 | .iaload => 4 | .baload => 4 | .laload => 4 | .aaload => 4 | .iastore => 4 | .bastore => 4 | .lastore => 4 | .aastore => 4 | .arraylength => 4 | .newarray _ => 4 | .anewarray _ => 4 | .multianewarray _ _ => 4 | .new _ => 4
  | .invokestatic _ => 5 | .invokevirtual _ => 5 | .invokespecial _ => 5
  | .return_ => 6 | .ireturn => 6 | .lreturn => 6 | .areturn => 6
  | _ => 0
abbrev pm_O : Type := Option (pm_F ⊕ pm_R)
def pm_o0 (pc : Nat) (lv : pm_L) (h : pm_H) (o : Option (List Value)) : pm_O := match o with
  | some st => some (.inl (pc, lv, st, h))
  | none => none
def pm_o1 (pc : Nat) (lv : pm_L) (st : List Value) (h : pm_H) (o : Option Value) : pm_O := match o with
  | some v => some (.inl (pc, lv, v :: st, h))
  | none => none
def pm_o2 (pc : Nat) (h : pm_H) (o : Option (pm_L × List Value)) : pm_O := match o with
  | some (lv, st) => some (.inl (pc, lv, st, h))
  | none => none
def pm_o3 (lv : pm_L) (h : pm_H) (o : Option (Nat × List Value)) : pm_O := match o with
  | some (pc, st) => some (.inl (pc, lv, st, h))
  | none => none
def pm_o4 (pc : Nat) (lv : pm_L) (o : Option (List Value × pm_H)) : pm_O := match o with
  | some (st, h) => some (.inl (pc, lv, st, h))
  | none => none
def pm_o6 (h : pm_H) (o : Option (Option Value)) : pm_O := match o with
  | some v => some (.inr (v, h))
  | none => none
/-- how many arguments a callee has, its class -/
def pm_na (ms : Nat → Option pm_M) (k : Nat) : Nat × Nat := match ms k with
  | some (_, _, _, _, n, ci) => (n, ci)
  | none => (0, 0)
/-- one instruction -/
noncomputable def pm_step (cs : Nat → List Value) (ms : Nat → Option pm_M) (call : pm_C) (scr : pm_S) (nL : Nat) (rt : Option FieldType) (q : pm_I) (F : pm_F) : pm_O := match q, F with
  | (i, _, r1, r2, cst, _), (pc, lv, st, h) => match pm_grp i with
    | 0 => pm_o0 (pc + pm_aln i) lv h (pm_alu i cst st)
    | 1 => pm_o1 (pc + pm_ldn i) lv st h (pm_ld i lv)
    | 2 => pm_o2 (pc + pm_ston i) h (pm_sto nL i lv st)
    | 3 => pm_o3 lv h (pm_jmp i pc r1 st)
    | 4 => pm_o4 (pc + pm_memn i) lv (pm_mem cs scr i r1 r2 cst st h)
    | 5 => pm_o4 (pc + 3) lv (pm_inv call i r1 (pm_na ms r1).1 (pm_na ms r1).2 st h)
    | _ => pm_o6 h (pm_ret i rt st)
/-- a method's run: by the fuel -/
noncomputable def pm_run (step : pm_I → pm_F → pm_O) (ins : Nat → Option pm_I) : Nat → pm_F → Option pm_R := fun n => Nat.rec (fun _ => none) (fun _ ih F => match ins F.1 with
  | none => none
  | some q => match step q F with
    | none => none
    | some (.inl F') => ih F'
    | some (.inr r) => some r) n
/-- a call, by its depth; the tables: classes, methods, instructions -/
noncomputable def pm_call (cs : Nat → List Value) (ms : Nat → Option pm_M) (ins : Nat → Nat → Option pm_I) (fuel : Nat) : Nat → pm_C := fun d => Nat.rec (fun _ _ _ => none) (fun _ ih k as h => match ms k with
  | some (_, _, nL, rt, _, _) => match Nat.ble (pm_wt as) nL with
    | true => pm_run (pm_step cs ms ih none nL rt) (ins k) fuel (0, lv_args 0 as, [], h)
    | false => none
  | none => none) d
theorem pm_run_succ (step : pm_I → pm_F → pm_O) (ins : Nat → Option pm_I) (n : Nat) (F : pm_F) : pm_run step ins (n + 1) F = match ins F.1 with
  | none => none
  | some q => match step q F with
    | none => none
    | some (.inl F') => pm_run step ins n F'
    | some (.inr r) => some r := rfl
theorem pm_call_succ (cs : Nat → List Value) (ms : Nat → Option pm_M) (ins : Nat → Nat → Option pm_I) (fuel d k : Nat) (as : List Value) (h : pm_H) : pm_call cs ms ins fuel (d + 1) k as h = match ms k with
  | some (_, _, nL, rt, _, _) => match Nat.ble (pm_wt as) nL with
    | true => pm_run (pm_step cs ms (pm_call cs ms ins fuel d) none nL rt) (ins k) fuel (0, lv_args 0 as, [], h)
    | false => none
  | none => none := rfl

/-! what a program decides of the tables, and that it is enough -/
def pm_RD : String := RX5
def pm_TB : List Cond := lw_tbl.filter pm_stb
def pm_chunk (j : Nat) : List Cond := match j with
  | 0 => k2_sels lw_privs
  | 1 => tables_1_1
  | 2 => tables_1_2
  | 3 => tables_1_3
  | 4 => tables_1_4
  | 5 => tables_1_5
  | 6 => tables_1_6
  | 7 => tables_1_7
  | 8 => tables_1_8
  | _ => []
theorem pm_chunk_in {j : Nat} {w : Cond} (h : w ∈ pm_chunk j) : w ∈ lw_tbl := by
  have ht : ∀ w, w ∈ tables_1 → w ∈ lw_tbl := fun w hw => List.mem_append_right _ hw
  unfold pm_chunk at h
  split at h
  · exact List.mem_append_left _ h
  · exact ht w (List.mem_append_left _ h)
  · exact ht w (List.mem_append_right _ (List.mem_append_left _ h))
  · exact ht w (List.mem_append_right _ (List.mem_append_right _ (List.mem_append_left _ h)))
  · exact ht w (List.mem_append_right _ (List.mem_append_right _ (List.mem_append_right _ (List.mem_append_left _ h))))
  · exact ht w (List.mem_append_right _ (List.mem_append_right _ (List.mem_append_right _ (List.mem_append_right _ (List.mem_append_left _ h)))))
  · exact ht w (List.mem_append_right _ (List.mem_append_right _ (List.mem_append_right _ (List.mem_append_right _ (List.mem_append_right _ (List.mem_append_left _ h))))))
  · exact ht w (List.mem_append_right _ (List.mem_append_right _ (List.mem_append_right _ (List.mem_append_right _ (List.mem_append_right _ (List.mem_append_right _ (List.mem_append_left _ h)))))))
  · exact ht w (List.mem_append_right _ (List.mem_append_right _ (List.mem_append_right _ (List.mem_append_right _ (List.mem_append_right _ (List.mem_append_right _ (List.mem_append_right _ h)))))))
  · cases h
noncomputable def pm_hasW (a : Nat × Nat) (w : Cond) : Bool := decide (pm_nth (pm_chunk a.1) a.2 = some w) && pm_stb w
theorem pm_hasW_in {a : Nat × Nat} {w : Cond} (h : pm_hasW a w = true) : w ∈ pm_TB := by
  unfold pm_hasW at h
  rw [Bool.and_eq_true, decide_eq_true_eq, pm_nth_eq] at h
  exact List.mem_filter.mpr ⟨pm_chunk_in (List.mem_of_getElem? h.1), h.2⟩
noncomputable def pm_hs : List (Nat × Nat) → List Cond → Bool
  | [], [] => true
  | a :: as, w :: ws => pm_hasW a w && pm_hs as ws
  | _, _ => false
theorem pm_hs_in : ∀ (as : List (Nat × Nat)) (ws : List Cond), pm_hs as ws = true → ∀ w ∈ ws, w ∈ pm_TB := by
  intro as
  induction as with
  | nil =>
    intro ws h w hw
    cases ws with
    | nil => cases hw
    | cons x r => cases h
  | cons a as ih =>
    intro ws h w hw
    cases ws with
    | nil => cases hw
    | cons x r =>
      have h2 : (pm_hasW a x && pm_hs as r) = true := h
      rw [Bool.and_eq_true] at h2
      rcases List.mem_cons.mp hw with rfl | hw
      · exact pm_hasW_in h2.1
      · exact ih r h2.2 w hw
noncomputable def pm_ckm (own mname : String) (i : Instr) (r1 r2 : Nat) (cst : Int) (hs : List (Nat × Nat)) : Bool := match i with
  | .getfield x => match vwCl[r1]? with
    | some (_, T, N) => Nat.ble (r2 + 1) N && pm_hs hs [.fieldLink own x (T r2).1 (T r2).2.1 (T r2).2.2.1]
    | none => false
  | .putfield x => match vwCl[r1]? with
    | some (_, T, N) => match parseFieldDescriptor (T r2).2.2.1 with
      | some ty => (Nat.ble (r2 + 1) N && pm_hs hs [.fieldLink own x (T r2).1 (T r2).2.1 (T r2).2.2.1]) && (decide (pm_tyc ty = cst) && (!(T r2).2.2.2 || (decide (mname = "<init>") && decide ((T r2).1 = own))))
      | none => false
    | none => false
  | .newarray ty => pm_hs hs [.arrayClass (newarray.typeOf ty)]
  | .anewarray x => pm_hs hs [.classLink own x pm_RD, .arrayOver (.object pm_RD)]
  | .multianewarray x d => decide (d = 2) && ((decide (r1 = 4) && (decide (r2 = 1) && pm_hs hs [.classLink own x ("[" ++ (FieldType.array .long).toString), .arrayOver (.array .long), .arrayClass .long])) || (decide (r1 = 5) && (decide (r2 = 0) && pm_hs hs [.classLink own x ("[" ++ (FieldType.array .int).toString), .arrayOver (.array .int), .arrayClass .int])))
  | .new x => match vwCl[r1]? with
    | some (C, _, N) => pm_hs hs [.classLink own x C, .instantiable C N, .initialized C]
    | none => false
  | .aastore => match vwCl[r1]? with
    | some (C, _, _) => decide (C = pm_RD)
    | none => false
  | _ => true
theorem pm_ckm_ok {own mname : String} {i : Instr} {r1 r2 : Nat} {cst : Int} {hs : List (Nat × Nat)} (h : pm_ckm own mname i r1 r2 cst hs = true) : pm_okm vwCl pm_TB pm_RD own mname i r1 r2 cst := by
  cases i <;> simp only [pm_ckm] at h <;> try exact trivial
  case getfield x =>
    split at h
    · rename_i C T N e1
      rw [Bool.and_eq_true] at h
      exact ⟨C, T, N, e1, Nat.le_of_ble_eq_true h.1, pm_hs_in _ _ h.2 _ List.mem_cons_self⟩
    · cases h
  case putfield x =>
    split at h
    · rename_i C T N e1
      split at h
      · rename_i ty e2
        simp only [Bool.and_eq_true, decide_eq_true_eq, Bool.or_eq_true, Bool.not_eq_true'] at h
        obtain ⟨⟨h1, h2⟩, h3, h4⟩ := h
        refine ⟨C, T, N, ty, e1, Nat.le_of_ble_eq_true h1, pm_hs_in _ _ h2 _ List.mem_cons_self, e2, h3, fun hf => ?_⟩
        rcases h4 with h4 | h4
        · rw [hf] at h4; cases h4
        · exact h4
      · cases h
    · cases h
  case newarray ty => exact pm_hs_in _ _ h _ List.mem_cons_self
  case anewarray x => exact ⟨pm_hs_in _ _ h _ List.mem_cons_self, pm_hs_in _ _ h _ (List.mem_cons_of_mem _ List.mem_cons_self)⟩
  case multianewarray x d =>
    simp only [Bool.and_eq_true, decide_eq_true_eq, Bool.or_eq_true] at h
    obtain ⟨h1, h2⟩ := h
    refine ⟨h1, ?_⟩
    rcases h2 with ⟨a, b, h3⟩ | ⟨a, b, h3⟩
    · exact Or.inl ⟨a, b, pm_hs_in _ _ h3 _ List.mem_cons_self, pm_hs_in _ _ h3 _ (List.mem_cons_of_mem _ List.mem_cons_self), pm_hs_in _ _ h3 _ (List.mem_cons_of_mem _ (List.mem_cons_of_mem _ List.mem_cons_self))⟩
    · exact Or.inr ⟨a, b, pm_hs_in _ _ h3 _ List.mem_cons_self, pm_hs_in _ _ h3 _ (List.mem_cons_of_mem _ List.mem_cons_self), pm_hs_in _ _ h3 _ (List.mem_cons_of_mem _ (List.mem_cons_of_mem _ List.mem_cons_self))⟩
  case new x =>
    split at h
    · rename_i C T N e1
      exact ⟨C, T, N, e1, pm_hs_in _ _ h _ List.mem_cons_self, pm_hs_in _ _ h _ (List.mem_cons_of_mem _ List.mem_cons_self), pm_hs_in _ _ h _ (List.mem_cons_of_mem _ (List.mem_cons_of_mem _ List.mem_cons_self))⟩
    · cases h
  case aastore =>
    split at h
    · rename_i C T N e1
      rw [decide_eq_true_eq] at h
      subst h
      exact ⟨T, N, e1⟩
    · cases h
/-- the word that links a call: a nest mate's where r2 is 1 -/
def pm_lkw (own : String) (x r2 : Nat) (y : MethodName) : Cond := match r2 with
  | 0 => .methodLink own x y
  | _ => .methodLinkNest own x y "LoopGround"
theorem pm_lkw_ok {own : String} {x r2 : Nat} {y : MethodName} (h : pm_lkw own x r2 y ∈ pm_TB) : pm_lnk pm_TB own x y := by
  cases r2 with
  | zero => exact Or.inl h
  | succ n => exact Or.inr ⟨_, h⟩
noncomputable def pm_ckc (ms : Nat → Option pm_M) (own : String) (i : Instr) (r1 r2 : Nat) (hs : List (Nat × Nat)) : Bool := match i with
  | .invokestatic x => match ms r1 with
    | some (y, _, _, _, _, _) => pm_hs hs [pm_lkw own x r2 y, .static y]
    | none => false
  | .invokevirtual x => match ms r1 with
    | some (y, _, _, _, _, ci) => match vwCl[ci]? with
      | some (C, _, _) => decide (C = y.cls) && pm_hs hs [pm_lkw own x r2 y, .instanceMethod y, .selects y.cls y y]
      | none => false
    | none => false
  | .invokespecial x => match r1 with
    | 0 => pm_hs hs [.methodLink own x objectInit, .instanceMethod objectInit, .code objectInit ⟨#[0xb1]⟩ 1 none]
    | r1 + 1 => match ms (r1 + 1) with
      | some (y, _, _, none, _, _) => decide (y.name = "<init>") && pm_hs hs [pm_lkw own x r2 y, .instanceMethod y]
      | _ => false
  | _ => true
theorem pm_ckc_ok {ms : Nat → Option pm_M} {own : String} {i : Instr} {r1 r2 : Nat} {hs : List (Nat × Nat)} (h : pm_ckc ms own i r1 r2 hs = true) : pm_okc ms vwCl pm_TB own i r1 := by
  cases i <;> simp only [pm_ckc] at h <;> try exact trivial
  case invokestatic x =>
    split at h
    · rename_i y bytes nL rt na ci e1
      exact ⟨y, bytes, nL, rt, na, ci, e1, pm_lkw_ok (pm_hs_in _ _ h _ List.mem_cons_self), pm_hs_in _ _ h _ (List.mem_cons_of_mem _ List.mem_cons_self)⟩
    · cases h
  case invokevirtual x =>
    split at h
    · rename_i y bytes nL rt na ci e1
      split at h
      · rename_i C T N e2
        rw [Bool.and_eq_true, decide_eq_true_eq] at h
        obtain ⟨rfl, h⟩ := h
        exact ⟨y, bytes, nL, rt, na, ci, e1, pm_lkw_ok (pm_hs_in _ _ h _ List.mem_cons_self), pm_hs_in _ _ h _ (List.mem_cons_of_mem _ List.mem_cons_self), T, N, e2, pm_hs_in _ _ h _ (List.mem_cons_of_mem _ (List.mem_cons_of_mem _ List.mem_cons_self))⟩
      · cases h
    · cases h
  case invokespecial x =>
    split at h
    · exact Or.inl ⟨rfl, pm_hs_in _ _ h _ List.mem_cons_self, pm_hs_in _ _ h _ (List.mem_cons_of_mem _ List.mem_cons_self), pm_hs_in _ _ h _ (List.mem_cons_of_mem _ (List.mem_cons_of_mem _ List.mem_cons_self))⟩
    · split at h
      · rename_i y bytes nL na ci e1
        rw [Bool.and_eq_true, decide_eq_true_eq] at h
        exact Or.inr ⟨by omega, y, bytes, nL, na, ci, e1, h.1, pm_lkw_ok (pm_hs_in _ _ h.2 _ List.mem_cons_self), pm_hs_in _ _ h.2 _ (List.mem_cons_of_mem _ List.mem_cons_self)⟩
      · cases h
noncomputable def pm_ckk (own : String) (i : Instr) (cst : Int) (hs : List (Nat × Nat)) : Bool := match i with
  | .ldc x => pm_hs hs [.constant own x (Int32.ofInt cst)]
  | .ldc_w x => pm_hs hs [.constant own x (Int32.ofInt cst)]
  | .ldc2_w x => pm_hs hs [.constantLong own x (Int64.ofInt cst)]
  | _ => true
def pm_ckl (i : Instr) (n : Nat) : Bool := match pm_grp i with
  | 0 => Nat.beq n (pm_aln i)
  | 1 => Nat.beq n (pm_ldn i)
  | 2 => Nat.beq n (pm_ston i)
  | 3 => Nat.beq n 3 || (match i with | .tableswitch _ _ _ _ => true | _ => false)
  | 4 => Nat.beq n (pm_memn i)
  | 5 => Nat.beq n 3
  | _ => Nat.beq n 1
theorem pm_ckl_ok {i : Instr} {n : Nat} (h : pm_ckl i n = true) : pm_lenOk i n := by
  cases i <;> first
    | exact pm_beq h
    | exact Or.inr ⟨_, _, _, _, rfl⟩
    | exact Or.inl (pm_beq ((Bool.or_false _).symm.trans h))
noncomputable def pm_ck (ms : Nat → Option pm_M) (cc : ByteArray) (own mname : String) (pc : Nat) (q : pm_I) : Bool := match q with
  | (i, n, r1, r2, cst, hs) => decide (decode cc pc = .ok (i, n)) && (pm_ckl i n && (pm_tgt i pc r1 && (pm_ckk own i cst hs && (pm_ckm own mname i r1 r2 cst hs && pm_ckc ms own i r1 r2 hs))))
theorem pm_ck_ok {ms : Nat → Option pm_M} {cc : ByteArray} {own mname : String} {pc : Nat} {q : pm_I} (h : pm_ck ms cc own mname pc q = true) : pm_okI vwCl pm_TB pm_RD ms cc own mname pc q := by
  obtain ⟨i, n, r1, r2, cst, hs⟩ := q
  simp only [pm_ck, Bool.and_eq_true, decide_eq_true_eq] at h
  obtain ⟨h1, h2, h3, h4, h5, h6⟩ := h
  refine ⟨h1, pm_ckl_ok h2, h3, ?_, ?_, pm_ckm_ok h5, pm_ckc_ok h6⟩
  · intro x hx
    rcases hx with hx | hx
    · have hx : i = .ldc x := hx
      subst hx
      exact pm_hs_in _ _ h4 _ List.mem_cons_self
    · have hx : i = .ldc_w x := hx
      subst hx
      exact pm_hs_in _ _ h4 _ List.mem_cons_self
  · intro x hx
    have hx : i = .ldc2_w x := hx
    subst hx
    exact pm_hs_in _ _ h4 _ List.mem_cons_self
/-- a method's table: itself, the places of its words, its instructions in rows of eight bytes -/
abbrev pm_D : Type := pm_M × List (Nat × Nat) × List (List (Nat × pm_I))
def pm_find : List (Nat × pm_I) → Nat → Option pm_I
  | [], _ => none
  | q :: r, pc => match Nat.beq q.1 pc with
    | true => some q.2
    | false => pm_find r pc
theorem pm_find_in {l : List (Nat × pm_I)} {pc : Nat} {q : pm_I} (h : pm_find l pc = some q) : (pc, q) ∈ l := by
  induction l with
  | nil => cases h
  | cons x r ih =>
    unfold pm_find at h
    split at h
    · rename_i e1
      cases h
      rw [← pm_beq e1]
      exact List.mem_cons_self
    · exact List.mem_cons_of_mem _ (ih h)
noncomputable def pm_at_pc (bs : List (List (Nat × pm_I))) (pc : Nat) : Option pm_I := match pm_nth bs (pc / 8) with
  | some l => pm_find l pc
  | none => none
noncomputable def pm_ckb (ms : Nat → Option pm_M) (cc : ByteArray) (own mname : String) (bs : List (List (Nat × pm_I))) : Bool := bs.all (fun l => l.all (fun x => pm_ck ms cc own mname x.1 x.2))
theorem pm_ckb_ok {ms : Nat → Option pm_M} {cc : ByteArray} {own mname : String} {bs : List (List (Nat × pm_I))} (h : pm_ckb ms cc own mname bs = true) {pc : Nat} {q : pm_I} (hq : pm_at_pc bs pc = some q) : pm_okI vwCl pm_TB pm_RD ms cc own mname pc q := by
  unfold pm_at_pc at hq
  split at hq
  · rename_i l e1
    rw [pm_nth_eq] at e1
    have h1 := List.all_eq_true.mp h l (List.mem_of_getElem? e1)
    exact pm_ck_ok (List.all_eq_true.mp h1 (pc, q) (pm_find_in hq))
  · cases hq
noncomputable def pm_ckM (x : pm_M) (hs : List (Nat × Nat)) : Bool := match x with
  | (y, bytes, nL, rt, na, _) => pm_hs hs [.code y bytes nL rt, .initialized y.cls] && (plainFor y && (decide (y.cls ≠ "java/lang/invoke/MethodHandle") && (decide (y.cls ≠ "java/lang/invoke/VarHandle") && (decide ((parseMethodDescriptor y.desc).map (fun d => d.parameters.length) = some na) && Nat.ble nL 13))))
/-- the methods, sixteen to a row -/
noncomputable def pm_tk (tab : List (List pm_D)) (k : Nat) : Option pm_D := match k with
  | 0 => none
  | k + 1 => match pm_nth tab (k / 16) with
    | some r => pm_nth r (k % 16)
    | none => none
theorem pm_tk_in {tab : List (List pm_D)} {k : Nat} {x : pm_D} (h : pm_tk tab k = some x) : ∃ r ∈ tab, x ∈ r := by
  unfold pm_tk at h
  split at h
  · cases h
  · split at h
    · rename_i r e1
      rw [pm_nth_eq] at e1 h
      exact ⟨r, List.mem_of_getElem? e1, List.mem_of_getElem? h⟩
    · cases h
noncomputable def pm_msT (tab : List (List pm_D)) (k : Nat) : Option pm_M := match pm_tk tab k with
  | some (x, _, _) => some x
  | none => none
noncomputable def pm_inT (tab : List (List pm_D)) (k pc : Nat) : Option pm_I := match pm_tk tab k with
  | some (_, _, bs) => pm_at_pc bs pc
  | none => none
/-- all is well with a method's table -/
def pm_dOk (ms : Nat → Option pm_M) (x : pm_D) : Prop := pm_ckM x.1 x.2.1 = true ∧ pm_ckb ms x.1.2.1 x.1.1.cls x.1.1.name x.2.2 = true
theorem pm_tab_ms {tab : List (List pm_D)} (h : ∀ r ∈ tab, ∀ x ∈ r, pm_dOk (pm_msT tab) x) : pm_msOk (pm_msT tab) pm_TB := by
  intro k y bytes nL rt na ci e1
  unfold pm_msT at e1
  split at e1
  · rename_i x hs bs e2
    cases e1
    obtain ⟨r, h1, h2⟩ := pm_tk_in e2
    have h3 := (h r h1 _ h2).1
    simp only [pm_ckM, Bool.and_eq_true, decide_eq_true_eq] at h3
    obtain ⟨a1, a2, a3, a4, a5, a6⟩ := h3
    exact ⟨pm_hs_in _ _ a1 _ List.mem_cons_self, pm_hs_in _ _ a1 _ (List.mem_cons_of_mem _ List.mem_cons_self), a2, ⟨a3, a4⟩, a5, Nat.le_of_ble_eq_true a6⟩
  · cases e1
theorem pm_tab_ins {tab : List (List pm_D)} (h : ∀ r ∈ tab, ∀ x ∈ r, pm_dOk (pm_msT tab) x) : pm_insOk vwCl pm_TB pm_RD (pm_msT tab) (pm_inT tab) := by
  intro k y bytes nL rt na ci e1 pc q e3
  unfold pm_msT at e1
  split at e1
  · rename_i x hs bs e2
    cases e1
    obtain ⟨r, h1, h2⟩ := pm_tk_in e2
    have h3 := (h r h1 _ h2).2
    unfold pm_inT at e3
    rw [e2] at e3
    exact pm_ckb_ok h3 e3
  · cases e1

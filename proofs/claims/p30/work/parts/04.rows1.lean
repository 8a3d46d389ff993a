/-! the groups of instructions over the kit's rows: the stack, variables, jumps -/
theorem pm_no {α : Type} {P : Prop} {x : α} (h : (none : Option α) = some x) : P := by cases h
theorem pm_ii_s {st st' : List Value} {f : Int32 → Int32 → Value} (h : pm_ii st f = some st') : ∃ x y r, st = .int y :: .int x :: r ∧ st' = f x y :: r := by
  unfold pm_ii at h; split at h
  · cases h; exact ⟨_, _, _, rfl, rfl⟩
  · cases h
theorem pm_iz_s {st st' : List Value} {f : Int32 → Int32 → Value} (h : pm_iz st f = some st') : ∃ x y r, st = .int y :: .int x :: r ∧ ¬ y = 0 ∧ st' = f x y :: r := by
  unfold pm_iz at h; split at h
  · split at h
    · cases h
    · rename_i h0; cases h; exact ⟨_, _, _, rfl, h0, rfl⟩
  · cases h
theorem pm_ll_s {st st' : List Value} {f : Int64 → Int64 → Value} (h : pm_ll st f = some st') : ∃ x y r, st = .long y :: .long x :: r ∧ st' = f x y :: r := by
  unfold pm_ll at h; split at h
  · cases h; exact ⟨_, _, _, rfl, rfl⟩
  · cases h
theorem pm_lz_s {st st' : List Value} {f : Int64 → Int64 → Value} (h : pm_lz st f = some st') : ∃ x y r, st = .long y :: .long x :: r ∧ ¬ y = 0 ∧ st' = f x y :: r := by
  unfold pm_lz at h; split at h
  · split at h
    · cases h
    · rename_i h0; cases h; exact ⟨_, _, _, rfl, h0, rfl⟩
  · cases h
theorem pm_li_s {st st' : List Value} {f : Int64 → Int32 → Value} (h : pm_li st f = some st') : ∃ x y r, st = .int y :: .long x :: r ∧ st' = f x y :: r := by
  unfold pm_li at h; split at h
  · cases h; exact ⟨_, _, _, rfl, rfl⟩
  · cases h
theorem pm_i1_s {st st' : List Value} {f : Int32 → Value} (h : pm_i1 st f = some st') : ∃ x r, st = .int x :: r ∧ st' = f x :: r := by
  unfold pm_i1 at h; split at h
  · cases h; exact ⟨_, _, rfl, rfl⟩
  · cases h
theorem pm_l1_s {st st' : List Value} {f : Int64 → Value} (h : pm_l1 st f = some st') : ∃ x r, st = .long x :: r ∧ st' = f x :: r := by
  unfold pm_l1 at h; split at h
  · cases h; exact ⟨_, _, rfl, rfl⟩
  · cases h
theorem pm_c1 {v : Value} (h : pm_c2 v = false) : v.category = 1 := by cases v <;> first | rfl | cases h
theorem pm_dup_s {st st' : List Value} (h : pm_dup st = some st') : ∃ v r, st = v :: r ∧ v.category = 1 ∧ st' = v :: v :: r := by
  unfold pm_dup at h; split at h
  · split at h
    · cases h
    · rename_i h0; cases h; exact ⟨_, _, rfl, pm_c1 h0, rfl⟩
  · cases h
theorem pm_pop_s {st st' : List Value} (h : pm_pop st = some st') : ∃ v, st = v :: st' ∧ v.category = 1 := by
  unfold pm_pop at h; split at h
  · split at h
    · cases h
    · rename_i h0; cases h; exact ⟨_, rfl, pm_c1 h0⟩
  · cases h
theorem pm_dup2_s {st st' : List Value} (h : pm_dup2 st = some st') : ∃ v w r, st = v :: w :: r ∧ v.category = 1 ∧ w.category = 1 ∧ st' = v :: w :: v :: w :: r := by
  unfold pm_dup2 at h; split at h
  · split at h
    · rename_i h0 h1; cases h; exact ⟨_, _, _, rfl, pm_c1 h0, pm_c1 h1, rfl⟩
    · cases h
  · cases h
section PM1
variable {p : Program} {l : Launch} {e : Env} {R : Room} {s : State} {m : MethodId} {args : Array Value} {below : List Frame} {meth : Method} {c : Code} {H : Heap} {locs : List Loc} {cells slots : Nat} {Q : State → Prop}
variable {cc : ByteArray} {pc : Nat} {ls : Array Slot} {b base : Nat}
theorem pm_g0 {i : Instr} {cst : Int} {st st' : List Value} {own : String} (hx : p.tables.exec = Jvm.exec) (hb : c.code = cc) (hdg : decode cc pc = .ok (i, pm_aln i)) (hown : s.vm.findClass own = some m.cls)
    (hcI : ∀ x, i = .ldc x ∨ i = .ldc_w x → (Jvm.Cond.constant own x (Int32.ofInt cst)).before args s = true) (hcL : ∀ x, i = .ldc2_w x → (Jvm.Cond.constantLong own x (Int64.ofInt cst)).before args s = true)
    (h : pm_alu i cst st = some st') (kk : W p l e R s m args below meth c H locs cells slots Q (F0 m (pc + pm_aln i) ls (st'.map (pm_sh b base)))) : W p l e R s m args below meth c H locs cells slots Q (F0 m pc ls (st.map (pm_sh b base))) := by
  cases i
  case iconst n => cases h; exact lv_iconst hx hb hdg rfl kk
  case bipush n => cases h; exact lv_bipush hx hb hdg rfl kk
  case sipush n => cases h; exact lv_sipush hx hb hdg rfl kk
  case lconst n => cases h; exact lv_lconst hx hb hdg rfl kk
  case ldc n => cases h; exact lv_ldc hx hb hown (hcI n (Or.inl rfl)) hdg kk
  case ldc_w n => cases h; exact lv_ldcw hx hb hown (hcI n (Or.inr rfl)) hdg kk
  case ldc2_w n => cases h; exact lv_ldc2 hx hb hown (hcL n rfl) hdg kk
  case aconst_null => cases h; exact lv_null hx hb hdg kk
  case iadd => obtain ⟨x, y, r, rfl, rfl⟩ := pm_ii_s h; exact lv_iadd hx hb hdg kk
  case isub => obtain ⟨x, y, r, rfl, rfl⟩ := pm_ii_s h; exact lv_isub hx hb hdg kk
  case imul => obtain ⟨x, y, r, rfl, rfl⟩ := pm_ii_s h; exact lv_imul hx hb hdg kk
  case iand => obtain ⟨x, y, r, rfl, rfl⟩ := pm_ii_s h; exact lv_iand hx hb hdg kk
  case ior => obtain ⟨x, y, r, rfl, rfl⟩ := pm_ii_s h; exact lv_ior hx hb hdg kk
  case ishl => obtain ⟨x, y, r, rfl, rfl⟩ := pm_ii_s h; exact lv_ishl hx hb hdg kk
  case ishr => obtain ⟨x, y, r, rfl, rfl⟩ := pm_ii_s h; exact lv_ishr hx hb hdg kk
  case idiv => obtain ⟨x, y, r, rfl, h0, rfl⟩ := pm_iz_s h; exact lv_idiv hx hb hdg h0 kk
  case irem => obtain ⟨x, y, r, rfl, h0, rfl⟩ := pm_iz_s h; exact lv_irem hx hb hdg h0 kk
  case ineg => obtain ⟨x, r, rfl, rfl⟩ := pm_i1_s h; exact lv_ineg hx hb hdg kk
  case ladd => obtain ⟨x, y, r, rfl, rfl⟩ := pm_ll_s h; exact lv_ladd hx hb hdg kk
  case lsub => obtain ⟨x, y, r, rfl, rfl⟩ := pm_ll_s h; exact lv_lsub hx hb hdg kk
  case lmul => obtain ⟨x, y, r, rfl, rfl⟩ := pm_ll_s h; exact lv_lmul hx hb hdg kk
  case land => obtain ⟨x, y, r, rfl, rfl⟩ := pm_ll_s h; exact lv_land hx hb hdg kk
  case lor => obtain ⟨x, y, r, rfl, rfl⟩ := pm_ll_s h; exact lv_lor hx hb hdg kk
  case lxor => obtain ⟨x, y, r, rfl, rfl⟩ := pm_ll_s h; exact lv_lxor hx hb hdg kk
  case ldiv => obtain ⟨x, y, r, rfl, h0, rfl⟩ := pm_lz_s h; exact lv_ldiv hx hb hdg h0 kk
  case lrem => obtain ⟨x, y, r, rfl, h0, rfl⟩ := pm_lz_s h; exact lv_lrem hx hb hdg h0 kk
  case lcmp => obtain ⟨x, y, r, rfl, rfl⟩ := pm_ll_s h; exact W.lcmp hx hb hdg kk
  case lneg => obtain ⟨x, r, rfl, rfl⟩ := pm_l1_s h; exact lv_lneg hx hb hdg kk
  case lshl => obtain ⟨x, y, r, rfl, rfl⟩ := pm_li_s h; exact lv_lshl hx hb hdg rfl kk
  case lshr => obtain ⟨x, y, r, rfl, rfl⟩ := pm_li_s h; exact lv_lshr hx hb hdg rfl kk
  case i2l => obtain ⟨x, r, rfl, rfl⟩ := pm_i1_s h; exact lv_i2l hx hb hdg rfl kk
  case l2i => obtain ⟨x, r, rfl, rfl⟩ := pm_l1_s h; exact lv_l2i hx hb hdg rfl kk
  case i2b => obtain ⟨x, r, rfl, rfl⟩ := pm_i1_s h; exact lv_i2b hx hb hdg rfl kk
  case dup => obtain ⟨v, r, rfl, hc, rfl⟩ := pm_dup_s h; exact lv_dup hx hb hdg (by rw [pm_sh_c]; exact hc) kk
  case pop => obtain ⟨v, rfl, hc⟩ := pm_pop_s h; exact lv_pop hx hb hdg (by rw [pm_sh_c]; exact hc) kk
  case dup2 => obtain ⟨v, w, r, rfl, h1, h2, rfl⟩ := pm_dup2_s h; exact lv_dup2_11 hx hb hdg (by rw [pm_sh_c]; exact h1) (by rw [pm_sh_c]; exact h2) kk
  all_goals exact pm_no h
theorem pm_ldi_s {lv : pm_L} {i : Nat} {v : Value} (h : pm_ldi lv i = some v) : ∃ x, v = .int x ∧ pm_get lv i = some (.int x) := by
  unfold pm_ldi at h; split at h
  · rename_i e; cases h; exact ⟨_, rfl, e⟩
  · cases h
theorem pm_ldl_s {lv : pm_L} {i : Nat} {v : Value} (h : pm_ldl lv i = some v) : ∃ x, v = .long x ∧ pm_get lv i = some (.long x) := by
  unfold pm_ldl at h; split at h
  · rename_i e; cases h; exact ⟨_, rfl, e⟩
  · cases h
theorem pm_lda_s {lv : pm_L} {i : Nat} {v : Value} (h : pm_lda lv i = some v) : (∃ x, v = .ref x ∧ pm_get lv i = some (.ref x)) ∨ (v = .null ∧ pm_get lv i = some .null) := by
  unfold pm_lda at h; split at h
  · rename_i e; cases h; exact Or.inl ⟨_, rfl, e⟩
  · rename_i e; cases h; exact Or.inr ⟨rfl, e⟩
  · cases h
theorem pm_g1 {i : Instr} {st : List Value} {v : Value} {lv : pm_L} {nL : Nat} (hx : p.tables.exec = Jvm.exec) (hb : c.code = cc) (hdg : decode cc pc = .ok (i, pm_ldn i)) (hl : lv_has ls nL (pm_lv b base lv))
    (h : pm_ld i lv = some v) (kk : W p l e R s m args below meth c H locs cells slots Q (F0 m (pc + pm_ldn i) ls ((v :: st).map (pm_sh b base)))) : W p l e R s m args below meth c H locs cells slots Q (F0 m pc ls (st.map (pm_sh b base))) := by
  cases i
  case iload_n n => obtain ⟨x, rfl, hg⟩ := pm_ldi_s h; exact lv_iload_n hx hb hdg rfl (pm_lv_get hl hg) kk
  case iload n => obtain ⟨x, rfl, hg⟩ := pm_ldi_s h; exact lv_iload hx hb hdg (pm_lv_get hl hg) kk
  case lload_n n => obtain ⟨x, rfl, hg⟩ := pm_ldl_s h; exact lv_lload_n hx hb hdg rfl (pm_lv_get hl hg) kk
  case lload n => obtain ⟨x, rfl, hg⟩ := pm_ldl_s h; exact lv_lload hx hb hdg (pm_lv_get hl hg) kk
  case aload_n n =>
    rcases pm_lda_s h with ⟨x, rfl, hg⟩ | ⟨rfl, hg⟩
    · exact lv_aload_n hx hb hdg rfl (pm_lv_get hl hg) kk
    · exact lv_aload_nN hx hb hdg rfl (pm_lv_get hl hg) kk
  case aload n =>
    rcases pm_lda_s h with ⟨x, rfl, hg⟩ | ⟨rfl, hg⟩
    · exact lv_aload hx hb hdg (pm_lv_get hl hg) kk
    · exact lv_aloadN hx hb hdg (pm_lv_get hl hg) kk
  all_goals exact pm_no h
theorem pm_sti_s {nL i : Nat} {lv lv' : pm_L} {st st' : List Value} (h : pm_sti nL i lv st = some (lv', st')) : ∃ x, st = .int x :: st' ∧ i < nL ∧ lv' = (i, .int x) :: pm_st1 i lv := by
  unfold pm_sti at h; split at h
  · split at h
    · rename_i h0; cases h; exact ⟨_, rfl, Nat.le_of_ble_eq_true h0, rfl⟩
    · cases h
  · cases h
theorem pm_stl_s {nL i : Nat} {lv lv' : pm_L} {st st' : List Value} (h : pm_stl nL i lv st = some (lv', st')) : ∃ x, st = .long x :: st' ∧ i + 1 < nL ∧ lv' = (i, .long x) :: pm_st2 i lv := by
  unfold pm_stl at h; split at h
  · split at h
    · rename_i h0; cases h; exact ⟨_, rfl, Nat.le_of_ble_eq_true h0, rfl⟩
    · cases h
  · cases h
theorem pm_sta_s {nL i : Nat} {lv lv' : pm_L} {st st' : List Value} (h : pm_sta nL i lv st = some (lv', st')) : i < nL ∧ ((∃ x, st = .ref x :: st' ∧ lv' = (i, .ref x) :: pm_st1 i lv) ∨ (st = .null :: st' ∧ lv' = (i, .null) :: pm_st1 i lv)) := by
  unfold pm_sta at h; split at h
  · split at h
    · rename_i h0; cases h; exact ⟨Nat.le_of_ble_eq_true h0, Or.inl ⟨_, rfl, rfl⟩⟩
    · cases h
  · split at h
    · rename_i h0; cases h; exact ⟨Nat.le_of_ble_eq_true h0, Or.inr ⟨rfl, rfl⟩⟩
    · cases h
  · cases h
theorem pm_inc_s {nL i : Nat} {n : Int} {lv lv' : pm_L} {st st' : List Value} (h : pm_inc nL i n lv st = some (lv', st')) : ∃ x, pm_get lv i = some (.int x) ∧ st' = st ∧ i < nL ∧ lv' = (i, .int (x + Int32.ofInt n)) :: pm_st1 i lv := by
  unfold pm_inc at h; split at h
  · rename_i e
    split at h
    · rename_i h0; cases h; exact ⟨_, e, rfl, Nat.le_of_ble_eq_true h0, rfl⟩
    · cases h
  · cases h
theorem pm_g2 {i : Instr} {st st' : List Value} {lv lv' : pm_L} {nL : Nat} (hx : p.tables.exec = Jvm.exec) (hb : c.code = cc) (hdg : decode cc pc = .ok (i, pm_ston i)) (hl : lv_has ls nL (pm_lv b base lv))
    (h : pm_sto nL i lv st = some (lv', st')) (kk : ∀ ls' : Array Slot, lv_has ls' nL (pm_lv b base lv') → W p l e R s m args below meth c H locs cells slots Q (F0 m (pc + pm_ston i) ls' (st'.map (pm_sh b base)))) : W p l e R s m args below meth c H locs cells slots Q (F0 m pc ls (st.map (pm_sh b base))) := by
  cases i
  case istore_n n => obtain ⟨x, rfl, hn, rfl⟩ := pm_sti_s h; exact lv_istore_n hx hb hdg rfl hl hn rfl (fun ls' hl' => kk ls' (pm_has1 (v := .int x) hl'))
  case istore n => obtain ⟨x, rfl, hn, rfl⟩ := pm_sti_s h; exact lv_istore hx hb hdg hl hn rfl (fun ls' hl' => kk ls' (pm_has1 (v := .int x) hl'))
  case lstore_n n => obtain ⟨x, rfl, hn, rfl⟩ := pm_stl_s h; exact lv_lstore_n hx hb hdg rfl hl hn rfl (fun ls' hl' => kk ls' (pm_has2 (v := .long x) hl'))
  case lstore n => obtain ⟨x, rfl, hn, rfl⟩ := pm_stl_s h; exact lv_lstore hx hb hdg hl hn rfl (fun ls' hl' => kk ls' (pm_has2 (v := .long x) hl'))
  case astore_n n =>
    obtain ⟨hn, ⟨x, rfl, rfl⟩ | ⟨rfl, rfl⟩⟩ := pm_sta_s h
    · exact lv_astore_n hx hb hdg rfl hl hn rfl (fun ls' hl' => kk ls' (pm_has1 (v := .ref x) hl'))
    · exact lv_astore_nN hx hb hdg rfl hl hn rfl (fun ls' hl' => kk ls' (pm_has1 (v := .null) hl'))
  case astore n =>
    obtain ⟨hn, ⟨x, rfl, rfl⟩ | ⟨rfl, rfl⟩⟩ := pm_sta_s h
    · exact lv_astore hx hb hdg hl hn rfl (fun ls' hl' => kk ls' (pm_has1 (v := .ref x) hl'))
    · exact lv_astoreN hx hb hdg hl hn rfl (fun ls' hl' => kk ls' (pm_has1 (v := .null) hl'))
  case iinc n d =>
    obtain ⟨x, hg, rfl, hn, rfl⟩ := pm_inc_s h
    obtain ⟨k, hk⟩ := pm_lv_k (b := b) (base := base) hg
    exact lv_iinc hx hb hdg hl hk rfl hn rfl (fun ls' hl' => kk ls' (pm_has1 (v := .int (x + Int32.ofInt d)) hl'))
  all_goals exact pm_no h
theorem pm_if_s {P : Prop} {inst : Decidable P} {t pc0 pc' : Nat} {r st' : List Value} (h : pm_if (decide P) t pc0 r = some (pc', st')) : st' = r ∧ (P → pc' = t) ∧ (¬ P → pc' = pc0 + 3) := by
  unfold pm_if at h
  by_cases hP : P
  · rw [decide_eq_true hP] at h; cases h; exact ⟨rfl, fun _ => rfl, fun q => absurd hP q⟩
  · rw [decide_eq_false hP] at h; cases h; exact ⟨rfl, fun q => absurd q hP, fun _ => rfl⟩
theorem pm_sw_s {pc0 pc' : Nat} {off : Int} {r st' : List Value} (h : pm_sw pc0 off r = some (pc', st')) : st' = r ∧ (pc0 : Int) + off = (pc' : Int) := by
  unfold pm_sw at h; split at h
  · rename_i e; cases h; exact ⟨rfl, e⟩
  · cases h
def pm_tgt (i : Instr) (pc t : Nat) : Bool := match i with
  | .goto off => decide ((pc : Int) + off = (t : Int))
  | .ifCond _ off => decide ((pc : Int) + off = (t : Int))
  | .if_icmp _ off => decide ((pc : Int) + off = (t : Int))
  | .ifnull off => decide ((pc : Int) + off = (t : Int))
  | .ifnonnull off => decide ((pc : Int) + off = (t : Int))
  | _ => true
theorem pm_g3 {i : Instr} {n t pc' : Nat} {st st' : List Value} (hx : p.tables.exec = Jvm.exec) (hb : c.code = cc) (hdg : decode cc pc = .ok (i, n)) (hn : n = 3 ∨ ∃ a b c d, i = .tableswitch a b c d) (ht : pm_tgt i pc t = true)
    (h : pm_jmp i pc t st = some (pc', st')) (kk : W p l e R s m args below meth c H locs cells slots Q (F0 m pc' ls (st'.map (pm_sh b base)))) : W p l e R s m args below meth c H locs cells slots Q (F0 m pc ls (st.map (pm_sh b base))) := by
  cases i
  case goto off =>
    obtain rfl : n = 3 := by rcases hn with h | ⟨a, b, c, d, h⟩; exact h; cases h
    cases h; exact lv_goto hx hb hdg (of_decide_eq_true ht) kk
  case ifCond cd off =>
    obtain rfl : n = 3 := by rcases hn with h | ⟨a, b, c, d, h⟩; exact h; cases h
    have htt := of_decide_eq_true ht
    simp only [pm_jmp] at h
    split at h
    · cases cd
      · obtain ⟨rfl, h1, h2⟩ := pm_if_s h
        exact lv_if_eq hx hb hdg htt (fun q => by rw [← h1 q]; exact kk) (fun q => by rw [← h2 q]; exact kk)
      · obtain ⟨rfl, h1, h2⟩ := pm_if_s h
        exact lv_if_ne hx hb hdg htt (fun q => by rw [← h1 q]; exact kk) (fun q => by rw [← h2 (fun z => z q)]; exact kk)
      · obtain ⟨rfl, h1, h2⟩ := pm_if_s h
        exact lv_if_lt hx hb hdg htt (fun q => by rw [← h1 q]; exact kk) (fun q => by rw [← h2 q]; exact kk)
      · obtain ⟨rfl, h1, h2⟩ := pm_if_s h
        exact lv_if_ge hx hb hdg htt (fun q => by rw [← h1 q]; exact kk) (fun q => by rw [← h2 q]; exact kk)
      · obtain ⟨rfl, h1, h2⟩ := pm_if_s h
        exact lv_if_gt hx hb hdg htt (fun q => by rw [← h1 q]; exact kk) (fun q => by rw [← h2 q]; exact kk)
      · obtain ⟨rfl, h1, h2⟩ := pm_if_s h
        exact lv_if_le hx hb hdg htt (fun q => by rw [← h1 q]; exact kk) (fun q => by rw [← h2 q]; exact kk)
    · cases h
  case if_icmp cd off =>
    obtain rfl : n = 3 := by rcases hn with h | ⟨a, b, c, d, h⟩; exact h; cases h
    have htt := of_decide_eq_true ht
    simp only [pm_jmp] at h
    split at h
    · cases cd
      · obtain ⟨rfl, h1, h2⟩ := pm_if_s h
        exact lv_icmp_eq hx hb hdg htt (fun q => by rw [← h1 q]; exact kk) (fun q => by rw [← h2 q]; exact kk)
      · obtain ⟨rfl, h1, h2⟩ := pm_if_s h
        exact lv_icmp_ne hx hb hdg htt (fun q => by rw [← h1 q]; exact kk) (fun q => by rw [← h2 (fun z => z q)]; exact kk)
      · obtain ⟨rfl, h1, h2⟩ := pm_if_s h
        exact lv_icmp_lt hx hb hdg htt (fun q => by rw [← h1 q]; exact kk) (fun q => by rw [← h2 q]; exact kk)
      · obtain ⟨rfl, h1, h2⟩ := pm_if_s h
        exact lv_icmp_ge hx hb hdg htt (fun q => by rw [← h1 q]; exact kk) (fun q => by rw [← h2 q]; exact kk)
      · obtain ⟨rfl, h1, h2⟩ := pm_if_s h
        exact lv_icmp_gt hx hb hdg htt (fun q => by rw [← h1 q]; exact kk) (fun q => by rw [← h2 q]; exact kk)
      · obtain ⟨rfl, h1, h2⟩ := pm_if_s h
        exact lv_icmp_le hx hb hdg htt (fun q => by rw [← h1 q]; exact kk) (fun q => by rw [← h2 q]; exact kk)
    · cases h
  case ifnull off =>
    obtain rfl : n = 3 := by rcases hn with h | ⟨a, b, c, d, h⟩; exact h; cases h
    have htt := of_decide_eq_true ht
    simp only [pm_jmp] at h
    split at h
    · cases h; exact lv_ifnullN hx hb hdg htt kk
    · cases h; exact lv_ifnull hx hb hdg kk
    · cases h
  case ifnonnull off =>
    obtain rfl : n = 3 := by rcases hn with h | ⟨a, b, c, d, h⟩; exact h; cases h
    have htt := of_decide_eq_true ht
    simp only [pm_jmp] at h
    split at h
    · cases h; exact lv_ifnonnullN hx hb hdg kk
    · cases h; exact lv_ifnonnull hx hb hdg htt kk
    · cases h
  case tableswitch dflt lo hi offs =>
    simp only [pm_jmp] at h
    split at h
    · split at h
      · rename_i h0
        obtain ⟨rfl, h1⟩ := pm_sw_s h
        exact lv_tableOut hx hb hdg h0 h1 kk
      · rename_i h0
        rw [not_or] at h0
        split at h
        · rename_i h2
          obtain ⟨rfl, h1⟩ := pm_sw_s h
          exact lv_tableIn hx hb hdg h0.1 h0.2 h2 h1 kk
        · cases h
    · cases h
  all_goals exact pm_no h
end PM1

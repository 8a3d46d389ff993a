/-! new T[n][k]: the outer array, then its rows, one behind another -/
def pg_out (cA : ClassId) (N h0 i : Nat) : Cell := arrV cA N (fun j => if j < i then .ref (h0 + 1 + j) else .null)
def pg_row (cI : ClassId) (K : Nat) (dv : Value) : Cell := { cls := cI, slots := Array.replicate K dv, vm := .none }
/-- with i rows laid -/
def pg_st (T : State) (cA cI : ClassId) (N K : Nat) (dv : Value) : Nat → State
  | 0 => T.pushCell (pg_out cA N T.heap.size 0)
  | i + 1 => ((pg_st T cA cI N K dv i).pushCell (pg_row cI K dv)).setCell T.heap.size (pg_out cA N T.heap.size (i + 1))
theorem pg_out_new (cA : ClassId) (N h0 : Nat) : ({ cls := cA, slots := Array.replicate N .null, vm := .none } : Cell) = pg_out cA N h0 0 := by
  rw [arrV_new]
  unfold pg_out
  congr 1
theorem pg_out_set (cA : ClassId) (N h0 i : Nat) : (pg_out cA N h0 i).setSlot i (.ref (h0 + 1 + i)) = pg_out cA N h0 (i + 1) := by
  unfold pg_out
  rw [arrV_store]
  congr 1
  funext j
  unfold updV
  by_cases e : j = i
  · subst e
    rw [if_pos rfl, if_pos (Nat.lt_succ_self j)]
  · rw [if_neg e]
    dsimp only
    by_cases h : j < i
    · rw [if_pos h, if_pos (by omega)]
    · rw [if_neg h, if_neg (by omega)]
theorem pg_row_size (cI : ClassId) (K : Nat) (dv : Value) : (pg_row cI K dv).slots.size = K := by simp [pg_row]
theorem pg_facts (T : State) (cA cI : ClassId) (N K : Nat) (dv : Value) : ∀ i, (pg_st T cA cI N K dv i).heap.size = T.heap.size + 1 + i ∧ (pg_st T cA cI N K dv i).heap[T.heap.size]? = some (pg_out cA N T.heap.size i) ∧ (pg_st T cA cI N K dv i).vm = T.vm ∧ (pg_st T cA cI N K dv i).slotsUsed = T.slotsUsed + N + i * K := by
  intro i
  induction i with
  | zero =>
    refine ⟨by simp [pg_st], by simp [pg_st], rfl, ?_⟩
    show T.slotsUsed + (pg_out cA N T.heap.size 0).slots.size = _
    rw [show (pg_out cA N T.heap.size 0).slots.size = N from arrV_size _ _ _]
    omega
  | succ i ih =>
    obtain ⟨a1, a2, a3, a4⟩ := ih
    have hlt : T.heap.size < (pg_st T cA cI N K dv i).heap.size := by omega
    have hc : ((pg_st T cA cI N K dv i).pushCell (pg_row cI K dv)).heap[T.heap.size]? = some (pg_out cA N T.heap.size i) := (State.heap_pushCell_of_lt _ _ hlt).trans a2
    refine ⟨?_, State.heap_setCell_self hc, a3, ?_⟩
    · show (((pg_st T cA cI N K dv i).heap.push _).setIfInBounds _ _).size = _
      rw [Array.size_setIfInBounds, Array.size_push, a1]
      omega
    · show (pg_st T cA cI N K dv i).slotsUsed + (pg_row cI K dv).slots.size = _
      rw [pg_row_size, a4, Nat.succ_mul]
      omega
theorem pg_old (T : State) (cA cI : ClassId) (N K : Nat) (dv : Value) {a : Nat} (ha : a < T.heap.size) : ∀ i, (pg_st T cA cI N K dv i).heap[a]? = T.heap[a]? := by
  intro i
  induction i with
  | zero => exact State.heap_pushCell_of_lt _ _ ha
  | succ i ih =>
    have h1 := (pg_facts T cA cI N K dv i).1
    refine (State.heap_setCell_other (s := (pg_st T cA cI N K dv i).pushCell (pg_row cI K dv)) (Nat.ne_of_gt ha)).trans ?_
    exact (State.heap_pushCell_of_lt (pg_st T cA cI N K dv i) _ (show a < (pg_st T cA cI N K dv i).heap.size by omega)).trans ih
theorem pg_rows (T : State) (cA cI : ClassId) (N K : Nat) (dv : Value) : ∀ i j, j < i → (pg_st T cA cI N K dv i).heap[T.heap.size + 1 + j]? = some (pg_row cI K dv) := by
  intro i
  induction i with
  | zero => intro j h; omega
  | succ i ih =>
    intro j h
    have h1 := (pg_facts T cA cI N K dv i).1
    refine (State.heap_setCell_other (s := (pg_st T cA cI N K dv i).pushCell (pg_row cI K dv)) (show T.heap.size ≠ T.heap.size + 1 + j by omega)).trans ?_
    by_cases e : j = i
    · subst e
      show ((pg_st T cA cI N K dv j).heap.push _)[_]? = _
      rw [← h1, Array.getElem?_push_size]
    · exact (State.heap_pushCell_of_lt (pg_st T cA cI N K dv i) _ (show T.heap.size + 1 + j < (pg_st T cA cI N K dv i).heap.size by omega)).trans (ih j (by omega))
theorem pg_top (T : State) (f : JFrame) (cA cI : ClassId) (N K : Nat) (dv : Value) : ∀ i, pg_st (T.setTop f) cA cI N K dv i = (pg_st T cA cI N K dv i).setTop f := by
  intro i
  induction i with
  | zero => rfl
  | succ i ih =>
    show ((pg_st (T.setTop f) cA cI N K dv i).pushCell _).setCell _ _ = _
    rw [ih]
    rfl
section PMG
variable {p : Program} {l : Launch} {e : Env} {R : Room} {s : State} {m : MethodId} {args : Array Value} {below : List Frame} {meth : Method} {c : Code} {T : State} {locs : List Loc} {cells slots : Nat}
theorem pg_stand (X : Stand p l e R s m args below meth c T locs cells slots) (cA cI : ClassId) (N K : Nat) (dv : Value) : ∀ i, ∃ L, (∀ q ∈ L, q.base = T.heap.size) ∧ Stand p l e R s m args below meth c (pg_st T cA cI N K dv i) (locs ++ L) (cells + 1 + i) (slots + N + i * K) := by
  intro i
  induction i with
  | zero =>
    have h := X.pushed (pg_out cA N T.heap.size 0)
    rw [show (pg_out cA N T.heap.size 0).slots.size = N from arrV_size _ _ _] at h
    exact ⟨[], fun q h => absurd h List.not_mem_nil, by simpa [pg_st] using h⟩
  | succ i ih =>
    obtain ⟨L, hL, Xi⟩ := ih
    obtain ⟨a1, a2, a3, a4⟩ := pg_facts T cA cI N K dv i
    have hlt : T.heap.size < (pg_st T cA cI N K dv i).heap.size := by omega
    have hc : ((pg_st T cA cI N K dv i).pushCell (pg_row cI K dv)).heap[T.heap.size]? = some (pg_out cA N T.heap.size i) := (State.heap_pushCell_of_lt _ _ hlt).trans a2
    have h := (Xi.pushed (pg_row cI K dv)).stored hc i (.ref (T.heap.size + 1 + i))
    rw [pg_row_size, pg_out_set, List.append_assoc] at h
    refine ⟨L ++ [⟨T.heap.size, i⟩], fun q hq => ?_, ?_⟩
    · rcases List.mem_append.mp hq with h1 | h1
      · exact hL q h1
      · rw [List.mem_singleton.mp h1]
    · rw [show slots + N + (i + 1) * K = slots + N + i * K + K by rw [Nat.succ_mul]; omega]
      exact h
/-- the rows' own making -/
theorem pg_make {E : CtlPost} {d : Bool} {acts : List Action} {S : State} {cA cI cc : ClassId} {kA kI : Class} {t0 ty : FieldType} {n k : Int32} (hkA : S.vm.classes[cA]? = some kA) (hA : kA.kind = .array cI t0) (hr : t0.isReference = true) (hkI : S.vm.classes[cI]? = some kI) (hI : kI.kind = .array cc ty) (hn : ¬ n < 0) (hk : ¬ k < 0)
    (l1 : ¬ n.toNatClampNeg > e.platform.arrayLengthLimit) (b1 : ¬ n.toNatClampNeg * componentBytes t0 > e.platform.maxHeapBytes) (l2 : ¬ k.toNatClampNeg > e.platform.arrayLengthLimit) (b2 : ¬ k.toNatClampNeg * componentBytes ty > e.platform.maxHeapBytes) (hdf : fits ty (defaultValue ty) = true)
    (hc : S.heap.size + 1 + n.toNatClampNeg ≤ e.platform.maxCells) (hs : S.slotsUsed + n.toNatClampNeg + n.toNatClampNeg * k.toNatClampNeg ≤ e.platform.maxSlots)
    {Q : Addr → Pre} (hq : ∀ d' acts', Q S.heap.size d' acts' (pg_st S cA cI n.toNatClampNeg k.toNatClampNeg (defaultValue ty) n.toNatClampNeg)) : wp (multianewarray.make cA [n, k]) Q E e d acts S := by
  have fr : ∀ v : Value, (v = .null ∨ ∃ a, v = .ref a) → fits t0 v = true := by
    intro v hv
    rcases hv with rfl | ⟨a, rfl⟩ <;> cases t0 <;> first | rfl | cases hr
  have hno : ([k].find? (· < 0)) = none := by simp [hk]
  rw [multianewarray.make]
  simp only [wp_bind', W.ite, hn, if_false, wp_pure', W.theClass, hkA, hA, Option.some.injEq, exists_eq_left']
  refine W.newArray_of hkA hA l1 b1 (by omega) (by have := Nat.zero_le (n.toNatClampNeg * k.toNatClampNeg); omega) (fr _ (Or.inl rfl)) fun acts1 => ?_
  simp only [hno]
  rw [ite_self, wp_bind', Std.Legacy.Range.forIn_eq_forIn_range']
  have hsz : ([:n.toNatClampNeg] : Std.Legacy.Range).size = n.toNatClampNeg := by simp [Std.Legacy.Range.size]
  rw [hsz]
  show wp (forIn (List.range' 0 n.toNatClampNeg 1) PUnit.unit _) _ E e d acts1 _
  refine wp_forIn_inv (fun rest s' => ∃ i, i ≤ n.toNatClampNeg ∧ rest = List.range' i (n.toNatClampNeg - i) ∧ s' = pg_st S cA cI n.toNatClampNeg k.toNatClampNeg (defaultValue ty) i) _ _ ⟨0, Nat.zero_le _, rfl, ?_⟩ ?_ ?_
  · show S.pushCell _ = S.pushCell _
    rw [← pg_out_new]
  · rintro x rest s' d' acts' Q' ⟨i, hi, hl, rfl⟩ hnext
    have hlt : i < n.toNatClampNeg := by
      by_cases h9 : i < n.toNatClampNeg
      · exact h9
      · rw [show n.toNatClampNeg - i = 0 by omega] at hl; cases hl
    rw [show n.toNatClampNeg - i = (n.toNatClampNeg - (i + 1)) + 1 by omega, List.range'_succ] at hl
    obtain ⟨rfl, hrest⟩ := List.cons.inj hl
    obtain ⟨a1, a2, a3, a4⟩ := pg_facts S cA cI n.toNatClampNeg k.toNatClampNeg (defaultValue ty) x
    have hm : x * k.toNatClampNeg + k.toNatClampNeg ≤ n.toNatClampNeg * k.toNatClampNeg := by
      have := Nat.mul_le_mul_right k.toNatClampNeg (show x + 1 ≤ n.toNatClampNeg from hlt)
      rw [Nat.succ_mul] at this
      exact this
    simp only [wp_bind']
    rw [multianewarray.make]
    simp only [wp_bind', W.ite, hk, if_false, wp_pure', W.theClass, a3, hkI, hI, Option.some.injEq, exists_eq_left']
    refine W.newArray_of (by rw [a3]; exact hkI) hI l2 b2 (by rw [a1]; omega) (by rw [a4]; omega) hdf fun acts2 => ?_
    have hl0 : S.heap.size < (pg_st S cA cI n.toNatClampNeg k.toNatClampNeg (defaultValue ty) x).heap.size := by rw [a1]; omega
    simp only [wp_bind', W.writeLoc, wp_pure']
    refine ⟨pg_out cA n.toNatClampNeg S.heap.size x, (State.heap_pushCell_of_lt _ _ hl0).trans a2, (fun z => by cases z), by rw [show (pg_out cA n.toNatClampNeg S.heap.size x).slots.size = n.toNatClampNeg from arrV_size _ _ _]; exact hlt, ?_, hnext _ _ _ ⟨x + 1, hlt, hrest, ?_⟩⟩
    · show State.fitsSlot _ cA .none x _ = true
      simp [State.fitsSlot, State.slotType?, a3, hkA, hA, fr _ (Or.inr ⟨_, rfl⟩)]
    · rw [a1, pg_out_set]
      rfl
  · rintro s' d' acts' ⟨i, hi, hl, rfl⟩
    have hiN : i = n.toNatClampNeg := by
      by_cases h9 : i < n.toNatClampNeg
      · rw [show n.toNatClampNeg - i = (n.toNatClampNeg - (i + 1)) + 1 by omega, List.range'_succ] at hl; cases hl
      · omega
    subst hiN
    simp only [wp_pure']
    exact hq _ _
variable {H : Heap} {Q : State → Prop} {cc : ByteArray} {pc : Nat} {ls : Array Slot} {rest : List Value}
/-- the instruction -/
theorem pg_mna {own : String} {index : Nat} {ty : FieldType} (hexec : p.tables.exec = Jvm.exec) (hb : c.code = cc) (hown : s.vm.findClass own = some m.cls) (hclink : (Jvm.Cond.classLink own index ("[" ++ (FieldType.array ty).toString)).before args s = true) (hover : (Jvm.Cond.arrayOver (.array ty)).before args s = true) (harr : (Jvm.Cond.arrayClass ty).before args s = true)
    (hdg : decode cc pc = .ok (.multianewarray index 2, 4)) {n k : Int32} (hn : ¬ n < 0) (hk : ¬ k < 0) (hb1 : n.toNatClampNeg * 4 ≤ 536870912) (hb2 : k.toNatClampNeg * componentBytes ty ≤ 536870912) (hb3 : k.toNatClampNeg ≤ 536870912) (hdf : fits ty (defaultValue ty) = true)
    (hcells : cells + (1 + n.toNatClampNeg) ≤ R.cells) (hslots : slots + (n.toNatClampNeg + n.toNatClampNeg * k.toNatClampNeg) ≤ R.slots)
    (kk : ∀ (H1 : Heap) (cA cI : ClassId), s.vm.findClass ("[" ++ (FieldType.array ty).toString) = some cA → s.vm.findClass (FieldType.array ty).toString = some cI → H1.size = H.size + 1 + n.toNatClampNeg → (∀ q : Nat, q < H.size → H1[q]? = H[q]?) → H1[H.size]? = some (pg_out cA n.toNatClampNeg H.size n.toNatClampNeg) → (∀ j, j < n.toNatClampNeg → H1[H.size + 1 + j]? = some (pg_row cI k.toNatClampNeg (defaultValue ty))) →
      W p l e R s m args below meth c H1 locs (cells + 1 + n.toNatClampNeg) (slots + n.toNatClampNeg + n.toNatClampNeg * k.toNatClampNeg) Q (F0 m (pc + 4) ls (.ref H.size :: rest))) : W p l e R s m args below meth c H locs cells slots Q (F0 m pc ls (.int k :: .int n :: rest)) := by
  intro T hT X
  subst hb
  have hpl : e.platform.magicAccessors = ({} : Platform).magicAccessors := by rw [X.admits.platform]
  obtain ⟨cI, cA, kA, hcI, -, hkA, hA, hnA⟩ := arrayOverA_spec hover
  obtain ⟨cI', kI, cc, hcI', hkI, hI⟩ := Cond.arrayClass_spec harr
  have ei : cI' = cI := Option.some.inj (hcI'.symm.trans hcI)
  subst ei
  obtain ⟨c0, hc0, hcl⟩ := Cond.classLink_spec hown hclink e.platform hpl
  cases hnA.symm.trans hc0
  obtain ⟨hg1, hw1, hr1⟩ := State.classEntry (e := e) X.warmed hcl
  generalize T.vm.noted m.cls index (.cls cA) = vm1 at hg1 hw1 hr1
  have hal : s.vm.Alike vm1 := hw1.alike
  obtain ⟨kA1, hkA1, eA⟩ := hal.2.2 _ _ hkA
  obtain ⟨kI1, hkI1, eI⟩ := hal.2.2 _ _ hkI
  have hA1 : kA1.kind = .array cI' (.array ty) := by rw [eA]; exact hA
  have hI1 : kI1.kind = .array cc ty := by rw [eI]; exact hI
  have X1 := X.noted hw1
  obtain ⟨hr2, hr3⟩ := X.roomAbove hcells hslots
  obtain ⟨L, hL, XF⟩ := pg_stand X1 cA cI' n.toNatClampNeg k.toNatClampNeg (defaultValue ty) n.toNatClampNeg
  obtain ⟨a1, a2, a3, a4⟩ := pg_facts (T.setVm vm1) cA cI' n.toNatClampNeg k.toNatClampNeg (defaultValue ty) n.toNatClampNeg
  have eh : (T.setVm vm1).heap = H := hT
  have hgr : s.heap.size ≤ T.heap.size := X.heapGrown
  have XG := Stand.forget (locs := locs) (extra := L) XF (fun q hq => by rw [hL q hq]; exact hgr)
  generalize hF : pg_st (T.setVm vm1) cA cI' n.toNatClampNeg k.toNatClampNeg (defaultValue ty) n.toNatClampNeg = F at XG a1 a2 a3 a4
  rw [eh] at a1 a2
  obtain ⟨t, k1, k2⟩ := kk F.heap cA cI' hnA hcI a1 (fun q hq => by
      have := pg_old (T.setVm vm1) cA cI' n.toNatClampNeg k.toNatClampNeg (defaultValue ty) (a := q) (by rw [eh]; exact hq) n.toNatClampNeg
      rw [hF, eh] at this
      exact this) a2 (fun j hj => by
      have := pg_rows (T.setVm vm1) cA cI' n.toNatClampNeg k.toNatClampNeg (defaultValue ty) n.toNatClampNeg j hj
      rw [hF, eh] at this
      exact this) F rfl XG
  refine ⟨t, ?_, k2⟩
  have l1 : ¬ n.toNatClampNeg > e.platform.arrayLengthLimit := by rw [Launch.admits_arrayLengthLimit X.admits]; omega
  have b1 : ¬ n.toNatClampNeg * componentBytes (.array ty) > e.platform.maxHeapBytes := by
    rw [Launch.admits_maxHeapBytes X.admits]; show ¬ n.toNatClampNeg * 4 > 536870912; omega
  have l2 : ¬ k.toNatClampNeg > e.platform.arrayLengthLimit := by rw [Launch.admits_arrayLengthLimit X.admits]; omega
  have b2 : ¬ k.toNatClampNeg * componentBytes ty > e.platform.maxHeapBytes := by rw [Launch.admits_maxHeapBytes X.admits]; omega
  jvm_step X.here [hexec, hdg]
  simp only [multianewarray.sem, wp_bind', W.resolveClassAt_links (State.method?_setTop (F0 m pc ls (.int k :: .int n :: rest)) X.here.top) hg1]
  rw [W.popN, if_neg (by decide)]
  refine ⟨F0 m pc ls (.int k :: .int n :: rest), State.topJava?_setTop' (s := T.setVm vm1) (F0 m pc ls (.int k :: .int n :: rest)) X.here.top, [.int n, .int k], rest, rfl, rfl, ?_⟩
  simp only [List.mapM_cons, List.mapM_nil, wp_bind', wp_pure']
  refine pg_make (kA := kA1) (kI := kI1) (cI := cI') (cc := cc) (t0 := .array ty) (ty := ty) hkA1 hA1 rfl hkI1 hI1 hn hk l1 b1 l2 b2 hdf (by show T.heap.size + 1 + _ ≤ _; omega) (by show T.slotsUsed + _ + _ ≤ _; omega) (fun d' acts' => ?_)
  have eS : ((T.setTop (F0 m pc ls (.int k :: .int n :: rest))).setVm vm1).setTop (F0 m pc ls rest) = (T.setVm vm1).setTop (F0 m pc ls rest) := by
    show ((T.setVm vm1).setTop _).setTop _ = _
    rw [State.setTop_setTop]
  rw [eS, pg_top, hF]
  simp only [wp_bind', W.mark, W.pushRef, State.topJava?_setTop' _ XG.here.top, Option.some.injEq, exists_eq_left', State.setTop_setTop, State.heap_setTop]
  intro acts
  simp [jvm, XG.here.top]
  rw [hT]
  exact k1
end PMG

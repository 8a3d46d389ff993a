/-! THE CLAIM OUT OF ONE WALK OF THE LAW'S BODY. Your part is whole_start (and what it stands on); all else here is the same for every law, but numbers. -/
def R_law : String := "LoopGroundLaw"
def lw_P (b : Addr) (xs : List Int32) (args : Array Value) (s : State) : Prop := args = #[.ref b] ∧ s.IntsAt b xs ∧ xs.length ≤ 3072 ∧ (Jvm.Cond.and given_1 narrow_1).before args s = true
def lw_Q (_ : Array Value) (s : State) (o : Outcome) (t : State) : Prop := o = .returned (some (.int 1)) ∧ Framed s o t [] 600000 7302250
def lw_Z (below : List Frame) (a : Array Value) (s : State) : State → Prop := fun t => ∃ o, t.status = .running ∧ Ended t below o ∧ lw_Q a s o t
/-- the law's own end, with 1 on the stack, nothing written that was there before, its room as the claim has it -/
theorem lw_ret {p : Program} {l : Launch} {e : Env} {s : State} {m : MethodId} {below : List Frame} {meth : Method} {c : Code} {b : Nat} (hx : p.tables.exec = Jvm.exec) (hb : c.code = code) (hr : meth.sig.returnType = ret) (hlocks : meth.locks = false) {pc : Nat} {H : Heap} {ls : Array Slot} (hdg : decode code pc = .ok (.ireturn, 1)) : W p l e room_1 s m #[Value.ref b] below meth c H [] 600000 7302250 (lw_Z below #[Value.ref b] s) (F0 m pc ls [.int 1]) := by
  intro T hT X
  obtain ⟨fs, hret, hrun, hended, hW, hframe⟩ := X.leave (v := some (.int 1)) (hlocks := hlocks) (fun h => by rw [hr] at h; cases h)
  have hmeth' : T.vm.method? m = some meth := X.method'
  refine ⟨T.setFrames fs, ?_, .returned (some (.int 1)), hrun, hended, rfl, ⟨_, rfl⟩, hW, hframe⟩
  jvm_step X.here [X.here.top, hx, hb, hdg, hmeth', hr, ret, narrow_b1]
  (try refine ⟨rfl, ?_⟩); (try refine ⟨rfl, ?_⟩)
  first | (intro acts; rw [hret _ acts rfl rfl rfl]) | rw [hret _ _ rfl rfl rfl]
  exact Steps.refl _
/-- what holds at the law's entry: the machine, the code, the tables' words (any of lw_tbl by 'hts w (by decide +kernel)'), the script of L ints xs at the cell b, what the Statement gives of the start (any of its parts by flat_of_before) -/
def lw_At (p : Program) (s : State) (m : MethodId) (meth : Method) (c : Code) (b L : Nat) (xs : Nat → Int32) : Prop :=
  p.tables.exec = Jvm.exec ∧ c.code = code ∧ meth.sig.returnType = ret ∧ c.maxLocals = 4 ∧ s.vm.findClass R_law = some m.cls ∧ (∀ w ∈ lw_tbl, w.before #[Value.ref b] s = true) ∧ va_X b L xs s s.heap ∧ b < s.heap.size ∧ meth.locks = false ∧ (Jvm.Cond.and given_1 narrow_1).before #[Value.ref b] s = true
theorem pm_okI_nm {cl : List vw_C} {TB : List Cond} {RD : String} {ms : Nat → Option pm_M} {cc : ByteArray} {own mname : String} {pc : Nat} {q : pm_I} (h : pm_okI cl TB RD ms cc own "law" pc q) : pm_okI cl TB RD ms cc own mname pc q := by
  obtain ⟨h1, h2, h3, h4, h5, h6, h7⟩ := h
  refine ⟨h1, h2, h3, h4, h5, ?_, h7⟩
  obtain ⟨i, n, r1, r2, cst, hs⟩ := q
  dsimp only at h6 ⊢
  cases i <;> first | exact h6 | skip
  obtain ⟨C, T, N, ty, o1, o2, o3, o4, o5, o6⟩ := h6
  exact ⟨C, T, N, ty, o1, o2, o3, o4, o5, fun hf => absurd (o6 hf).1 (by decide)⟩
noncomputable abbrev pm_ms : Nat → Option pm_M := pm_msT pm_tab
noncomputable abbrev pm_ins : Nat → Nat → Option pm_I := pm_inT pm_tab
/-- the law's run of the small machine -/
noncomputable def pm_law (fuel : Nat) (L : Nat) (xs : Nat → Int32) : Option pm_R := pm_run (pm_step pm_cs pm_ms (pm_call pm_cs pm_ms pm_ins fuel 9) (some (L, xs)) 4 (some .boolean)) (pm_at_pc pd_law) fuel (0, [(0, .ref 0)], [], [])
set_option maxHeartbeats 2000000 in
/-- what the small machine answers is what the claim asks -/
theorem pm_whole {p : Program} {e : Env} {s : State} {m : MethodId} {below : List Frame} {meth : Method} {c : Code} (l : Launch) {b L : Nat} {xs : Nat → Int32} (C0 : lw_At p s m meth c b L xs) {fuel : Nat} {hE : pm_H} (hrun : pm_law fuel L xs = some (some (.int 1), hE)) (h1 : hE.length ≤ 600000) (h2 : pm_sls hE ≤ 7302250) :
    W p l e room_1 s m #[Value.ref b] below meth c s.heap [] 0 0 (lw_Z below #[Value.ref b] s) (entryFrame m ([Value.ref b] : List Value).toArray 4) := by
  obtain ⟨hx, hb, hr, hml, hown, hts0, hX, hbl, hlocks, hgv⟩ := C0
  have hts : ∀ w ∈ pm_TB, w.before #[Value.ref b] s = true := fun w hw => hts0 w (List.mem_filter.mp hw).1
  have hst : ∀ w ∈ pm_TB, pm_stb w = true := fun w hw => (List.mem_filter.mp hw).2
  obtain ⟨D, cA, hK⟩ := pm_known hts
  have hms : pm_msOk pm_ms pm_TB := qd_ms pm_tabOk
  have hins : pm_insOk vwCl pm_TB pm_RD pm_ms pm_ins := qd_ins pm_tabOk
  have hcall := pm_callOk (l := l) (fuel := fuel) hst pm_clsOk2 hms hins 9
  have hl := lv_entry ([.ref b]) (n := 4) (Nat.le_of_ble_eq_true rfl)
  rw [lg_entry_eq]
  generalize (lg_sl ([.ref b]) ++ List.replicate (4 - (lg_sl ([.ref b])).length) Slot.unset).toArray = ls at hl ⊢
  have hl : lv_has ls 4 (pm_lv b s.heap.size [(0, .ref 0)]) := hl
  have hP : va_P D vwCl (pm_ws (pm_tr cA b s.heap.size) s.heap.size []) s.heap := fun k q h => by cases h
  refine pm_runOk (R := room_1) (scr := some (L, xs)) (n0 := 0) (z0 := 0) (hE := hE) (v := some (.int 1)) (cs := pm_cs) (ins := pm_at_pc pd_law) hx hb hml hst hts pm_clsOk2 hms hown hK (fun n ys e9 => by cases e9; exact ⟨hX, hbl, hbl⟩) hcall (Nat.le_of_ble_eq_true rfl) (Nat.le_of_ble_eq_true rfl) (fun pc q e9 => pm_okI_nm (pk_law e9)) (Nat.add_zero _).symm (by show hE.length ≤ 0 + 600000; omega) (by show pm_sls hE ≤ 0 + 7302250; omega) ?_ fuel (0, [(0, .ref 0)], [], []) hrun ls s.heap [] 0 0 hl hP va_S.rf rfl rfl
  intro i pc ls st H locs cells slots hdg q1 hP1 hS1 hc1 hs1
  cases i <;> simp only [pm_ret] at q1 <;> try exact pm_no q1
  case ireturn =>
    split at q1
    · rename_i e9; cases e9
    · split at q1
      · cases q1
        refine va_forget (fun q hq => hS1.2.2 q hq) ?_
        refine W.widen (k := 600000) (n := 7302250) (by omega) (by omega) ?_
        exact lw_ret hx hb hr hlocks hdg
      · cases q1
    · cases q1
  all_goals (split at q1 <;> cases q1)

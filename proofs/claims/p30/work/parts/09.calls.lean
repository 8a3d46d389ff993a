/-! calls and ends -/
/-- words that stay as they are while the machine warms -/
def pm_stb (w : Cond) : Bool := match w with
  | .methodLinkNest _ _ _ _ => true
  | .arrayOver (.object _) => true
  | .arrayOver (.array _) => true
  | w => goodWord w
theorem pm_overA {t : FieldType} {u U : State} (hvm : u.vm.Alike U.vm) {A A' : Array Value} (h : (Jvm.Cond.arrayOver (.array t)).before A u = true) : (Jvm.Cond.arrayOver (.array t)).before A' U = true := by
  obtain ⟨comp, c, k, h1, h2, h3, h4, h5⟩ := arrayOverA_spec h
  obtain ⟨k', hk', he⟩ := hvm.2.2 _ _ h3
  have hi := (hvm.findIdx?_eqK _ (fun _ => rfl)).trans h2
  have hkind : k'.kind = .array comp (.array t) := by rw [he]; exact h4
  have f1 : U.vm.findClass (FieldType.array t).toString = some comp := by rw [hvm.findClass]; exact h1
  have f2 : U.vm.findClass ("[" ++ (FieldType.array t).toString) = some c := by rw [hvm.findClass]; exact h5
  unfold Cond.before Cond.holds
  simp only [Cond.value]
  rw [f1, Option.bind_some]
  refine (congrArg (fun o : Option Nat => (o.bind (fun c => (U.vm.classes[c]?).map fun (k : Class) => match k.kind with | .array _ ty => decide (ty = FieldType.array t) && decide (U.vm.findClass ("[" ++ (FieldType.array t).toString) = some c) | _ => false) == some true)) hi).trans ?_
  simp [hk', hkind, f2]
theorem pm_wd {w : Cond} (hs : pm_stb w = true) {s U : State} (hW : s.WarmedH U.vm) {A A' : Array Value} (h : w.before A s = true) : w.before A' U = true := by
  unfold pm_stb at hs
  split at hs
  · exact va_Nw.use rfl (va_Nw.warmM hW (va_Nw.of rfl h))
  · exact va_AO.use (va_AO.moved hW.alike (va_AO.of h))
  · exact pm_overA hW.alike h
  · exact word_at hW (good_of_word hs) h
def pm_T (TB : List Cond) (U : State) : Prop := ∀ w ∈ TB, w.before #[] U = true
/-- what the tables say of the methods -/
def pm_msOk (ms : Nat → Option pm_M) (TB : List Cond) : Prop := ∀ (k : Nat) (y : MethodName) (bytes : ByteArray) (nL : Nat) (rt : Option FieldType) (na ci : Nat), ms k = some (y, bytes, nL, rt, na, ci) →
  Jvm.Cond.code y bytes nL rt ∈ TB ∧ Jvm.Cond.initialized y.cls ∈ TB ∧ plainFor y = true ∧ (y.cls ≠ "java/lang/invoke/MethodHandle" ∧ y.cls ≠ "java/lang/invoke/VarHandle") ∧ (parseMethodDescriptor y.desc).map (fun d => d.parameters.length) = some na ∧ nL ≤ 13
def pm_lnk (TB : List Cond) (own : String) (x : Nat) (y : MethodName) : Prop := Jvm.Cond.methodLink own x y ∈ TB ∨ ∃ host, Jvm.Cond.methodLinkNest own x y host ∈ TB
/-- what the tables say of a call -/
def pm_okc (ms : Nat → Option pm_M) (cl : List vw_C) (TB : List Cond) (own : String) (i : Instr) (r1 : Nat) : Prop := match i with
  | .invokestatic x => ∃ (y : MethodName) (bytes : ByteArray) (nL : Nat) (rt : Option FieldType) (na ci : Nat), ms r1 = some (y, bytes, nL, rt, na, ci) ∧ pm_lnk TB own x y ∧ Jvm.Cond.static y ∈ TB
  | .invokevirtual x => ∃ (y : MethodName) (bytes : ByteArray) (nL : Nat) (rt : Option FieldType) (na ci : Nat), ms r1 = some (y, bytes, nL, rt, na, ci) ∧ pm_lnk TB own x y ∧ Jvm.Cond.instanceMethod y ∈ TB ∧ ∃ (T : u_T) (N : Nat), cl[ci]? = some (y.cls, T, N) ∧ Jvm.Cond.selects y.cls y y ∈ TB
  | .invokespecial x => (r1 = 0 ∧ Jvm.Cond.methodLink own x objectInit ∈ TB ∧ Jvm.Cond.instanceMethod objectInit ∈ TB ∧ Jvm.Cond.code objectInit ⟨#[0xb1]⟩ 1 none ∈ TB) ∨
      (r1 ≠ 0 ∧ ∃ (y : MethodName) (bytes : ByteArray) (nL na ci : Nat), ms r1 = some (y, bytes, nL, none, na, ci) ∧ y.name = "<init>" ∧ pm_lnk TB own x y ∧ Jvm.Cond.instanceMethod y ∈ TB)
  | _ => True
/-- behind a method -/
def pm_Qc (D : va_G) (cl : List vw_C) (cA : Nat → ClassId) (b base : Nat) (v : Option Value) (h' : pm_H) : Array Value → State → Outcome → State → Prop := fun _ st oc t => oc = .returned (v.map (pm_sh b base)) ∧ va_P D cl (pm_ws (pm_tr cA b base) base h') t.heap ∧ va_F (fun q => base ≤ q) st t
/-- ahead of a method -/
def pm_Wo (D : va_G) (cl : List vw_C) (cA : Nat → ClassId) (RD : String) (TB : List Cond) (b base : Nat) (h : pm_H) (U : State) : Prop := U.heap.size = base + h.length ∧ va_P D cl (pm_ws (pm_tr cA b base) base h) U.heap ∧ va_K D cl (pm_tys RD cA) U ∧ pm_T TB U
/-- a callee of depth d keeps what the small machine says of it -/
def pm_CallOk (l : Launch) (cl : List vw_C) (RD : String) (TB : List Cond) (ms : Nat → Option pm_M) (call : pm_C) (d : Nat) : Prop := ∀ (k : Nat) (as : List Value) (h h' : pm_H) (v : Option Value), call k as h = some (v, h') → pm_le h h' ∧
  ∀ (y : MethodName) (bytes : ByteArray) (nL : Nat) (rt : Option FieldType) (na ci : Nat), ms k = some (y, bytes, nL, rt, na, ci) → ∀ (D : va_G) (cA : Nat → ClassId) (b base : Nat),
    Met l y [Jvm.Cond.code y bytes nL rt] ({ frames := d, cells := h'.length - h.length, slots := pm_sls h' - pm_sls h, locals := 32 * d }) (va_Pc (as.map (pm_sh b base)) (pm_Wo D cl cA RD TB b base h)) (pm_Qc D cl cA b base v h') (h'.length - h.length) (pm_sls h' - pm_sls h) (fun q => base ≤ q)
theorem pm_popn : ∀ (n : Nat) (as st as' r : List Value), pm_pop_n n as st = some (as', r) → ∃ t, t.length = n ∧ as' = t ++ as ∧ st = t.reverse ++ r := by
  intro n
  induction n with
  | zero => intro as st as' r q; cases q; exact ⟨[], rfl, rfl, rfl⟩
  | succ n ih =>
    intro as st as' r q
    cases st with
    | nil => cases q
    | cons v st =>
      obtain ⟨t, h1, h2, h3⟩ := ih (v :: as) st as' r q
      refine ⟨t ++ [v], by rw [List.length_append, h1]; rfl, by rw [h2, List.append_assoc]; rfl, ?_⟩
      rw [List.reverse_append, h3]
      rfl
theorem pm_wt_sum (b base : Nat) (r : List Value) : ((r.map (pm_sh b base)).map fun v => v.category).sum = pm_wt r := by
  induction r with
  | nil => rfl
  | cons v r ih =>
    simp only [List.map_cons, List.sum_cons]
    rw [ih, pm_sh_c]
    cases v <;> rfl
theorem pm_wt_sl (vs : List Value) : (lg_sl vs).length = pm_wt vs := by
  induction vs with
  | nil => rfl
  | cons v r ih =>
    have e : lg_sl (v :: r) = (if v.category = 2 then [.val v, .second] else [.val v]) ++ lg_sl r := by simp [lg_sl]
    rw [e, List.length_append, ih]
    cases v <;> rfl
theorem pm_wt_map (b base : Nat) (vs : List Value) : pm_wt (vs.map (pm_sh b base)) = pm_wt vs := by
  induction vs with
  | nil => rfl
  | cons v r ih =>
    show pm_cat (pm_sh b base v) + _ = pm_cat v + _
    rw [ih]
    cases v <;> rfl
section PM5
variable {p : Program} {l : Launch} {e : Env} {R : Room} {s : State} {m : MethodId} {args : Array Value} {below : List Frame} {meth : Method} {c : Code} {H : Heap} {locs : List Loc} {cells slots : Nat} {Q : State → Prop}
variable {cc : ByteArray} {pc : Nat} {ls : Array Slot} {b base : Nat} {D : va_G} {cl : List vw_C} {cA : Nat → ClassId} {RD own : String} {TB : List Cond} {cs : Nat → List Value} {ms : Nat → Option pm_M} {h h' : pm_H} {r : List Value}
theorem pm_back {mc nc : Nat} {st0 rest : List Value} {v : Option Value} {a : Array Value} (hr : va_Run p l e R s m args below meth c H locs cells slots mc nc (F0 m pc ls st0) rest (pm_Qc D cl cA b base v h' a) (fun q => base ≤ q)) (hS : va_S (fun q => base ≤ q) s.heap H locs)
    (kk : ∀ (H1 : Heap) (locs1 : List Loc), va_P D cl (pm_ws (pm_tr cA b base) base h') H1 → va_S (fun q => base ≤ q) s.heap H1 locs1 → W p l e R s m args below meth c H1 locs1 (cells + mc) (slots + nc) Q (F0 m (pc + 3) ls ((v.map (pm_sh b base)).toList ++ rest))) : W p l e R s m args below meth c H locs cells slots Q (F0 m pc ls st0) := by
  intro T hT X
  obtain ⟨v', st0', t, T', L, g0, X', hL, e1, e2, ⟨hv, hp, hz, hk⟩, st⟩ := hr T hT X
  cases hv
  rw [g0] at hz hk
  obtain ⟨t2, a1, b1⟩ := kk T'.heap (locs ++ L) (by rw [e1]; exact hp)
    ⟨Nat.le_trans hS.1 (by rw [e1]; exact hz), fun q h1 h2 => by rw [e1, hk q (Nat.lt_of_lt_of_le h1 hS.1) h2]; exact hS.2.1 q h1 h2, fun q hq => by
      rcases List.mem_append.mp hq with h | h
      · exact hS.2.2 q h
      · exact hL q h⟩ T' rfl X'
  exact ⟨t2, st t2 a1, b1⟩
theorem pm_blind (hst : ∀ w ∈ TB, pm_stb w = true) {as : List Value} : FrameBlind (va_Pc as (pm_Wo D cl cA RD TB b base h)) := by
  intro a U g mk q
  obtain ⟨q0, q1, q2, q3, q4⟩ := q
  exact ⟨q0, q1, q2, va_K.moved (u := U) (U := U.calling g mk a) (Vm.Alike.refl U.vm) q3, fun w hw => pm_wd (s := U) (U := U.calling g mk a) (hst w hw) (State.WarmedH.refl U) (q4 w hw)⟩
theorem pm_pre (hst : ∀ w ∈ TB, pm_stb w = true) (hts : ∀ w ∈ TB, w.before args s = true) (hK : va_K D cl (pm_tys RD cA) s) (hP : va_P D cl (pm_ws (pm_tr cA b base) base h) H) (hz : H.size = base + h.length) {as : List Value} {av : Array Value} (hav : av = (as.map (pm_sh b base)).toArray) : ∀ U : State, U.heap = H → s.WarmedH U.vm → va_Pc (as.map (pm_sh b base)) (pm_Wo D cl cA RD TB b base h) av U := by
  intro U hU hW
  exact ⟨hav, by rw [hU]; exact hz, by rw [hU]; exact hP, va_K.moved hW.alike hK, fun w hw => pm_wd (hst w hw) hW (hts w hw)⟩
set_option maxHeartbeats 2000000 in
theorem pm_g5 {i : Instr} {r1 n0 z0 d : Nat} {st st' : List Value} {call : pm_C} (hx : p.tables.exec = Jvm.exec) (hb : c.code = cc) {nL : Nat} (hml : c.maxLocals = nL) (hst : ∀ w ∈ TB, pm_stb w = true) (hts : ∀ w ∈ TB, w.before args s = true) (hms : pm_msOk ms TB) (hown : s.vm.findClass own = some m.cls) (hK : va_K D cl (pm_tys RD cA) s)
    (hcall : pm_CallOk l cl RD TB ms call d) (hd : d + 1 ≤ R.frames) (hlo : 32 * (d + 1) ≤ R.locals)
    (hP : va_P D cl (pm_ws (pm_tr cA b base) base h) H) (hS : va_S (fun q => base ≤ q) s.heap H locs) (h0 : s.heap.size = base + n0) (hc : cells + n0 = h.length) (hs : slots + z0 = pm_sls h) (hr1 : h'.length ≤ n0 + R.cells) (hr2 : pm_sls h' ≤ z0 + R.slots) (hls : ls.size = nL)
    (hok : pm_okc ms cl TB own i r1) (hdg : decode cc pc = .ok (i, 3)) (q : pm_inv call i r1 (pm_na ms r1).1 (pm_na ms r1).2 st h = some (st', h'))
    (kk : ∀ (H1 : Heap) (locs1 : List Loc) (cells1 slots1 : Nat), va_P D cl (pm_ws (pm_tr cA b base) base h') H1 → va_S (fun q => base ≤ q) s.heap H1 locs1 → cells1 + n0 = h'.length → slots1 + z0 = pm_sls h' → W p l e R s m args below meth c H1 locs1 cells1 slots1 Q (F0 m (pc + 3) ls (st'.map (pm_sh b base)))) : W p l e R s m args below meth c H locs cells slots Q (F0 m pc ls (st.map (pm_sh b base))) := by
  refine pm_bound fun hbd => ?_
  have hz := pm_size hP hS h0 hc hbd
  have hwd : ∀ w ∈ TB, ∀ (a' : Array Value) (U : State), s.WarmedH U.vm → w.before a' U = true := fun w hw a' U hW => pm_wd (hst w hw) hW (hts w hw)
  -- what stands on the stack behind a call
  have hbk : ∀ (v : Option Value) (r : List Value), (v.map (pm_sh b base)).toList ++ r.map (pm_sh b base) = (v.toList ++ r).map (pm_sh b base) := by
    intro v r
    cases v <;> rfl
  cases i <;> simp only [pm_inv] at q <;> try exact pm_no q
  case invokestatic x =>
    obtain ⟨y, bytes, mL, rt, na, ci, o1, o2, o3⟩ := hok
    have e1 : pm_na ms r1 = (na, ci) := by unfold pm_na; rw [o1]
    rw [e1] at q
    split at q
    · rename_i as r ep
      split at q
      · rename_i v h2 ew ec
        cases q
        obtain ⟨m1, m2, m3, m4, m5, m6⟩ := hms _ _ _ _ _ _ _ o1
        obtain ⟨g1, g2⟩ := hcall _ _ _ _ _ ec
        obtain ⟨t, t1, t2, rfl⟩ := pm_popn _ _ _ _ _ ep
        rw [List.append_nil] at t2
        subst t2
        have hM := g2 _ _ _ _ _ _ o1 D cA b base
        have hfit : (∀ w ∈ [Jvm.Cond.code y bytes mL rt], ∀ (a' : Array Value) (U : State), s.WarmedH U.vm → w.before a' U = true) := fun w hw => by
          rw [List.mem_singleton.mp hw]
          exact hwd _ m1
        have hn : ∀ sig, parseMethodDescriptor y.desc = some sig → na = sig.parameters.length := fun sig hsig => by
          rw [hsig] at m5
          exact (Option.some.inj m5).symm
        have hmc : cells + (h'.length - h.length) ≤ R.cells ∧ slots + (pm_sls h' - pm_sls h) ≤ R.slots := ⟨by have := g1.1; omega, by have := g1.2; omega⟩
        have hpre : PreS s H (va_Pc (as.map (pm_sh b base)) (pm_Wo D cl cA RD TB b base h)) (as.map (pm_sh b base)) := ⟨pm_blind hst, pm_pre hst hts hK hP hz rfl⟩
        have hrun : va_Run p l e R s m args below meth c H locs cells slots (h'.length - h.length) (pm_sls h' - pm_sls h) (F0 m pc ls ((as.reverse ++ r).map (pm_sh b base))) (r.map (pm_sh b base)) (pm_Qc D cl cA b base v h' (as.map (pm_sh b base)).toArray) (fun q => base ≤ q) := by
          rcases o2 with o2 | ⟨host, o2⟩
          · exact va_runS ⟨hx, hb, hml, hown, hts⟩ hM ⟨⟨rfl, rfl, hd, (by show 8 + (mL + 11) + 32 * d ≤ R.locals; omega), hfit, List.mem_singleton.mpr rfl, hts _ m1, hts _ m2, m4, hn, hts _ o2⟩, hts _ o3⟩ hpre rfl (by rw [List.length_map]; exact t1) hls (by show (as.reverse ++ r).map _ = _; rw [List.map_append, List.map_reverse]) (lv_room (by rw [pm_wt_sum]; exact Nat.le_of_ble_eq_true ew)) hdg hmc
          · exact va_runSN ⟨hx, hb, hml, hown, hts⟩ hM ⟨⟨⟨rfl, rfl, hd, (by show 8 + (mL + 11) + 32 * d ≤ R.locals; omega), hfit, List.mem_singleton.mpr rfl⟩, hts _ m1, hts _ m2, m4, hn, hts _ o2⟩, hts _ o3, trivial⟩ hpre rfl (by rw [List.length_map]; exact t1) hls (by show (as.reverse ++ r).map _ = _; rw [List.map_append, List.map_reverse]) (lv_room (by rw [pm_wt_sum]; exact Nat.le_of_ble_eq_true ew)) hdg hmc
        refine pm_back hrun hS (fun H1 locs1 hP1 hS1 => ?_)
        rw [hbk]
        exact kk H1 locs1 _ _ hP1 hS1 (by have := g1.1; omega) (by have := g1.2; omega)
      · cases q
    · cases q
  case invokevirtual x =>
    obtain ⟨y, bytes, mL, rt, na, ci, o1, o2, o3, T9, N9, o4, o5⟩ := hok
    have e1 : pm_na ms r1 = (na, ci) := by unfold pm_na; rw [o1]
    rw [e1] at q
    split at q
    · rename_i as a r ep
      split at q
      · rename_i v h2 ew eo ec
        cases q
        obtain ⟨m1, m2, m3, m4, m5, m6⟩ := hms _ _ _ _ _ _ _ o1
        obtain ⟨g1, g2⟩ := hcall _ _ _ _ _ ec
        obtain ⟨t, t1, t2, rfl⟩ := pm_popn _ _ _ _ _ ep
        rw [List.append_nil] at t2
        subst t2
        have hM := g2 _ _ _ _ _ _ o1 D cA b base
        have hfit : (∀ w ∈ [Jvm.Cond.code y bytes mL rt], ∀ (a' : Array Value) (U : State), s.WarmedH U.vm → w.before a' U = true) := fun w hw => by
          rw [List.mem_singleton.mp hw]
          exact hwd _ m1
        have hn : ∀ sig, parseMethodDescriptor y.desc = some sig → na = sig.parameters.length := fun sig hsig => by
          rw [hsig] at m5
          exact (Option.some.inj m5).symm
        have hmc : cells + (h'.length - h.length) ≤ R.cells ∧ slots + (pm_sls h' - pm_sls h) ≤ R.slots := ⟨by have := g1.1; omega, by have := g1.2; omega⟩
        have hrc : ∃ cellB : Cell, H[pm_ad b base a]? = some cellB ∧ cellB.vm.isStatics = false ∧ s.vm.findClass y.cls = some cellB.cls := by
          unfold pm_clsOk at eo
          split at eo
          · rename_i c9 fs9 e9
            cases pm_beq eo
            obtain ⟨k, rfl, q3⟩ := pm_cell_s e9
            exact va_recv hK hP o4 (pm_at (D := D) (cl := cl) (H := H) q3)
          · cases eo
        have hpre : PreV s H y.cls (pm_ad b base a) (va_Pc ((Value.ref a :: as).map (pm_sh b base)) (pm_Wo D cl cA RD TB b base h)) (as.map (pm_sh b base)) := ⟨pm_blind hst, hrc, pm_pre hst hts hK hP hz rfl⟩
        have hrun : va_Run p l e R s m args below meth c H locs cells slots (h'.length - h.length) (pm_sls h' - pm_sls h) (F0 m pc ls ((as.reverse ++ .ref a :: r).map (pm_sh b base))) (r.map (pm_sh b base)) (pm_Qc D cl cA b base v h' (Value.ref (pm_ad b base a) :: as.map (pm_sh b base)).toArray) (fun q => base ≤ q) := by
          rcases o2 with o2 | ⟨host, o2⟩
          · exact va_runV ⟨hx, hb, hml, hown, hts⟩ hM ⟨⟨rfl, rfl, hd, (by show 8 + (mL + 11) + 32 * d ≤ R.locals; omega), hfit, List.mem_singleton.mpr rfl, hts _ m1, hts _ m2, m4, hn, hts _ o2⟩, hts _ o3, hts _ o5⟩ hpre rfl (by rw [List.length_map]; exact t1) hls (by show (as.reverse ++ .ref a :: r).map _ = _; rw [List.map_append, List.map_reverse]; rfl) (lv_room (by rw [pm_wt_sum]; exact Nat.le_of_ble_eq_true ew)) hdg hmc
          · exact va_runVN ⟨hx, hb, hml, hown, hts⟩ hM ⟨⟨⟨rfl, rfl, hd, (by show 8 + (mL + 11) + 32 * d ≤ R.locals; omega), hfit, List.mem_singleton.mpr rfl⟩, hts _ m1, hts _ m2, m4, hn, hts _ o2⟩, hts _ o3, hts _ o5⟩ hpre rfl (by rw [List.length_map]; exact t1) hls (by show (as.reverse ++ .ref a :: r).map _ = _; rw [List.map_append, List.map_reverse]; rfl) (lv_room (by rw [pm_wt_sum]; exact Nat.le_of_ble_eq_true ew)) hdg hmc
        refine pm_back hrun hS (fun H1 locs1 hP1 hS1 => ?_)
        rw [hbk]
        exact kk H1 locs1 _ _ hP1 hS1 (by have := g1.1; omega) (by have := g1.2; omega)
      · cases q
    · cases q
  case invokespecial x =>
    rcases hok with ⟨rfl, o1, o2, o3⟩ | ⟨hne, y, bytes, mL, na, ci, o1, o2, o3, o4⟩
    · simp only at q
      split at q
      · split at q
        · rename_i ew
          cases q
          refine W.objInit hx hb hown (hts _ o1) (hts _ o2) (hts _ o3) rfl (by rw [hml]; exact hls) rfl hdg (by omega) ?_ (kk H locs cells slots hP hS hc hs)
          have hwt := Nat.le_of_ble_eq_true ew
          have hw2 := lv_room (m := m) (pc := pc) (ls := ls) (rest := (Value.ref ‹Addr› :: st').map (pm_sh b base)) (st := st'.map (pm_sh b base)) (by rw [pm_wt_sum]; exact hwt)
          have := hlo
          exact Nat.le_trans (Nat.add_le_add_right hw2 12) (by omega)
        · cases q
      · cases q
    · obtain ⟨k1, rfl⟩ : ∃ k1, r1 = k1 + 1 := ⟨r1 - 1, by omega⟩
      simp only at q
      have e1 : pm_na ms (k1 + 1) = (na, ci) := by unfold pm_na; rw [o1]
      rw [e1] at q
      split at q
      · rename_i as a r ep
        split at q
        · rename_i v h2 ew ec
          cases q
          obtain ⟨m1, m2, m3, m4, m5, m6⟩ := hms _ _ _ _ _ _ _ o1
          obtain ⟨g1, g2⟩ := hcall _ _ _ _ _ ec
          obtain ⟨t, t1, t2, rfl⟩ := pm_popn _ _ _ _ _ ep
          rw [List.append_nil] at t2
          subst t2
          have hM := g2 _ _ _ _ _ _ o1 D cA b base
          have hfit : (∀ w ∈ [Jvm.Cond.code y bytes mL none], ∀ (a' : Array Value) (U : State), s.WarmedH U.vm → w.before a' U = true) := fun w hw => by
            rw [List.mem_singleton.mp hw]
            exact hwd _ m1
          have hn : ∀ sig, parseMethodDescriptor y.desc = some sig → na = sig.parameters.length := fun sig hsig => by
            rw [hsig] at m5
            exact (Option.some.inj m5).symm
          have hmc : cells + (h'.length - h.length) ≤ R.cells ∧ slots + (pm_sls h' - pm_sls h) ≤ R.slots := ⟨by have := g1.1; omega, by have := g1.2; omega⟩
          have hpre : PreS s H (va_Pc ((Value.ref a :: as).map (pm_sh b base)) (pm_Wo D cl cA RD TB b base h)) (.ref (pm_ad b base a) :: as.map (pm_sh b base)) := ⟨pm_blind hst, pm_pre hst hts hK hP hz rfl⟩
          have hrun : va_Run p l e R s m args below meth c H locs cells slots (h'.length - h.length) (pm_sls h' - pm_sls h) (F0 m pc ls ((as.reverse ++ .ref a :: r).map (pm_sh b base))) (r.map (pm_sh b base)) (pm_Qc D cl cA b base v h' (Value.ref (pm_ad b base a) :: as.map (pm_sh b base)).toArray) (fun q => base ≤ q) := by
            rcases o3 with o3 | ⟨host, o3⟩
            · exact va_runI ⟨hx, hb, hml, hown, hts⟩ hM ⟨⟨rfl, rfl, hd, (by show 8 + (mL + 11) + 32 * d ≤ R.locals; omega), hfit, List.mem_singleton.mpr rfl, hts _ m1, hts _ m2, m4, hn, hts _ o3⟩, o2, hts _ o4⟩ hpre rfl (by rw [List.length_map]; exact t1) hls (by show (as.reverse ++ .ref a :: r).map _ = _; rw [List.map_append, List.map_reverse]; rfl) (lv_room (by rw [pm_wt_sum]; exact Nat.le_of_ble_eq_true ew)) hdg hmc
            · exact va_runIN ⟨hx, hb, hml, hown, hts⟩ hM ⟨⟨⟨rfl, rfl, hd, (by show 8 + (mL + 11) + 32 * d ≤ R.locals; omega), hfit, List.mem_singleton.mpr rfl⟩, hts _ m1, hts _ m2, m4, hn, hts _ o3⟩, o2, hts _ o4⟩ hpre rfl (by rw [List.length_map]; exact t1) hls (by show (as.reverse ++ .ref a :: r).map _ = _; rw [List.map_append, List.map_reverse]; rfl) (lv_room (by rw [pm_wt_sum]; exact Nat.le_of_ble_eq_true ew)) hdg hmc
          refine pm_back hrun hS (fun H1 locs1 hP1 hS1 => ?_)
          rw [hbk]
          exact kk H1 locs1 _ _ hP1 hS1 (by have := g1.1; omega) (by have := g1.2; omega)
        · cases q
      · cases q
end PM5

/-! every call of the small machine is a contract -/
section PM7
variable {p : Program} {l : Launch} {e : Env} {R : Room} {s : State} {m : MethodId} {args : Array Value} {below : List Frame} {meth : Method} {c : Code} {H : Heap} {locs : List Loc} {cells slots : Nat}
variable {cc : ByteArray} {pc : Nat} {ls : Array Slot} {b base : Nat}
theorem pm_end {Qc : Array Value → State → Outcome → State → Prop} {free : Addr → Prop} {i : Instr} {rt : Option FieldType} {st : List Value} {v : Option Value} (hx : p.tables.exec = Jvm.exec) (hb : c.code = cc) (hr : meth.sig.returnType = rt) (hlocks : meth.locks = false) (hdg : decode cc pc = .ok (i, 1)) (q : pm_ret i rt st = some v)
    (hq : ∀ t : State, t.heap = H → s.WarmedH t.vm → Qc args s (.returned (v.map (pm_sh b base))) t) (hf : ∀ q ∈ locs, free q.base) : W p l e R s m args below meth c H locs cells slots (MQ below Qc args s cells slots free) (F0 m pc ls (st.map (pm_sh b base))) := by
  cases i <;> simp only [pm_ret] at q <;> try exact pm_no q
  case return_ =>
    split at q
    · cases q; exact W.vret hx hb hr hq hf hdg
    · cases q
  case ireturn =>
    split at q
    · cases q; exact W.iret hx hb hr hq hf hdg
    · split at q
      · rename_i x h01
        cases q
        exact W.zret hx hb hr (by rcases h01 with rfl | rfl <;> rfl) hq hf hdg
      · cases q
    · cases q
  case lreturn =>
    split at q
    · cases q; exact W.lret hx hb hr hq hf hdg
    · cases q
  case areturn =>
    split at q
    · cases q; exact W.aret hx hb hr (Or.inl ⟨_, rfl⟩) (Or.inr ⟨_, rfl⟩) hq hf hdg
    · cases q; exact W.aret hx hb hr (Or.inl ⟨_, rfl⟩) (Or.inl rfl) hq hf hdg
    · cases q; exact W.aret hx hb hr (Or.inr ⟨_, rfl⟩) (Or.inr ⟨_, rfl⟩) hq hf hdg
    · cases q; exact W.aret hx hb hr (Or.inr ⟨_, rfl⟩) (Or.inl rfl) hq hf hdg
    · cases q
end PM7
/-- what the tables say of all instructions -/
def pm_insOk (cl : List vw_C) (TB : List Cond) (RD : String) (ms : Nat → Option pm_M) (ins : Nat → Nat → Option pm_I) : Prop := ∀ (k : Nat) (y : MethodName) (bytes : ByteArray) (nL : Nat) (rt : Option FieldType) (na ci : Nat), ms k = some (y, bytes, nL, rt, na, ci) → ∀ pc q, ins k pc = some q → pm_okI cl TB RD ms bytes y.cls y.name pc q
set_option maxHeartbeats 2000000 in
theorem pm_callOk {l : Launch} {cl : List vw_C} {RD : String} {TB : List Cond} {cs : Nat → List Value} {ms : Nat → Option pm_M} {ins : Nat → Nat → Option pm_I} {fuel : Nat} (hst : ∀ w ∈ TB, pm_stb w = true) (hcl : pm_clOk cl TB cs) (hms : pm_msOk ms TB) (hI : pm_insOk cl TB RD ms ins) : ∀ d, pm_CallOk l cl RD TB ms (pm_call cs ms ins fuel d) d := by
  intro d
  induction d with
  | zero => intro k as h h' v q; cases q
  | succ d ih =>
    intro k as h h' v q
    rw [pm_call_succ] at q
    split at q
    · rename_i y0 by0 nL0 rt0 na0 ci0 em
      split at q
      · rename_i ew
        have hmono : pm_MonoC (pm_call cs ms ins fuel d) := fun k as h h' v q => (ih k as h h' v q).1
        have hle := pm_run_le hmono _ _ _ _ q
        refine ⟨hle, ?_⟩
        intro y bytes nL rt na ci em2 D cA b base
        rw [em] at em2
        cases em2
        obtain ⟨m1, m2, m3, m4, m5, m6⟩ := hms _ _ _ _ _ _ _ em
        refine va_MetF (cc := by0) (maxL := nL0) (ret := rt0) m3 rfl ?_
        intro p e s m args below meth c s₁ B hml hv
        obtain ⟨rfl, hsz, hP, hK, hT⟩ := hv
        have hx := B.exec
        have hb := B.bytes
        have hr := B.returns
        have hlocks := B.notSynchronized
        have hown : s.vm.findClass y0.cls = some m.cls := findClass_of_methodNamed B.named
        have hnm : meth.name = y0.name := (name_of_methodNamed B.named B.method).1
        have hts : ∀ w ∈ TB, w.before (as.map (pm_sh b base)).toArray s = true := fun w hw => pm_wd (hst w hw) (State.WarmedH.refl s) (hT w hw)
        have hl := lv_entry (as.map (pm_sh b base)) (n := nL0) (by rw [pm_wt_sl, pm_wt_map]; exact Nat.le_of_ble_eq_true ew)
        rw [lg_entry_eq]
        generalize (lg_sl (as.map (pm_sh b base)) ++ List.replicate (nL0 - (lg_sl (as.map (pm_sh b base))).length) Slot.unset).toArray = ls at hl ⊢
        rw [pm_args] at hl
        have hS : va_S (fun q => base ≤ q) s.heap s.heap [] := va_S.rf
        refine pm_runOk (R := { frames := d + 1, cells := h'.length - h.length, slots := pm_sls h' - pm_sls h, locals := 32 * (d + 1) }) (scr := none) (n0 := h.length) (z0 := pm_sls h) (hE := h') (v := v) (cs := cs) hx hb hml hst hts hcl hms hown hK (fun n xs e9 => by cases e9) ih (Nat.le_refl _) (Nat.le_refl _) (fun pc q e9 => by rw [hnm]; exact hI _ _ _ _ _ _ _ em pc q e9) hsz (by have := hle.1; show h'.length ≤ h.length + (h'.length - h.length); omega) (by have := hle.2; show pm_sls h' ≤ pm_sls h + (pm_sls h' - pm_sls h); omega) ?_ fuel (0, lv_args 0 as, [], h) q ls s.heap [] 0 0 hl hP hS (Nat.zero_add _) (Nat.zero_add _)
        intro i pc ls st H locs cells slots hdg q1 hP1 hS1 hc1 hs1
        have e1 : h'.length - h.length = cells := by omega
        have e2 : pm_sls h' - pm_sls h = slots := by omega
        rw [e1, e2]
        exact pm_end hx hb hr hlocks hdg q1 (fun t ht hW => ⟨rfl, by rw [ht]; exact hP1, hS1.F ht⟩) hS1.2.2
      · cases q
    · cases q

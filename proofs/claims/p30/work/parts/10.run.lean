/-! runs and calls: what the small machine says, the machine does -/
def pm_lenOk (i : Instr) (n : Nat) : Prop := match pm_grp i with
  | 0 => n = pm_aln i
  | 1 => n = pm_ldn i
  | 2 => n = pm_ston i
  | 3 => n = 3 ∨ ∃ a b c d, i = .tableswitch a b c d
  | 4 => n = pm_memn i
  | 5 => n = 3
  | _ => n = 1
/-- what the tables say of an instruction -/
def pm_okI (cl : List vw_C) (TB : List Cond) (RD : String) (ms : Nat → Option pm_M) (cc : ByteArray) (own mname : String) (pc : Nat) (q : pm_I) : Prop :=
  decode cc pc = .ok (q.1, q.2.1) ∧ pm_lenOk q.1 q.2.1 ∧ pm_tgt q.1 pc q.2.2.1 = true ∧ (∀ x, q.1 = .ldc x ∨ q.1 = .ldc_w x → Jvm.Cond.constant own x (Int32.ofInt q.2.2.2.2.1) ∈ TB) ∧ (∀ x, q.1 = .ldc2_w x → Jvm.Cond.constantLong own x (Int64.ofInt q.2.2.2.2.1) ∈ TB) ∧ pm_okm cl TB RD own mname q.1 q.2.2.1 q.2.2.2.1 q.2.2.2.2.1 ∧ pm_okc ms cl TB own q.1 q.2.2.1
theorem pm_o0_s {pc : Nat} {lv : pm_L} {h : pm_H} {o : Option (List Value)} {x : pm_F ⊕ pm_R} (q : pm_o0 pc lv h o = some x) : ∃ st, o = some st ∧ x = .inl (pc, lv, st, h) := by
  unfold pm_o0 at q; split at q
  · cases q; exact ⟨_, rfl, rfl⟩
  · cases q
theorem pm_o1_s {pc : Nat} {lv : pm_L} {st : List Value} {h : pm_H} {o : Option Value} {x : pm_F ⊕ pm_R} (q : pm_o1 pc lv st h o = some x) : ∃ v, o = some v ∧ x = .inl (pc, lv, v :: st, h) := by
  unfold pm_o1 at q; split at q
  · cases q; exact ⟨_, rfl, rfl⟩
  · cases q
theorem pm_o2_s {pc : Nat} {h : pm_H} {o : Option (pm_L × List Value)} {x : pm_F ⊕ pm_R} (q : pm_o2 pc h o = some x) : ∃ lv st, o = some (lv, st) ∧ x = .inl (pc, lv, st, h) := by
  unfold pm_o2 at q; split at q
  · cases q; exact ⟨_, _, rfl, rfl⟩
  · cases q
theorem pm_o3_s {lv : pm_L} {h : pm_H} {o : Option (Nat × List Value)} {x : pm_F ⊕ pm_R} (q : pm_o3 lv h o = some x) : ∃ pc st, o = some (pc, st) ∧ x = .inl (pc, lv, st, h) := by
  unfold pm_o3 at q; split at q
  · cases q; exact ⟨_, _, rfl, rfl⟩
  · cases q
theorem pm_o4_s {pc : Nat} {lv : pm_L} {o : Option (List Value × pm_H)} {x : pm_F ⊕ pm_R} (q : pm_o4 pc lv o = some x) : ∃ st h, o = some (st, h) ∧ x = .inl (pc, lv, st, h) := by
  unfold pm_o4 at q; split at q
  · cases q; exact ⟨_, _, rfl, rfl⟩
  · cases q
theorem pm_o6_s {h : pm_H} {o : Option (Option Value)} {x : pm_F ⊕ pm_R} (q : pm_o6 h o = some x) : ∃ v, o = some v ∧ x = .inr (v, h) := by
  unfold pm_o6 at q; split at q
  · cases q; exact ⟨_, rfl, rfl⟩
  · cases q
def pm_MonoC (call : pm_C) : Prop := ∀ (k : Nat) (as : List Value) (h h' : pm_H) (v : Option Value), call k as h = some (v, h') → pm_le h h'
theorem pm_inv_le {call : pm_C} (hc : pm_MonoC call) {i : Instr} {k na ci : Nat} {st st' : List Value} {h h' : pm_H} (q : pm_inv call i k na ci st h = some (st', h')) : pm_le h h' := by
  cases i <;> simp only [pm_inv] at q <;> try exact pm_no q
  case invokestatic =>
    split at q
    · split at q
      · rename_i ec; cases q; exact hc _ _ _ _ _ ec
      · cases q
    · cases q
  case invokevirtual =>
    split at q
    · split at q
      · rename_i ec; cases q; exact hc _ _ _ _ _ ec
      · cases q
    · cases q
  case invokespecial =>
    split at q
    · split at q
      · split at q
        · cases q; exact pm_le_rf _
        · cases q
      · cases q
    · split at q
      · split at q
        · rename_i ec; cases q; exact hc _ _ _ _ _ ec
        · cases q
      · cases q
theorem pm_step_le {cs : Nat → List Value} {ms : Nat → Option pm_M} {call : pm_C} (hc : pm_MonoC call) {scr : pm_S} {nL : Nat} {rt : Option FieldType} {q : pm_I} {F : pm_F} {x : pm_F ⊕ pm_R} (s : pm_step cs ms call scr nL rt q F = some x) : (∀ F', x = .inl F' → pm_le F.2.2.2 F'.2.2.2) ∧ (∀ v h', x = .inr (v, h') → h' = F.2.2.2) := by
  obtain ⟨i, n, r1, r2, cst, hh⟩ := q
  obtain ⟨pc, lv, st, h⟩ := F
  simp only [pm_step] at s
  split at s
  · obtain ⟨st', -, rfl⟩ := pm_o0_s s; exact ⟨fun F' e => by cases e; exact pm_le_rf _, fun v h' e => by cases e⟩
  · obtain ⟨st', -, rfl⟩ := pm_o1_s s; exact ⟨fun F' e => by cases e; exact pm_le_rf _, fun v h' e => by cases e⟩
  · obtain ⟨lv', st', -, rfl⟩ := pm_o2_s s; exact ⟨fun F' e => by cases e; exact pm_le_rf _, fun v h' e => by cases e⟩
  · obtain ⟨pc', st', -, rfl⟩ := pm_o3_s s; exact ⟨fun F' e => by cases e; exact pm_le_rf _, fun v h' e => by cases e⟩
  · obtain ⟨st', h', q1, rfl⟩ := pm_o4_s s; exact ⟨fun F' e => by cases e; exact pm_mem_le q1, fun v h' e => by cases e⟩
  · obtain ⟨st', h', q1, rfl⟩ := pm_o4_s s; exact ⟨fun F' e => by cases e; exact pm_inv_le hc q1, fun v h' e => by cases e⟩
  · obtain ⟨v', q1, rfl⟩ := pm_o6_s s; exact ⟨(fun F' e => by cases e), (fun v h' e => by cases e; rfl)⟩
theorem pm_run_le {cs : Nat → List Value} {ms : Nat → Option pm_M} {call : pm_C} (hc : pm_MonoC call) {scr : pm_S} {nL : Nat} {rt : Option FieldType} {ins : Nat → Option pm_I} : ∀ (n : Nat) (F : pm_F) (v : Option Value) (hE : pm_H), pm_run (pm_step cs ms call scr nL rt) ins n F = some (v, hE) → pm_le F.2.2.2 hE := by
  intro n
  induction n with
  | zero => intro F v hE q; cases q
  | succ n ih =>
    intro F v hE q
    rw [pm_run_succ] at q
    split at q
    · cases q
    · split at q
      · cases q
      · rename_i F' es
        exact pm_le_tr ((pm_step_le hc es).1 F' rfl) (ih F' v hE q)
      · rename_i r es
        cases q
        rw [(pm_step_le hc es).2 _ _ rfl]
        exact pm_le_rf _
section PM6
variable {p : Program} {l : Launch} {e : Env} {R : Room} {s : State} {m : MethodId} {args : Array Value} {below : List Frame} {meth : Method} {c : Code} {Q : State → Prop}
variable {cc : ByteArray} {b base : Nat} {D : va_G} {cl : List vw_C} {cA : Nat → ClassId} {RD own : String} {TB : List Cond} {cs : Nat → List Value} {ms : Nat → Option pm_M}
set_option maxHeartbeats 2000000 in
/-- a run in a frame -/
theorem pm_runOk {call : pm_C} {scr : pm_S} {nL d n0 z0 : Nat} {rt : Option FieldType} {ins : Nat → Option pm_I} {v : Option Value} {hE : pm_H} (hx : p.tables.exec = Jvm.exec) (hb : c.code = cc) (hml : c.maxLocals = nL) (hst : ∀ w ∈ TB, pm_stb w = true) (hts : ∀ w ∈ TB, w.before args s = true) (hcl : pm_clOk cl TB cs) (hms : pm_msOk ms TB) (hown : s.vm.findClass own = some m.cls) (hK : va_K D cl (pm_tys RD cA) s) (hSc : pm_Sc scr b base s)
    (hcall : pm_CallOk l cl RD TB ms call d) (hd : d + 1 ≤ R.frames) (hlo : 32 * (d + 1) ≤ R.locals) (hI : ∀ pc q, ins pc = some q → pm_okI cl TB RD ms cc own meth.name pc q) (h0 : s.heap.size = base + n0) (hr1 : hE.length ≤ n0 + R.cells) (hr2 : pm_sls hE ≤ z0 + R.slots)
    (hend : ∀ (i : Instr) (pc : Nat) (ls : Array Slot) (st : List Value) (H : Heap) (locs : List Loc) (cells slots : Nat), decode cc pc = .ok (i, 1) → pm_ret i rt st = some v → va_P D cl (pm_ws (pm_tr cA b base) base hE) H → va_S (fun q => base ≤ q) s.heap H locs → cells + n0 = hE.length → slots + z0 = pm_sls hE → W p l e R s m args below meth c H locs cells slots Q (F0 m pc ls (st.map (pm_sh b base)))) :
    ∀ (n : Nat) (F : pm_F), pm_run (pm_step cs ms call scr nL rt) ins n F = some (v, hE) → ∀ (ls : Array Slot) (H : Heap) (locs : List Loc) (cells slots : Nat), lv_has ls nL (pm_lv b base F.2.1) → va_P D cl (pm_ws (pm_tr cA b base) base F.2.2.2) H → va_S (fun q => base ≤ q) s.heap H locs → cells + n0 = F.2.2.2.length → slots + z0 = pm_sls F.2.2.2 →
      W p l e R s m args below meth c H locs cells slots Q (F0 m F.1 ls (F.2.2.1.map (pm_sh b base))) := by
  have hmono : pm_MonoC call := fun k as h h' v q => (hcall k as h h' v q).1
  intro n
  induction n with
  | zero => intro F q; cases q
  | succ n ih =>
    intro F q ls H locs cells slots hl hP hS hc hs
    have hle := pm_run_le hmono _ _ _ _ q
    rw [pm_run_succ] at q
    split at q
    · cases q
    · rename_i qi ei
      obtain ⟨k1, k2, k3, k4, k5, k6, k7⟩ := hI _ _ ei
      obtain ⟨i, len, r1, r2, cst, hh⟩ := qi
      obtain ⟨pc, lv, st, h⟩ := F
      dsimp only at k1 k2 k3 k4 k5 k6 k7 hl hP hc hs hle ei ⊢
      split at q
      · cases q
      · rename_i F' es
        have hleF := pm_run_le hmono _ _ _ _ q
        simp only [pm_step] at es
        unfold pm_lenOk at k2
        split at es
        · rename_i eg
          rw [eg] at k2
          have k2 := k2
          subst k2
          obtain ⟨st', q1, e9⟩ := pm_o0_s es
          cases e9
          exact pm_g0 hx hb k1 hown (fun x hx => hts _ (k4 x hx)) (fun x hx => hts _ (k5 x hx)) q1 (ih _ q ls H locs cells slots hl hP hS hc hs)
        · rename_i eg
          rw [eg] at k2
          have k2 := k2
          subst k2
          obtain ⟨v', q1, e9⟩ := pm_o1_s es
          cases e9
          exact pm_g1 hx hb k1 hl q1 (ih _ q ls H locs cells slots hl hP hS hc hs)
        · rename_i eg
          rw [eg] at k2
          have k2 := k2
          subst k2
          obtain ⟨lv', st', q1, e9⟩ := pm_o2_s es
          cases e9
          exact pm_g2 hx hb k1 hl q1 (fun ls' hl' => ih _ q ls' H locs cells slots hl' hP hS hc hs)
        · rename_i eg
          rw [eg] at k2
          obtain ⟨pc', st', q1, e9⟩ := pm_o3_s es
          cases e9
          exact pm_g3 hx hb k1 k2 k3 q1 (ih _ q ls H locs cells slots hl hP hS hc hs)
        · rename_i eg
          rw [eg] at k2
          have k2 := k2
          subst k2
          obtain ⟨st', h', q1, e9⟩ := pm_o4_s es
          cases e9
          exact pm_g4 hx hb hts hcl hown hK hSc hP hS h0 hc hs (Nat.le_trans hleF.1 hr1) (Nat.le_trans hleF.2 hr2) k6 k1 q1 (fun H1 locs1 cells1 slots1 hP1 hS1 hc1 hs1 => ih _ q ls H1 locs1 cells1 slots1 hl hP1 hS1 hc1 hs1)
        · rename_i eg
          rw [eg] at k2
          have k2 := k2
          subst k2
          obtain ⟨st', h', q1, e9⟩ := pm_o4_s es
          cases e9
          exact pm_g5 hx hb hml hst hts hms hown hK hcall hd hlo hP hS h0 hc hs (Nat.le_trans hleF.1 hr1) (Nat.le_trans hleF.2 hr2) hl.1 k7 k1 q1 (fun H1 locs1 cells1 slots1 hP1 hS1 hc1 hs1 => ih _ q ls H1 locs1 cells1 slots1 hl hP1 hS1 hc1 hs1)
        · obtain ⟨v', q1, e9⟩ := pm_o6_s es
          cases e9
      · rename_i r es
        cases q
        simp only [pm_step] at es
        unfold pm_lenOk at k2
        split at es
        · obtain ⟨st', q1, e9⟩ := pm_o0_s es; cases e9
        · obtain ⟨st', q1, e9⟩ := pm_o1_s es; cases e9
        · obtain ⟨lv', st', q1, e9⟩ := pm_o2_s es; cases e9
        · obtain ⟨pc', st', q1, e9⟩ := pm_o3_s es; cases e9
        · obtain ⟨st', h', q1, e9⟩ := pm_o4_s es; cases e9
        · obtain ⟨st', h', q1, e9⟩ := pm_o4_s es; cases e9
        · obtain ⟨v', q1, e9⟩ := pm_o6_s es
          cases e9
          have k9 : len = 1 := by
            split at k2 <;> first | exact k2 | (rename_i h9; simp_all; done) | contradiction
          subst k9
          exact hend i pc ls st H locs cells slots k1 q1 hP hS hc hs
end PM6

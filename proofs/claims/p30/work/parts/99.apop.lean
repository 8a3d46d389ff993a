/-! the law's own machine: pop2 too -/
def pm_p2 (st : List Value) : Option (List Value) := match st with
  | .long _ :: r => some r
  | _ => none
noncomputable def pm_step2 (cs : Nat → List Value) (ms : Nat → Option pm_M) (call : pm_C) (scr : pm_S) (nL : Nat) (rt : Option FieldType) (q : pm_I) (F : pm_F) : pm_O := match q.1 with
  | .pop2 => pm_o0 (F.1 + 1) F.2.1 F.2.2.2 (pm_p2 F.2.2.1)
  | _ => pm_step cs ms call scr nL rt q F
theorem pm_step2_ne {cs : Nat → List Value} {ms : Nat → Option pm_M} {call : pm_C} {scr : pm_S} {nL : Nat} {rt : Option FieldType} {i : Instr} {len r1 r2 : Nat} {cst : Int} {hh : List (Nat × Nat)} {F : pm_F} (h : i ≠ .pop2) : pm_step2 cs ms call scr nL rt (i, len, r1, r2, cst, hh) F = pm_step cs ms call scr nL rt (i, len, r1, r2, cst, hh) F := by
  unfold pm_step2
  split
  · rename_i e; exact absurd e h
  · rfl
theorem pm_step2_pop {cs : Nat → List Value} {ms : Nat → Option pm_M} {call : pm_C} {scr : pm_S} {nL : Nat} {rt : Option FieldType} {len r1 r2 : Nat} {cst : Int} {hh : List (Nat × Nat)} {pc : Nat} {lv : pm_L} {st : List Value} {h : pm_H} {x : pm_F ⊕ pm_R} (e : pm_step2 cs ms call scr nL rt (.pop2, len, r1, r2, cst, hh) (pc, lv, st, h) = some x) : ∃ y r, st = .long y :: r ∧ x = .inl (pc + 1, lv, r, h) := by
  have e : pm_o0 (pc + 1) lv h (pm_p2 st) = some x := e
  obtain ⟨st', q1, rfl⟩ := pm_o0_s e
  unfold pm_p2 at q1
  split at q1
  · cases q1; exact ⟨_, _, rfl, rfl⟩
  · cases q1
theorem pm_step2_le {cs : Nat → List Value} {ms : Nat → Option pm_M} {call : pm_C} (hc : pm_MonoC call) {scr : pm_S} {nL : Nat} {rt : Option FieldType} {q : pm_I} {F : pm_F} {x : pm_F ⊕ pm_R} (s : pm_step2 cs ms call scr nL rt q F = some x) : (∀ F', x = .inl F' → pm_le F.2.2.2 F'.2.2.2) ∧ (∀ v h', x = .inr (v, h') → h' = F.2.2.2) := by
  obtain ⟨i, n, r1, r2, cst, hh⟩ := q
  obtain ⟨pc, lv, st, h⟩ := F
  by_cases c : i = .pop2
  · subst c
    obtain ⟨y, r, rfl, rfl⟩ := pm_step2_pop s
    exact ⟨fun F' e => by cases e; exact pm_le_rf _, fun v h' e => by cases e⟩
  · rw [pm_step2_ne c] at s
    exact pm_step_le hc s
theorem pm_run_le2 {cs : Nat → List Value} {ms : Nat → Option pm_M} {call : pm_C} (hc : pm_MonoC call) {scr : pm_S} {nL : Nat} {rt : Option FieldType} {ins : Nat → Option pm_I} : ∀ (n : Nat) (F : pm_F) (v : Option Value) (hE : pm_H), pm_run (pm_step2 cs ms call scr nL rt) ins n F = some (v, hE) → pm_le F.2.2.2 hE := by
  intro n
  induction n with
  | zero => intro F v hE q; cases q
  | succ n ih =>
    intro F v hE q
    rw [pm_run_succ] at q
    split at q
    · cases q
    · split at q
      · cases q
      · rename_i F' es
        exact pm_le_tr ((pm_step2_le hc es).1 F' rfl) (ih F' v hE q)
      · rename_i r es
        cases q
        rw [(pm_step2_le hc es).2 _ _ rfl]
        exact pm_le_rf _
section PM6
variable {p : Program} {l : Launch} {e : Env} {R : Room} {s : State} {m : MethodId} {args : Array Value} {below : List Frame} {meth : Method} {c : Code} {Q : State → Prop}
variable {cc : ByteArray} {b base : Nat} {D : va_G} {cl : List vw_C} {cA : Nat → ClassId} {RD own : String} {TB : List Cond} {cs : Nat → List Value} {ms : Nat → Option pm_M}
set_option maxHeartbeats 2000000 in
/-- a run in a frame -/
theorem pm_runOk2 {call : pm_C} {scr : pm_S} {nL d n0 z0 : Nat} {rt : Option FieldType} {ins : Nat → Option pm_I} {v : Option Value} {hE : pm_H} (hx : p.tables.exec = Jvm.exec) (hb : c.code = cc) (hml : c.maxLocals = nL) (hst : ∀ w ∈ TB, pm_stb w = true) (hts : ∀ w ∈ TB, w.before args s = true) (hcl : pm_clOk cl TB cs) (hms : pm_msOk ms TB) (hown : s.vm.findClass own = some m.cls) (hK : va_K D cl (pm_tys RD cA) s) (hSc : pm_Sc scr b base s)
    (hcall : pm_CallOk l cl RD TB ms call d) (hd : d + 1 ≤ R.frames) (hlo : 32 * (d + 1) ≤ R.locals) (hI : ∀ pc q, ins pc = some q → pm_okI cl TB RD ms cc own meth.name pc q) (h0 : s.heap.size = base + n0) (hr1 : hE.length ≤ n0 + R.cells) (hr2 : pm_sls hE ≤ z0 + R.slots)
    (hend : ∀ (i : Instr) (pc : Nat) (ls : Array Slot) (st : List Value) (H : Heap) (locs : List Loc) (cells slots : Nat), decode cc pc = .ok (i, 1) → pm_ret i rt st = some v → va_P D cl (pm_ws (pm_tr cA b base) base hE) H → va_S (fun q => base ≤ q) s.heap H locs → cells + n0 = hE.length → slots + z0 = pm_sls hE → W p l e R s m args below meth c H locs cells slots Q (F0 m pc ls (st.map (pm_sh b base)))) :
    ∀ (n : Nat) (F : pm_F), pm_run (pm_step2 cs ms call scr nL rt) ins n F = some (v, hE) → ∀ (ls : Array Slot) (H : Heap) (locs : List Loc) (cells slots : Nat), lv_has ls nL (pm_lv b base F.2.1) → va_P D cl (pm_ws (pm_tr cA b base) base F.2.2.2) H → va_S (fun q => base ≤ q) s.heap H locs → cells + n0 = F.2.2.2.length → slots + z0 = pm_sls F.2.2.2 →
      W p l e R s m args below meth c H locs cells slots Q (F0 m F.1 ls (F.2.2.1.map (pm_sh b base))) := by
  have hmono : pm_MonoC call := fun k as h h' v q => (hcall k as h h' v q).1
  intro n
  induction n with
  | zero => intro F q; cases q
  | succ n ih =>
    intro F q ls H locs cells slots hl hP hS hc hs
    have hle := pm_run_le2 hmono _ _ _ _ q
    rw [pm_run_succ] at q
    split at q
    · cases q
    · rename_i qi ei
      obtain ⟨k1, k2, k3, k4, k5, k6, k7⟩ := hI _ _ ei
      obtain ⟨i, len, r1, r2, cst, hh⟩ := qi
      obtain ⟨pc, lv, st, h⟩ := F
      dsimp only at k1 k2 k3 k4 k5 k6 k7 hl hP hc hs hle ei ⊢
      by_cases hpp : i = .pop2
      · subst hpp
        have k2 : len = 1 := k2
        subst k2
        split at q
        · cases q
        · rename_i F' es
          obtain ⟨x, r, e1, e2⟩ := pm_step2_pop es
          subst e1
          cases e2
          exact lv_pop2_2 hx hb k1 (by rw [pm_sh_c]; rfl) (ih _ q ls H locs cells slots hl hP hS hc hs)
        · rename_i r es
          obtain ⟨x, r', e1, e2⟩ := pm_step2_pop es
          cases e2
      rw [pm_step2_ne hpp] at q
      split at q
      · cases q
      · rename_i F' es
        have hleF := pm_run_le2 hmono _ _ _ _ q
        simp only [pm_step] at es
        unfold pm_lenOk at k2
        split at es
        · rename_i eg
          rw [eg] at k2
          have k2 := k2
          subst k2
          obtain ⟨st', q1, e9⟩ := pm_o0_s es
          cases e9
          exact pm_g0 hx hb k1 hown (fun x hx => hts _ (k4 x hx)) (fun x hx => hts _ (k5 x hx)) q1 (ih _ q ls H locs cells slots hl hP hS hc hs)
        · rename_i eg
          rw [eg] at k2
          have k2 := k2
          subst k2
          obtain ⟨v', q1, e9⟩ := pm_o1_s es
          cases e9
          exact pm_g1 hx hb k1 hl q1 (ih _ q ls H locs cells slots hl hP hS hc hs)
        · rename_i eg
          rw [eg] at k2
          have k2 := k2
          subst k2
          obtain ⟨lv', st', q1, e9⟩ := pm_o2_s es
          cases e9
          exact pm_g2 hx hb k1 hl q1 (fun ls' hl' => ih _ q ls' H locs cells slots hl' hP hS hc hs)
        · rename_i eg
          rw [eg] at k2
          obtain ⟨pc', st', q1, e9⟩ := pm_o3_s es
          cases e9
          exact pm_g3 hx hb k1 k2 k3 q1 (ih _ q ls H locs cells slots hl hP hS hc hs)
        · rename_i eg
          rw [eg] at k2
          have k2 := k2
          subst k2
          obtain ⟨st', h', q1, e9⟩ := pm_o4_s es
          cases e9
          exact pm_g4 hx hb hts hcl hown hK hSc hP hS h0 hc hs (Nat.le_trans hleF.1 hr1) (Nat.le_trans hleF.2 hr2) k6 k1 q1 (fun H1 locs1 cells1 slots1 hP1 hS1 hc1 hs1 => ih _ q ls H1 locs1 cells1 slots1 hl hP1 hS1 hc1 hs1)
        · rename_i eg
          rw [eg] at k2
          have k2 := k2
          subst k2
          obtain ⟨st', h', q1, e9⟩ := pm_o4_s es
          cases e9
          exact pm_g5 hx hb hml hst hts hms hown hK hcall hd hlo hP hS h0 hc hs (Nat.le_trans hleF.1 hr1) (Nat.le_trans hleF.2 hr2) hl.1 k7 k1 q1 (fun H1 locs1 cells1 slots1 hP1 hS1 hc1 hs1 => ih _ q ls H1 locs1 cells1 slots1 hl hP1 hS1 hc1 hs1)
        · obtain ⟨v', q1, e9⟩ := pm_o6_s es
          cases e9
      · rename_i r es
        cases q
        simp only [pm_step] at es
        unfold pm_lenOk at k2
        split at es
        · obtain ⟨st', q1, e9⟩ := pm_o0_s es; cases e9
        · obtain ⟨st', q1, e9⟩ := pm_o1_s es; cases e9
        · obtain ⟨lv', st', q1, e9⟩ := pm_o2_s es; cases e9
        · obtain ⟨pc', st', q1, e9⟩ := pm_o3_s es; cases e9
        · obtain ⟨st', h', q1, e9⟩ := pm_o4_s es; cases e9
        · obtain ⟨st', h', q1, e9⟩ := pm_o4_s es; cases e9
        · obtain ⟨v', q1, e9⟩ := pm_o6_s es
          cases e9
          have k9 : len = 1 := by
            split at k2 <;> first | exact k2 | (rename_i h9; simp_all; done) | contradiction
          subst k9
          exact hend i pc ls st H locs cells slots k1 q1 hP hS hc hs
end PM6
/-- the law's run of the small machine -/
noncomputable def pm_law2 (fuel : Nat) (L : Nat) (xs : Nat → Int32) : Option pm_R := pm_run (pm_step2 pm_cs pm_ms (pm_call pm_cs pm_ms pm_ins fuel 9) (some (L, xs)) 4 (some .boolean)) (pm_at_pc pd_law) fuel (0, [(0, .ref 0)], [], [])
set_option maxHeartbeats 2000000 in
/-- what the small machine answers is what the claim asks -/
theorem pm_whole2 {p : Program} {e : Env} {s : State} {m : MethodId} {below : List Frame} {meth : Method} {c : Code} (l : Launch) {b L : Nat} {xs : Nat → Int32} (C0 : lw_At p s m meth c b L xs) {fuel : Nat} {hE : pm_H} (hrun : pm_law2 fuel L xs = some (some (.int 1), hE)) (h1 : hE.length ≤ 600000) (h2 : pm_sls hE ≤ 7302250) :
    W p l e room_1 s m #[Value.ref b] below meth c s.heap [] 0 0 (lw_Z below #[Value.ref b] s) (entryFrame m ([Value.ref b] : List Value).toArray 4) := by
  obtain ⟨hx, hb, hr, hml, hown, hts0, hX, hbl, hlocks, hgv⟩ := C0
  have hts : ∀ w ∈ pm_TB, w.before #[Value.ref b] s = true := fun w hw => hts0 w (List.mem_filter.mp hw).1
  have hst : ∀ w ∈ pm_TB, pm_stb w = true := fun w hw => (List.mem_filter.mp hw).2
  obtain ⟨D, cA, hK⟩ := pm_known hts
  have hms : pm_msOk pm_ms pm_TB := qd_ms pm_tabOk
  have hins : pm_insOk vwCl pm_TB pm_RD pm_ms pm_ins := qd_ins pm_tabOk
  have hcall := pm_callOk (l := l) (fuel := fuel) hst pm_clsOk2 hms hins 9
  have hl := lv_entry ([.ref b]) (n := 4) (Nat.le_of_ble_eq_true rfl)
  rw [lg_entry_eq]
  generalize (lg_sl ([.ref b]) ++ List.replicate (4 - (lg_sl ([.ref b])).length) Slot.unset).toArray = ls at hl ⊢
  have hl : lv_has ls 4 (pm_lv b s.heap.size [(0, .ref 0)]) := hl
  have hP : va_P D vwCl (pm_ws (pm_tr cA b s.heap.size) s.heap.size []) s.heap := fun k q h => by cases h
  refine pm_runOk2 (R := room_1) (scr := some (L, xs)) (n0 := 0) (z0 := 0) (hE := hE) (v := some (.int 1)) (cs := pm_cs) (ins := pm_at_pc pd_law) hx hb hml hst hts pm_clsOk2 hms hown hK (fun n ys e9 => by cases e9; exact ⟨hX, hbl, hbl⟩) hcall (Nat.le_of_ble_eq_true rfl) (Nat.le_of_ble_eq_true rfl) (fun pc q e9 => pm_okI_nm (pk_law e9)) (Nat.add_zero _).symm (by show hE.length ≤ 0 + 600000; omega) (by show pm_sls hE ≤ 0 + 7302250; omega) ?_ fuel (0, [(0, .ref 0)], [], []) hrun ls s.heap [] 0 0 hl hP va_S.rf rfl rfl
  intro i pc ls st H locs cells slots hdg q1 hP1 hS1 hc1 hs1
  cases i <;> simp only [pm_ret] at q1 <;> try exact pm_no q1
  case ireturn =>
    split at q1
    · rename_i e9; cases e9
    · split at q1
      · cases q1
        refine va_forget (fun q hq => hS1.2.2 q hq) ?_
        refine W.widen (k := 600000) (n := 7302250) (by omega) (by omega) ?_
        exact lw_ret hx hb hr hlocks hdg
      · cases q1
    · cases q1
  all_goals (split at q1 <;> cases q1)

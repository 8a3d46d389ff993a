/-! walking the small machine, an instruction a row -/
theorem pm_r {step : pm_I → pm_F → pm_O} {ins : Nat → Option pm_I} {n : Nat} {F F' : pm_F} {q : pm_I} {r : Option pm_R} (h1 : ins F.1 = some q) (h2 : step q F = some (.inl F')) (h3 : pm_run step ins n F' = r) : pm_run step ins (n + 1) F = r := by
  rw [pm_run_succ, h1]
  dsimp only
  rw [h2]
  exact h3
theorem pm_rE {step : pm_I → pm_F → pm_O} {ins : Nat → Option pm_I} {n : Nat} {F : pm_F} {q : pm_I} {x : pm_R} (h1 : ins F.1 = some q) (h2 : step q F = some (.inr x)) : pm_run step ins (n + 1) F = some x := by
  rw [pm_run_succ, h1]
  dsimp only
  rw [h2]
section PMW
variable {cs : Nat → List Value} {ms : Nat → Option pm_M} {call : pm_C} {scr : pm_S} {nL : Nat} {rt : Option FieldType} {pc len r1 r2 : Nat} {cst : Int} {hs : List (Nat × Nat)} {lv : pm_L} {st r : List Value} {h h' : pm_H}
theorem pm_sG {x a : Nat} {v : Value} (hf : pm_gf r1 r2 (pm_cell h a) = some v) : pm_step cs ms call scr nL rt (.getfield x, len, r1, r2, cst, hs) (pc, lv, .ref a :: r, h) = some (.inl (pc + 3, lv, v :: r, h)) := by
  show pm_o4 _ _ (pm_psh h r (pm_gf r1 r2 (pm_cell h a))) = _
  rw [hf]; rfl
theorem pm_sP {x a : Nat} {v : Value} {y : pm_E} (hf : pm_pf r1 r2 cst v (pm_cell h a) = some y) : pm_step cs ms call scr nL rt (.putfield x, len, r1, r2, cst, hs) (pc, lv, v :: .ref a :: r, h) = some (.inl (pc + 3, lv, r, pm_wr h a y)) := by
  show pm_o4 _ _ (pm_wrs h a r (pm_pf r1 r2 cst v (pm_cell h a))) = _
  rw [hf]; rfl
theorem pm_sV {x na ci a nl : Nat} {y : MethodName} {bs : ByteArray} {rt' : Option FieldType} {as : List Value} {v : Option Value} (hm : ms r1 = some (y, bs, nl, rt', na, ci)) (hp : pm_pop_n na [] st = some (as, .ref a :: r)) (hw : Nat.ble (pm_wt r) 8 = true) (ho : pm_clsOk ci (pm_cell h a) = true) (hc : call r1 (.ref a :: as) h = some (v, h')) :
    pm_step cs ms call scr nL rt (.invokevirtual x, len, r1, r2, cst, hs) (pc, lv, st, h) = some (.inl (pc + 3, lv, v.toList ++ r, h')) := by
  have e : pm_na ms r1 = (na, ci) := by unfold pm_na; rw [hm]
  show pm_o4 _ _ (pm_inv call (.invokevirtual x) r1 (pm_na ms r1).1 (pm_na ms r1).2 st h) = _
  rw [e]
  simp only [pm_inv]
  rw [hp]
  dsimp only
  rw [hw, ho, hc]
  rfl
theorem pm_sS {x na ci nl : Nat} {y : MethodName} {bs : ByteArray} {rt' : Option FieldType} {as : List Value} {v : Option Value} (hm : ms r1 = some (y, bs, nl, rt', na, ci)) (hp : pm_pop_n na [] st = some (as, r)) (hw : Nat.ble (pm_wt r) 8 = true) (hc : call r1 as h = some (v, h')) :
    pm_step cs ms call scr nL rt (.invokestatic x, len, r1, r2, cst, hs) (pc, lv, st, h) = some (.inl (pc + 3, lv, v.toList ++ r, h')) := by
  have e : pm_na ms r1 = (na, ci) := by unfold pm_na; rw [hm]
  show pm_o4 _ _ (pm_inv call (.invokestatic x) r1 (pm_na ms r1).1 (pm_na ms r1).2 st h) = _
  rw [e]
  simp only [pm_inv]
  rw [hp]
  dsimp only
  rw [hw, hc]
  rfl
theorem pm_sI {x k na ci a nl : Nat} {y : MethodName} {bs : ByteArray} {rt' : Option FieldType} {as : List Value} {v : Option Value} (hm : ms (k + 1) = some (y, bs, nl, rt', na, ci)) (hp : pm_pop_n na [] st = some (as, .ref a :: r)) (hw : Nat.ble (pm_wt r) 8 = true) (hc : call (k + 1) (.ref a :: as) h = some (v, h')) :
    pm_step cs ms call scr nL rt (.invokespecial x, len, k + 1, r2, cst, hs) (pc, lv, st, h) = some (.inl (pc + 3, lv, v.toList ++ r, h')) := by
  have e : pm_na ms (k + 1) = (na, ci) := by unfold pm_na; rw [hm]
  show pm_o4 _ _ (pm_inv call (.invokespecial x) (k + 1) (pm_na ms (k + 1)).1 (pm_na ms (k + 1)).2 st h) = _
  rw [e]
  simp only [pm_inv]
  rw [hp]
  dsimp only
  rw [hw, hc]
  rfl
theorem pm_sN {x a : Nat} {e : pm_E} (he : (.inr (r1, cs r1) : pm_E) = e) (hl : h.length + 1 = a) : pm_step cs ms call scr nL rt (.new x, len, r1, r2, cst, hs) (pc, lv, st, h) = some (.inl (pc + 3, lv, .ref a :: st, h ++ [e])) := by
  subst he; subst hl; rfl
theorem pm_sJ {i : Instr} {pc' : Nat} {st' : List Value} (hg : pm_grp i = 3) (hj : pm_jmp i pc r1 st = some (pc', st')) : pm_step cs ms call scr nL rt (i, len, r1, r2, cst, hs) (pc, lv, st, h) = some (.inl (pc', lv, st', h)) := by
  show (match pm_grp i with
    | 0 => pm_o0 (pc + pm_aln i) lv h (pm_alu i cst st)
    | 1 => pm_o1 (pc + pm_ldn i) lv st h (pm_ld i lv)
    | 2 => pm_o2 (pc + pm_ston i) h (pm_sto nL i lv st)
    | 3 => pm_o3 lv h (pm_jmp i pc r1 st)
    | 4 => pm_o4 (pc + pm_memn i) lv (pm_mem cs scr i r1 r2 cst st h)
    | 5 => pm_o4 (pc + 3) lv (pm_inv call i r1 (pm_na ms r1).1 (pm_na ms r1).2 st h)
    | _ => pm_o6 h (pm_ret i rt st)) = _
  rw [hg]
  show pm_o3 lv h (pm_jmp i pc r1 st) = _
  rw [hj]
  rfl
end PMW
theorem pm_jt {b : Bool} {t pc : Nat} {r : List Value} (h : b = true) : pm_if b t pc r = some (t, r) := by subst h; rfl
theorem pm_jf {b : Bool} {t pc : Nat} {r : List Value} (h : b = false) : pm_if b t pc r = some (pc + 3, r) := by subst h; rfl
theorem pm_swO {dflt lo hi : Int} {offs : Array Int} {x : Int32} {pc t pc' : Nat} {r r' : List Value} (h : x.toInt < lo ∨ hi < x.toInt) (hs : pm_sw pc dflt r = some (pc', r')) : pm_jmp (.tableswitch dflt lo hi offs) pc t (.int x :: r) = some (pc', r') := by
  simp only [pm_jmp]
  rw [if_pos h]
  exact hs
theorem pt_getD {o : Option pm_E} {d : pm_E} (h : o.isSome = true) : o = some (o.getD d) := by
  cases o with
  | none => cases h
  | some x => rfl
noncomputable def pt_h (o : Option pm_R) : pm_H := match o with
  | some (_, h) => h
  | none => []
noncomputable def pt_v (o : Option pm_R) : Option Value := match o with
  | some (v, _) => v
  | none => none
theorem pt_some {o : Option pm_R} {v : Option Value} (h : (o.isSome && decide (pt_v o = v)) = true) : o = some (v, pt_h o) := by
  rw [Bool.and_eq_true, decide_eq_true_eq] at h
  cases o with
  | none => cases h.1
  | some x =>
    obtain ⟨w, y⟩ := x
    obtain ⟨-, h2⟩ := h
    cases h2
    rfl
noncomputable abbrev pC (d k : Nat) (as : List Value) (h : pm_H) : Option pm_R := pm_call pm_cs pm_ms pm_ins 10000 d k as h
/-- a call is its method's run -/
theorem pm_cE {d k nL na ci : Nat} {y : MethodName} {bs : ByteArray} {rt : Option FieldType} {as : List Value} {h : pm_H} {r : Option pm_R} (hm : pm_ms k = some (y, bs, nL, rt, na, ci)) (hw : Nat.ble (pm_wt as) nL = true) (hr : pm_run (pm_step pm_cs pm_ms (pC d) none nL rt) (pm_ins k) 10000 (0, lv_args 0 as, [], h) = r) : pC (d + 1) k as h = r := by
  show pm_call pm_cs pm_ms pm_ins 10000 (d + 1) k as h = r
  rw [pm_call_succ, hm]
  dsimp only
  rw [hw]
  exact hr
noncomputable def ph_0 : pm_H := [.inr (10, pm_cs 10)]
noncomputable def ph_1 : pm_H := pt_h (pC 9 101 [.ref 1] ph_0)
noncomputable def ph_2 : pm_H := ph_1 ++ [.inr (11, pm_cs 11)]
/-- both made -/
noncomputable def ph_3 : pm_H := pt_h (pC 9 145 [.ref 225] ph_2)
set_option maxRecDepth 100000 in
theorem pc_1 : pC 9 101 [.ref 1] ph_0 = some (none, ph_1) := pt_some (by decide +kernel)
set_option maxRecDepth 100000 in
theorem pz_1 : ph_1.length + 1 = 225 := by decide +kernel
set_option maxRecDepth 100000 in
theorem pc_3 : pC 9 145 [.ref 225] ph_2 = some (none, ph_3) := pt_some (by decide +kernel)
set_option maxRecDepth 100000 in
theorem pz_3 : (Nat.ble ph_3.length 600000 && Nat.ble (pm_sls ph_3) 7302250) = true := by decide +kernel
set_option maxRecDepth 100000 in
theorem po_3 : (pm_clsOk 10 (pm_cell ph_3 1) && pm_clsOk 11 (pm_cell ph_3 225)) = true := by decide +kernel
/-- a call on both, freshly made, with one answer -/
def pq_ok (kx km : Nat) (as : List Value) (v : Value) : Prop := ∃ h1 h2, pC 9 kx (.ref 1 :: as) ph_3 = some (some v, h1) ∧ pC 9 km (.ref 225 :: as) h1 = some (some v, h2) ∧ pm_clsOk 11 (pm_cell h1 225) = true ∧ h2.length ≤ 600000 ∧ pm_sls h2 ≤ 7302250
noncomputable def pq_ck (kx km : Nat) (as : List Value) (v : Value) : Bool := match pC 9 kx (.ref 1 :: as) ph_3 with
  | some (some w, h1) => match pC 9 km (.ref 225 :: as) h1 with
    | some (some u, h2) => decide (w = v) && (decide (u = v) && (pm_clsOk 11 (pm_cell h1 225) && (Nat.ble h2.length 600000 && Nat.ble (pm_sls h2) 7302250)))
    | _ => false
  | _ => false
theorem pq_of {kx km : Nat} {as : List Value} {v : Value} (h : pq_ck kx km as v = true) : pq_ok kx km as v := by
  unfold pq_ck at h
  split at h
  · rename_i w h1 e1
    split at h
    · rename_i u h2 e2
      simp only [Bool.and_eq_true, decide_eq_true_eq] at h
      obtain ⟨rfl, rfl, g1, g2, g3⟩ := h
      exact ⟨h1, h2, e1, e2, g1, Nat.le_of_ble_eq_true g2, Nat.le_of_ble_eq_true g3⟩
    · cases h
  · cases h
set_option maxRecDepth 100000 in
theorem pq_ground : pq_ok 105 171 [] (.int 0) := pq_of (by decide +kernel)

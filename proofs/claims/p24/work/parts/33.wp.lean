/-! walking the small machine, an instruction a row -/
theorem pm_r {step : pm_I → pm_F → pm_O} {ins : Nat → Option pm_I} {n : Nat} {F F' : pm_F} {q : pm_I} {r : Option pm_R} (h1 : ins F.1 = some q) (h2 : step q F = some (.inl F')) (h3 : pm_run step ins n F' = r) : pm_run step ins (n + 1) F = r := by
  rw [pm_run_succ, h1]
  dsimp only
  rw [h2]
  exact h3
theorem pm_rE {step : pm_I → pm_F → pm_O} {ins : Nat → Option pm_I} {n : Nat} {F : pm_F} {q : pm_I} {x : pm_R} (h1 : ins F.1 = some q) (h2 : step q F = some (.inr x)) : pm_run step ins (n + 1) F = some x := by
  rw [pm_run_succ, h1]
  dsimp only
  rw [h2]
section PMW
variable {cs : Nat → List Value} {ms : Nat → Option pm_M} {call : pm_C} {scr : pm_S} {nL : Nat} {rt : Option FieldType} {pc len r1 r2 : Nat} {cst : Int} {hs : List (Nat × Nat)} {lv : pm_L} {st r : List Value} {h h' : pm_H}
theorem pm_sV {x na ci a nl : Nat} {y : MethodName} {bs : ByteArray} {rt' : Option FieldType} {as : List Value} {v : Option Value} (hm : ms r1 = some (y, bs, nl, rt', na, ci)) (hp : pm_pop_n na [] st = some (as, .ref a :: r)) (hw : Nat.ble (pm_wt r) 8 = true) (ho : pm_clsOk ci (pm_cell h a) = true) (hc : call r1 (.ref a :: as) h = some (v, h')) :
    pm_step cs ms call scr nL rt (.invokevirtual x, len, r1, r2, cst, hs) (pc, lv, st, h) = some (.inl (pc + 3, lv, v.toList ++ r, h')) := by
  have e : pm_na ms r1 = (na, ci) := by unfold pm_na; rw [hm]
  show pm_o4 _ _ (pm_inv call (.invokevirtual x) r1 (pm_na ms r1).1 (pm_na ms r1).2 st h) = _
  rw [e]
  simp only [pm_inv]
  rw [hp]
  dsimp only
  rw [hw, ho, hc]
  rfl
theorem pm_sS {x na ci nl : Nat} {y : MethodName} {bs : ByteArray} {rt' : Option FieldType} {as : List Value} {v : Option Value} (hm : ms r1 = some (y, bs, nl, rt', na, ci)) (hp : pm_pop_n na [] st = some (as, r)) (hw : Nat.ble (pm_wt r) 8 = true) (hc : call r1 as h = some (v, h')) :
    pm_step cs ms call scr nL rt (.invokestatic x, len, r1, r2, cst, hs) (pc, lv, st, h) = some (.inl (pc + 3, lv, v.toList ++ r, h')) := by
  have e : pm_na ms r1 = (na, ci) := by unfold pm_na; rw [hm]
  show pm_o4 _ _ (pm_inv call (.invokestatic x) r1 (pm_na ms r1).1 (pm_na ms r1).2 st h) = _
  rw [e]
  simp only [pm_inv]
  rw [hp]
  dsimp only
  rw [hw, hc]
  rfl
theorem pm_sI {x k na ci a nl : Nat} {y : MethodName} {bs : ByteArray} {rt' : Option FieldType} {as : List Value} {v : Option Value} (hm : ms (k + 1) = some (y, bs, nl, rt', na, ci)) (hp : pm_pop_n na [] st = some (as, .ref a :: r)) (hw : Nat.ble (pm_wt r) 8 = true) (hc : call (k + 1) (.ref a :: as) h = some (v, h')) :
    pm_step cs ms call scr nL rt (.invokespecial x, len, k + 1, r2, cst, hs) (pc, lv, st, h) = some (.inl (pc + 3, lv, v.toList ++ r, h')) := by
  have e : pm_na ms (k + 1) = (na, ci) := by unfold pm_na; rw [hm]
  show pm_o4 _ _ (pm_inv call (.invokespecial x) (k + 1) (pm_na ms (k + 1)).1 (pm_na ms (k + 1)).2 st h) = _
  rw [e]
  simp only [pm_inv]
  rw [hp]
  dsimp only
  rw [hw, hc]
  rfl
theorem pm_sN {x a : Nat} {e : pm_E} (he : (.inr (r1, cs r1) : pm_E) = e) (hl : h.length + 1 = a) : pm_step cs ms call scr nL rt (.new x, len, r1, r2, cst, hs) (pc, lv, st, h) = some (.inl (pc + 3, lv, .ref a :: st, h ++ [e])) := by
  subst he; subst hl; rfl
theorem pm_sJ {i : Instr} {pc' : Nat} {st' : List Value} (hg : pm_grp i = 3) (hj : pm_jmp i pc r1 st = some (pc', st')) : pm_step cs ms call scr nL rt (i, len, r1, r2, cst, hs) (pc, lv, st, h) = some (.inl (pc', lv, st', h)) := by
  show (match pm_grp i with
    | 0 => pm_o0 (pc + pm_aln i) lv h (pm_alu i cst st)
    | 1 => pm_o1 (pc + pm_ldn i) lv st h (pm_ld i lv)
    | 2 => pm_o2 (pc + pm_ston i) h (pm_sto nL i lv st)
    | 3 => pm_o3 lv h (pm_jmp i pc r1 st)
    | 4 => pm_o4 (pc + pm_memn i) lv (pm_mem cs scr i r1 r2 cst st h)
    | 5 => pm_o4 (pc + 3) lv (pm_inv call i r1 (pm_na ms r1).1 (pm_na ms r1).2 st h)
    | _ => pm_o6 h (pm_ret i rt st)) = _
  rw [hg]
  show pm_o3 lv h (pm_jmp i pc r1 st) = _
  rw [hj]
  rfl
end PMW
theorem pm_jt {b : Bool} {t pc : Nat} {r : List Value} (h : b = true) : pm_if b t pc r = some (t, r) := by subst h; rfl
theorem pm_jf {b : Bool} {t pc : Nat} {r : List Value} (h : b = false) : pm_if b t pc r = some (pc + 3, r) := by subst h; rfl
/-! what a method comes to: no fuel is named -/
noncomputable abbrev wS (d nL : Nat) (rt : Option FieldType) (f : Nat) : pm_I → pm_F → pm_O := pm_step pm_cs pm_ms (pm_call pm_cs pm_ms pm_ins f d) none nL rt
/-- from the frame F the method k ends, with Q -/
def wp_ (d k nL : Nat) (rt : Option FieldType) (F : pm_F) (Q : pm_R → Prop) : Prop := ∃ (n f0 : Nat) (r : pm_R), (∀ f, f0 ≤ f → ∀ u, pm_run (wS d nL rt f) (pm_ins k) (u + n) F = some r) ∧ Q r
/-- a call ends, with Q -/
def wc (d k : Nat) (as : List Value) (h : pm_H) (Q : pm_R → Prop) : Prop := ∃ (f0 : Nat) (r : pm_R), (∀ f, f0 ≤ f → pm_call pm_cs pm_ms pm_ins f d k as h = some r) ∧ Q r
theorem wc_mono {d k : Nat} {as : List Value} {h : pm_H} {Q Q' : pm_R → Prop} (w : wc d k as h Q) (hq : ∀ r, Q r → Q' r) : wc d k as h Q' := by
  obtain ⟨f0, r, h1, h2⟩ := w
  exact ⟨f0, r, h1, hq r h2⟩
section WP
variable {d k nL : Nat} {rt : Option FieldType} {Q : pm_R → Prop}
theorem w_s {F F' : pm_F} {q : pm_I} (h1 : pm_ins k F.1 = some q) (h2 : ∀ call, pm_step pm_cs pm_ms call none nL rt q F = some (.inl F')) (w : wp_ d k nL rt F' Q) : wp_ d k nL rt F Q := by
  obtain ⟨n, f0, r, h3, h4⟩ := w
  refine ⟨n + 1, f0, r, fun f hf u => ?_, h4⟩
  exact pm_r h1 (h2 _) (h3 f hf u)
theorem w_e {F : pm_F} {q : pm_I} {r : pm_R} (h1 : pm_ins k F.1 = some q) (h2 : ∀ call, pm_step pm_cs pm_ms call none nL rt q F = some (.inr r)) (hq : Q r) : wp_ d k nL rt F Q := ⟨1, 0, r, fun f _ u => pm_rE h1 (h2 _), hq⟩
theorem w_m {y : MethodName} {bs : ByteArray} {na ci : Nat} {as : List Value} {h : pm_H} (hm : pm_ms k = some (y, bs, nL, rt, na, ci)) (hw : Nat.ble (pm_wt as) nL = true) (w : wp_ d k nL rt (0, lv_args 0 as, [], h) Q) : wc (d + 1) k as h Q := by
  obtain ⟨n, f0, r, h3, h4⟩ := w
  refine ⟨max f0 n, r, fun f hf => ?_, h4⟩
  rw [pm_call_succ, hm]
  dsimp only
  rw [hw]
  have e := h3 f (by omega) (f - n)
  rw [show f - n + n = f by omega] at e
  exact e
theorem w_v {pc len k' r2 x na ci a nl : Nat} {cst : Int} {hs : List (Nat × Nat)} {lv : pm_L} {st r as : List Value} {h : pm_H} {y : MethodName} {bs : ByteArray} {rt' : Option FieldType} {Qc : pm_R → Prop} (h1 : pm_ins k pc = some (.invokevirtual x, len, k', r2, cst, hs)) (hm : pm_ms k' = some (y, bs, nl, rt', na, ci)) (hp : pm_pop_n na [] st = some (as, .ref a :: r)) (hw : Nat.ble (pm_wt r) 8 = true) (ho : pm_clsOk ci (pm_cell h a) = true) (hc : wc d k' (.ref a :: as) h Qc)
    (w : ∀ v h', Qc (v, h') → wp_ d k nL rt (pc + 3, lv, v.toList ++ r, h') Q) : wp_ d k nL rt (pc, lv, st, h) Q := by
  obtain ⟨f1, ⟨v, h'⟩, c1, c2⟩ := hc
  obtain ⟨n, f0, r', h3, h4⟩ := w v h' c2
  refine ⟨n + 1, max f0 f1, r', fun f hf u => ?_, h4⟩
  exact pm_r h1 (pm_sV hm hp hw ho (c1 f (by omega))) (h3 f (by omega) u)
theorem w_st {pc len k' r2 x na ci nl : Nat} {cst : Int} {hs : List (Nat × Nat)} {lv : pm_L} {st r as : List Value} {h : pm_H} {y : MethodName} {bs : ByteArray} {rt' : Option FieldType} {Qc : pm_R → Prop} (h1 : pm_ins k pc = some (.invokestatic x, len, k', r2, cst, hs)) (hm : pm_ms k' = some (y, bs, nl, rt', na, ci)) (hp : pm_pop_n na [] st = some (as, r)) (hw : Nat.ble (pm_wt r) 8 = true) (hc : wc d k' as h Qc)
    (w : ∀ v h', Qc (v, h') → wp_ d k nL rt (pc + 3, lv, v.toList ++ r, h') Q) : wp_ d k nL rt (pc, lv, st, h) Q := by
  obtain ⟨f1, ⟨v, h'⟩, c1, c2⟩ := hc
  obtain ⟨n, f0, r', h3, h4⟩ := w v h' c2
  refine ⟨n + 1, max f0 f1, r', fun f hf u => ?_, h4⟩
  exact pm_r h1 (pm_sS hm hp hw (c1 f (by omega))) (h3 f (by omega) u)
/-- branches -/
theorem w_br {pc len t r2 : Nat} {cst : Int} {hs : List (Nat × Nat)} {i : Instr} {lv : pm_L} {st r : List Value} {h : pm_H} {P P' : Prop} {inst : Decidable P} (h1 : pm_ins k pc = some (i, len, t, r2, cst, hs)) (hg : pm_grp i = 3) (hj : pm_jmp i pc t st = pm_if (decide P) t pc r) (he : P ↔ P') (wt : P' → wp_ d k nL rt (t, lv, r, h) Q) (wf : ¬ P' → wp_ d k nL rt (pc + 3, lv, r, h) Q) : wp_ d k nL rt (pc, lv, st, h) Q := by
  by_cases hP : P
  · exact w_s (F' := (t, lv, r, h)) h1 (fun call => pm_sJ hg (hj.trans (pm_jt (decide_eq_true hP)))) (wt (he.mp hP))
  · exact w_s (F' := (pc + 3, lv, r, h)) h1 (fun call => pm_sJ hg (hj.trans (pm_jf (decide_eq_false hP)))) (wf (fun q => hP (he.mpr q)))
end WP
theorem ofI_0 : (0 : Int32) = Int32.ofInt 0 := by decide
theorem inI_0 : inI 0 := ⟨by decide, by decide⟩
section WB
variable {d k nL : Nat} {rt : Option FieldType} {Q : pm_R → Prop} {pc len t r2 : Nat} {cst off : Int} {hs : List (Nat × Nat)} {lv : pm_L} {r : List Value} {h : pm_H} {a b : Int}
theorem w_ieq (h1 : pm_ins k pc = some (.if_icmp .eq off, len, t, r2, cst, hs)) (ha : inI a) (hb : inI b) (wt : a = b → wp_ d k nL rt (t, lv, r, h) Q) (wf : ¬ a = b → wp_ d k nL rt (pc + 3, lv, r, h) Q) : wp_ d k nL rt (pc, lv, .int (Int32.ofInt b) :: .int (Int32.ofInt a) :: r, h) Q := w_br h1 rfl rfl (ofI_eq ha hb) wt wf
theorem w_ine (h1 : pm_ins k pc = some (.if_icmp .ne off, len, t, r2, cst, hs)) (ha : inI a) (hb : inI b) (wt : ¬ a = b → wp_ d k nL rt (t, lv, r, h) Q) (wf : a = b → wp_ d k nL rt (pc + 3, lv, r, h) Q) : wp_ d k nL rt (pc, lv, .int (Int32.ofInt b) :: .int (Int32.ofInt a) :: r, h) Q := w_br h1 rfl rfl (not_congr (ofI_eq ha hb)) wt (fun q => wf (Decidable.of_not_not q))
theorem w_ilt (h1 : pm_ins k pc = some (.if_icmp .lt off, len, t, r2, cst, hs)) (ha : inI a) (hb : inI b) (wt : a < b → wp_ d k nL rt (t, lv, r, h) Q) (wf : b ≤ a → wp_ d k nL rt (pc + 3, lv, r, h) Q) : wp_ d k nL rt (pc, lv, .int (Int32.ofInt b) :: .int (Int32.ofInt a) :: r, h) Q := w_br h1 rfl rfl (ofI_lt ha hb) wt (fun q => wf (by omega))
theorem w_ige (h1 : pm_ins k pc = some (.if_icmp .ge off, len, t, r2, cst, hs)) (ha : inI a) (hb : inI b) (wt : b ≤ a → wp_ d k nL rt (t, lv, r, h) Q) (wf : a < b → wp_ d k nL rt (pc + 3, lv, r, h) Q) : wp_ d k nL rt (pc, lv, .int (Int32.ofInt b) :: .int (Int32.ofInt a) :: r, h) Q := w_br h1 rfl rfl (ofI_le hb ha) wt (fun q => wf (by omega))
theorem w_igt (h1 : pm_ins k pc = some (.if_icmp .gt off, len, t, r2, cst, hs)) (ha : inI a) (hb : inI b) (wt : b < a → wp_ d k nL rt (t, lv, r, h) Q) (wf : a ≤ b → wp_ d k nL rt (pc + 3, lv, r, h) Q) : wp_ d k nL rt (pc, lv, .int (Int32.ofInt b) :: .int (Int32.ofInt a) :: r, h) Q := w_br h1 rfl rfl (ofI_lt hb ha) wt (fun q => wf (by omega))
theorem w_ile (h1 : pm_ins k pc = some (.if_icmp .le off, len, t, r2, cst, hs)) (ha : inI a) (hb : inI b) (wt : a ≤ b → wp_ d k nL rt (t, lv, r, h) Q) (wf : b < a → wp_ d k nL rt (pc + 3, lv, r, h) Q) : wp_ d k nL rt (pc, lv, .int (Int32.ofInt b) :: .int (Int32.ofInt a) :: r, h) Q := w_br h1 rfl rfl (ofI_le ha hb) wt (fun q => wf (by omega))
theorem w_zeq (h1 : pm_ins k pc = some (.ifCond .eq off, len, t, r2, cst, hs)) (ha : inI a) (wt : a = 0 → wp_ d k nL rt (t, lv, r, h) Q) (wf : ¬ a = 0 → wp_ d k nL rt (pc + 3, lv, r, h) Q) : wp_ d k nL rt (pc, lv, .int (Int32.ofInt a) :: r, h) Q := w_br h1 rfl rfl (by rw [ofI_0]; exact ofI_eq ha inI_0) wt wf
theorem w_zne (h1 : pm_ins k pc = some (.ifCond .ne off, len, t, r2, cst, hs)) (ha : inI a) (wt : ¬ a = 0 → wp_ d k nL rt (t, lv, r, h) Q) (wf : a = 0 → wp_ d k nL rt (pc + 3, lv, r, h) Q) : wp_ d k nL rt (pc, lv, .int (Int32.ofInt a) :: r, h) Q := w_br h1 rfl rfl (not_congr (by rw [ofI_0]; exact ofI_eq ha inI_0)) wt (fun q => wf (Decidable.of_not_not q))
theorem w_zlt (h1 : pm_ins k pc = some (.ifCond .lt off, len, t, r2, cst, hs)) (ha : inI a) (wt : a < 0 → wp_ d k nL rt (t, lv, r, h) Q) (wf : 0 ≤ a → wp_ d k nL rt (pc + 3, lv, r, h) Q) : wp_ d k nL rt (pc, lv, .int (Int32.ofInt a) :: r, h) Q := w_br h1 rfl rfl (by rw [ofI_0]; exact ofI_lt ha inI_0) wt (fun q => wf (by omega))
theorem w_zge (h1 : pm_ins k pc = some (.ifCond .ge off, len, t, r2, cst, hs)) (ha : inI a) (wt : 0 ≤ a → wp_ d k nL rt (t, lv, r, h) Q) (wf : a < 0 → wp_ d k nL rt (pc + 3, lv, r, h) Q) : wp_ d k nL rt (pc, lv, .int (Int32.ofInt a) :: r, h) Q := w_br h1 rfl rfl (by rw [ofI_0]; exact ofI_le inI_0 ha) wt (fun q => wf (by omega))
theorem w_zgt (h1 : pm_ins k pc = some (.ifCond .gt off, len, t, r2, cst, hs)) (ha : inI a) (wt : 0 < a → wp_ d k nL rt (t, lv, r, h) Q) (wf : a ≤ 0 → wp_ d k nL rt (pc + 3, lv, r, h) Q) : wp_ d k nL rt (pc, lv, .int (Int32.ofInt a) :: r, h) Q := w_br h1 rfl rfl (by rw [ofI_0]; exact ofI_lt inI_0 ha) wt (fun q => wf (by omega))
theorem w_zle (h1 : pm_ins k pc = some (.ifCond .le off, len, t, r2, cst, hs)) (ha : inI a) (wt : a ≤ 0 → wp_ d k nL rt (t, lv, r, h) Q) (wf : 0 < a → wp_ d k nL rt (pc + 3, lv, r, h) Q) : wp_ d k nL rt (pc, lv, .int (Int32.ofInt a) :: r, h) Q := w_br h1 rfl rfl (by rw [ofI_0]; exact ofI_le ha inI_0) wt (fun q => wf (by omega))
end WB
section WA
variable {cs : Nat → List Value} {ms : Nat → Option pm_M} {call : pm_C} {scr : pm_S} {nL : Nat} {rt : Option FieldType} {pc len r1 r2 : Nat} {cst : Int} {hs : List (Nat × Nat)} {lv : pm_L} {r : List Value} {h : pm_H} {a b : Int}
end WA

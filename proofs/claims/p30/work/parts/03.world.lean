/-! how the small machine's values and cells lie in the machine's heap -/
def pm_ad (b base : Nat) (a : Nat) : Nat := match a with
  | 0 => b
  | a + 1 => base + a
def pm_sh (b base : Nat) (v : Value) : Value := match v with
  | .ref a => .ref (pm_ad b base a)
  | v => v
def pm_tr (cA : Nat → ClassId) (b base : Nat) (e : pm_E) : va_E := match e with
  | .inl (k, n, .inl f) => .inl (cA k, n, .inl f)
  | .inl (k, n, .inr (.inl f)) => .inl (cA k, n, .inr (.inl f))
  | .inl (k, n, .inr (.inr (.inl f))) => .inl (cA k, n, .inr (.inr (.inl f)))
  | .inl (k, n, .inr (.inr (.inr (.inl f)))) => .inl (cA k, n, .inr (.inr (.inr (.inl f))))
  | .inl (k, n, .inr (.inr (.inr (.inr f)))) => .inl (cA k, n, .inr (.inr (.inr (.inr (fun j => (f j).map (pm_ad b base))))))
  | .inr (c, fs) => .inr (c, fs.map (pm_sh b base))
/-- the cells as the kit's list: from the address i on -/
def pm_ws (g : pm_E → va_E) : Nat → pm_H → va_W
  | _, [] => []
  | i, e :: r => (i, g e) :: pm_ws g (i + 1) r
theorem pm_ws_get (g : pm_E → va_E) (h : pm_H) : ∀ i k, (pm_ws g i h)[k]? = (h[k]?).map (fun e => (i + k, g e)) := by
  induction h with
  | nil => intro i k; rfl
  | cons e r ih =>
    intro i k
    cases k with
    | zero => rfl
    | succ k =>
      show (pm_ws g (i + 1) r)[k]? = (r[k]?).map _
      rw [ih, show i + 1 + k = i + (k + 1) by omega]
theorem pm_ws_set (g : pm_E → va_E) (h : pm_H) (x : pm_E) : ∀ i k, (pm_ws g i h).set k (i + k, g x) = pm_ws g i (h.set k x) := by
  induction h with
  | nil => intro i k; rfl
  | cons e r ih =>
    intro i k
    cases k with
    | zero => rfl
    | succ k =>
      show (i, g e) :: (pm_ws g (i + 1) r).set k (i + (k + 1), g x) = (i, g e) :: pm_ws g (i + 1) (r.set k x)
      rw [← ih, show i + 1 + k = i + (k + 1) by omega]
theorem pm_ws_app (g : pm_E → va_E) (h t : pm_H) : ∀ i, pm_ws g i (h ++ t) = pm_ws g i h ++ pm_ws g (i + h.length) t := by
  induction h with
  | nil => intro i; rfl
  | cons e r ih =>
    intro i
    show (i, g e) :: pm_ws g (i + 1) (r ++ t) = (i, g e) :: (pm_ws g (i + 1) r ++ pm_ws g (i + (r.length + 1)) t)
    rw [ih, show i + 1 + r.length = i + (r.length + 1) by omega]
theorem pm_ws_D (g : pm_E → va_E) (base : Nat) (h : pm_H) : va_D (fun q => base ≤ q) (pm_ws g base h) := by
  refine ⟨fun i j p q hi hj hpq => ?_, fun k q hk => ?_⟩
  · rw [pm_ws_get] at hi hj
    cases e1 : h[i]? with
    | none => rw [e1] at hi; cases hi
    | some x =>
      cases e2 : h[j]? with
      | none => rw [e2] at hj; cases hj
      | some y =>
        rw [e1] at hi; rw [e2] at hj
        cases hi; cases hj
        have : base + i = base + j := hpq
        omega
  · rw [pm_ws_get] at hk
    cases e1 : h[k]? with
    | none => rw [e1] at hk; cases hk
    | some x =>
      rw [e1] at hk
      cases hk
      show base ≤ base + k
      omega
/-- slots in all -/
def pm_sl (e : pm_E) : Nat := match e with
  | .inl (_, n, _) => n
  | .inr (_, fs) => fs.length
def pm_sls : pm_H → Nat
  | [] => 0
  | e :: r => pm_sl e + pm_sls r
theorem pm_sls_app (h t : pm_H) : pm_sls (h ++ t) = pm_sls h + pm_sls t := by
  induction h with
  | nil => simp [pm_sls]
  | cons e r ih =>
    show pm_sl e + pm_sls (r ++ t) = pm_sl e + pm_sls r + pm_sls t
    rw [ih]; omega
theorem pm_sls_set (h : pm_H) : ∀ (k : Nat) (x y : pm_E), h[k]? = some x → pm_sl y = pm_sl x → pm_sls (h.set k y) = pm_sls h := by
  induction h with
  | nil => intro k x y hk; cases hk
  | cons e r ih =>
    intro k x y hk hy
    cases k with
    | zero =>
      cases hk
      show pm_sl y + pm_sls r = pm_sl e + pm_sls r
      rw [hy]
    | succ k =>
      show pm_sl e + pm_sls (r.set k y) = pm_sl e + pm_sls r
      rw [ih k x y hk hy]
/-- the heap H holds the cells h -/
def pm_P (D : va_G) (cl : List vw_C) (cA : Nat → ClassId) (b base : Nat) (h : pm_H) (H : Heap) : Prop := H.size = base + h.length ∧ va_P D cl (pm_ws (pm_tr cA b base) base h) H
theorem pm_sh_c (b base : Nat) (v : Value) : (pm_sh b base v).category = v.category := by cases v <;> rfl
theorem pm_cell_s {h : pm_H} {a : Nat} {e : pm_E} (q : pm_cell h a = some e) : ∃ k, a = k + 1 ∧ h[k]? = some e := by
  cases a with
  | zero => cases q
  | succ k => exact ⟨k, rfl, by rw [← pm_nth_eq]; exact q⟩
theorem pm_at {D : va_G} {cl : List vw_C} {cA : Nat → ClassId} {b base : Nat} {h : pm_H} {H : Heap} {k : Nat} {e : pm_E} (q : h[k]? = some e) : (pm_ws (pm_tr cA b base) base h)[k]? = some (base + k, pm_tr cA b base e) := by
  rw [pm_ws_get, q]; rfl
/-- variables -/
def pm_lv (b base : Nat) (l : pm_L) : pm_L := l.map (fun q => (q.1, pm_sh b base q.2))
theorem pm_lv_in {b base : Nat} {l : pm_L} {i : Nat} {v : Value} (h : (i, v) ∈ l) : (i, pm_sh b base v) ∈ pm_lv b base l := List.mem_map.mpr ⟨(i, v), h, rfl⟩
theorem pm_lv_get {b base : Nat} {l : pm_L} {i : Nat} {v : Value} {ls : Array Slot} {nL : Nat} (hl : lv_has ls nL (pm_lv b base l)) (h : pm_get l i = some v) : ls[i]? = some (.val (pm_sh b base v)) := hl.2.2 _ (pm_lv_in (pm_get_mem h))
theorem pm_lv_k {b base : Nat} {l : pm_L} {i : Nat} {v : Value} (h : pm_get l i = some v) : ∃ k : Nat, (pm_lv b base l)[k]? = some (i, pm_sh b base v) := List.getElem?_of_mem (pm_lv_in (pm_get_mem h))
theorem pm_c2_cat (v : Value) : (v.category == 2) = pm_c2 v := by cases v <;> rfl
theorem pm_st1_sub {b base i : Nat} {l : pm_L} {q : Nat × Value} (h : q ∈ pm_lv b base (pm_st1 i l)) : q ∈ (pm_lv b base l).filter (fun q => !(q.1 == i) && !(q.1 + 1 == i && q.2.category == 2)) := by
  obtain ⟨x, hx, rfl⟩ := List.mem_map.mp h
  rw [List.mem_filter]
  induction l with
  | nil => cases hx
  | cons y r ih =>
    unfold pm_st1 at hx
    split at hx
    · rename_i e1 e2
      rcases List.mem_cons.mp hx with rfl | hx
      · refine ⟨List.mem_map.mpr ⟨x, List.mem_cons_self, rfl⟩, ?_⟩
        have e3 : (x.1 == i) = false := by
          cases e4 : (x.1 == i) with
          | false => rfl
          | true => rw [beq_iff_eq] at e4; rw [e4] at e1; simp at e1
        have e5 : (x.1 + 1 == i && (pm_sh b base x.2).category == 2) = false := by
          rw [pm_sh_c, pm_c2_cat]
          cases e4 : (x.1 + 1 == i) with
          | false => rfl
          | true =>
            rw [beq_iff_eq] at e4
            rw [e4] at e2
            simpa using e2
        show (!(x.1 == i) && !(x.1 + 1 == i && (pm_sh b base x.2).category == 2)) = true
        rw [e3, e5]; rfl
      · obtain ⟨h1, h2⟩ := ih hx (List.mem_map.mpr ⟨x, hx, rfl⟩)
        exact ⟨by obtain ⟨z, hz, e⟩ := List.mem_map.mp h1; exact List.mem_map.mpr ⟨z, List.mem_cons_of_mem _ hz, e⟩, h2⟩
    · obtain ⟨h1, h2⟩ := ih hx (List.mem_map.mpr ⟨x, hx, rfl⟩)
      exact ⟨by obtain ⟨z, hz, e⟩ := List.mem_map.mp h1; exact List.mem_map.mpr ⟨z, List.mem_cons_of_mem _ hz, e⟩, h2⟩
theorem pm_st2_sub {b base i : Nat} {l : pm_L} {q : Nat × Value} (h : q ∈ pm_lv b base (pm_st2 i l)) : q ∈ (pm_lv b base l).filter (fun q => !(q.1 == i) && (!(q.1 == i + 1) && !(q.1 + 1 == i && q.2.category == 2))) := by
  obtain ⟨x, hx, rfl⟩ := List.mem_map.mp h
  rw [List.mem_filter]
  induction l with
  | nil => cases hx
  | cons y r ih =>
    unfold pm_st2 at hx
    split at hx
    · rename_i e1 e2
      rcases List.mem_cons.mp hx with rfl | hx
      · refine ⟨List.mem_map.mpr ⟨x, List.mem_cons_self, rfl⟩, ?_⟩
        rw [Bool.or_eq_false_iff] at e1
        have e3 : (x.1 == i) = false := by
          cases e4 : (x.1 == i) with
          | false => rfl
          | true => rw [beq_iff_eq] at e4; have := e1.1; rw [e4] at this; simp at this
        have e6 : (x.1 == i + 1) = false := by
          cases e4 : (x.1 == i + 1) with
          | false => rfl
          | true => rw [beq_iff_eq] at e4; have := e1.2; rw [e4] at this; simp at this
        have e5 : (x.1 + 1 == i && (pm_sh b base x.2).category == 2) = false := by
          rw [pm_sh_c, pm_c2_cat]
          cases e4 : (x.1 + 1 == i) with
          | false => rfl
          | true =>
            rw [beq_iff_eq] at e4
            rw [e4] at e2
            simpa using e2
        show (!(x.1 == i) && (!(x.1 == i + 1) && !(x.1 + 1 == i && (pm_sh b base x.2).category == 2))) = true
        rw [e3, e5, e6]; rfl
      · obtain ⟨h1, h2⟩ := ih hx (List.mem_map.mpr ⟨x, hx, rfl⟩)
        exact ⟨by obtain ⟨z, hz, e⟩ := List.mem_map.mp h1; exact List.mem_map.mpr ⟨z, List.mem_cons_of_mem _ hz, e⟩, h2⟩
    · obtain ⟨h1, h2⟩ := ih hx (List.mem_map.mpr ⟨x, hx, rfl⟩)
      exact ⟨by obtain ⟨z, hz, e⟩ := List.mem_map.mp h1; exact List.mem_map.mpr ⟨z, List.mem_cons_of_mem _ hz, e⟩, h2⟩
/-- of a list of variables, a smaller one -/
theorem pm_has_sub {ls : Array Slot} {nL : Nat} {l l' : pm_L} (h : lv_has ls nL l) (hs : ∀ q ∈ l', q ∈ l) : lv_has ls nL l' := ⟨h.1, h.2.1, fun q hq => h.2.2 q (hs q hq)⟩
theorem pm_has1 {ls : Array Slot} {nL b base i : Nat} {v : Value} {l : pm_L} (h : lv_has ls nL ((i, pm_sh b base v) :: (pm_lv b base l).filter (fun q => !(q.1 == i) && !(q.1 + 1 == i && q.2.category == 2)))) : lv_has ls nL (pm_lv b base ((i, v) :: pm_st1 i l)) := by
  refine pm_has_sub h fun q hq => ?_
  rcases List.mem_cons.mp (show q ∈ (i, pm_sh b base v) :: pm_lv b base (pm_st1 i l) from hq) with rfl | hq
  · exact List.mem_cons_self
  · exact List.mem_cons_of_mem _ (pm_st1_sub hq)
theorem pm_has2 {ls : Array Slot} {nL b base i : Nat} {v : Value} {l : pm_L} (h : lv_has ls nL ((i, pm_sh b base v) :: (pm_lv b base l).filter (fun q => !(q.1 == i) && (!(q.1 == i + 1) && !(q.1 + 1 == i && q.2.category == 2))))) : lv_has ls nL (pm_lv b base ((i, v) :: pm_st2 i l)) := by
  refine pm_has_sub h fun q hq => ?_
  rcases List.mem_cons.mp (show q ∈ (i, pm_sh b base v) :: pm_lv b base (pm_st2 i l) from hq) with rfl | hq
  · exact List.mem_cons_self
  · exact List.mem_cons_of_mem _ (pm_st2_sub hq)
theorem pm_args (b base : Nat) (vs : List Value) : ∀ i, lv_args i (vs.map (pm_sh b base)) = pm_lv b base (lv_args i vs) := by
  induction vs with
  | nil => intro i; rfl
  | cons v r ih =>
    intro i
    show (i, pm_sh b base v) :: lv_args (if (pm_sh b base v).category = 2 then i + 2 else i + 1) (r.map (pm_sh b base)) = (i, pm_sh b base v) :: pm_lv b base (lv_args (if v.category = 2 then i + 2 else i + 1) r)
    rw [pm_sh_c, ih]

/-! instructions checked by numbers: their bytes, and the places of what was told of fields and methods -/
noncomputable def qd_nth {α : Type} (t : List (List α)) (a : Nat × Nat) : Option α := match pm_nth t a.1 with
  | some r => pm_nth r a.2
  | none => none
theorem qd_nth_in {α : Type} {t : List (List α)} {a : Nat × Nat} {f : α} (h : qd_nth t a = some f) : ∃ r ∈ t, f ∈ r := by
  unfold qd_nth at h
  split at h
  · rename_i r e1
    rw [pm_nth_eq] at e1 h
    exact ⟨r, List.mem_of_getElem? e1, List.mem_of_getElem? h⟩
  · cases h
noncomputable def qd_4 (t : List (List (Nat × Nat × Nat × Nat))) (o x r1 r2 : Nat) (a : Nat × Nat) : Bool := match qd_nth t a with
  | some f => Nat.beq f.1 o && (Nat.beq f.2.1 x && (Nat.beq f.2.2.1 r1 && Nat.beq f.2.2.2 r2))
  | none => false
theorem qd_4_in {t : List (List (Nat × Nat × Nat × Nat))} {o x r1 r2 : Nat} {a : Nat × Nat} (h : qd_4 t o x r1 r2 a = true) : ∃ r ∈ t, (o, x, r1, r2) ∈ r := by
  unfold qd_4 at h
  split at h
  · rename_i f e1
    obtain ⟨f1, f2, f3, f4⟩ := f
    simp only [Bool.and_eq_true] at h
    obtain ⟨h1, h2, h3, h4⟩ := h
    rw [← pm_beq h1, ← pm_beq h2, ← pm_beq h3, ← pm_beq h4]
    exact qd_nth_in e1
  · cases h
noncomputable def qd_f (o x r1 r2 : Nat) (a : Nat × Nat) : Bool := qd_4 pf_t o x r1 r2 a
theorem qd_f_ok {o x r1 r2 : Nat} {a : Nat × Nat} (h : qd_f o x r1 r2 a = true) : pf_P (o, x, r1, r2) := by
  obtain ⟨r, h1, h2⟩ := qd_4_in h
  exact pf_tok r h1 _ h2
noncomputable def qd_m (o x k kd : Nat) (a : Nat × Nat) : Bool := qd_4 mf_t o x k kd a
theorem qd_m_ok {o x k kd : Nat} {a : Nat × Nat} (h : qd_m o x k kd a = true) : mf_P (o, x, k, kd) := by
  obtain ⟨r, h1, h2⟩ := qd_4_in h
  exact mf_tok r h1 _ h2
noncomputable def qd_p (o r1 r2 : Nat) (cst : Int) (mi : Bool) (a : Nat × Nat) : Bool := match qd_nth qp_t a with
  | some f => (Nat.beq f.1 o && (Nat.beq f.2.1 r1 && Nat.beq f.2.2.1 r2)) && (decide (f.2.2.2.1 = cst) && (!f.2.2.2.2 || mi))
  | none => false
theorem qd_p_ok {o r1 r2 : Nat} {cst : Int} {mi : Bool} {a : Nat × Nat} (h : qd_p o r1 r2 cst mi a = true) : ∃ ini : Bool, qp_P (o, r1, r2, cst, ini) ∧ (ini = true → mi = true) := by
  unfold qd_p at h
  split at h
  · rename_i f e1
    obtain ⟨f1, f2, f3, f4, f5⟩ := f
    simp only [Bool.and_eq_true, decide_eq_true_eq, Bool.or_eq_true, Bool.not_eq_true'] at h
    obtain ⟨⟨h1, h2, h3⟩, h4, h5⟩ := h
    obtain ⟨r, k1, k2⟩ := qd_nth_in e1
    have k3 := qp_tok r k1 _ k2
    rw [pm_beq h1, pm_beq h2, pm_beq h3, h4] at k3
    exact ⟨f5, k3, fun q => h5.resolve_left (by rw [q]; decide)⟩
  · cases h
noncomputable def qd_ckm (o : Nat) (mname : String) (mi : Bool) (i : Instr) (r1 r2 : Nat) (cst : Int) (hs : List (Nat × Nat)) : Bool := match i with
  | .getfield x => match hs with
    | [a] => qd_f o x r1 r2 a
    | _ => false
  | .putfield x => match hs with
    | [a, b] => qd_f o x r1 r2 a && qd_p o r1 r2 cst mi b
    | _ => false
  | i => pm_ckm (oN o) mname i r1 r2 cst hs
theorem qd_ckm_ok {o : Nat} {mname : String} {mi : Bool} {i : Instr} {r1 r2 : Nat} {cst : Int} {hs : List (Nat × Nat)} (hm : mi = true → mname = "<init>") (h : qd_ckm o mname mi i r1 r2 cst hs = true) : pm_okm vwCl pm_TB pm_RD (oN o) mname i r1 r2 cst := by
  cases i <;> first | exact pm_ckm_ok (own := oN o) (hs := hs) h | skip
  case getfield x =>
    simp only [qd_ckm] at h
    split at h
    · exact qd_f_ok h
    · cases h
  case putfield x =>
    simp only [qd_ckm] at h
    split at h
    · rw [Bool.and_eq_true] at h
      obtain ⟨C, T, N, h1, h2, h3⟩ := qd_f_ok h.1
      obtain ⟨ini, ⟨C', T', N', ty, g1, g2, g3, g4⟩, g5⟩ := qd_p_ok h.2
      have g1 : vwCl[r1]? = some (C', T', N') := g1
      have h1 : vwCl[r1]? = some (C, T, N) := h1
      rw [g1] at h1
      cases h1
      exact ⟨C, T, N, ty, g1, h2, h3, g2, g3, fun q => ⟨hm (g5 (g4 q).1), (g4 q).2⟩⟩
    · cases h
noncomputable def qd_ckc (o : Nat) (i : Instr) (r1 r2 : Nat) (hs : List (Nat × Nat)) : Bool := match i with
  | .invokestatic x => match hs with
    | [a] => qd_m o x r1 0 a
    | _ => false
  | .invokevirtual x => match hs with
    | [a] => qd_m o x r1 1 a
    | _ => false
  | .invokespecial x => match r1 with
    | 0 => pm_hs hs [.methodLink (oN o) x objectInit, .instanceMethod objectInit, .code objectInit ⟨#[0xb1]⟩ 1 none]
    | k + 1 => match hs with
      | [a] => qd_m o x (k + 1) 2 a
      | _ => false
  | _ => true
theorem qd_ckc_ok {o : Nat} {i : Instr} {r1 r2 : Nat} {hs : List (Nat × Nat)} (h : qd_ckc o i r1 r2 hs = true) : pm_okc (pm_msT pm_tab) vwCl pm_TB (oN o) i r1 := by
  cases i <;> first | exact trivial | skip
  case invokestatic x =>
    simp only [qd_ckc] at h
    split at h
    · obtain ⟨y, bytes, nL, rt, na, ci, h1, h2, h3⟩ := qd_m_ok h
      exact ⟨y, bytes, nL, rt, na, ci, h1, h2, h3⟩
    · cases h
  case invokevirtual x =>
    simp only [qd_ckc] at h
    split at h
    · obtain ⟨y, bytes, nL, rt, na, ci, h1, h2, h3, T, N, h4, h5⟩ := qd_m_ok h
      exact ⟨y, bytes, nL, rt, na, ci, h1, h2, h3, T, N, h4, h5⟩
    · cases h
  case invokespecial x =>
    simp only [qd_ckc] at h
    split at h
    · exact Or.inl ⟨rfl, pm_hs_in _ _ h _ List.mem_cons_self, pm_hs_in _ _ h _ (List.mem_cons_of_mem _ List.mem_cons_self), pm_hs_in _ _ h _ (List.mem_cons_of_mem _ (List.mem_cons_of_mem _ List.mem_cons_self))⟩
    · split at h
      · obtain ⟨y, bytes, nL, rt, na, ci, h1, h2, h3, h4, h5⟩ := qd_m_ok h
        have h3 : rt = none := h3
        subst h3
        exact Or.inr ⟨Nat.succ_ne_zero _, y, bytes, nL, na, ci, h1, h4, h2, h5⟩
      · cases h
noncomputable def qd_ck (o : Nat) (mname : String) (mi : Bool) (pc : Nat) (q : pm_I) : Bool := match q with
  | (i, n, r1, r2, cst, hs) => pm_ckl i n && (pm_tgt i pc r1 && (pm_ckk (oN o) i cst hs && (qd_ckm o mname mi i r1 r2 cst hs && qd_ckc o i r1 r2 hs)))
theorem qd_ck_ok {o : Nat} {cc : ByteArray} {mname : String} {mi : Bool} {pc : Nat} {q : pm_I} (hm : mi = true → mname = "<init>") (hd : decode cc pc = .ok (q.1, q.2.1)) (h : qd_ck o mname mi pc q = true) : pm_okI vwCl pm_TB pm_RD (pm_msT pm_tab) cc (oN o) mname pc q := by
  obtain ⟨i, n, r1, r2, cst, hs⟩ := q
  simp only [qd_ck, Bool.and_eq_true] at h
  obtain ⟨h2, h3, h4, h5, h6⟩ := h
  refine ⟨hd, pm_ckl_ok h2, h3, ?_, ?_, qd_ckm_ok hm h5, qd_ckc_ok h6⟩
  · intro x hx
    rcases hx with hx | hx
    · have hx : i = .ldc x := hx
      subst hx
      exact pm_hs_in _ _ h4 _ List.mem_cons_self
    · have hx : i = .ldc_w x := hx
      subst hx
      exact pm_hs_in _ _ h4 _ List.mem_cons_self
  · intro x hx
    have hx : i = .ldc2_w x := hx
    subst hx
    exact pm_hs_in _ _ h4 _ List.mem_cons_self
noncomputable def qd_flat (rows : List (List (Nat × pm_I))) : List (Nat × pm_I) := List.rec (motive := fun _ => List (Nat × pm_I)) [] (fun r _ ih => List.rec (motive := fun _ => List (Nat × pm_I)) ih (fun x _ ih2 => x :: ih2) r) rows
theorem qd_flat_in {rows : List (List (Nat × pm_I))} : ∀ {l : List (Nat × pm_I)} {x : Nat × pm_I}, l ∈ rows → x ∈ l → x ∈ qd_flat rows := by
  induction rows with
  | nil => intro l x h; cases h
  | cons a r ih =>
    intro l x h hx
    have e : ∀ s : List (Nat × pm_I), List.rec (motive := fun _ => List (Nat × pm_I)) (qd_flat r) (fun x _ ih2 => x :: ih2) s = s ++ qd_flat r := by
      intro s
      induction s with
      | nil => rfl
      | cons y s ihs =>
        show y :: List.rec (motive := fun _ => List (Nat × pm_I)) (qd_flat r) (fun x _ ih2 => x :: ih2) s = _
        rw [ihs]
        rfl
    have e2 : qd_flat (a :: r) = a ++ qd_flat r := e a
    rw [e2]
    rcases List.mem_cons.mp h with rfl | h
    · exact List.mem_append_left _ hx
    · exact List.mem_append_right _ (ih h hx)
noncomputable def qd_go (cc : ByteArray) (ck : Nat → pm_I → Bool) (xs : List (Nat × pm_I)) : List UInt8 → Nat → Bool :=
  List.rec (motive := fun _ => List UInt8 → Nat → Bool) (fun _ _ => true) (fun x _ ih l p => Nat.beq x.1 p && (match qd_L l with
    | some (i, n, t) => decide (i = x.2.1) && (Nat.beq n x.2.2.1 && (ck x.1 x.2 && ih t (x.1 + n)))
    | none => decide (decode cc x.1 = .ok (x.2.1, x.2.2.1)) && (ck x.1 x.2 && ih (l.drop x.2.2.1) (x.1 + x.2.2.1)))) xs
theorem qd_go_ok {cc : ByteArray} {ck : Nat → pm_I → Bool} (xs : List (Nat × pm_I)) : ∀ (l : List UInt8) (p : Nat), qd_go cc ck xs l p = true → cc.data.toList.drop p = l → ∀ x ∈ xs, decode cc x.1 = .ok (x.2.1, x.2.2.1) ∧ ck x.1 x.2 = true := by
  induction xs with
  | nil => intro l p _ _ x hx; cases hx
  | cons a r ih =>
    intro l p h hl x hx
    have h : (Nat.beq a.1 p && (match qd_L l with
      | some (i, n, t) => decide (i = a.2.1) && (Nat.beq n a.2.2.1 && (ck a.1 a.2 && qd_go cc ck r t (a.1 + n)))
      | none => decide (decode cc a.1 = .ok (a.2.1, a.2.2.1)) && (ck a.1 a.2 && qd_go cc ck r (l.drop a.2.2.1) (a.1 + a.2.2.1)))) = true := h
    rw [Bool.and_eq_true] at h
    obtain ⟨h1, h2⟩ := h
    have e1 : a.1 = p := pm_beq h1
    rw [← e1] at hl
    split at h2
    · rename_i i n t e2
      simp only [Bool.and_eq_true, decide_eq_true_eq] at h2
      obtain ⟨h3, h4, h5, h6⟩ := h2
      have e4 : n = a.2.2.1 := pm_beq h4
      obtain ⟨k1, k2⟩ := qd_dec_ok hl e2
      rcases List.mem_cons.mp hx with rfl | hx
      · rw [h3, e4] at k1
        exact ⟨k1, h5⟩
      · exact ih t (a.1 + n) h6 k2 x hx
    · simp only [Bool.and_eq_true, decide_eq_true_eq] at h2
      obtain ⟨h3, h5, h6⟩ := h2
      rcases List.mem_cons.mp hx with rfl | hx
      · exact ⟨h3, h5⟩
      · exact ih _ (a.1 + a.2.2.1) h6 (by rw [← hl]; first | (rw [List.drop_drop]; done) | (rw [List.drop_drop, Nat.add_comm])) x hx
theorem qd_at_ok {cc : ByteArray} {o : Nat} {mname : String} {mi : Bool} {bs : List (List (Nat × pm_I))} (h : qd_go cc (qd_ck o mname mi) (qd_flat bs) cc.data.toList 0 = true) (hm : mi = true → mname = "<init>") {pc : Nat} {q : pm_I} (hq : pm_at_pc bs pc = some q) : pm_okI vwCl pm_TB pm_RD (pm_msT pm_tab) cc (oN o) mname pc q := by
  unfold pm_at_pc at hq
  split at hq
  · rename_i l e1
    rw [pm_nth_eq] at e1
    obtain ⟨k1, k2⟩ := qd_go_ok _ _ 0 h rfl (pc, q) (qd_flat_in (List.mem_of_getElem? e1) (pm_find_in hq))
    exact qd_ck_ok hm k1 k2
  · cases hq
def qd_M (x : pm_M) : Prop := match x with
  | (y, bytes, nL, rt, na, _) => Jvm.Cond.code y bytes nL rt ∈ pm_TB ∧ Jvm.Cond.initialized y.cls ∈ pm_TB ∧ plainFor y = true ∧ (y.cls ≠ "java/lang/invoke/MethodHandle" ∧ y.cls ≠ "java/lang/invoke/VarHandle") ∧ (parseMethodDescriptor y.desc).map (fun d => d.parameters.length) = some na ∧ nL ≤ 13
def qd_one (x : pm_D) : Prop := qd_M x.1 ∧ ∃ (o : Nat) (mi : Bool), x.1.1.cls = oN o ∧ (mi = true → x.1.1.name = "<init>") ∧ qd_go x.1.2.1 (qd_ck o x.1.1.name mi) (qd_flat x.2.2) x.1.2.1.data.toList 0 = true
theorem qd_ms {tab : List (List pm_D)} (h : ∀ r ∈ tab, ∀ x ∈ r, qd_one x) : pm_msOk (pm_msT tab) pm_TB := by
  intro k y bytes nL rt na ci e1
  unfold pm_msT at e1
  split at e1
  · rename_i x hs bs e2
    cases e1
    obtain ⟨r, h1, h2⟩ := pm_tk_in e2
    exact (h r h1 _ h2).1
  · cases e1
theorem qd_ins (h : ∀ r ∈ pm_tab, ∀ x ∈ r, qd_one x) : pm_insOk vwCl pm_TB pm_RD (pm_msT pm_tab) (pm_inT pm_tab) := by
  intro k y bytes nL rt na ci e1 pc q e3
  unfold pm_msT at e1
  split at e1
  · rename_i x hs bs e2
    cases e1
    obtain ⟨r, h1, h2⟩ := pm_tk_in e2
    obtain ⟨o, mi, k1, k2, k3⟩ := (h r h1 _ h2).2
    unfold pm_inT at e3
    rw [e2] at e3
    have k4 := qd_at_ok k3 k2 e3
    have k1 : y.cls = oN o := k1
    rw [k1]
    exact k4
  · cases e1

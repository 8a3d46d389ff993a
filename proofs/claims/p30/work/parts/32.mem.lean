section
/-! memory of a fixed shape: ints, longs and references (none: null), by address and place -/
abbrev mm : Type := (Nat → Nat → Int) × (Nat → Nat → Int) × (Nat → Nat → Option Nat)
/-- a cell's shape: an object (0, class, 0), an array (1, kind, length) -/
abbrev mt : Type := Nat × Nat × Nat
abbrev mv (o : Option Nat) : Value := va_rf o
/-- a field's value by its kind: 0 an int, 1 a long, 3 a reference -/
def mfv (c : Nat) (m : mm) (a k : Nat) : Value := match c with
  | 0 => .int (Int32.ofInt (m.1 a k))
  | 1 => .long (Int64.ofInt (m.2.1 a k))
  | _ => mv (m.2.2 a k)
def mfs (m : mm) (a : Nat) : List Nat → Nat → List Value
  | [], _ => []
  | c :: r, k => mfv c m a k :: mfs m a r (k + 1)
theorem mfs_get (m : mm) (a : Nat) (l : List Nat) : ∀ i k, (mfs m a l i)[k]? = (l[k]?).map (fun c => mfv c m a (i + k)) := by
  induction l with
  | nil => intro i k; rfl
  | cons c r ih =>
    intro i k
    cases k with
    | zero => rfl
    | succ k =>
      show (mfs m a r (i + 1))[k]? = (r[k]?).map _
      rw [ih, show i + 1 + k = i + (k + 1) by omega]
theorem mfs_len (m : mm) (a : Nat) (l : List Nat) : ∀ i, (mfs m a l i).length = l.length := by
  induction l with
  | nil => intro i; rfl
  | cons c r ih => intro i; exact congrArg (· + 1) (ih (i + 1))
/-- the kinds of a class' fields -/
abbrev mc : Type := Nat → List Nat
def mce (ft : mc) (s : mt) (m : mm) (a : Nat) : pm_E := match s.1 with
  | 0 => .inr (s.2.1, mfs m a (ft s.2.1) 0)
  | _ => match s.2.1 with
    | 1 => .inl (1, s.2.2, .inr (.inl (fun i => Int64.ofInt (m.2.1 a i))))
    | 4 => .inl (4, s.2.2, .inr (.inr (.inr (.inr (fun i => m.2.2 a i)))))
    | 5 => .inl (5, s.2.2, .inr (.inr (.inr (.inr (fun i => m.2.2 a i)))))
    | 6 => .inl (6, s.2.2, .inr (.inr (.inr (.inr (fun i => m.2.2 a i)))))
    | k => .inl (k, s.2.2, .inl (fun i => Int32.ofInt (m.1 a i)))
def mkg (ft : mc) (m : mm) : List mt → Nat → pm_H
  | [], _ => []
  | s :: r, a => mce ft s m a :: mkg ft m r (a + 1)
theorem mkg_get (ft : mc) (m : mm) (l : List mt) : ∀ a k, (mkg ft m l a)[k]? = (l[k]?).map (fun s => mce ft s m (a + k)) := by
  induction l with
  | nil => intro a k; rfl
  | cons s r ih =>
    intro a k
    cases k with
    | zero => rfl
    | succ k =>
      show (mkg ft m r (a + 1))[k]? = (r[k]?).map _
      rw [ih, show a + 1 + k = a + (k + 1) by omega]
theorem mkg_len (ft : mc) (m : mm) (l : List mt) : ∀ a, (mkg ft m l a).length = l.length := by
  induction l with
  | nil => intro a; rfl
  | cons s r ih => intro a; exact congrArg (· + 1) (ih (a + 1))
/-- the shape at an address -/
def msh (l : List mt) (a : Nat) : Option mt := match a with
  | 0 => none
  | a + 1 => l[a]?
theorem mk_cell (ft : mc) (m : mm) (l : List mt) (a : Nat) : pm_cell (mkg ft m l 1) a = (msh l a).map (fun s => mce ft s m a) := by
  cases a with
  | zero => rfl
  | succ a =>
    show pm_nth _ a = _
    rw [pm_nth_eq, mkg_get, Nat.add_comm 1 a]
    rfl
theorem mk_wr {ft : mc} {m m' : mm} {l : List mt} {a : Nat} {s : mt} (hs : msh l a = some s) (hm : ∀ b t, b ≠ a → mce ft t m b = mce ft t m' b) : pm_wr (mkg ft m l 1) a (mce ft s m' a) = mkg ft m' l 1 := by
  cases a with
  | zero => cases hs
  | succ a =>
    show pm_put _ _ a = _
    rw [pm_put_eq]
    apply List.ext_getElem?
    intro k
    have hs : l[a]? = some s := hs
    have hlt := (List.getElem?_eq_some_iff.mp hs).1
    by_cases e : a = k
    · subst e
      rw [List.getElem?_set_self (by rw [mkg_len]; exact hlt), mkg_get, hs, Nat.add_comm 1 a]
      rfl
    · rw [List.getElem?_set_ne e, mkg_get, mkg_get]
      cases l[k]? with
      | none => rfl
      | some t =>
        show some (mce ft t m (1 + k)) = some (mce ft t m' (1 + k))
        rw [hm (1 + k) t (by omega)]
/-- one place is another -/
def mu {α : Type} (z : Nat → Nat → α) (a i : Nat) (e : α) : Nat → Nat → α := fun b j => if b = a ∧ j = i then e else z b j
theorem mu_eq {α : Type} {z : Nat → Nat → α} {a i : Nat} {e : α} : mu z a i e a i = e := if_pos ⟨rfl, rfl⟩
theorem mu_ne {α : Type} {z : Nat → Nat → α} {a i b j : Nat} {e : α} (h : ¬ (b = a ∧ j = i)) : mu z a i e b j = z b j := if_neg h
theorem mce_ne {ft : mc} {m m' : mm} {b : Nat} (h1 : ∀ i, m'.1 b i = m.1 b i) (h2 : ∀ i, m'.2.1 b i = m.2.1 b i) (h3 : ∀ i, m'.2.2 b i = m.2.2 b i) (t : mt) : mce ft t m b = mce ft t m' b := by
  have hf : ∀ (l : List Nat) (k : Nat), mfs m b l k = mfs m' b l k := by
    intro l
    induction l with
    | nil => intro k; rfl
    | cons c r ih =>
      intro k
      show mfv c m b k :: _ = mfv c m' b k :: _
      rw [ih]
      congr 1
      unfold mfv
      split
      · rw [h1]
      · rw [h2]
      · rw [h3]
  unfold mce
  split
  · rw [hf]
  · split <;> simp only [h1, h2, h3]
theorem mce_i {ft : mc} {m : mm} {a i : Nat} {e : Int} {b : Nat} (h : b ≠ a) (t : mt) : mce ft t m b = mce ft t (mu m.1 a i e, m.2) b := mce_ne (m := m) (m' := (mu m.1 a i e, m.2)) (fun j => mu_ne (fun q => h q.1)) (fun _ => rfl) (fun _ => rfl) t
theorem mce_l {ft : mc} {m : mm} {a i : Nat} {e : Int} {b : Nat} (h : b ≠ a) (t : mt) : mce ft t m b = mce ft t (m.1, mu m.2.1 a i e, m.2.2) b := mce_ne (m := m) (m' := (m.1, mu m.2.1 a i e, m.2.2)) (fun _ => rfl) (fun j => mu_ne (fun q => h q.1)) (fun _ => rfl) t
theorem mce_r {ft : mc} {m : mm} {a i : Nat} {e : Option Nat} {b : Nat} (h : b ≠ a) (t : mt) : mce ft t m b = mce ft t (m.1, m.2.1, mu m.2.2 a i e) b := mce_ne (m := m) (m' := (m.1, m.2.1, mu m.2.2 a i e)) (fun _ => rfl) (fun _ => rfl) (fun j => mu_ne (fun q => h q.1)) t
/-- ints as machine's ints -/
def inI (e : Int) : Prop := -2147483648 ≤ e ∧ e < 2147483648
theorem ofI_toInt {e : Int} (h : inI e) : (Int32.ofInt e).toInt = e := Int32.toInt_ofInt_of_le h.1 h.2
theorem ofI_add (a b : Int) : Int32.ofInt a + Int32.ofInt b = Int32.ofInt (a + b) := (Int32.ofInt_add a b).symm
theorem ofI_sub (a b : Int) : Int32.ofInt a - Int32.ofInt b = Int32.ofInt (a - b) := (Int32.ofInt_sub a b).symm
theorem ofI_mul (a b : Int) : Int32.ofInt a * Int32.ofInt b = Int32.ofInt (a * b) := (Int32.ofInt_mul a b).symm
theorem ofI_neg (a : Int) : - Int32.ofInt a = Int32.ofInt (-a) := (Int32.ofInt_neg a).symm
theorem ofI_lt {a b : Int} (ha : inI a) (hb : inI b) : Int32.ofInt a < Int32.ofInt b ↔ a < b := by rw [Int32.lt_iff_toInt_lt, ofI_toInt ha, ofI_toInt hb]
theorem ofI_le {a b : Int} (ha : inI a) (hb : inI b) : Int32.ofInt a ≤ Int32.ofInt b ↔ a ≤ b := by rw [Int32.le_iff_toInt_le, ofI_toInt ha, ofI_toInt hb]
theorem ofI_eq {a b : Int} (ha : inI a) (hb : inI b) : Int32.ofInt a = Int32.ofInt b ↔ a = b := by rw [← Int32.toInt_inj, ofI_toInt ha, ofI_toInt hb]
theorem ofI_ix {e : Int} {n : Nat} (h0 : 0 ≤ e) (h1 : e < n) (hn : n < 2147483648) : pm_ix (Int32.ofInt e) n = some e.toNat := by
  have hr : inI e := ⟨by omega, by omega⟩
  unfold pm_ix
  have h2 : ¬ Int32.ofInt e < 0 := fun q => by
    have := (Int32.lt_iff_toInt_lt.mp q)
    rw [ofI_toInt hr] at this
    have e0 : (0 : Int32).toInt = 0 := by decide
    omega
  have h3 : (Int32.ofInt e).toNatClampNeg = e.toNat := by
    show (Int32.ofInt e).toInt.toNat = _
    rw [ofI_toInt hr]
  rw [if_neg h2, h3]
  cases e9 : Nat.ble n e.toNat with
  | true => exact absurd (Nat.le_of_ble_eq_true e9) (by omega)
  | false => rfl
theorem mfs_set {m m' : mm} {a k c : Nat} {v : Value} (hj : ∀ j c', j ≠ k → mfv c' m a j = mfv c' m' a j) (hk : mfv c m' a k = v) : ∀ (l : List Nat), l[k]? = some c → (mfs m a l 0).set k v = mfs m' a l 0 := by
  intro l hl
  apply List.ext_getElem?
  intro j
  have hlt : k < (mfs m a l 0).length := by rw [mfs_len]; exact (List.getElem?_eq_some_iff.mp hl).1
  by_cases e : k = j
  · subst e
    rw [List.getElem?_set_self hlt, mfs_get, hl, Nat.zero_add]
    show some v = some (mfv c m' a k)
    rw [hk]
  · rw [List.getElem?_set_ne e, mfs_get, mfs_get, Nat.zero_add]
    cases l[j]? with
    | none => rfl
    | some c' =>
      show some (mfv c' m a j) = some (mfv c' m' a j)
      rw [hj j c' (fun q => e q.symm)]
section MK
variable {ft : mc} {m : mm} {l : List mt} {a : Nat}
theorem mk_gf {ci k c : Nat} (h1 : msh l a = some (0, ci, 0)) (h2 : (ft ci)[k]? = some c) : pm_gf ci k (pm_cell (mkg ft m l 1) a) = some (mfv c m a k) := by
  rw [mk_cell, h1]
  show (match Nat.beq ci ci with | true => pm_nth (mfs m a (ft ci) 0) k | false => none) = _
  rw [Nat.beq_refl, pm_nth_eq, mfs_get, h2, Nat.zero_add]
  rfl
theorem mk_pf {ci k c : Nat} {ty : Int} {v : Value} {m' : mm} (h1 : msh l a = some (0, ci, 0)) (h2 : (ft ci)[k]? = some c) (hf : pm_fit ty v = true) (hj : ∀ j c', j ≠ k → mfv c' m a j = mfv c' m' a j) (hk : mfv c m' a k = v) : pm_pf ci k ty v (pm_cell (mkg ft m l 1) a) = some (mce ft (0, ci, 0) m' a) := by
  rw [mk_cell, h1]
  have hlt : k < (mfs m a (ft ci) 0).length := by rw [mfs_len]; exact (List.getElem?_eq_some_iff.mp h2).1
  show (match Nat.beq ci ci, pm_fit ty v, Nat.ble (k + 1) (mfs m a (ft ci) 0).length with | true, true, true => some (Sum.inr (ci, pm_put (mfs m a (ft ci) 0) v k)) | _, _, _ => (none : Option pm_E)) = _
  rw [Nat.beq_refl, hf, Nat.ble_eq_true_of_le hlt, pm_put_eq, mfs_set hj hk _ h2]
  rfl
theorem mk_cls {ci : Nat} (h1 : msh l a = some (0, ci, 0)) : pm_clsOk ci (pm_cell (mkg ft m l 1) a) = true := by
  rw [mk_cell, h1]
  exact Nat.beq_refl ci
theorem mk_rdi {n : Nat} {e : Int} (h1 : msh l a = some (1, 0, n)) (h0 : 0 ≤ e) (hn : e < n) (hb : n < 2147483648) : pm_rdi (Int32.ofInt e) (pm_cell (mkg ft m l 1) a) = some (.int (Int32.ofInt (m.1 a e.toNat))) := by
  rw [mk_cell, h1]
  show (match pm_ix (Int32.ofInt e) n with | some j => some (Value.int (Int32.ofInt (m.1 a j))) | none => none) = _
  rw [ofI_ix h0 hn hb]
theorem mk_rdb {n kd : Nat} {e : Int} (hkd : kd = 2 ∨ kd = 3) (h1 : msh l a = some (1, kd, n)) (h0 : 0 ≤ e) (hn : e < n) (hb : n < 2147483648) : pm_rdb (Int32.ofInt e) (pm_cell (mkg ft m l 1) a) = some (.int (Int32.ofInt (m.1 a e.toNat))) := by
  rw [mk_cell, h1]
  rcases hkd with rfl | rfl
  · show (match pm_ix (Int32.ofInt e) n with | some j => some (Value.int (Int32.ofInt (m.1 a j))) | none => none) = _
    rw [ofI_ix h0 hn hb]
  · show (match pm_ix (Int32.ofInt e) n with | some j => some (Value.int (Int32.ofInt (m.1 a j))) | none => none) = _
    rw [ofI_ix h0 hn hb]
theorem mk_rdl {n : Nat} {e : Int} (h1 : msh l a = some (1, 1, n)) (h0 : 0 ≤ e) (hn : e < n) (hb : n < 2147483648) : pm_rdl (Int32.ofInt e) (pm_cell (mkg ft m l 1) a) = some (.long (Int64.ofInt (m.2.1 a e.toNat))) := by
  rw [mk_cell, h1]
  show (match pm_ix (Int32.ofInt e) n with | some j => some (Value.long (Int64.ofInt (m.2.1 a j))) | none => none) = _
  rw [ofI_ix h0 hn hb]
theorem mk_rda {n kd : Nat} {e : Int} (hkd : kd = 4 ∨ kd = 5 ∨ kd = 6) (h1 : msh l a = some (1, kd, n)) (h0 : 0 ≤ e) (hn : e < n) (hb : n < 2147483648) : pm_rda (Int32.ofInt e) (pm_cell (mkg ft m l 1) a) = some (mv (m.2.2 a e.toNat)) := by
  rw [mk_cell, h1]
  rcases hkd with rfl | rfl | rfl
  all_goals
    show (match pm_ix (Int32.ofInt e) n with | some j => some (va_rf (m.2.2 a j)) | none => none) = _
    rw [ofI_ix h0 hn hb]
theorem mk_len {n kd : Nat} (hkd : kd ≤ 6) (h1 : msh l a = some (1, kd, n)) : pm_len (pm_cell (mkg ft m l 1) a) = some (.int (Int32.ofInt n)) := by
  rw [mk_cell, h1]
  rcases (show kd = 0 ∨ kd = 1 ∨ kd = 2 ∨ kd = 3 ∨ kd = 4 ∨ kd = 5 ∨ kd = 6 by omega) with rfl | rfl | rfl | rfl | rfl | rfl | rfl <;> rfl
theorem mu_upd (z : Nat → Nat → Int) (a j : Nat) (x : Int) : upd (fun i => Int32.ofInt (z a i)) j (Int32.ofInt x) = fun i => Int32.ofInt (mu z a j x a i) := by
  funext i
  unfold upd mu
  by_cases e : i = j
  · rw [if_pos e, if_pos ⟨rfl, e⟩]
  · rw [if_neg e, if_neg (fun q => e q.2)]
theorem mu_updL (z : Nat → Nat → Int) (a j : Nat) (x : Int) : vp_updL (fun i => Int64.ofInt (z a i)) j (Int64.ofInt x) = fun i => Int64.ofInt (mu z a j x a i) := by
  funext i
  unfold vp_updL mu
  by_cases e : i = j
  · rw [if_pos e, if_pos ⟨rfl, e⟩]
  · rw [if_neg e, if_neg (fun q => e q.2)]
theorem mk_wri {n : Nat} {e x : Int} (h1 : msh l a = some (1, 0, n)) (h0 : 0 ≤ e) (hn : e < n) (hb : n < 2147483648) : pm_wri (Int32.ofInt e) (Int32.ofInt x) (pm_cell (mkg ft m l 1) a) = some (mce ft (1, 0, n) (mu m.1 a e.toNat x, m.2) a) := by
  rw [mk_cell, h1]
  show (match pm_ix (Int32.ofInt e) n with | some j => some (Sum.inl (0, n, Sum.inl (upd (fun i => Int32.ofInt (m.1 a i)) j (Int32.ofInt x)))) | none => (none : Option pm_E)) = _
  rw [ofI_ix h0 hn hb]
  show some (Sum.inl (0, n, Sum.inl (upd (fun i => Int32.ofInt (m.1 a i)) e.toNat (Int32.ofInt x)))) = _
  rw [mu_upd]
  rfl
theorem mk_wrl {n : Nat} {e x : Int} (h1 : msh l a = some (1, 1, n)) (h0 : 0 ≤ e) (hn : e < n) (hb : n < 2147483648) : pm_wrl (Int32.ofInt e) (Int64.ofInt x) (pm_cell (mkg ft m l 1) a) = some (mce ft (1, 1, n) (m.1, mu m.2.1 a e.toNat x, m.2.2) a) := by
  rw [mk_cell, h1]
  show (match pm_ix (Int32.ofInt e) n with | some j => some (Sum.inl (1, n, Sum.inr (Sum.inl (vp_updL (fun i => Int64.ofInt (m.2.1 a i)) j (Int64.ofInt x))))) | none => (none : Option pm_E)) = _
  rw [ofI_ix h0 hn hb]
  show some (Sum.inl (1, n, Sum.inr (Sum.inl (vp_updL (fun i => Int64.ofInt (m.2.1 a i)) e.toNat (Int64.ofInt x))))) = _
  rw [mu_updL]
  rfl
theorem mk_wrz {n : Nat} {e x : Int} (h1 : msh l a = some (1, 3, n)) (hx : x = 0 ∨ x = 1) (h0 : 0 ≤ e) (hn : e < n) (hb : n < 2147483648) : pm_wrb (Int32.ofInt e) (Int32.ofInt x) (pm_cell (mkg ft m l 1) a) = some (mce ft (1, 3, n) (mu m.1 a e.toNat x, m.2) a) := by
  rw [mk_cell, h1]
  have hv : vp_nar .boolean (Int32.ofInt x) = Int32.ofInt x := by rcases hx with rfl | rfl <;> rfl
  show (match pm_ix (Int32.ofInt e) n with | some j => some (Sum.inl (3, n, Sum.inl (upd (fun i => Int32.ofInt (m.1 a i)) j (vp_nar .boolean (Int32.ofInt x))))) | none => (none : Option pm_E)) = _
  rw [ofI_ix h0 hn hb, hv]
  show some (Sum.inl (3, n, Sum.inl (upd (fun i => Int32.ofInt (m.1 a i)) e.toNat (Int32.ofInt x)))) = _
  rw [mu_upd]
  rfl
end MK
section MS
variable {cs : Nat → List Value} {ms : Nat → Option pm_M} {call : pm_C} {scr : pm_S} {nL : Nat} {rt : Option FieldType} {pc len r1 r2 : Nat} {cst : Int} {hs : List (Nat × Nat)} {lv : pm_L} {r : List Value}
variable {ft : mc} {m : mm} {l : List mt} {a x : Nat}
/-- reads and writes of fields, as steps -/
theorem q_gi (h1 : msh l a = some (0, r1, 0)) (h2 : (ft r1)[r2]? = some 0) : pm_step cs ms call scr nL rt (.getfield x, len, r1, r2, cst, hs) (pc, lv, .ref a :: r, mkg ft m l 1) = some (.inl (pc + 3, lv, .int (Int32.ofInt (m.1 a r2)) :: r, mkg ft m l 1)) := by
  show pm_o4 _ _ (pm_psh _ r (pm_gf r1 r2 (pm_cell (mkg ft m l 1) a))) = _
  rw [mk_gf h1 h2]; rfl
theorem q_gl (h1 : msh l a = some (0, r1, 0)) (h2 : (ft r1)[r2]? = some 1) : pm_step cs ms call scr nL rt (.getfield x, len, r1, r2, cst, hs) (pc, lv, .ref a :: r, mkg ft m l 1) = some (.inl (pc + 3, lv, .long (Int64.ofInt (m.2.1 a r2)) :: r, mkg ft m l 1)) := by
  show pm_o4 _ _ (pm_psh _ r (pm_gf r1 r2 (pm_cell (mkg ft m l 1) a))) = _
  rw [mk_gf h1 h2]; rfl
theorem q_gr {v : Option Nat} (h1 : msh l a = some (0, r1, 0)) (h2 : (ft r1)[r2]? = some 3) (h3 : m.2.2 a r2 = v) : pm_step cs ms call scr nL rt (.getfield x, len, r1, r2, cst, hs) (pc, lv, .ref a :: r, mkg ft m l 1) = some (.inl (pc + 3, lv, mv v :: r, mkg ft m l 1)) := by
  show pm_o4 _ _ (pm_psh _ r (pm_gf r1 r2 (pm_cell (mkg ft m l 1) a))) = _
  rw [mk_gf h1 h2, ← h3]; rfl
theorem q_pi {e : Int} (h1 : msh l a = some (0, r1, 0)) (h2 : (ft r1)[r2]? = some 0) (hf : pm_fit cst (.int (Int32.ofInt e)) = true) : pm_step cs ms call scr nL rt (.putfield x, len, r1, r2, cst, hs) (pc, lv, .int (Int32.ofInt e) :: .ref a :: r, mkg ft m l 1) = some (.inl (pc + 3, lv, r, mkg ft (mu m.1 a r2 e, m.2) l 1)) := by
  show pm_o4 _ _ (pm_wrs _ a r (pm_pf r1 r2 cst (.int (Int32.ofInt e)) (pm_cell (mkg ft m l 1) a))) = _
  rw [mk_pf (m' := (mu m.1 a r2 e, m.2)) h1 h2 hf (fun j c' hj => by unfold mfv; split <;> first | rfl | (show Value.int (Int32.ofInt (m.1 a j)) = Value.int (Int32.ofInt (mu m.1 a r2 e a j)); rw [mu_ne (fun q => hj q.2)])) (by show Value.int (Int32.ofInt (mu m.1 a r2 e a r2)) = _; rw [mu_eq])]
  show some (Sum.inl (pc + 3, lv, r, pm_wr _ a (mce ft (0, r1, 0) (mu m.1 a r2 e, m.2) a))) = _
  rw [mk_wr h1 (fun b t hb => mce_i hb t)]
theorem q_pl {e : Int} (h1 : msh l a = some (0, r1, 0)) (h2 : (ft r1)[r2]? = some 1) (hf : cst = 1) : pm_step cs ms call scr nL rt (.putfield x, len, r1, r2, cst, hs) (pc, lv, .long (Int64.ofInt e) :: .ref a :: r, mkg ft m l 1) = some (.inl (pc + 3, lv, r, mkg ft (m.1, mu m.2.1 a r2 e, m.2.2) l 1)) := by
  subst hf
  show pm_o4 _ _ (pm_wrs _ a r (pm_pf r1 r2 1 (.long (Int64.ofInt e)) (pm_cell (mkg ft m l 1) a))) = _
  rw [mk_pf (m' := (m.1, mu m.2.1 a r2 e, m.2.2)) h1 h2 rfl (fun j c' hj => by unfold mfv; split <;> first | rfl | (show Value.long (Int64.ofInt (m.2.1 a j)) = Value.long (Int64.ofInt (mu m.2.1 a r2 e a j)); rw [mu_ne (fun q => hj q.2)])) (by show Value.long (Int64.ofInt (mu m.2.1 a r2 e a r2)) = _; rw [mu_eq])]
  show some (Sum.inl (pc + 3, lv, r, pm_wr _ a (mce ft (0, r1, 0) (m.1, mu m.2.1 a r2 e, m.2.2) a))) = _
  rw [mk_wr h1 (fun b t hb => mce_l hb t)]
theorem q_pr {e : Option Nat} (h1 : msh l a = some (0, r1, 0)) (h2 : (ft r1)[r2]? = some 3) (hf : cst = 3) : pm_step cs ms call scr nL rt (.putfield x, len, r1, r2, cst, hs) (pc, lv, mv e :: .ref a :: r, mkg ft m l 1) = some (.inl (pc + 3, lv, r, mkg ft (m.1, m.2.1, mu m.2.2 a r2 e) l 1)) := by
  subst hf
  have hst : pm_step cs ms call scr nL rt (.putfield x, len, r1, r2, 3, hs) (pc, lv, mv e :: .ref a :: r, mkg ft m l 1) = pm_o4 (pc + 3) lv (pm_wrs (mkg ft m l 1) a r (pm_pf r1 r2 3 (mv e) (pm_cell (mkg ft m l 1) a))) := rfl
  rw [hst, mk_pf (m' := (m.1, m.2.1, mu m.2.2 a r2 e)) h1 h2 (by cases e <;> rfl) (fun j c' hj => by unfold mfv; split <;> first | rfl | (show mv (m.2.2 a j) = mv (mu m.2.2 a r2 e a j); rw [mu_ne (fun q => hj q.2)])) (by show mv (mu m.2.2 a r2 e a r2) = _; rw [mu_eq])]
  show some (Sum.inl (pc + 3, lv, r, pm_wr _ a (mce ft (0, r1, 0) (m.1, m.2.1, mu m.2.2 a r2 e) a))) = _
  rw [mk_wr h1 (fun b t hb => mce_r hb t)]
/-- arrays -/
theorem q_ai {n b : Nat} {e : Int} (h1 : msh l (b + 1) = some (1, 0, n)) (h0 : 0 ≤ e) (hn : e < n) (hb : n < 2147483648) : pm_step cs ms call scr nL rt (.iaload, len, r1, r2, cst, hs) (pc, lv, .int (Int32.ofInt e) :: .ref (b + 1) :: r, mkg ft m l 1) = some (.inl (pc + 1, lv, .int (Int32.ofInt (m.1 (b + 1) e.toNat)) :: r, mkg ft m l 1)) := by
  show pm_o4 _ _ (pm_psh _ r (pm_rdi (Int32.ofInt e) (pm_cell (mkg ft m l 1) (b + 1)))) = _
  rw [mk_rdi h1 h0 hn hb]; rfl
theorem q_ab {n kd : Nat} {e : Int} (hkd : kd = 2 ∨ kd = 3) (h1 : msh l a = some (1, kd, n)) (h0 : 0 ≤ e) (hn : e < n) (hb : n < 2147483648) : pm_step cs ms call scr nL rt (.baload, len, r1, r2, cst, hs) (pc, lv, .int (Int32.ofInt e) :: .ref a :: r, mkg ft m l 1) = some (.inl (pc + 1, lv, .int (Int32.ofInt (m.1 a e.toNat)) :: r, mkg ft m l 1)) := by
  show pm_o4 _ _ (pm_psh _ r (pm_rdb (Int32.ofInt e) (pm_cell (mkg ft m l 1) a))) = _
  rw [mk_rdb hkd h1 h0 hn hb]; rfl
theorem q_al {n : Nat} {e : Int} (h1 : msh l a = some (1, 1, n)) (h0 : 0 ≤ e) (hn : e < n) (hb : n < 2147483648) : pm_step cs ms call scr nL rt (.laload, len, r1, r2, cst, hs) (pc, lv, .int (Int32.ofInt e) :: .ref a :: r, mkg ft m l 1) = some (.inl (pc + 1, lv, .long (Int64.ofInt (m.2.1 a e.toNat)) :: r, mkg ft m l 1)) := by
  show pm_o4 _ _ (pm_psh _ r (pm_rdl (Int32.ofInt e) (pm_cell (mkg ft m l 1) a))) = _
  rw [mk_rdl h1 h0 hn hb]; rfl
theorem q_aa {n kd : Nat} {v : Option Nat} {e : Int} (hkd : kd = 4 ∨ kd = 5 ∨ kd = 6) (h1 : msh l a = some (1, kd, n)) (h0 : 0 ≤ e) (hn : e < n) (hb : n < 2147483648) (hv : m.2.2 a e.toNat = v) : pm_step cs ms call scr nL rt (.aaload, len, r1, r2, cst, hs) (pc, lv, .int (Int32.ofInt e) :: .ref a :: r, mkg ft m l 1) = some (.inl (pc + 1, lv, mv v :: r, mkg ft m l 1)) := by
  show pm_o4 _ _ (pm_psh _ r (pm_rda (Int32.ofInt e) (pm_cell (mkg ft m l 1) a))) = _
  rw [mk_rda hkd h1 h0 hn hb, hv]; rfl
theorem q_len {n kd b : Nat} (hkd : kd ≤ 6) (h1 : msh l (b + 1) = some (1, kd, n)) : pm_step cs ms call scr nL rt (.arraylength, len, r1, r2, cst, hs) (pc, lv, .ref (b + 1) :: r, mkg ft m l 1) = some (.inl (pc + 1, lv, .int (Int32.ofInt n) :: r, mkg ft m l 1)) := by
  show pm_o4 _ _ (pm_psh _ r (pm_len (pm_cell (mkg ft m l 1) (b + 1)))) = _
  rw [mk_len hkd h1]; rfl
theorem q_si {n : Nat} {e v : Int} (h1 : msh l a = some (1, 0, n)) (h0 : 0 ≤ e) (hn : e < n) (hb : n < 2147483648) : pm_step cs ms call scr nL rt (.iastore, len, r1, r2, cst, hs) (pc, lv, .int (Int32.ofInt v) :: .int (Int32.ofInt e) :: .ref a :: r, mkg ft m l 1) = some (.inl (pc + 1, lv, r, mkg ft (mu m.1 a e.toNat v, m.2) l 1)) := by
  show pm_o4 _ _ (pm_wrs _ a r (pm_wri (Int32.ofInt e) (Int32.ofInt v) (pm_cell (mkg ft m l 1) a))) = _
  rw [mk_wri h1 h0 hn hb]
  show some (Sum.inl (pc + 1, lv, r, pm_wr _ a (mce ft (1, 0, n) (mu m.1 a e.toNat v, m.2) a))) = _
  rw [mk_wr h1 (fun b t hb => mce_i hb t)]
theorem q_sl {n : Nat} {e v : Int} (h1 : msh l a = some (1, 1, n)) (h0 : 0 ≤ e) (hn : e < n) (hb : n < 2147483648) : pm_step cs ms call scr nL rt (.lastore, len, r1, r2, cst, hs) (pc, lv, .long (Int64.ofInt v) :: .int (Int32.ofInt e) :: .ref a :: r, mkg ft m l 1) = some (.inl (pc + 1, lv, r, mkg ft (m.1, mu m.2.1 a e.toNat v, m.2.2) l 1)) := by
  show pm_o4 _ _ (pm_wrs _ a r (pm_wrl (Int32.ofInt e) (Int64.ofInt v) (pm_cell (mkg ft m l 1) a))) = _
  rw [mk_wrl h1 h0 hn hb]
  show some (Sum.inl (pc + 1, lv, r, pm_wr _ a (mce ft (1, 1, n) (m.1, mu m.2.1 a e.toNat v, m.2.2) a))) = _
  rw [mk_wr h1 (fun b t hb => mce_l hb t)]
theorem q_sz {n : Nat} {e v : Int} (h1 : msh l a = some (1, 3, n)) (hv : v = 0 ∨ v = 1) (h0 : 0 ≤ e) (hn : e < n) (hb : n < 2147483648) : pm_step cs ms call scr nL rt (.bastore, len, r1, r2, cst, hs) (pc, lv, .int (Int32.ofInt v) :: .int (Int32.ofInt e) :: .ref a :: r, mkg ft m l 1) = some (.inl (pc + 1, lv, r, mkg ft (mu m.1 a e.toNat v, m.2) l 1)) := by
  show pm_o4 _ _ (pm_wrs _ a r (pm_wrb (Int32.ofInt e) (Int32.ofInt v) (pm_cell (mkg ft m l 1) a))) = _
  rw [mk_wrz h1 hv h0 hn hb]
  show some (Sum.inl (pc + 1, lv, r, pm_wr _ a (mce ft (1, 3, n) (mu m.1 a e.toNat v, m.2) a))) = _
  rw [mk_wr h1 (fun b t hb => mce_i hb t)]
end MS
end
section
/-! walking the small machine, an instruction a row -/
theorem pm_r {step : pm_I → pm_F → pm_O} {ins : Nat → Option pm_I} {n : Nat} {F F' : pm_F} {q : pm_I} {r : Option pm_R} (h1 : ins F.1 = some q) (h2 : step q F = some (.inl F')) (h3 : pm_run step ins n F' = r) : pm_run step ins (n + 1) F = r := by
  rw [pm_run_succ, h1]
  dsimp only
  rw [h2]
  exact h3
theorem pm_rE {step : pm_I → pm_F → pm_O} {ins : Nat → Option pm_I} {n : Nat} {F : pm_F} {q : pm_I} {x : pm_R} (h1 : ins F.1 = some q) (h2 : step q F = some (.inr x)) : pm_run step ins (n + 1) F = some x := by
  rw [pm_run_succ, h1]
  dsimp only
  rw [h2]
section PMW
variable {cs : Nat → List Value} {ms : Nat → Option pm_M} {call : pm_C} {scr : pm_S} {nL : Nat} {rt : Option FieldType} {pc len r1 r2 : Nat} {cst : Int} {hs : List (Nat × Nat)} {lv : pm_L} {st r : List Value} {h h' : pm_H}
theorem pm_sV {x na ci a nl : Nat} {y : MethodName} {bs : ByteArray} {rt' : Option FieldType} {as : List Value} {v : Option Value} (hm : ms r1 = some (y, bs, nl, rt', na, ci)) (hp : pm_pop_n na [] st = some (as, .ref a :: r)) (hw : Nat.ble (pm_wt r) 8 = true) (ho : pm_clsOk ci (pm_cell h a) = true) (hc : call r1 (.ref a :: as) h = some (v, h')) :
    pm_step cs ms call scr nL rt (.invokevirtual x, len, r1, r2, cst, hs) (pc, lv, st, h) = some (.inl (pc + 3, lv, v.toList ++ r, h')) := by
  have e : pm_na ms r1 = (na, ci) := by unfold pm_na; rw [hm]
  show pm_o4 _ _ (pm_inv call (.invokevirtual x) r1 (pm_na ms r1).1 (pm_na ms r1).2 st h) = _
  rw [e]
  simp only [pm_inv]
  rw [hp]
  dsimp only
  rw [hw, ho, hc]
  rfl
theorem pm_sS {x na ci nl : Nat} {y : MethodName} {bs : ByteArray} {rt' : Option FieldType} {as : List Value} {v : Option Value} (hm : ms r1 = some (y, bs, nl, rt', na, ci)) (hp : pm_pop_n na [] st = some (as, r)) (hw : Nat.ble (pm_wt r) 8 = true) (hc : call r1 as h = some (v, h')) :
    pm_step cs ms call scr nL rt (.invokestatic x, len, r1, r2, cst, hs) (pc, lv, st, h) = some (.inl (pc + 3, lv, v.toList ++ r, h')) := by
  have e : pm_na ms r1 = (na, ci) := by unfold pm_na; rw [hm]
  show pm_o4 _ _ (pm_inv call (.invokestatic x) r1 (pm_na ms r1).1 (pm_na ms r1).2 st h) = _
  rw [e]
  simp only [pm_inv]
  rw [hp]
  dsimp only
  rw [hw, hc]
  rfl
theorem pm_sI {x k na ci a nl : Nat} {y : MethodName} {bs : ByteArray} {rt' : Option FieldType} {as : List Value} {v : Option Value} (hm : ms (k + 1) = some (y, bs, nl, rt', na, ci)) (hp : pm_pop_n na [] st = some (as, .ref a :: r)) (hw : Nat.ble (pm_wt r) 8 = true) (hc : call (k + 1) (.ref a :: as) h = some (v, h')) :
    pm_step cs ms call scr nL rt (.invokespecial x, len, k + 1, r2, cst, hs) (pc, lv, st, h) = some (.inl (pc + 3, lv, v.toList ++ r, h')) := by
  have e : pm_na ms (k + 1) = (na, ci) := by unfold pm_na; rw [hm]
  show pm_o4 _ _ (pm_inv call (.invokespecial x) (k + 1) (pm_na ms (k + 1)).1 (pm_na ms (k + 1)).2 st h) = _
  rw [e]
  simp only [pm_inv]
  rw [hp]
  dsimp only
  rw [hw, hc]
  rfl
theorem pm_sN {x a : Nat} {e : pm_E} (he : (.inr (r1, cs r1) : pm_E) = e) (hl : h.length + 1 = a) : pm_step cs ms call scr nL rt (.new x, len, r1, r2, cst, hs) (pc, lv, st, h) = some (.inl (pc + 3, lv, .ref a :: st, h ++ [e])) := by
  subst he; subst hl; rfl
theorem pm_sJ {i : Instr} {pc' : Nat} {st' : List Value} (hg : pm_grp i = 3) (hj : pm_jmp i pc r1 st = some (pc', st')) : pm_step cs ms call scr nL rt (i, len, r1, r2, cst, hs) (pc, lv, st, h) = some (.inl (pc', lv, st', h)) := by
  show (match pm_grp i with
    | 0 => pm_o0 (pc + pm_aln i) lv h (pm_alu i cst st)
    | 1 => pm_o1 (pc + pm_ldn i) lv st h (pm_ld i lv)
    | 2 => pm_o2 (pc + pm_ston i) h (pm_sto nL i lv st)
    | 3 => pm_o3 lv h (pm_jmp i pc r1 st)
    | 4 => pm_o4 (pc + pm_memn i) lv (pm_mem cs scr i r1 r2 cst st h)
    | 5 => pm_o4 (pc + 3) lv (pm_inv call i r1 (pm_na ms r1).1 (pm_na ms r1).2 st h)
    | _ => pm_o6 h (pm_ret i rt st)) = _
  rw [hg]
  show pm_o3 lv h (pm_jmp i pc r1 st) = _
  rw [hj]
  rfl
end PMW
theorem pm_jt {b : Bool} {t pc : Nat} {r : List Value} (h : b = true) : pm_if b t pc r = some (t, r) := by subst h; rfl
theorem pm_jf {b : Bool} {t pc : Nat} {r : List Value} (h : b = false) : pm_if b t pc r = some (pc + 3, r) := by subst h; rfl
/-! what a method comes to: no fuel is named -/
noncomputable abbrev wS (d nL : Nat) (rt : Option FieldType) (f : Nat) : pm_I → pm_F → pm_O := pm_step pm_cs pm_ms (pm_call pm_cs pm_ms pm_ins f d) none nL rt
/-- from the frame F the method k ends, with Q -/
def wp_ (d k nL : Nat) (rt : Option FieldType) (F : pm_F) (Q : pm_R → Prop) : Prop := ∃ (n f0 : Nat) (r : pm_R), (∀ f, f0 ≤ f → ∀ u, pm_run (wS d nL rt f) (pm_ins k) (u + n) F = some r) ∧ Q r
/-- a call ends, with Q -/
def wc (d k : Nat) (as : List Value) (h : pm_H) (Q : pm_R → Prop) : Prop := ∃ (f0 : Nat) (r : pm_R), (∀ f, f0 ≤ f → pm_call pm_cs pm_ms pm_ins f d k as h = some r) ∧ Q r
theorem wc_mono {d k : Nat} {as : List Value} {h : pm_H} {Q Q' : pm_R → Prop} (w : wc d k as h Q) (hq : ∀ r, Q r → Q' r) : wc d k as h Q' := by
  obtain ⟨f0, r, h1, h2⟩ := w
  exact ⟨f0, r, h1, hq r h2⟩
section WP
variable {d k nL : Nat} {rt : Option FieldType} {Q : pm_R → Prop}
theorem w_s {F F' : pm_F} {q : pm_I} (h1 : pm_ins k F.1 = some q) (h2 : ∀ call, pm_step pm_cs pm_ms call none nL rt q F = some (.inl F')) (w : wp_ d k nL rt F' Q) : wp_ d k nL rt F Q := by
  obtain ⟨n, f0, r, h3, h4⟩ := w
  refine ⟨n + 1, f0, r, fun f hf u => ?_, h4⟩
  exact pm_r h1 (h2 _) (h3 f hf u)
theorem w_e {F : pm_F} {q : pm_I} {r : pm_R} (h1 : pm_ins k F.1 = some q) (h2 : ∀ call, pm_step pm_cs pm_ms call none nL rt q F = some (.inr r)) (hq : Q r) : wp_ d k nL rt F Q := ⟨1, 0, r, fun f _ u => pm_rE h1 (h2 _), hq⟩
theorem w_m {y : MethodName} {bs : ByteArray} {na ci : Nat} {as : List Value} {h : pm_H} (hm : pm_ms k = some (y, bs, nL, rt, na, ci)) (hw : Nat.ble (pm_wt as) nL = true) (w : wp_ d k nL rt (0, lv_args 0 as, [], h) Q) : wc (d + 1) k as h Q := by
  obtain ⟨n, f0, r, h3, h4⟩ := w
  refine ⟨max f0 n, r, fun f hf => ?_, h4⟩
  rw [pm_call_succ, hm]
  dsimp only
  rw [hw]
  have e := h3 f (by omega) (f - n)
  rw [show f - n + n = f by omega] at e
  exact e
theorem w_v {pc len k' r2 x na ci a nl : Nat} {cst : Int} {hs : List (Nat × Nat)} {lv : pm_L} {st r as : List Value} {h : pm_H} {y : MethodName} {bs : ByteArray} {rt' : Option FieldType} {Qc : pm_R → Prop} (h1 : pm_ins k pc = some (.invokevirtual x, len, k', r2, cst, hs)) (hm : pm_ms k' = some (y, bs, nl, rt', na, ci)) (hp : pm_pop_n na [] st = some (as, .ref a :: r)) (hw : Nat.ble (pm_wt r) 8 = true) (ho : pm_clsOk ci (pm_cell h a) = true) (hc : wc d k' (.ref a :: as) h Qc)
    (w : ∀ v h', Qc (v, h') → wp_ d k nL rt (pc + 3, lv, v.toList ++ r, h') Q) : wp_ d k nL rt (pc, lv, st, h) Q := by
  obtain ⟨f1, ⟨v, h'⟩, c1, c2⟩ := hc
  obtain ⟨n, f0, r', h3, h4⟩ := w v h' c2
  refine ⟨n + 1, max f0 f1, r', fun f hf u => ?_, h4⟩
  exact pm_r h1 (pm_sV hm hp hw ho (c1 f (by omega))) (h3 f (by omega) u)
theorem w_st {pc len k' r2 x na ci nl : Nat} {cst : Int} {hs : List (Nat × Nat)} {lv : pm_L} {st r as : List Value} {h : pm_H} {y : MethodName} {bs : ByteArray} {rt' : Option FieldType} {Qc : pm_R → Prop} (h1 : pm_ins k pc = some (.invokestatic x, len, k', r2, cst, hs)) (hm : pm_ms k' = some (y, bs, nl, rt', na, ci)) (hp : pm_pop_n na [] st = some (as, r)) (hw : Nat.ble (pm_wt r) 8 = true) (hc : wc d k' as h Qc)
    (w : ∀ v h', Qc (v, h') → wp_ d k nL rt (pc + 3, lv, v.toList ++ r, h') Q) : wp_ d k nL rt (pc, lv, st, h) Q := by
  obtain ⟨f1, ⟨v, h'⟩, c1, c2⟩ := hc
  obtain ⟨n, f0, r', h3, h4⟩ := w v h' c2
  refine ⟨n + 1, max f0 f1, r', fun f hf u => ?_, h4⟩
  exact pm_r h1 (pm_sS hm hp hw (c1 f (by omega))) (h3 f (by omega) u)
/-- branches -/
theorem w_br {pc len t r2 : Nat} {cst : Int} {hs : List (Nat × Nat)} {i : Instr} {lv : pm_L} {st r : List Value} {h : pm_H} {P P' : Prop} {inst : Decidable P} (h1 : pm_ins k pc = some (i, len, t, r2, cst, hs)) (hg : pm_grp i = 3) (hj : pm_jmp i pc t st = pm_if (decide P) t pc r) (he : P ↔ P') (wt : P' → wp_ d k nL rt (t, lv, r, h) Q) (wf : ¬ P' → wp_ d k nL rt (pc + 3, lv, r, h) Q) : wp_ d k nL rt (pc, lv, st, h) Q := by
  by_cases hP : P
  · exact w_s (F' := (t, lv, r, h)) h1 (fun call => pm_sJ hg (hj.trans (pm_jt (decide_eq_true hP)))) (wt (he.mp hP))
  · exact w_s (F' := (pc + 3, lv, r, h)) h1 (fun call => pm_sJ hg (hj.trans (pm_jf (decide_eq_false hP)))) (wf (fun q => hP (he.mpr q)))
end WP
theorem ofI_0 : (0 : Int32) = Int32.ofInt 0 := by decide
theorem inI_0 : inI 0 := ⟨by decide, by decide⟩
section WB
variable {d k nL : Nat} {rt : Option FieldType} {Q : pm_R → Prop} {pc len t r2 : Nat} {cst off : Int} {hs : List (Nat × Nat)} {lv : pm_L} {r : List Value} {h : pm_H} {a b : Int}
theorem w_ieq (h1 : pm_ins k pc = some (.if_icmp .eq off, len, t, r2, cst, hs)) (ha : inI a) (hb : inI b) (wt : a = b → wp_ d k nL rt (t, lv, r, h) Q) (wf : ¬ a = b → wp_ d k nL rt (pc + 3, lv, r, h) Q) : wp_ d k nL rt (pc, lv, .int (Int32.ofInt b) :: .int (Int32.ofInt a) :: r, h) Q := w_br h1 rfl rfl (ofI_eq ha hb) wt wf
theorem w_ine (h1 : pm_ins k pc = some (.if_icmp .ne off, len, t, r2, cst, hs)) (ha : inI a) (hb : inI b) (wt : ¬ a = b → wp_ d k nL rt (t, lv, r, h) Q) (wf : a = b → wp_ d k nL rt (pc + 3, lv, r, h) Q) : wp_ d k nL rt (pc, lv, .int (Int32.ofInt b) :: .int (Int32.ofInt a) :: r, h) Q := w_br h1 rfl rfl (not_congr (ofI_eq ha hb)) wt (fun q => wf (Decidable.of_not_not q))
theorem w_ilt (h1 : pm_ins k pc = some (.if_icmp .lt off, len, t, r2, cst, hs)) (ha : inI a) (hb : inI b) (wt : a < b → wp_ d k nL rt (t, lv, r, h) Q) (wf : b ≤ a → wp_ d k nL rt (pc + 3, lv, r, h) Q) : wp_ d k nL rt (pc, lv, .int (Int32.ofInt b) :: .int (Int32.ofInt a) :: r, h) Q := w_br h1 rfl rfl (ofI_lt ha hb) wt (fun q => wf (by omega))
theorem w_ige (h1 : pm_ins k pc = some (.if_icmp .ge off, len, t, r2, cst, hs)) (ha : inI a) (hb : inI b) (wt : b ≤ a → wp_ d k nL rt (t, lv, r, h) Q) (wf : a < b → wp_ d k nL rt (pc + 3, lv, r, h) Q) : wp_ d k nL rt (pc, lv, .int (Int32.ofInt b) :: .int (Int32.ofInt a) :: r, h) Q := w_br h1 rfl rfl (ofI_le hb ha) wt (fun q => wf (by omega))
theorem w_igt (h1 : pm_ins k pc = some (.if_icmp .gt off, len, t, r2, cst, hs)) (ha : inI a) (hb : inI b) (wt : b < a → wp_ d k nL rt (t, lv, r, h) Q) (wf : a ≤ b → wp_ d k nL rt (pc + 3, lv, r, h) Q) : wp_ d k nL rt (pc, lv, .int (Int32.ofInt b) :: .int (Int32.ofInt a) :: r, h) Q := w_br h1 rfl rfl (ofI_lt hb ha) wt (fun q => wf (by omega))
theorem w_ile (h1 : pm_ins k pc = some (.if_icmp .le off, len, t, r2, cst, hs)) (ha : inI a) (hb : inI b) (wt : a ≤ b → wp_ d k nL rt (t, lv, r, h) Q) (wf : b < a → wp_ d k nL rt (pc + 3, lv, r, h) Q) : wp_ d k nL rt (pc, lv, .int (Int32.ofInt b) :: .int (Int32.ofInt a) :: r, h) Q := w_br h1 rfl rfl (ofI_le ha hb) wt (fun q => wf (by omega))
theorem w_zeq (h1 : pm_ins k pc = some (.ifCond .eq off, len, t, r2, cst, hs)) (ha : inI a) (wt : a = 0 → wp_ d k nL rt (t, lv, r, h) Q) (wf : ¬ a = 0 → wp_ d k nL rt (pc + 3, lv, r, h) Q) : wp_ d k nL rt (pc, lv, .int (Int32.ofInt a) :: r, h) Q := w_br h1 rfl rfl (by rw [ofI_0]; exact ofI_eq ha inI_0) wt wf
theorem w_zne (h1 : pm_ins k pc = some (.ifCond .ne off, len, t, r2, cst, hs)) (ha : inI a) (wt : ¬ a = 0 → wp_ d k nL rt (t, lv, r, h) Q) (wf : a = 0 → wp_ d k nL rt (pc + 3, lv, r, h) Q) : wp_ d k nL rt (pc, lv, .int (Int32.ofInt a) :: r, h) Q := w_br h1 rfl rfl (not_congr (by rw [ofI_0]; exact ofI_eq ha inI_0)) wt (fun q => wf (Decidable.of_not_not q))
theorem w_zlt (h1 : pm_ins k pc = some (.ifCond .lt off, len, t, r2, cst, hs)) (ha : inI a) (wt : a < 0 → wp_ d k nL rt (t, lv, r, h) Q) (wf : 0 ≤ a → wp_ d k nL rt (pc + 3, lv, r, h) Q) : wp_ d k nL rt (pc, lv, .int (Int32.ofInt a) :: r, h) Q := w_br h1 rfl rfl (by rw [ofI_0]; exact ofI_lt ha inI_0) wt (fun q => wf (by omega))
theorem w_zge (h1 : pm_ins k pc = some (.ifCond .ge off, len, t, r2, cst, hs)) (ha : inI a) (wt : 0 ≤ a → wp_ d k nL rt (t, lv, r, h) Q) (wf : a < 0 → wp_ d k nL rt (pc + 3, lv, r, h) Q) : wp_ d k nL rt (pc, lv, .int (Int32.ofInt a) :: r, h) Q := w_br h1 rfl rfl (by rw [ofI_0]; exact ofI_le inI_0 ha) wt (fun q => wf (by omega))
theorem w_zgt (h1 : pm_ins k pc = some (.ifCond .gt off, len, t, r2, cst, hs)) (ha : inI a) (wt : 0 < a → wp_ d k nL rt (t, lv, r, h) Q) (wf : a ≤ 0 → wp_ d k nL rt (pc + 3, lv, r, h) Q) : wp_ d k nL rt (pc, lv, .int (Int32.ofInt a) :: r, h) Q := w_br h1 rfl rfl (by rw [ofI_0]; exact ofI_lt inI_0 ha) wt (fun q => wf (by omega))
theorem w_zle (h1 : pm_ins k pc = some (.ifCond .le off, len, t, r2, cst, hs)) (ha : inI a) (wt : a ≤ 0 → wp_ d k nL rt (t, lv, r, h) Q) (wf : 0 < a → wp_ d k nL rt (pc + 3, lv, r, h) Q) : wp_ d k nL rt (pc, lv, .int (Int32.ofInt a) :: r, h) Q := w_br h1 rfl rfl (by rw [ofI_0]; exact ofI_le ha inI_0) wt (fun q => wf (by omega))
end WB
section WA
variable {cs : Nat → List Value} {ms : Nat → Option pm_M} {call : pm_C} {scr : pm_S} {nL : Nat} {rt : Option FieldType} {pc len r1 r2 : Nat} {cst : Int} {hs : List (Nat × Nat)} {lv : pm_L} {r : List Value} {h : pm_H} {a b : Int}
end WA
end
section
/-! the shape of both objects, freshly made; no call makes a cell -/
def mshl_0 : List mt := [(0, 10, 0), (1, 2, 1600), (0, 4, 0), (0, 9, 0), (1, 1, 282), (1, 0, 18), (1, 0, 18), (1, 0, 36), (1, 0, 36), (0, 3, 0), (0, 6, 0), (1, 0, 36), (1, 0, 18), (1, 0, 18), (1, 1, 18), (1, 6, 8), (0, 5, 0), (1, 0, 1782), (0, 5, 0), (1, 0, 1782), (0, 5, 0), (1, 0, 1782), (0, 5, 0), (1, 0, 1782), (0, 5, 0), (1, 0, 1782), (0, 5, 0), (1, 0, 1782), (0, 5, 0), (1, 0, 1782), (0, 5, 0), (1, 0, 1782), (0, 1, 0), (1, 1, 18), (0, 2, 0), (1, 1, 18), (1, 0, 1600), (1, 0, 1600), (0, 0, 0), (1, 4, 61), (1, 1, 18), (1, 1, 18), (1, 1, 18), (1, 1, 18), (1, 1, 18), (1, 1, 18), (1, 1, 18), (1, 1, 18), (1, 1, 18), (1, 1, 18)]
def mshl_1 : List mt := [(1, 1, 18), (1, 1, 18), (1, 1, 18), (1, 1, 18), (1, 1, 18), (1, 1, 18), (1, 1, 18), (1, 1, 18), (1, 1, 18), (1, 1, 18), (1, 1, 18), (1, 1, 18), (1, 1, 18), (1, 1, 18), (1, 1, 18), (1, 1, 18), (1, 1, 18), (1, 1, 18), (1, 1, 18), (1, 1, 18), (1, 1, 18), (1, 1, 18), (1, 1, 18), (1, 1, 18), (1, 1, 18), (1, 1, 18), (1, 1, 18), (1, 1, 18), (1, 1, 18), (1, 1, 18), (1, 1, 18), (1, 1, 18), (1, 1, 18), (1, 1, 18), (1, 1, 18), (1, 1, 18), (1, 1, 18), (1, 1, 18), (1, 1, 18), (1, 1, 18), (1, 1, 18), (1, 1, 18), (1, 1, 18), (1, 1, 18), (1, 1, 18), (1, 1, 18), (1, 1, 18), (1, 1, 18), (1, 1, 18), (1, 1, 18)]
def mshl_2 : List mt := [(1, 1, 18), (0, 7, 0), (1, 4, 18), (1, 1, 18), (1, 1, 18), (1, 1, 18), (1, 1, 18), (1, 1, 18), (1, 1, 18), (1, 1, 18), (1, 1, 18), (1, 1, 18), (1, 1, 18), (1, 1, 18), (1, 1, 18), (1, 1, 18), (1, 1, 18), (1, 1, 18), (1, 1, 18), (1, 1, 18), (1, 1, 18), (1, 4, 18), (1, 1, 18), (1, 1, 18), (1, 1, 18), (1, 1, 18), (1, 1, 18), (1, 1, 18), (1, 1, 18), (1, 1, 18), (1, 1, 18), (1, 1, 18), (1, 1, 18), (1, 1, 18), (1, 1, 18), (1, 1, 18), (1, 1, 18), (1, 1, 18), (1, 1, 18), (1, 1, 18), (1, 1, 18), (1, 1, 19), (1, 4, 3), (1, 1, 18), (1, 1, 18), (1, 1, 18), (1, 3, 3), (1, 4, 8), (1, 1, 18), (1, 1, 18)]
def mshl_3 : List mt := [(1, 1, 18), (1, 1, 18), (1, 1, 18), (1, 1, 18), (1, 1, 18), (1, 1, 18), (1, 1, 18), (1, 1, 18), (0, 8, 0), (1, 0, 36), (1, 0, 36), (1, 0, 36), (1, 0, 18), (1, 0, 18), (1, 0, 18), (1, 4, 8), (1, 1, 18), (1, 1, 18), (1, 1, 18), (1, 1, 18), (1, 1, 18), (1, 1, 18), (1, 1, 18), (1, 1, 18), (1, 1, 8), (1, 1, 6), (1, 0, 6), (1, 5, 6), (1, 0, 8), (1, 0, 8), (1, 0, 8), (1, 0, 8), (1, 0, 8), (1, 0, 8), (1, 5, 6), (1, 0, 8), (1, 0, 8), (1, 0, 8), (1, 0, 8), (1, 0, 8), (1, 0, 8), (0, 8, 0), (1, 0, 36), (1, 0, 36), (1, 0, 36), (1, 0, 18), (1, 0, 18), (1, 0, 18), (1, 4, 8), (1, 1, 18)]
def mshl_4 : List mt := [(1, 1, 18), (1, 1, 18), (1, 1, 18), (1, 1, 18), (1, 1, 18), (1, 1, 18), (1, 1, 18), (1, 1, 8), (1, 1, 6), (1, 0, 6), (1, 5, 6), (1, 0, 8), (1, 0, 8), (1, 0, 8), (1, 0, 8), (1, 0, 8), (1, 0, 8), (1, 5, 6), (1, 0, 8), (1, 0, 8), (1, 0, 8), (1, 0, 8), (1, 0, 8), (1, 0, 8), (0, 11, 0), (1, 0, 1600), (1, 1, 8), (1, 1, 6), (1, 0, 36), (1, 0, 18), (1, 0, 144), (1, 0, 48), (1, 0, 48), (1, 0, 6), (1, 0, 36), (1, 0, 144), (1, 0, 48), (1, 0, 48), (1, 0, 6), (1, 0, 36), (1, 0, 18), (1, 0, 36), (1, 0, 18), (1, 0, 19), (1, 3, 18000), (1, 0, 18000), (1, 0, 71280), (1, 0, 8), (1, 0, 8), (1, 0, 8)]
def mshl_5 : List mt := [(1, 0, 8), (1, 0, 8), (1, 3, 8), (1, 3, 8), (1, 0, 36), (1, 0, 18), (1, 1, 18), (1, 1, 324), (1, 1, 18), (1, 1, 18), (1, 0, 72), (1, 1, 18), (1, 1, 144), (1, 3, 8), (1, 1, 324), (1, 1, 324), (1, 1, 19), (1, 0, 18), (1, 0, 18), (1, 1, 18), (1, 1, 1098), (1, 0, 1600), (1, 1, 18), (1, 3, 3), (1, 1, 54)]
def mshl : List mt := mshl_0 ++ (mshl_1 ++ (mshl_2 ++ (mshl_3 ++ (mshl_4 ++ (mshl_5)))))
def mft : mc := fun k => match k with
  | 0 => [0, 0, 0, 3]
  | 1 => [3, 3, 0]
  | 2 => [3, 3, 3, 0, 0]
  | 3 => [3, 3, 3]
  | 4 => [0, 0, 3, 0, 3, 0, 0, 0, 0, 0, 1]
  | 5 => [0, 0, 0, 0, 0, 0, 3]
  | 6 => [3, 3, 3, 3, 0, 0, 0, 0, 0, 0, 1]
  | 7 => [0, 0, 0, 0, 0, 3, 3, 3, 3]
  | 8 => [0, 0, 0, 0, 0, 3, 3, 3, 3, 3, 3, 3, 3, 3, 3, 3, 3]
  | 9 => [0, 0, 3, 3, 3, 3, 3, 3, 0, 0, 0, 0, 0, 0]
  | 10 => [3, 3, 3, 3, 3, 3, 3, 3, 3, 3, 3, 3, 3, 3, 3, 0, 0, 0, 0]
  | 11 => [3, 0, 0, 0, 0, 0, 0, 0, 0, 1, 3, 3, 3, 3, 3, 3, 3, 3, 3, 3, 3, 3, 3, 0, 0, 0, 0, 0, 0, 3, 3, 3, 0, 3, 3, 3, 0, 0, 0, 0, 0, 3, 0, 3, 3, 3, 3, 3, 3, 3, 3, 3, 3, 0, 0, 3, 3, 3, 0, 0, 3, 3, 3, 3, 3, 3, 3, 3, 3, 3, 0, 3, 3, 0, 0, 3, 0, 0, 3, 3, 3]
  | _ => []
abbrev mk (z w : Nat → Nat → Int) (p : Nat → Nat → Option Nat) : pm_H := mkg mft (z, w, p) mshl 1
/-- what a heap holds -/
noncomputable def xz (h : pm_H) (a i : Nat) : Int := match pm_cell h a with
  | some (.inl (_, _, .inl f)) => (f i).toInt
  | some (.inr (_, fs)) => match fs[i]? with
    | some (.int x) => x.toInt
    | _ => 0
  | _ => 0
noncomputable def xw (h : pm_H) (a i : Nat) : Int := match pm_cell h a with
  | some (.inl (_, _, .inr (.inl f))) => (f i).toInt
  | some (.inr (_, fs)) => match fs[i]? with
    | some (.long x) => x.toInt
    | _ => 0
  | _ => 0
noncomputable def xp (h : pm_H) (a i : Nat) : Option Nat := match pm_cell h a with
  | some (.inl (_, _, .inr (.inr (.inr (.inr f))))) => f i
  | some (.inr (_, fs)) => match fs[i]? with
    | some (.ref x) => some x
    | _ => none
  | _ => none
/-- whether values are of the fields' kinds -/
def mfo : List Nat → List Value → Bool
  | [], [] => true
  | 0 :: l, .int _ :: r => mfo l r
  | 1 :: l, .long _ :: r => mfo l r
  | 3 :: l, .ref _ :: r => mfo l r
  | 3 :: l, .null :: r => mfo l r
  | _, _ => false
def mco (ft : mc) (s : mt) (e : pm_E) : Bool := match s, e with
  | (0, c, 0), .inr (c', fs) => Nat.beq c c' && mfo (ft c) fs
  | (1, k, n), .inl (k', n', .inl _) => Nat.beq k k' && (Nat.beq n n' && (Nat.beq k 0 || (Nat.beq k 2 || Nat.beq k 3)))
  | (1, k, n), .inl (k', n', .inr (.inl _)) => Nat.beq k k' && (Nat.beq n n' && Nat.beq k 1)
  | (1, k, n), .inl (k', n', .inr (.inr (.inr (.inr _)))) => Nat.beq k k' && (Nat.beq n n' && (Nat.beq k 4 || (Nat.beq k 5 || Nat.beq k 6)))
  | _, _ => false
def mho (ft : mc) : List mt → pm_H → Bool
  | [], [] => true
  | s :: l, e :: r => mco ft s e && mho ft l r
  | _, _ => false
theorem mho_get {ft : mc} : ∀ (l : List mt) (h : pm_H), mho ft l h = true → l.length = h.length ∧ ∀ (k : Nat) (s : mt) (e : pm_E), l[k]? = some s → h[k]? = some e → mco ft s e = true := by
  intro l
  induction l with
  | nil =>
    intro h q
    cases h with
    | nil => exact ⟨rfl, fun k s e h1 => by cases h1⟩
    | cons e r => cases q
  | cons s l ih =>
    intro h q
    cases h with
    | nil => cases q
    | cons e r =>
      have q2 : (mco ft s e && mho ft l r) = true := q
      rw [Bool.and_eq_true] at q2
      obtain ⟨i1, i2⟩ := ih r q2.2
      refine ⟨congrArg (· + 1) i1, fun k t f h1 h2 => ?_⟩
      cases k with
      | zero => cases h1; cases h2; exact q2.1
      | succ k => exact i2 k t f h1 h2
theorem mfo_get : ∀ (l : List Nat) (fs : List Value), mfo l fs = true → l.length = fs.length ∧ ∀ (k c : Nat) (v : Value), l[k]? = some c → fs[k]? = some v → (c = 0 ∧ ∃ x, v = .int x) ∨ (c = 1 ∧ ∃ x, v = .long x) ∨ (c = 3 ∧ ((∃ x, v = .ref x) ∨ v = .null)) := by
  intro l
  induction l with
  | nil =>
    intro fs q
    cases fs with
    | nil => exact ⟨rfl, fun k s e h1 => by cases h1⟩
    | cons e r => cases q
  | cons s l ih =>
    intro fs q
    have key : ∃ v r, fs = v :: r ∧ mfo l r = true ∧ ((s = 0 ∧ ∃ x, v = .int x) ∨ (s = 1 ∧ ∃ x, v = .long x) ∨ (s = 3 ∧ ((∃ x, v = .ref x) ∨ v = .null))) := by
      rcases s with _ | _ | _ | _ | s <;> rcases fs with _ | ⟨v, r⟩
      all_goals first | exact absurd q Bool.false_ne_true | cases v
      all_goals first | exact absurd q Bool.false_ne_true | exact ⟨_, _, rfl, q, Or.inl ⟨rfl, _, rfl⟩⟩ | exact ⟨_, _, rfl, q, Or.inr (Or.inl ⟨rfl, _, rfl⟩)⟩ | exact ⟨_, _, rfl, q, Or.inr (Or.inr ⟨rfl, Or.inl ⟨_, rfl⟩⟩)⟩ | exact ⟨_, _, rfl, q, Or.inr (Or.inr ⟨rfl, Or.inr rfl⟩)⟩
    obtain ⟨v0, r, rfl, q2, hv⟩ := key
    obtain ⟨i1, i2⟩ := ih r q2
    refine ⟨congrArg (· + 1) i1, fun k c v h1 h2 => ?_⟩
    cases k with
    | zero => cases h1; cases h2; exact hv
    | succ k => exact i2 k c v h1 h2
theorem mk_ext {h : pm_H} (q : mho mft mshl h = true) : h = mk (xz h) (xw h) (xp h) := by
  obtain ⟨hl, hg⟩ := mho_get _ _ q
  apply List.ext_getElem?
  intro k
  rw [mkg_get]
  cases e1 : h[k]? with
  | none =>
    have : mshl[k]? = none := List.getElem?_eq_none (by rw [hl]; exact List.getElem?_eq_none_iff.mp e1)
    rw [this]; rfl
  | some e =>
    have hlt : k < mshl.length := by rw [hl]; exact (List.getElem?_eq_some_iff.mp e1).1
    obtain ⟨s, e2⟩ : ∃ s, mshl[k]? = some s := ⟨_, List.getElem?_eq_getElem hlt⟩
    rw [e2]
    show some e = some (mce mft s (xz h, xw h, xp h) (1 + k))
    have hc : pm_cell h (1 + k) = some e := by
      rw [Nat.add_comm]
      show pm_nth h k = some e
      rw [pm_nth_eq]; exact e1
    have ho := hg k s e e2 e1
    congr 1
    unfold mco at ho
    split at ho
    · rename_i c c' fs
      rw [Bool.and_eq_true] at ho
      cases pm_beq ho.1
      obtain ⟨i1, i2⟩ := mfo_get _ _ ho.2
      show _ = Sum.inr (c, mfs (xz h, xw h, xp h) (1 + k) (mft c) 0)
      congr 2
      apply List.ext_getElem?
      intro j
      rw [mfs_get, Nat.zero_add]
      cases e3 : fs[j]? with
      | none =>
        have : (mft c)[j]? = none := List.getElem?_eq_none (by rw [i1]; exact List.getElem?_eq_none_iff.mp e3)
        rw [this]; rfl
      | some v =>
        have hlt2 : j < (mft c).length := by rw [i1]; exact (List.getElem?_eq_some_iff.mp e3).1
        obtain ⟨t, e4⟩ : ∃ t, (mft c)[j]? = some t := ⟨_, List.getElem?_eq_getElem hlt2⟩
        rw [e4]
        show some v = some (mfv t (xz h, xw h, xp h) (1 + k) j)
        rcases i2 j t v e4 e3 with ⟨rfl, x, rfl⟩ | ⟨rfl, x, rfl⟩ | ⟨rfl, ⟨x, rfl⟩ | rfl⟩
        · show some (Value.int x) = some (.int (Int32.ofInt (xz h (1 + k) j)))
          unfold xz
          rw [hc]
          simp only [e3, Int32.ofInt_toInt]
        · show some (Value.long x) = some (.long (Int64.ofInt (xw h (1 + k) j)))
          unfold xw
          rw [hc]
          simp only [e3, Int64.ofInt_toInt]
        · show some (Value.ref x) = some (va_rf (xp h (1 + k) j))
          unfold xp
          rw [hc]
          simp only [e3]
          rfl
        · show some Value.null = some (va_rf (xp h (1 + k) j))
          unfold xp
          rw [hc]
          simp only [e3]
          rfl
    · rename_i k1 n k' n' f
      simp only [Bool.and_eq_true, Bool.or_eq_true] at ho
      obtain ⟨h1, h2, h3⟩ := ho
      cases pm_beq h1
      cases pm_beq h2
      have hf : f = fun i => Int32.ofInt (xz h (1 + k) i) := by
        funext i
        unfold xz
        rw [hc]
        exact (Int32.ofInt_toInt _).symm
      rcases h3 with h3 | h3 | h3 <;> cases pm_beq h3 <;> (conv => lhs; rw [hf]) <;> rfl
    · rename_i k1 n k' n' f
      simp only [Bool.and_eq_true] at ho
      obtain ⟨h1, h2, h3⟩ := ho
      cases pm_beq h1
      cases pm_beq h2
      have hf : f = fun i => Int64.ofInt (xw h (1 + k) i) := by
        funext i
        unfold xw
        rw [hc]
        exact (Int64.ofInt_toInt _).symm
      cases pm_beq h3
      conv => lhs; rw [hf]
      rfl
    · rename_i k1 n k' n' f
      simp only [Bool.and_eq_true, Bool.or_eq_true] at ho
      obtain ⟨h1, h2, h3⟩ := ho
      cases pm_beq h1
      cases pm_beq h2
      have hf : f = fun i => xp h (1 + k) i := by
        funext i
        unfold xp
        rw [hc]
      rcases h3 with h3 | h3 | h3 <;> cases pm_beq h3 <;> (conv => lhs; rw [hf]) <;> rfl
    · cases ho
noncomputable def pt_h (o : Option pm_R) : pm_H := match o with
  | some (_, h) => h
  | none => []
noncomputable def pt_v (o : Option pm_R) : Option Value := match o with
  | some (v, _) => v
  | none => none
theorem pt_some {o : Option pm_R} {v : Option Value} (h : (o.isSome && decide (pt_v o = v)) = true) : o = some (v, pt_h o) := by
  rw [Bool.and_eq_true, decide_eq_true_eq] at h
  cases o with
  | none => cases h.1
  | some x =>
    obtain ⟨w, y⟩ := x
    obtain ⟨-, h2⟩ := h
    cases h2
    rfl
noncomputable abbrev pC (d k : Nat) (as : List Value) (h : pm_H) : Option pm_R := pm_call pm_cs pm_ms pm_ins 10000 d k as h
noncomputable def ph_0 : pm_H := [.inr (10, pm_cs 10)]
noncomputable def ph_1 : pm_H := pt_h (pC 9 101 [.ref 1] ph_0)
noncomputable def ph_2 : pm_H := ph_1 ++ [.inr (11, pm_cs 11)]
/-- both made -/
noncomputable def ph_3 : pm_H := pt_h (pC 9 145 [.ref 225] ph_2)
set_option maxRecDepth 100000 in
theorem pc_1 : pC 9 101 [.ref 1] ph_0 = some (none, ph_1) := pt_some (by decide +kernel)
set_option maxRecDepth 100000 in
theorem pz_1 : ph_1.length + 1 = 225 := by decide +kernel
set_option maxRecDepth 100000 in
theorem pc_3 : pC 9 145 [.ref 225] ph_2 = some (none, ph_3) := pt_some (by decide +kernel)
set_option maxRecDepth 100000 in
theorem pz_3 : (Nat.ble ph_3.length 600000 && Nat.ble (pm_sls ph_3) 7302250) = true := by decide +kernel
set_option maxRecDepth 100000 in
theorem ph_3_ok : mho mft mshl ph_3 = true := by decide +kernel
theorem ph_3_mk : ph_3 = mk (xz ph_3) (xw ph_3) (xp ph_3) := mk_ext ph_3_ok
end

/-! memory of a fixed shape: ints, longs and references (none: null), by address and place -/
abbrev mm : Type := (Nat → Nat → Int) × (Nat → Nat → Int) × (Nat → Nat → Option Nat)
/-- a cell's shape: an object (0, class, 0), an array (1, kind, length) -/
abbrev mt : Type := Nat × Nat × Nat
abbrev mv (o : Option Nat) : Value := va_rf o
/-- a field's value by its kind: 0 an int, 1 a long, 3 a reference -/
def mfv (c : Nat) (m : mm) (a k : Nat) : Value := match c with
  | 0 => .int (Int32.ofInt (m.1 a k))
  | 1 => .long (Int64.ofInt (m.2.1 a k))
  | _ => mv (m.2.2 a k)
def mfs (m : mm) (a : Nat) : List Nat → Nat → List Value
  | [], _ => []
  | c :: r, k => mfv c m a k :: mfs m a r (k + 1)
theorem mfs_get (m : mm) (a : Nat) (l : List Nat) : ∀ i k, (mfs m a l i)[k]? = (l[k]?).map (fun c => mfv c m a (i + k)) := by
  induction l with
  | nil => intro i k; rfl
  | cons c r ih =>
    intro i k
    cases k with
    | zero => rfl
    | succ k =>
      show (mfs m a r (i + 1))[k]? = (r[k]?).map _
      rw [ih, show i + 1 + k = i + (k + 1) by omega]
theorem mfs_len (m : mm) (a : Nat) (l : List Nat) : ∀ i, (mfs m a l i).length = l.length := by
  induction l with
  | nil => intro i; rfl
  | cons c r ih => intro i; exact congrArg (· + 1) (ih (i + 1))
/-- the kinds of a class' fields -/
abbrev mc : Type := Nat → List Nat
def mce (ft : mc) (s : mt) (m : mm) (a : Nat) : pm_E := match s.1 with
  | 0 => .inr (s.2.1, mfs m a (ft s.2.1) 0)
  | _ => match s.2.1 with
    | 1 => .inl (1, s.2.2, .inr (.inl (fun i => Int64.ofInt (m.2.1 a i))))
    | 4 => .inl (4, s.2.2, .inr (.inr (.inr (.inr (fun i => m.2.2 a i)))))
    | 5 => .inl (5, s.2.2, .inr (.inr (.inr (.inr (fun i => m.2.2 a i)))))
    | 6 => .inl (6, s.2.2, .inr (.inr (.inr (.inr (fun i => m.2.2 a i)))))
    | k => .inl (k, s.2.2, .inl (fun i => Int32.ofInt (m.1 a i)))
def mkg (ft : mc) (m : mm) : List mt → Nat → pm_H
  | [], _ => []
  | s :: r, a => mce ft s m a :: mkg ft m r (a + 1)
theorem mkg_get (ft : mc) (m : mm) (l : List mt) : ∀ a k, (mkg ft m l a)[k]? = (l[k]?).map (fun s => mce ft s m (a + k)) := by
  induction l with
  | nil => intro a k; rfl
  | cons s r ih =>
    intro a k
    cases k with
    | zero => rfl
    | succ k =>
      show (mkg ft m r (a + 1))[k]? = (r[k]?).map _
      rw [ih, show a + 1 + k = a + (k + 1) by omega]
theorem mkg_len (ft : mc) (m : mm) (l : List mt) : ∀ a, (mkg ft m l a).length = l.length := by
  induction l with
  | nil => intro a; rfl
  | cons s r ih => intro a; exact congrArg (· + 1) (ih (a + 1))
/-- the shape at an address -/
def msh (l : List mt) (a : Nat) : Option mt := match a with
  | 0 => none
  | a + 1 => l[a]?
theorem mk_cell (ft : mc) (m : mm) (l : List mt) (a : Nat) : pm_cell (mkg ft m l 1) a = (msh l a).map (fun s => mce ft s m a) := by
  cases a with
  | zero => rfl
  | succ a =>
    show pm_nth _ a = _
    rw [pm_nth_eq, mkg_get, Nat.add_comm 1 a]
    rfl
theorem mk_wr {ft : mc} {m m' : mm} {l : List mt} {a : Nat} {s : mt} (hs : msh l a = some s) (hm : ∀ b t, b ≠ a → mce ft t m b = mce ft t m' b) : pm_wr (mkg ft m l 1) a (mce ft s m' a) = mkg ft m' l 1 := by
  cases a with
  | zero => cases hs
  | succ a =>
    show pm_put _ _ a = _
    rw [pm_put_eq]
    apply List.ext_getElem?
    intro k
    have hs : l[a]? = some s := hs
    have hlt := (List.getElem?_eq_some_iff.mp hs).1
    by_cases e : a = k
    · subst e
      rw [List.getElem?_set_self (by rw [mkg_len]; exact hlt), mkg_get, hs, Nat.add_comm 1 a]
      rfl
    · rw [List.getElem?_set_ne e, mkg_get, mkg_get]
      cases l[k]? with
      | none => rfl
      | some t =>
        show some (mce ft t m (1 + k)) = some (mce ft t m' (1 + k))
        rw [hm (1 + k) t (by omega)]
/-- one place is another -/
def mu {α : Type} (z : Nat → Nat → α) (a i : Nat) (e : α) : Nat → Nat → α := fun b j => if b = a ∧ j = i then e else z b j
theorem mu_eq {α : Type} {z : Nat → Nat → α} {a i : Nat} {e : α} : mu z a i e a i = e := if_pos ⟨rfl, rfl⟩
theorem mu_ne {α : Type} {z : Nat → Nat → α} {a i b j : Nat} {e : α} (h : ¬ (b = a ∧ j = i)) : mu z a i e b j = z b j := if_neg h
theorem mce_ne {ft : mc} {m m' : mm} {b : Nat} (h1 : ∀ i, m'.1 b i = m.1 b i) (h2 : ∀ i, m'.2.1 b i = m.2.1 b i) (h3 : ∀ i, m'.2.2 b i = m.2.2 b i) (t : mt) : mce ft t m b = mce ft t m' b := by
  have hf : ∀ (l : List Nat) (k : Nat), mfs m b l k = mfs m' b l k := by
    intro l
    induction l with
    | nil => intro k; rfl
    | cons c r ih =>
      intro k
      show mfv c m b k :: _ = mfv c m' b k :: _
      rw [ih]
      congr 1
      unfold mfv
      split
      · rw [h1]
      · rw [h2]
      · rw [h3]
  unfold mce
  split
  · rw [hf]
  · split <;> simp only [h1, h2, h3]
theorem mce_i {ft : mc} {m : mm} {a i : Nat} {e : Int} {b : Nat} (h : b ≠ a) (t : mt) : mce ft t m b = mce ft t (mu m.1 a i e, m.2) b := mce_ne (m := m) (m' := (mu m.1 a i e, m.2)) (fun j => mu_ne (fun q => h q.1)) (fun _ => rfl) (fun _ => rfl) t
theorem mce_l {ft : mc} {m : mm} {a i : Nat} {e : Int} {b : Nat} (h : b ≠ a) (t : mt) : mce ft t m b = mce ft t (m.1, mu m.2.1 a i e, m.2.2) b := mce_ne (m := m) (m' := (m.1, mu m.2.1 a i e, m.2.2)) (fun _ => rfl) (fun j => mu_ne (fun q => h q.1)) (fun _ => rfl) t
theorem mce_r {ft : mc} {m : mm} {a i : Nat} {e : Option Nat} {b : Nat} (h : b ≠ a) (t : mt) : mce ft t m b = mce ft t (m.1, m.2.1, mu m.2.2 a i e) b := mce_ne (m := m) (m' := (m.1, m.2.1, mu m.2.2 a i e)) (fun _ => rfl) (fun _ => rfl) (fun j => mu_ne (fun q => h q.1)) t
/-- ints as machine's ints -/
def inI (e : Int) : Prop := -2147483648 ≤ e ∧ e < 2147483648
theorem ofI_toInt {e : Int} (h : inI e) : (Int32.ofInt e).toInt = e := Int32.toInt_ofInt_of_le h.1 h.2
theorem ofI_add (a b : Int) : Int32.ofInt a + Int32.ofInt b = Int32.ofInt (a + b) := (Int32.ofInt_add a b).symm
theorem ofI_sub (a b : Int) : Int32.ofInt a - Int32.ofInt b = Int32.ofInt (a - b) := (Int32.ofInt_sub a b).symm
theorem ofI_mul (a b : Int) : Int32.ofInt a * Int32.ofInt b = Int32.ofInt (a * b) := (Int32.ofInt_mul a b).symm
theorem ofI_neg (a : Int) : - Int32.ofInt a = Int32.ofInt (-a) := (Int32.ofInt_neg a).symm
theorem ofI_lt {a b : Int} (ha : inI a) (hb : inI b) : Int32.ofInt a < Int32.ofInt b ↔ a < b := by rw [Int32.lt_iff_toInt_lt, ofI_toInt ha, ofI_toInt hb]
theorem ofI_le {a b : Int} (ha : inI a) (hb : inI b) : Int32.ofInt a ≤ Int32.ofInt b ↔ a ≤ b := by rw [Int32.le_iff_toInt_le, ofI_toInt ha, ofI_toInt hb]
theorem ofI_eq {a b : Int} (ha : inI a) (hb : inI b) : Int32.ofInt a = Int32.ofInt b ↔ a = b := by rw [← Int32.toInt_inj, ofI_toInt ha, ofI_toInt hb]
theorem ofI_ix {e : Int} {n : Nat} (h0 : 0 ≤ e) (h1 : e < n) (hn : n < 2147483648) : pm_ix (Int32.ofInt e) n = some e.toNat := by
  have hr : inI e := ⟨by omega, by omega⟩
  unfold pm_ix
  have h2 : ¬ Int32.ofInt e < 0 := fun q => by
    have := (Int32.lt_iff_toInt_lt.mp q)
    rw [ofI_toInt hr] at this
    have e0 : (0 : Int32).toInt = 0 := by decide
    omega
  have h3 : (Int32.ofInt e).toNatClampNeg = e.toNat := by
    show (Int32.ofInt e).toInt.toNat = _
    rw [ofI_toInt hr]
  rw [if_neg h2, h3]
  cases e9 : Nat.ble n e.toNat with
  | true => exact absurd (Nat.le_of_ble_eq_true e9) (by omega)
  | false => rfl
theorem mfs_set {m m' : mm} {a k c : Nat} {v : Value} (hj : ∀ j c', j ≠ k → mfv c' m a j = mfv c' m' a j) (hk : mfv c m' a k = v) : ∀ (l : List Nat), l[k]? = some c → (mfs m a l 0).set k v = mfs m' a l 0 := by
  intro l hl
  apply List.ext_getElem?
  intro j
  have hlt : k < (mfs m a l 0).length := by rw [mfs_len]; exact (List.getElem?_eq_some_iff.mp hl).1
  by_cases e : k = j
  · subst e
    rw [List.getElem?_set_self hlt, mfs_get, hl, Nat.zero_add]
    show some v = some (mfv c m' a k)
    rw [hk]
  · rw [List.getElem?_set_ne e, mfs_get, mfs_get, Nat.zero_add]
    cases l[j]? with
    | none => rfl
    | some c' =>
      show some (mfv c' m a j) = some (mfv c' m' a j)
      rw [hj j c' (fun q => e q.symm)]
section MK
variable {ft : mc} {m : mm} {l : List mt} {a : Nat}
theorem mk_gf {ci k c : Nat} (h1 : msh l a = some (0, ci, 0)) (h2 : (ft ci)[k]? = some c) : pm_gf ci k (pm_cell (mkg ft m l 1) a) = some (mfv c m a k) := by
  rw [mk_cell, h1]
  show (match Nat.beq ci ci with | true => pm_nth (mfs m a (ft ci) 0) k | false => none) = _
  rw [Nat.beq_refl, pm_nth_eq, mfs_get, h2, Nat.zero_add]
  rfl
theorem mk_pf {ci k c : Nat} {ty : Int} {v : Value} {m' : mm} (h1 : msh l a = some (0, ci, 0)) (h2 : (ft ci)[k]? = some c) (hf : pm_fit ty v = true) (hj : ∀ j c', j ≠ k → mfv c' m a j = mfv c' m' a j) (hk : mfv c m' a k = v) : pm_pf ci k ty v (pm_cell (mkg ft m l 1) a) = some (mce ft (0, ci, 0) m' a) := by
  rw [mk_cell, h1]
  have hlt : k < (mfs m a (ft ci) 0).length := by rw [mfs_len]; exact (List.getElem?_eq_some_iff.mp h2).1
  show (match Nat.beq ci ci, pm_fit ty v, Nat.ble (k + 1) (mfs m a (ft ci) 0).length with | true, true, true => some (Sum.inr (ci, pm_put (mfs m a (ft ci) 0) v k)) | _, _, _ => (none : Option pm_E)) = _
  rw [Nat.beq_refl, hf, Nat.ble_eq_true_of_le hlt, pm_put_eq, mfs_set hj hk _ h2]
  rfl
theorem mk_cls {ci : Nat} (h1 : msh l a = some (0, ci, 0)) : pm_clsOk ci (pm_cell (mkg ft m l 1) a) = true := by
  rw [mk_cell, h1]
  exact Nat.beq_refl ci
theorem mk_rdi {n : Nat} {e : Int} (h1 : msh l a = some (1, 0, n)) (h0 : 0 ≤ e) (hn : e < n) (hb : n < 2147483648) : pm_rdi (Int32.ofInt e) (pm_cell (mkg ft m l 1) a) = some (.int (Int32.ofInt (m.1 a e.toNat))) := by
  rw [mk_cell, h1]
  show (match pm_ix (Int32.ofInt e) n with | some j => some (Value.int (Int32.ofInt (m.1 a j))) | none => none) = _
  rw [ofI_ix h0 hn hb]
theorem mk_rdb {n kd : Nat} {e : Int} (hkd : kd = 2 ∨ kd = 3) (h1 : msh l a = some (1, kd, n)) (h0 : 0 ≤ e) (hn : e < n) (hb : n < 2147483648) : pm_rdb (Int32.ofInt e) (pm_cell (mkg ft m l 1) a) = some (.int (Int32.ofInt (m.1 a e.toNat))) := by
  rw [mk_cell, h1]
  rcases hkd with rfl | rfl
  · show (match pm_ix (Int32.ofInt e) n with | some j => some (Value.int (Int32.ofInt (m.1 a j))) | none => none) = _
    rw [ofI_ix h0 hn hb]
  · show (match pm_ix (Int32.ofInt e) n with | some j => some (Value.int (Int32.ofInt (m.1 a j))) | none => none) = _
    rw [ofI_ix h0 hn hb]
theorem mk_rdl {n : Nat} {e : Int} (h1 : msh l a = some (1, 1, n)) (h0 : 0 ≤ e) (hn : e < n) (hb : n < 2147483648) : pm_rdl (Int32.ofInt e) (pm_cell (mkg ft m l 1) a) = some (.long (Int64.ofInt (m.2.1 a e.toNat))) := by
  rw [mk_cell, h1]
  show (match pm_ix (Int32.ofInt e) n with | some j => some (Value.long (Int64.ofInt (m.2.1 a j))) | none => none) = _
  rw [ofI_ix h0 hn hb]
theorem mk_rda {n kd : Nat} {e : Int} (hkd : kd = 4 ∨ kd = 5 ∨ kd = 6) (h1 : msh l a = some (1, kd, n)) (h0 : 0 ≤ e) (hn : e < n) (hb : n < 2147483648) : pm_rda (Int32.ofInt e) (pm_cell (mkg ft m l 1) a) = some (mv (m.2.2 a e.toNat)) := by
  rw [mk_cell, h1]
  rcases hkd with rfl | rfl | rfl
  all_goals
    show (match pm_ix (Int32.ofInt e) n with | some j => some (va_rf (m.2.2 a j)) | none => none) = _
    rw [ofI_ix h0 hn hb]
theorem mk_len {n kd : Nat} (hkd : kd ≤ 6) (h1 : msh l a = some (1, kd, n)) : pm_len (pm_cell (mkg ft m l 1) a) = some (.int (Int32.ofInt n)) := by
  rw [mk_cell, h1]
  rcases (show kd = 0 ∨ kd = 1 ∨ kd = 2 ∨ kd = 3 ∨ kd = 4 ∨ kd = 5 ∨ kd = 6 by omega) with rfl | rfl | rfl | rfl | rfl | rfl | rfl <;> rfl
theorem mu_upd (z : Nat → Nat → Int) (a j : Nat) (x : Int) : upd (fun i => Int32.ofInt (z a i)) j (Int32.ofInt x) = fun i => Int32.ofInt (mu z a j x a i) := by
  funext i
  unfold upd mu
  by_cases e : i = j
  · rw [if_pos e, if_pos ⟨rfl, e⟩]
  · rw [if_neg e, if_neg (fun q => e q.2)]
theorem mu_updL (z : Nat → Nat → Int) (a j : Nat) (x : Int) : vp_updL (fun i => Int64.ofInt (z a i)) j (Int64.ofInt x) = fun i => Int64.ofInt (mu z a j x a i) := by
  funext i
  unfold vp_updL mu
  by_cases e : i = j
  · rw [if_pos e, if_pos ⟨rfl, e⟩]
  · rw [if_neg e, if_neg (fun q => e q.2)]
theorem mk_wri {n : Nat} {e x : Int} (h1 : msh l a = some (1, 0, n)) (h0 : 0 ≤ e) (hn : e < n) (hb : n < 2147483648) : pm_wri (Int32.ofInt e) (Int32.ofInt x) (pm_cell (mkg ft m l 1) a) = some (mce ft (1, 0, n) (mu m.1 a e.toNat x, m.2) a) := by
  rw [mk_cell, h1]
  show (match pm_ix (Int32.ofInt e) n with | some j => some (Sum.inl (0, n, Sum.inl (upd (fun i => Int32.ofInt (m.1 a i)) j (Int32.ofInt x)))) | none => (none : Option pm_E)) = _
  rw [ofI_ix h0 hn hb]
  show some (Sum.inl (0, n, Sum.inl (upd (fun i => Int32.ofInt (m.1 a i)) e.toNat (Int32.ofInt x)))) = _
  rw [mu_upd]
  rfl
theorem mk_wrl {n : Nat} {e x : Int} (h1 : msh l a = some (1, 1, n)) (h0 : 0 ≤ e) (hn : e < n) (hb : n < 2147483648) : pm_wrl (Int32.ofInt e) (Int64.ofInt x) (pm_cell (mkg ft m l 1) a) = some (mce ft (1, 1, n) (m.1, mu m.2.1 a e.toNat x, m.2.2) a) := by
  rw [mk_cell, h1]
  show (match pm_ix (Int32.ofInt e) n with | some j => some (Sum.inl (1, n, Sum.inr (Sum.inl (vp_updL (fun i => Int64.ofInt (m.2.1 a i)) j (Int64.ofInt x))))) | none => (none : Option pm_E)) = _
  rw [ofI_ix h0 hn hb]
  show some (Sum.inl (1, n, Sum.inr (Sum.inl (vp_updL (fun i => Int64.ofInt (m.2.1 a i)) e.toNat (Int64.ofInt x))))) = _
  rw [mu_updL]
  rfl
theorem mk_wrz {n : Nat} {e x : Int} (h1 : msh l a = some (1, 3, n)) (hx : x = 0 ∨ x = 1) (h0 : 0 ≤ e) (hn : e < n) (hb : n < 2147483648) : pm_wrb (Int32.ofInt e) (Int32.ofInt x) (pm_cell (mkg ft m l 1) a) = some (mce ft (1, 3, n) (mu m.1 a e.toNat x, m.2) a) := by
  rw [mk_cell, h1]
  have hv : vp_nar .boolean (Int32.ofInt x) = Int32.ofInt x := by rcases hx with rfl | rfl <;> rfl
  show (match pm_ix (Int32.ofInt e) n with | some j => some (Sum.inl (3, n, Sum.inl (upd (fun i => Int32.ofInt (m.1 a i)) j (vp_nar .boolean (Int32.ofInt x))))) | none => (none : Option pm_E)) = _
  rw [ofI_ix h0 hn hb, hv]
  show some (Sum.inl (3, n, Sum.inl (upd (fun i => Int32.ofInt (m.1 a i)) e.toNat (Int32.ofInt x)))) = _
  rw [mu_upd]
  rfl
end MK
section MS
variable {cs : Nat → List Value} {ms : Nat → Option pm_M} {call : pm_C} {scr : pm_S} {nL : Nat} {rt : Option FieldType} {pc len r1 r2 : Nat} {cst : Int} {hs : List (Nat × Nat)} {lv : pm_L} {r : List Value}
variable {ft : mc} {m : mm} {l : List mt} {a x : Nat}
/-- reads and writes of fields, as steps -/
theorem q_gi (h1 : msh l a = some (0, r1, 0)) (h2 : (ft r1)[r2]? = some 0) : pm_step cs ms call scr nL rt (.getfield x, len, r1, r2, cst, hs) (pc, lv, .ref a :: r, mkg ft m l 1) = some (.inl (pc + 3, lv, .int (Int32.ofInt (m.1 a r2)) :: r, mkg ft m l 1)) := by
  show pm_o4 _ _ (pm_psh _ r (pm_gf r1 r2 (pm_cell (mkg ft m l 1) a))) = _
  rw [mk_gf h1 h2]; rfl
theorem q_gl (h1 : msh l a = some (0, r1, 0)) (h2 : (ft r1)[r2]? = some 1) : pm_step cs ms call scr nL rt (.getfield x, len, r1, r2, cst, hs) (pc, lv, .ref a :: r, mkg ft m l 1) = some (.inl (pc + 3, lv, .long (Int64.ofInt (m.2.1 a r2)) :: r, mkg ft m l 1)) := by
  show pm_o4 _ _ (pm_psh _ r (pm_gf r1 r2 (pm_cell (mkg ft m l 1) a))) = _
  rw [mk_gf h1 h2]; rfl
theorem q_gr {v : Option Nat} (h1 : msh l a = some (0, r1, 0)) (h2 : (ft r1)[r2]? = some 3) (h3 : m.2.2 a r2 = v) : pm_step cs ms call scr nL rt (.getfield x, len, r1, r2, cst, hs) (pc, lv, .ref a :: r, mkg ft m l 1) = some (.inl (pc + 3, lv, mv v :: r, mkg ft m l 1)) := by
  show pm_o4 _ _ (pm_psh _ r (pm_gf r1 r2 (pm_cell (mkg ft m l 1) a))) = _
  rw [mk_gf h1 h2, ← h3]; rfl
theorem q_pi {e : Int} (h1 : msh l a = some (0, r1, 0)) (h2 : (ft r1)[r2]? = some 0) (hf : pm_fit cst (.int (Int32.ofInt e)) = true) : pm_step cs ms call scr nL rt (.putfield x, len, r1, r2, cst, hs) (pc, lv, .int (Int32.ofInt e) :: .ref a :: r, mkg ft m l 1) = some (.inl (pc + 3, lv, r, mkg ft (mu m.1 a r2 e, m.2) l 1)) := by
  show pm_o4 _ _ (pm_wrs _ a r (pm_pf r1 r2 cst (.int (Int32.ofInt e)) (pm_cell (mkg ft m l 1) a))) = _
  rw [mk_pf (m' := (mu m.1 a r2 e, m.2)) h1 h2 hf (fun j c' hj => by unfold mfv; split <;> first | rfl | (show Value.int (Int32.ofInt (m.1 a j)) = Value.int (Int32.ofInt (mu m.1 a r2 e a j)); rw [mu_ne (fun q => hj q.2)])) (by show Value.int (Int32.ofInt (mu m.1 a r2 e a r2)) = _; rw [mu_eq])]
  show some (Sum.inl (pc + 3, lv, r, pm_wr _ a (mce ft (0, r1, 0) (mu m.1 a r2 e, m.2) a))) = _
  rw [mk_wr h1 (fun b t hb => mce_i hb t)]
theorem q_pl {e : Int} (h1 : msh l a = some (0, r1, 0)) (h2 : (ft r1)[r2]? = some 1) (hf : cst = 1) : pm_step cs ms call scr nL rt (.putfield x, len, r1, r2, cst, hs) (pc, lv, .long (Int64.ofInt e) :: .ref a :: r, mkg ft m l 1) = some (.inl (pc + 3, lv, r, mkg ft (m.1, mu m.2.1 a r2 e, m.2.2) l 1)) := by
  subst hf
  show pm_o4 _ _ (pm_wrs _ a r (pm_pf r1 r2 1 (.long (Int64.ofInt e)) (pm_cell (mkg ft m l 1) a))) = _
  rw [mk_pf (m' := (m.1, mu m.2.1 a r2 e, m.2.2)) h1 h2 rfl (fun j c' hj => by unfold mfv; split <;> first | rfl | (show Value.long (Int64.ofInt (m.2.1 a j)) = Value.long (Int64.ofInt (mu m.2.1 a r2 e a j)); rw [mu_ne (fun q => hj q.2)])) (by show Value.long (Int64.ofInt (mu m.2.1 a r2 e a r2)) = _; rw [mu_eq])]
  show some (Sum.inl (pc + 3, lv, r, pm_wr _ a (mce ft (0, r1, 0) (m.1, mu m.2.1 a r2 e, m.2.2) a))) = _
  rw [mk_wr h1 (fun b t hb => mce_l hb t)]
theorem q_pr {e : Option Nat} (h1 : msh l a = some (0, r1, 0)) (h2 : (ft r1)[r2]? = some 3) (hf : cst = 3) : pm_step cs ms call scr nL rt (.putfield x, len, r1, r2, cst, hs) (pc, lv, mv e :: .ref a :: r, mkg ft m l 1) = some (.inl (pc + 3, lv, r, mkg ft (m.1, m.2.1, mu m.2.2 a r2 e) l 1)) := by
  subst hf
  have hst : pm_step cs ms call scr nL rt (.putfield x, len, r1, r2, 3, hs) (pc, lv, mv e :: .ref a :: r, mkg ft m l 1) = pm_o4 (pc + 3) lv (pm_wrs (mkg ft m l 1) a r (pm_pf r1 r2 3 (mv e) (pm_cell (mkg ft m l 1) a))) := rfl
  rw [hst, mk_pf (m' := (m.1, m.2.1, mu m.2.2 a r2 e)) h1 h2 (by cases e <;> rfl) (fun j c' hj => by unfold mfv; split <;> first | rfl | (show mv (m.2.2 a j) = mv (mu m.2.2 a r2 e a j); rw [mu_ne (fun q => hj q.2)])) (by show mv (mu m.2.2 a r2 e a r2) = _; rw [mu_eq])]
  show some (Sum.inl (pc + 3, lv, r, pm_wr _ a (mce ft (0, r1, 0) (m.1, m.2.1, mu m.2.2 a r2 e) a))) = _
  rw [mk_wr h1 (fun b t hb => mce_r hb t)]
/-- arrays -/
theorem q_ai {n b : Nat} {e : Int} (h1 : msh l (b + 1) = some (1, 0, n)) (h0 : 0 ≤ e) (hn : e < n) (hb : n < 2147483648) : pm_step cs ms call scr nL rt (.iaload, len, r1, r2, cst, hs) (pc, lv, .int (Int32.ofInt e) :: .ref (b + 1) :: r, mkg ft m l 1) = some (.inl (pc + 1, lv, .int (Int32.ofInt (m.1 (b + 1) e.toNat)) :: r, mkg ft m l 1)) := by
  show pm_o4 _ _ (pm_psh _ r (pm_rdi (Int32.ofInt e) (pm_cell (mkg ft m l 1) (b + 1)))) = _
  rw [mk_rdi h1 h0 hn hb]; rfl
theorem q_ab {n kd : Nat} {e : Int} (hkd : kd = 2 ∨ kd = 3) (h1 : msh l a = some (1, kd, n)) (h0 : 0 ≤ e) (hn : e < n) (hb : n < 2147483648) : pm_step cs ms call scr nL rt (.baload, len, r1, r2, cst, hs) (pc, lv, .int (Int32.ofInt e) :: .ref a :: r, mkg ft m l 1) = some (.inl (pc + 1, lv, .int (Int32.ofInt (m.1 a e.toNat)) :: r, mkg ft m l 1)) := by
  show pm_o4 _ _ (pm_psh _ r (pm_rdb (Int32.ofInt e) (pm_cell (mkg ft m l 1) a))) = _
  rw [mk_rdb hkd h1 h0 hn hb]; rfl
theorem q_al {n : Nat} {e : Int} (h1 : msh l a = some (1, 1, n)) (h0 : 0 ≤ e) (hn : e < n) (hb : n < 2147483648) : pm_step cs ms call scr nL rt (.laload, len, r1, r2, cst, hs) (pc, lv, .int (Int32.ofInt e) :: .ref a :: r, mkg ft m l 1) = some (.inl (pc + 1, lv, .long (Int64.ofInt (m.2.1 a e.toNat)) :: r, mkg ft m l 1)) := by
  show pm_o4 _ _ (pm_psh _ r (pm_rdl (Int32.ofInt e) (pm_cell (mkg ft m l 1) a))) = _
  rw [mk_rdl h1 h0 hn hb]; rfl
theorem q_aa {n kd : Nat} {v : Option Nat} {e : Int} (hkd : kd = 4 ∨ kd = 5 ∨ kd = 6) (h1 : msh l a = some (1, kd, n)) (h0 : 0 ≤ e) (hn : e < n) (hb : n < 2147483648) (hv : m.2.2 a e.toNat = v) : pm_step cs ms call scr nL rt (.aaload, len, r1, r2, cst, hs) (pc, lv, .int (Int32.ofInt e) :: .ref a :: r, mkg ft m l 1) = some (.inl (pc + 1, lv, mv v :: r, mkg ft m l 1)) := by
  show pm_o4 _ _ (pm_psh _ r (pm_rda (Int32.ofInt e) (pm_cell (mkg ft m l 1) a))) = _
  rw [mk_rda hkd h1 h0 hn hb, hv]; rfl
theorem q_len {n kd b : Nat} (hkd : kd ≤ 6) (h1 : msh l (b + 1) = some (1, kd, n)) : pm_step cs ms call scr nL rt (.arraylength, len, r1, r2, cst, hs) (pc, lv, .ref (b + 1) :: r, mkg ft m l 1) = some (.inl (pc + 1, lv, .int (Int32.ofInt n) :: r, mkg ft m l 1)) := by
  show pm_o4 _ _ (pm_psh _ r (pm_len (pm_cell (mkg ft m l 1) (b + 1)))) = _
  rw [mk_len hkd h1]; rfl
theorem q_si {n : Nat} {e v : Int} (h1 : msh l a = some (1, 0, n)) (h0 : 0 ≤ e) (hn : e < n) (hb : n < 2147483648) : pm_step cs ms call scr nL rt (.iastore, len, r1, r2, cst, hs) (pc, lv, .int (Int32.ofInt v) :: .int (Int32.ofInt e) :: .ref a :: r, mkg ft m l 1) = some (.inl (pc + 1, lv, r, mkg ft (mu m.1 a e.toNat v, m.2) l 1)) := by
  show pm_o4 _ _ (pm_wrs _ a r (pm_wri (Int32.ofInt e) (Int32.ofInt v) (pm_cell (mkg ft m l 1) a))) = _
  rw [mk_wri h1 h0 hn hb]
  show some (Sum.inl (pc + 1, lv, r, pm_wr _ a (mce ft (1, 0, n) (mu m.1 a e.toNat v, m.2) a))) = _
  rw [mk_wr h1 (fun b t hb => mce_i hb t)]
theorem q_sl {n : Nat} {e v : Int} (h1 : msh l a = some (1, 1, n)) (h0 : 0 ≤ e) (hn : e < n) (hb : n < 2147483648) : pm_step cs ms call scr nL rt (.lastore, len, r1, r2, cst, hs) (pc, lv, .long (Int64.ofInt v) :: .int (Int32.ofInt e) :: .ref a :: r, mkg ft m l 1) = some (.inl (pc + 1, lv, r, mkg ft (m.1, mu m.2.1 a e.toNat v, m.2.2) l 1)) := by
  show pm_o4 _ _ (pm_wrs _ a r (pm_wrl (Int32.ofInt e) (Int64.ofInt v) (pm_cell (mkg ft m l 1) a))) = _
  rw [mk_wrl h1 h0 hn hb]
  show some (Sum.inl (pc + 1, lv, r, pm_wr _ a (mce ft (1, 1, n) (m.1, mu m.2.1 a e.toNat v, m.2.2) a))) = _
  rw [mk_wr h1 (fun b t hb => mce_l hb t)]
theorem q_sz {n : Nat} {e v : Int} (h1 : msh l a = some (1, 3, n)) (hv : v = 0 ∨ v = 1) (h0 : 0 ≤ e) (hn : e < n) (hb : n < 2147483648) : pm_step cs ms call scr nL rt (.bastore, len, r1, r2, cst, hs) (pc, lv, .int (Int32.ofInt v) :: .int (Int32.ofInt e) :: .ref a :: r, mkg ft m l 1) = some (.inl (pc + 1, lv, r, mkg ft (mu m.1 a e.toNat v, m.2) l 1)) := by
  show pm_o4 _ _ (pm_wrs _ a r (pm_wrb (Int32.ofInt e) (Int32.ofInt v) (pm_cell (mkg ft m l 1) a))) = _
  rw [mk_wrz h1 hv h0 hn hb]
  show some (Sum.inl (pc + 1, lv, r, pm_wr _ a (mce ft (1, 3, n) (mu m.1 a e.toNat v, m.2) a))) = _
  rw [mk_wr h1 (fun b t hb => mce_i hb t)]
end MS

/-! the shape of both objects, freshly made; no call makes a cell -/
def mshl_0 : List mt := [(0, 10, 0), (1, 2, 1600), (0, 4, 0), (0, 9, 0), (1, 1, 282), (1, 0, 18), (1, 0, 18), (1, 0, 36), (1, 0, 36), (0, 3, 0), (0, 6, 0), (1, 0, 36), (1, 0, 18), (1, 0, 18), (1, 1, 18), (1, 6, 8), (0, 5, 0), (1, 0, 1782), (0, 5, 0), (1, 0, 1782), (0, 5, 0), (1, 0, 1782), (0, 5, 0), (1, 0, 1782), (0, 5, 0), (1, 0, 1782), (0, 5, 0), (1, 0, 1782), (0, 5, 0), (1, 0, 1782), (0, 5, 0), (1, 0, 1782), (0, 1, 0), (1, 1, 18), (0, 2, 0), (1, 1, 18), (1, 0, 1600), (1, 0, 1600), (0, 0, 0), (1, 4, 61), (1, 1, 18), (1, 1, 18), (1, 1, 18), (1, 1, 18), (1, 1, 18), (1, 1, 18), (1, 1, 18), (1, 1, 18), (1, 1, 18), (1, 1, 18)]
def mshl_1 : List mt := [(1, 1, 18), (1, 1, 18), (1, 1, 18), (1, 1, 18), (1, 1, 18), (1, 1, 18), (1, 1, 18), (1, 1, 18), (1, 1, 18), (1, 1, 18), (1, 1, 18), (1, 1, 18), (1, 1, 18), (1, 1, 18), (1, 1, 18), (1, 1, 18), (1, 1, 18), (1, 1, 18), (1, 1, 18), (1, 1, 18), (1, 1, 18), (1, 1, 18), (1, 1, 18), (1, 1, 18), (1, 1, 18), (1, 1, 18), (1, 1, 18), (1, 1, 18), (1, 1, 18), (1, 1, 18), (1, 1, 18), (1, 1, 18), (1, 1, 18), (1, 1, 18), (1, 1, 18), (1, 1, 18), (1, 1, 18), (1, 1, 18), (1, 1, 18), (1, 1, 18), (1, 1, 18), (1, 1, 18), (1, 1, 18), (1, 1, 18), (1, 1, 18), (1, 1, 18), (1, 1, 18), (1, 1, 18), (1, 1, 18), (1, 1, 18)]
def mshl_2 : List mt := [(1, 1, 18), (0, 7, 0), (1, 4, 18), (1, 1, 18), (1, 1, 18), (1, 1, 18), (1, 1, 18), (1, 1, 18), (1, 1, 18), (1, 1, 18), (1, 1, 18), (1, 1, 18), (1, 1, 18), (1, 1, 18), (1, 1, 18), (1, 1, 18), (1, 1, 18), (1, 1, 18), (1, 1, 18), (1, 1, 18), (1, 1, 18), (1, 4, 18), (1, 1, 18), (1, 1, 18), (1, 1, 18), (1, 1, 18), (1, 1, 18), (1, 1, 18), (1, 1, 18), (1, 1, 18), (1, 1, 18), (1, 1, 18), (1, 1, 18), (1, 1, 18), (1, 1, 18), (1, 1, 18), (1, 1, 18), (1, 1, 18), (1, 1, 18), (1, 1, 18), (1, 1, 18), (1, 1, 19), (1, 4, 3), (1, 1, 18), (1, 1, 18), (1, 1, 18), (1, 3, 3), (1, 4, 8), (1, 1, 18), (1, 1, 18)]
def mshl_3 : List mt := [(1, 1, 18), (1, 1, 18), (1, 1, 18), (1, 1, 18), (1, 1, 18), (1, 1, 18), (1, 1, 18), (1, 1, 18), (0, 8, 0), (1, 0, 36), (1, 0, 36), (1, 0, 36), (1, 0, 18), (1, 0, 18), (1, 0, 18), (1, 4, 8), (1, 1, 18), (1, 1, 18), (1, 1, 18), (1, 1, 18), (1, 1, 18), (1, 1, 18), (1, 1, 18), (1, 1, 18), (1, 1, 8), (1, 1, 6), (1, 0, 6), (1, 5, 6), (1, 0, 8), (1, 0, 8), (1, 0, 8), (1, 0, 8), (1, 0, 8), (1, 0, 8), (1, 5, 6), (1, 0, 8), (1, 0, 8), (1, 0, 8), (1, 0, 8), (1, 0, 8), (1, 0, 8), (0, 8, 0), (1, 0, 36), (1, 0, 36), (1, 0, 36), (1, 0, 18), (1, 0, 18), (1, 0, 18), (1, 4, 8), (1, 1, 18)]
def mshl_4 : List mt := [(1, 1, 18), (1, 1, 18), (1, 1, 18), (1, 1, 18), (1, 1, 18), (1, 1, 18), (1, 1, 18), (1, 1, 8), (1, 1, 6), (1, 0, 6), (1, 5, 6), (1, 0, 8), (1, 0, 8), (1, 0, 8), (1, 0, 8), (1, 0, 8), (1, 0, 8), (1, 5, 6), (1, 0, 8), (1, 0, 8), (1, 0, 8), (1, 0, 8), (1, 0, 8), (1, 0, 8), (0, 11, 0), (1, 0, 1600), (1, 1, 8), (1, 1, 6), (1, 0, 36), (1, 0, 18), (1, 0, 144), (1, 0, 48), (1, 0, 48), (1, 0, 6), (1, 0, 36), (1, 0, 144), (1, 0, 48), (1, 0, 48), (1, 0, 6), (1, 0, 36), (1, 0, 18), (1, 0, 36), (1, 0, 18), (1, 0, 19), (1, 3, 18000), (1, 0, 18000), (1, 0, 71280), (1, 0, 8), (1, 0, 8), (1, 0, 8)]
def mshl_5 : List mt := [(1, 0, 8), (1, 0, 8), (1, 3, 8), (1, 3, 8), (1, 0, 36), (1, 0, 18), (1, 1, 18), (1, 1, 324), (1, 1, 18), (1, 1, 18), (1, 0, 72), (1, 1, 18), (1, 1, 144), (1, 3, 8), (1, 1, 324), (1, 1, 324), (1, 1, 19), (1, 0, 18), (1, 0, 18), (1, 1, 18), (1, 1, 1098), (1, 0, 1600), (1, 1, 18), (1, 3, 3), (1, 1, 54)]
def mshl : List mt := mshl_0 ++ (mshl_1 ++ (mshl_2 ++ (mshl_3 ++ (mshl_4 ++ (mshl_5)))))
def mft : mc := fun k => match k with
  | 0 => [0, 0, 0, 3]
  | 1 => [3, 3, 0]
  | 2 => [3, 3, 3, 0, 0]
  | 3 => [3, 3, 3]
  | 4 => [0, 0, 3, 0, 3, 0, 0, 0, 0, 0, 1]
  | 5 => [0, 0, 0, 0, 0, 0, 3]
  | 6 => [3, 3, 3, 3, 0, 0, 0, 0, 0, 0, 1]
  | 7 => [0, 0, 0, 0, 0, 3, 3, 3, 3]
  | 8 => [0, 0, 0, 0, 0, 3, 3, 3, 3, 3, 3, 3, 3, 3, 3, 3, 3]
  | 9 => [0, 0, 3, 3, 3, 3, 3, 3, 0, 0, 0, 0, 0, 0]
  | 10 => [3, 3, 3, 3, 3, 3, 3, 3, 3, 3, 3, 3, 3, 3, 3, 0, 0, 0, 0]
  | 11 => [3, 0, 0, 0, 0, 0, 0, 0, 0, 1, 3, 3, 3, 3, 3, 3, 3, 3, 3, 3, 3, 3, 3, 0, 0, 0, 0, 0, 0, 3, 3, 3, 0, 3, 3, 3, 0, 0, 0, 0, 0, 3, 0, 3, 3, 3, 3, 3, 3, 3, 3, 3, 3, 0, 0, 3, 3, 3, 0, 0, 3, 3, 3, 3, 3, 3, 3, 3, 3, 3, 0, 3, 3, 0, 0, 3, 0, 0, 3, 3, 3]
  | _ => []
abbrev mk (z w : Nat → Nat → Int) (p : Nat → Nat → Option Nat) : pm_H := mkg mft (z, w, p) mshl 1
/-- what a heap holds -/
noncomputable def xz (h : pm_H) (a i : Nat) : Int := match pm_cell h a with
  | some (.inl (_, _, .inl f)) => (f i).toInt
  | some (.inr (_, fs)) => match fs[i]? with
    | some (.int x) => x.toInt
    | _ => 0
  | _ => 0
noncomputable def xw (h : pm_H) (a i : Nat) : Int := match pm_cell h a with
  | some (.inl (_, _, .inr (.inl f))) => (f i).toInt
  | some (.inr (_, fs)) => match fs[i]? with
    | some (.long x) => x.toInt
    | _ => 0
  | _ => 0
noncomputable def xp (h : pm_H) (a i : Nat) : Option Nat := match pm_cell h a with
  | some (.inl (_, _, .inr (.inr (.inr (.inr f))))) => f i
  | some (.inr (_, fs)) => match fs[i]? with
    | some (.ref x) => some x
    | _ => none
  | _ => none
/-- whether values are of the fields' kinds -/
def mfo : List Nat → List Value → Bool
  | [], [] => true
  | 0 :: l, .int _ :: r => mfo l r
  | 1 :: l, .long _ :: r => mfo l r
  | 3 :: l, .ref _ :: r => mfo l r
  | 3 :: l, .null :: r => mfo l r
  | _, _ => false
def mco (ft : mc) (s : mt) (e : pm_E) : Bool := match s, e with
  | (0, c, 0), .inr (c', fs) => Nat.beq c c' && mfo (ft c) fs
  | (1, k, n), .inl (k', n', .inl _) => Nat.beq k k' && (Nat.beq n n' && (Nat.beq k 0 || (Nat.beq k 2 || Nat.beq k 3)))
  | (1, k, n), .inl (k', n', .inr (.inl _)) => Nat.beq k k' && (Nat.beq n n' && Nat.beq k 1)
  | (1, k, n), .inl (k', n', .inr (.inr (.inr (.inr _)))) => Nat.beq k k' && (Nat.beq n n' && (Nat.beq k 4 || (Nat.beq k 5 || Nat.beq k 6)))
  | _, _ => false
def mho (ft : mc) : List mt → pm_H → Bool
  | [], [] => true
  | s :: l, e :: r => mco ft s e && mho ft l r
  | _, _ => false
theorem mho_get {ft : mc} : ∀ (l : List mt) (h : pm_H), mho ft l h = true → l.length = h.length ∧ ∀ (k : Nat) (s : mt) (e : pm_E), l[k]? = some s → h[k]? = some e → mco ft s e = true := by
  intro l
  induction l with
  | nil =>
    intro h q
    cases h with
    | nil => exact ⟨rfl, fun k s e h1 => by cases h1⟩
    | cons e r => cases q
  | cons s l ih =>
    intro h q
    cases h with
    | nil => cases q
    | cons e r =>
      have q2 : (mco ft s e && mho ft l r) = true := q
      rw [Bool.and_eq_true] at q2
      obtain ⟨i1, i2⟩ := ih r q2.2
      refine ⟨congrArg (· + 1) i1, fun k t f h1 h2 => ?_⟩
      cases k with
      | zero => cases h1; cases h2; exact q2.1
      | succ k => exact i2 k t f h1 h2
theorem mfo_get : ∀ (l : List Nat) (fs : List Value), mfo l fs = true → l.length = fs.length ∧ ∀ (k c : Nat) (v : Value), l[k]? = some c → fs[k]? = some v → (c = 0 ∧ ∃ x, v = .int x) ∨ (c = 1 ∧ ∃ x, v = .long x) ∨ (c = 3 ∧ ((∃ x, v = .ref x) ∨ v = .null)) := by
  intro l
  induction l with
  | nil =>
    intro fs q
    cases fs with
    | nil => exact ⟨rfl, fun k s e h1 => by cases h1⟩
    | cons e r => cases q
  | cons s l ih =>
    intro fs q
    have key : ∃ v r, fs = v :: r ∧ mfo l r = true ∧ ((s = 0 ∧ ∃ x, v = .int x) ∨ (s = 1 ∧ ∃ x, v = .long x) ∨ (s = 3 ∧ ((∃ x, v = .ref x) ∨ v = .null))) := by
      rcases s with _ | _ | _ | _ | s <;> rcases fs with _ | ⟨v, r⟩
      all_goals first | exact absurd q Bool.false_ne_true | cases v
      all_goals first | exact absurd q Bool.false_ne_true | exact ⟨_, _, rfl, q, Or.inl ⟨rfl, _, rfl⟩⟩ | exact ⟨_, _, rfl, q, Or.inr (Or.inl ⟨rfl, _, rfl⟩)⟩ | exact ⟨_, _, rfl, q, Or.inr (Or.inr ⟨rfl, Or.inl ⟨_, rfl⟩⟩)⟩ | exact ⟨_, _, rfl, q, Or.inr (Or.inr ⟨rfl, Or.inr rfl⟩)⟩
    obtain ⟨v0, r, rfl, q2, hv⟩ := key
    obtain ⟨i1, i2⟩ := ih r q2
    refine ⟨congrArg (· + 1) i1, fun k c v h1 h2 => ?_⟩
    cases k with
    | zero => cases h1; cases h2; exact hv
    | succ k => exact i2 k c v h1 h2
theorem mk_ext {h : pm_H} (q : mho mft mshl h = true) : h = mk (xz h) (xw h) (xp h) := by
  obtain ⟨hl, hg⟩ := mho_get _ _ q
  apply List.ext_getElem?
  intro k
  rw [mkg_get]
  cases e1 : h[k]? with
  | none =>
    have : mshl[k]? = none := List.getElem?_eq_none (by rw [hl]; exact List.getElem?_eq_none_iff.mp e1)
    rw [this]; rfl
  | some e =>
    have hlt : k < mshl.length := by rw [hl]; exact (List.getElem?_eq_some_iff.mp e1).1
    obtain ⟨s, e2⟩ : ∃ s, mshl[k]? = some s := ⟨_, List.getElem?_eq_getElem hlt⟩
    rw [e2]
    show some e = some (mce mft s (xz h, xw h, xp h) (1 + k))
    have hc : pm_cell h (1 + k) = some e := by
      rw [Nat.add_comm]
      show pm_nth h k = some e
      rw [pm_nth_eq]; exact e1
    have ho := hg k s e e2 e1
    congr 1
    unfold mco at ho
    split at ho
    · rename_i c c' fs
      rw [Bool.and_eq_true] at ho
      cases pm_beq ho.1
      obtain ⟨i1, i2⟩ := mfo_get _ _ ho.2
      show _ = Sum.inr (c, mfs (xz h, xw h, xp h) (1 + k) (mft c) 0)
      congr 2
      apply List.ext_getElem?
      intro j
      rw [mfs_get, Nat.zero_add]
      cases e3 : fs[j]? with
      | none =>
        have : (mft c)[j]? = none := List.getElem?_eq_none (by rw [i1]; exact List.getElem?_eq_none_iff.mp e3)
        rw [this]; rfl
      | some v =>
        have hlt2 : j < (mft c).length := by rw [i1]; exact (List.getElem?_eq_some_iff.mp e3).1
        obtain ⟨t, e4⟩ : ∃ t, (mft c)[j]? = some t := ⟨_, List.getElem?_eq_getElem hlt2⟩
        rw [e4]
        show some v = some (mfv t (xz h, xw h, xp h) (1 + k) j)
        rcases i2 j t v e4 e3 with ⟨rfl, x, rfl⟩ | ⟨rfl, x, rfl⟩ | ⟨rfl, ⟨x, rfl⟩ | rfl⟩
        · show some (Value.int x) = some (.int (Int32.ofInt (xz h (1 + k) j)))
          unfold xz
          rw [hc]
          simp only [e3, Int32.ofInt_toInt]
        · show some (Value.long x) = some (.long (Int64.ofInt (xw h (1 + k) j)))
          unfold xw
          rw [hc]
          simp only [e3, Int64.ofInt_toInt]
        · show some (Value.ref x) = some (va_rf (xp h (1 + k) j))
          unfold xp
          rw [hc]
          simp only [e3]
          rfl
        · show some Value.null = some (va_rf (xp h (1 + k) j))
          unfold xp
          rw [hc]
          simp only [e3]
          rfl
    · rename_i k1 n k' n' f
      simp only [Bool.and_eq_true, Bool.or_eq_true] at ho
      obtain ⟨h1, h2, h3⟩ := ho
      cases pm_beq h1
      cases pm_beq h2
      have hf : f = fun i => Int32.ofInt (xz h (1 + k) i) := by
        funext i
        unfold xz
        rw [hc]
        exact (Int32.ofInt_toInt _).symm
      rcases h3 with h3 | h3 | h3 <;> cases pm_beq h3 <;> (conv => lhs; rw [hf]) <;> rfl
    · rename_i k1 n k' n' f
      simp only [Bool.and_eq_true] at ho
      obtain ⟨h1, h2, h3⟩ := ho
      cases pm_beq h1
      cases pm_beq h2
      have hf : f = fun i => Int64.ofInt (xw h (1 + k) i) := by
        funext i
        unfold xw
        rw [hc]
        exact (Int64.ofInt_toInt _).symm
      cases pm_beq h3
      conv => lhs; rw [hf]
      rfl
    · rename_i k1 n k' n' f
      simp only [Bool.and_eq_true, Bool.or_eq_true] at ho
      obtain ⟨h1, h2, h3⟩ := ho
      cases pm_beq h1
      cases pm_beq h2
      have hf : f = fun i => xp h (1 + k) i := by
        funext i
        unfold xp
        rw [hc]
      rcases h3 with h3 | h3 | h3 <;> cases pm_beq h3 <;> (conv => lhs; rw [hf]) <;> rfl
    · cases ho
noncomputable def pt_h (o : Option pm_R) : pm_H := match o with
  | some (_, h) => h
  | none => []
noncomputable def pt_v (o : Option pm_R) : Option Value := match o with
  | some (v, _) => v
  | none => none
theorem pt_some {o : Option pm_R} {v : Option Value} (h : (o.isSome && decide (pt_v o = v)) = true) : o = some (v, pt_h o) := by
  rw [Bool.and_eq_true, decide_eq_true_eq] at h
  cases o with
  | none => cases h.1
  | some x =>
    obtain ⟨w, y⟩ := x
    obtain ⟨-, h2⟩ := h
    cases h2
    rfl
noncomputable abbrev pC (d k : Nat) (as : List Value) (h : pm_H) : Option pm_R := pm_call pm_cs pm_ms pm_ins 10000 d k as h
noncomputable def ph_0 : pm_H := [.inr (10, pm_cs 10)]
noncomputable def ph_1 : pm_H := pt_h (pC 9 101 [.ref 1] ph_0)
noncomputable def ph_2 : pm_H := ph_1 ++ [.inr (11, pm_cs 11)]
/-- both made -/
noncomputable def ph_3 : pm_H := pt_h (pC 9 145 [.ref 225] ph_2)
set_option maxRecDepth 100000 in
theorem pc_1 : pC 9 101 [.ref 1] ph_0 = some (none, ph_1) := pt_some (by decide +kernel)
set_option maxRecDepth 100000 in
theorem pz_1 : ph_1.length + 1 = 225 := by decide +kernel
set_option maxRecDepth 100000 in
theorem pc_3 : pC 9 145 [.ref 225] ph_2 = some (none, ph_3) := pt_some (by decide +kernel)
set_option maxRecDepth 100000 in
theorem pz_3 : (Nat.ble ph_3.length 600000 && Nat.ble (pm_sls ph_3) 7302250) = true := by decide +kernel
set_option maxRecDepth 100000 in
theorem ph_3_ok : mho mft mshl ph_3 = true := by decide +kernel
theorem ph_3_mk : ph_3 = mk (xz ph_3) (xw ph_3) (xp ph_3) := mk_ext ph_3_ok

/-! words as numbers: 5 bits or 8 bits a letter; the text's tokens, as functions of the place -/
def wl5 (f : Nat → Int) : Nat → Int
  | 0 => 0
  | m + 1 => wl5 f m * 32 + (f m - 96)
def wl8 (f : Nat → Int) : Nat → Int
  | 0 => 0
  | m + 1 => wl8 f m * 256 + f m
abbrev lets (f : Nat → Int) (m : Nat) : Prop := ∀ i, i < m → 97 ≤ f i ∧ f i ≤ 122
theorem wl5_s (f : Nat → Int) (m : Nat) : wl5 f (m + 1) = wl5 f m * 32 + (f m - 96) := rfl
theorem wl8_s (f : Nat → Int) (m : Nat) : wl8 f (m + 1) = wl8 f m * 256 + f m := rfl
theorem wl5_n {f : Nat → Int} : ∀ m, lets f m → 0 ≤ wl5 f m
  | 0, _ => Int.le_refl _
  | m + 1, h => by
    have k := wl5_n m (fun i hi => h i (by omega))
    have g := h m (by omega)
    rw [wl5_s]; omega
theorem wl8_n {f : Nat → Int} : ∀ m, lets f m → 0 ≤ wl8 f m
  | 0, _ => Int.le_refl _
  | m + 1, h => by
    have k := wl8_n m (fun i hi => h i (by omega))
    have g := h m (by omega)
    rw [wl8_s]; omega
theorem wl5_c {f g : Nat → Int} : ∀ m, (∀ i, i < m → f i = g i) → wl5 f m = wl5 g m
  | 0, _ => rfl
  | m + 1, h => by rw [wl5_s, wl5_s, wl5_c m (fun i hi => h i (by omega)), h m (by omega)]
theorem wl8_c {f g : Nat → Int} : ∀ m, (∀ i, i < m → f i = g i) → wl8 f m = wl8 g m
  | 0, _ => rfl
  | m + 1, h => by rw [wl8_s, wl8_s, wl8_c m (fun i hi => h i (by omega)), h m (by omega)]
theorem wl5_i {f g : Nat → Int} : ∀ m k, lets f m → lets g k → wl5 f m = wl5 g k → m = k ∧ ∀ i, i < m → f i = g i
  | 0, 0, _, _, _ => ⟨rfl, fun i hi => absurd hi (by omega)⟩
  | 0, k + 1, _, hg, e => by
    have a := wl5_n k (fun i hi => hg i (by omega))
    have b := hg k (by omega)
    rw [wl5_s] at e
    have e : (0 : Int) = wl5 g k * 32 + (g k - 96) := e
    omega
  | m + 1, 0, hf, _, e => by
    have a := wl5_n m (fun i hi => hf i (by omega))
    have b := hf m (by omega)
    rw [wl5_s] at e
    have e : wl5 f m * 32 + (f m - 96) = (0 : Int) := e
    omega
  | m + 1, k + 1, hf, hg, e => by
    have a := hf m (by omega)
    have b := hg k (by omega)
    rw [wl5_s, wl5_s] at e
    obtain ⟨h1, h2⟩ := wl5_i m k (fun i hi => hf i (by omega)) (fun i hi => hg i (by omega)) (by omega)
    subst h1
    refine ⟨rfl, fun i hi => ?_⟩
    by_cases c : i = m
    · subst c; omega
    · exact h2 i (by omega)
theorem wl8_i {f g : Nat → Int} : ∀ m k, lets f m → lets g k → wl8 f m = wl8 g k → m = k ∧ ∀ i, i < m → f i = g i
  | 0, 0, _, _, _ => ⟨rfl, fun i hi => absurd hi (by omega)⟩
  | 0, k + 1, _, hg, e => by
    have a := wl8_n k (fun i hi => hg i (by omega))
    have b := hg k (by omega)
    rw [wl8_s] at e
    have e : (0 : Int) = wl8 g k * 256 + g k := e
    omega
  | m + 1, 0, hf, _, e => by
    have a := wl8_n m (fun i hi => hf i (by omega))
    have b := hf m (by omega)
    rw [wl8_s] at e
    have e : wl8 f m * 256 + f m = (0 : Int) := e
    omega
  | m + 1, k + 1, hf, hg, e => by
    have a := hf m (by omega)
    have b := hg k (by omega)
    rw [wl8_s, wl8_s] at e
    obtain ⟨h1, h2⟩ := wl8_i m k (fun i hi => hf i (by omega)) (fun i hi => hg i (by omega)) (by omega)
    subst h1
    refine ⟨rfl, fun i hi => ?_⟩
    by_cases c : i = m
    · subst c; omega
    · exact h2 i (by omega)
/-- both codes tell the same words apart -/
theorem wl_iff {f g : Nat → Int} {m k : Nat} (hf : lets f m) (hg : lets g k) : wl5 f m = wl5 g k ↔ wl8 f m = wl8 g k := by
  constructor
  · intro e
    obtain ⟨rfl, h⟩ := wl5_i m k hf hg e
    exact wl8_c _ h
  · intro e
    obtain ⟨rfl, h⟩ := wl8_i m k hf hg e
    exact wl5_c _ h
/-- the byte at a place; outside of the text: -1 -/
def hr (b : Nat → Int) (n k : Int) : Int := if 0 ≤ k ∧ k < n then b k.toNat else -1
abbrev isB (c : Int) : Prop := c = 32 ∨ c = 10
abbrev isL (c : Int) : Prop := 97 ≤ c ∧ c ≤ 122
abbrev isD (c : Int) : Prop := 48 ≤ c ∧ c ≤ 57
/-- from a on all up to p have P, that at p has not -/
abbrev upTo (h : Int → Int) (P : Int → Prop) (a p : Int) : Prop := a ≤ p ∧ (∀ k, a ≤ k → k < p → P (h k)) ∧ ¬ P (h p)
theorem upTo_u {h : Int → Int} {P : Int → Prop} {a p q : Int} (k : upTo h P a p) (g : upTo h P a q) : p = q := by
  obtain ⟨h1, h2, h3⟩ := k
  obtain ⟨g1, g2, g3⟩ := g
  rcases Int.lt_trichotomy p q with c | c | c
  · exact absurd (g2 p h1 c) h3
  · exact c
  · exact absurd (h2 q g1 c) g3
noncomputable def ups (h : Int → Int) (P : Int → Prop) (a : Int) : Int := Classical.epsilon (fun p => upTo h P a p)
theorem ups_eq {h : Int → Int} {P : Int → Prop} {a p : Int} (k : upTo h P a p) : ups h P a = p := upTo_u (Classical.epsilon_spec (p := fun p => upTo h P a p) ⟨p, k⟩) k
noncomputable def ifp {α : Type} (P : Prop) (a b : α) : α := @ite α P (Classical.propDecidable P) a b
theorem ifp_t {α : Type} {P : Prop} {a b : α} (h : P) : ifp P a b = a := @if_pos P (Classical.propDecidable P) h α a b
theorem ifp_f {α : Type} {P : Prop} {a b : α} (h : ¬ P) : ifp P a b = b := @if_neg P (Classical.propDecidable P) h α a b
/-- digits as a number -/
def dn (f : Nat → Int) : Nat → Int
  | 0 => 0
  | m + 1 => dn f m * 10 + (f m - 48)
theorem dn_s (f : Nat → Int) (m : Nat) : dn f (m + 1) = dn f m * 10 + (f m - 48) := rfl
theorem wl5_m {f : Nat → Int} : ∀ m, lets f m → wl5 f m ≤ wl5 (fun _ => 122) m
  | 0, _ => Int.le_refl _
  | m + 1, h => by
    have k := wl5_m m (fun i hi => h i (by omega))
    have g := h m (by omega)
    rw [wl5_s, wl5_s]; omega
theorem wl8_m {f : Nat → Int} : ∀ m, lets f m → wl8 f m ≤ wl8 (fun _ => 122) m
  | 0, _ => Int.le_refl _
  | m + 1, h => by
    have k := wl8_m m (fun i hi => h i (by omega))
    have g := h m (by omega)
    rw [wl8_s, wl8_s]; omega
theorem wl5_b {f : Nat → Int} {m : Nat} (h : lets f m) (hm : m ≤ 8) : 0 ≤ wl5 f m ∧ wl5 f m ≤ 1099511627775 := by
  refine ⟨wl5_n m h, Int.le_trans (wl5_m m h) ?_⟩
  rcases (show m = 0 ∨ m = 1 ∨ m = 2 ∨ m = 3 ∨ m = 4 ∨ m = 5 ∨ m = 6 ∨ m = 7 ∨ m = 8 by omega) with c | c | c | c | c | c | c | c | c <;> subst c <;> decide
theorem wl8_b {f : Nat → Int} {m : Nat} (h : lets f m) (hm : m ≤ 7) : 0 ≤ wl8 f m ∧ wl8 f m ≤ 34474613618145914 := by
  refine ⟨wl8_n m h, Int.le_trans (wl8_m m h) ?_⟩
  rcases (show m = 0 ∨ m = 1 ∨ m = 2 ∨ m = 3 ∨ m = 4 ∨ m = 5 ∨ m = 6 ∨ m = 7 by omega) with c | c | c | c | c | c | c | c <;> subst c <;> decide
abbrev digs (f : Nat → Int) (m : Nat) : Prop := ∀ i, i < m → 48 ≤ f i ∧ f i ≤ 57
theorem dn_n {f : Nat → Int} : ∀ m, digs f m → 0 ≤ dn f m
  | 0, _ => Int.le_refl _
  | m + 1, h => by
    have k := dn_n m (fun i hi => h i (by omega))
    have g := h m (by omega)
    rw [dn_s]; omega
theorem dn_m {f : Nat → Int} : ∀ m, digs f m → dn f m ≤ dn (fun _ => 57) m
  | 0, _ => Int.le_refl _
  | m + 1, h => by
    have k := dn_m m (fun i hi => h i (by omega))
    have g := h m (by omega)
    rw [dn_s, dn_s]; omega
theorem dn_b {f : Nat → Int} {m : Nat} (h : digs f m) : 0 ≤ dn f m ∧ (m = 0 → dn f m = 0) ∧ (m ≤ 3 → dn f m ≤ 999) ∧ (m ≤ 4 → dn f m ≤ 9999) := by
  refine ⟨dn_n m h, fun c => by subst c; rfl, fun hm => Int.le_trans (dn_m m h) ?_, fun hm => Int.le_trans (dn_m m h) ?_⟩
  · rcases (show m = 0 ∨ m = 1 ∨ m = 2 ∨ m = 3 by omega) with c | c | c | c <;> subst c <;> decide
  · rcases (show m = 0 ∨ m = 1 ∨ m = 2 ∨ m = 3 ∨ m = 4 by omega) with c | c | c | c | c <;> subst c <;> decide

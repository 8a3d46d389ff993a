/-! the objects as they are made -/
def kq_c (c : Nat) (lo hi v : Int) : Bool := match c with
  | 0 => decide (lo ≤ v) && decide (v ≤ hi)
  | _ => decide (v = 0)
theorem kq_c_s {c : Nat} {lo hi v : Int} (h : kq_c c lo hi v = true) : ok_c c lo hi v := by
  unfold kq_c at h
  unfold ok_c
  split at h
  · rw [Bool.and_eq_true, decide_eq_true_eq, decide_eq_true_eq] at h
    exact h
  · rename_i hc
    rw [decide_eq_true_eq] at h
    subst h
    split
    · exact absurd rfl hc
    · exact ⟨by decide, by decide, by decide, by decide, by decide, by decide, by decide⟩
noncomputable def kq_all (p : Nat → Bool) (d : Nat) : Nat → Bool := Nat.rec (fun s => p s) (fun k ih s => match ih s with
  | true => ih (s + 2 ^ k)
  | false => false) d
theorem kq_all_u (p : Nat → Bool) (d s : Nat) : kq_all p (d + 1) s = match kq_all p d s with
  | true => kq_all p d (s + 2 ^ d)
  | false => false := rfl
theorem kq_all_s {p : Nat → Bool} : ∀ (d s : Nat), kq_all p d s = true → ∀ i, s ≤ i → i < s + 2 ^ d → p i = true := by
  intro d
  induction d with
  | zero =>
    intro s h i h1 h2
    have e : i = s := by omega
    subst e; exact h
  | succ d ih =>
    intro s h i h1 h2
    rw [kq_all_u] at h
    have e : 2 ^ (d + 1) = 2 ^ d + 2 ^ d := by rw [Nat.pow_succ]; omega
    split at h
    · rename_i h3
      by_cases c : i < s + 2 ^ d
      · exact ih s h3 i h1 c
      · exact ih _ h i (by omega) (by omega)
    · cases h
def kq_z (c : Nat) (lo hi v : Int) : Bool := match v with
  | .ofNat 0 => kq_c c lo hi 0
  | v => kq_c c lo hi v
theorem kq_z_s {c : Nat} {lo hi v : Int} (h : kq_z c lo hi v = true) : ok_c c lo hi v := by
  unfold kq_z at h
  split at h
  · exact kq_c_s h
  · exact kq_c_s h
def kq_d (n : Nat) : Nat := match Nat.ble n 64 with
  | true => 6
  | false => match Nat.ble n 2048 with
    | true => 11
    | false => 17
def kq_l : List (Int × Int) → (Nat → Int) → Nat → Bool
  | [], _, _ => true
  | q :: r, g, i => decide (q.1 ≤ g i) && (decide (g i ≤ q.2) && kq_l r g (i + 1))
theorem kq_l_s {g : Nat → Int} : ∀ (l : List (Int × Int)) (s : Nat), kq_l l g s = true → ∀ i q, l[i]? = some q → q.1 ≤ g (s + i) ∧ g (s + i) ≤ q.2 := by
  intro l
  induction l with
  | nil => intro s h i q e; rw [List.getElem?_nil] at e; cases e
  | cons q r ih =>
    intro s h i q' e
    unfold kq_l at h
    rw [Bool.and_eq_true, Bool.and_eq_true, decide_eq_true_eq, decide_eq_true_eq] at h
    cases i with
    | zero =>
      rw [List.getElem?_cons_zero] at e
      cases e
      exact ⟨h.1, h.2.1⟩
    | succ i =>
      rw [List.getElem?_cons_succ] at e
      have k := ih (s + 1) h.2.2 i q' e
      rw [show s + (i + 1) = s + 1 + i by omega]
      exact k
noncomputable def kq_ok (k : zk) (g : Nat → Int) : Bool := match k with
  | .inl (n, c, lo, hi) => match Nat.ble n (2 ^ kq_d n) with
    | true => kq_all (fun i => match Nat.ble n i with
      | true => true
      | false => kq_z c lo hi (g i)) (kq_d n) 0
    | false => false
  | .inr l => kq_l l g 0
theorem kq_ok_s {k : zk} {g : Nat → Int} (h : kq_ok k g = true) (i : Nat) : ok_t k i (g i) := by
  unfold kq_ok at h
  unfold ok_t
  split at h
  · rename_i n c lo hi
    intro hi'
    split at h
    · rename_i h2
      have h2 := Nat.le_of_ble_eq_true h2
      have h3 := kq_all_s _ _ h i (by omega) (by omega)
      split at h3
      · rename_i h4
        have := Nat.le_of_ble_eq_true h4
        omega
      · exact kq_z_s h3
    · cases h
  · rename_i l
    intro q hq
    have k := kq_l_s l 0 h i q hq
    rw [Nat.zero_add] at k
    exact k
noncomputable def kq_h : List zk → (Nat → Nat → Int) → Nat → Bool
  | [], _, _ => true
  | k :: r, g, a => match kq_ok k (g a) with
    | true => kq_h r g (a + 1)
    | false => false
theorem kq_h_s {g : Nat → Nat → Int} : ∀ (l : List zk) (s : Nat), kq_h l g s = true → ∀ a i, ok_t ((l[a]?).getD (.inr [])) i (g (s + a) i) := by
  intro l
  induction l with
  | nil =>
    intro s h a i
    rw [List.getElem?_nil]
    intro q e
    rw [List.getElem?_nil] at e
    cases e
  | cons k r ih =>
    intro s h a i
    unfold kq_h at h
    split at h
    · rename_i h2
      cases a with
      | zero => exact kq_ok_s h2 i
      | succ a =>
        rw [List.getElem?_cons_succ, show s + (a + 1) = s + 1 + a by omega]
        exact ih (s + 1) h a i
    · cases h
theorem kq_rz {g : Nat → Nat → Int} (h : kq_h zkl g 0 = true) : rz g := fun a i => by
  have k := kq_h_s zkl 0 h a i
  rw [Nat.zero_add] at k
  exact k
theorem kq_rw {g : Nat → Nat → Int} (h : kq_h wkl g 0 = true) : rw_ g := fun a i => by
  have k := kq_h_s wkl 0 h a i
  rw [Nat.zero_add] at k
  exact k
set_option maxRecDepth 100000 in
theorem kq_3z : kq_h zkl (xz ph_3) 0 = true := by decide +kernel
set_option maxRecDepth 100000 in
theorem kq_3w : kq_h wkl (xw ph_3) 0 = true := by decide +kernel
set_option maxRecDepth 100000 in
theorem kq_3a : (xz ph_3 1 16 = 0 ∧ xz ph_3 1 17 = -1 ∧ xz ph_3 225 2 = 0 ∧ xz ph_3 225 3 = -1) ∧ (xz ph_3 159 2 = 0 ∧ xz ph_3 159 4 = 0 ∧ xz ph_3 225 32 = 0) ∧ ((∀ e, e < 18 → xw ph_3 41 e = 0 ∧ xw ph_3 270 e = 0) ∧ ∀ b, b < 3 → xz ph_3 147 b = 0 ∧ xz ph_3 274 b = 0) ∧ ((xz ph_3 159 0 = 0 ∧ xz ph_3 159 1 = 0 ∧ xz ph_3 159 3 = 0 ∧ xz ph_3 39 0 = 0 ∧ xz ph_3 39 1 = 0 ∧ xz ph_3 39 2 = 0 ∧ xz ph_3 3 7 = 0 ∧ xz ph_3 1 15 = 0) ∧ (xz ph_3 225 26 = 0 ∧ xz ph_3 225 27 = 0 ∧ xz ph_3 225 28 = 0 ∧ xz ph_3 225 73 = 0 ∧ xz ph_3 225 74 = 0 ∧ xz ph_3 225 1 = 0) ∧ xp ph_3 1 13 = some 159 ∧ xp ph_3 1 14 = some 192 ∧ xp ph_3 10 2 = none) := by decide +kernel
theorem kq_3x : xz ph_3 1 16 = 0 ∧ xz ph_3 1 17 = -1 ∧ xz ph_3 225 2 = 0 ∧ xz ph_3 225 3 = -1 := kq_3a.1
theorem kq_3y : xz ph_3 159 2 = 0 ∧ xz ph_3 159 4 = 0 ∧ xz ph_3 225 32 = 0 := kq_3a.2.1
theorem kq_3L : (∀ e, e < 18 → xw ph_3 41 e = 0 ∧ xw ph_3 270 e = 0) ∧ ∀ b, b < 3 → xz ph_3 147 b = 0 ∧ xz ph_3 274 b = 0 := kq_3a.2.2.1
theorem kq_3v : (xz ph_3 159 0 = 0 ∧ xz ph_3 159 1 = 0 ∧ xz ph_3 159 3 = 0 ∧ xz ph_3 39 0 = 0 ∧ xz ph_3 39 1 = 0 ∧ xz ph_3 39 2 = 0 ∧ xz ph_3 3 7 = 0 ∧ xz ph_3 1 15 = 0) ∧ (xz ph_3 225 26 = 0 ∧ xz ph_3 225 27 = 0 ∧ xz ph_3 225 28 = 0 ∧ xz ph_3 225 73 = 0 ∧ xz ph_3 225 74 = 0 ∧ xz ph_3 225 1 = 0) ∧ xp ph_3 1 13 = some 159 ∧ xp ph_3 1 14 = some 192 ∧ xp ph_3 10 2 = none := kq_3a.2.2.2
theorem kq_3p : xp ph_3 = pq (some 159) (some 192) (xp ph_3 3 2) (xp ph_3 3 4) none (xp ph_3 4 7) (xp ph_3 33 1) := by
  obtain ⟨-, -, h1, h2, h3⟩ := kq_3v
  funext a i
  unfold pq pqg
  by_cases c1 : a = 1 ∧ i = 13
  · rw [if_pos c1]; obtain ⟨rfl, rfl⟩ := c1; exact h1
  rw [if_neg c1]
  by_cases c2 : a = 1 ∧ i = 14
  · rw [if_pos c2]; obtain ⟨rfl, rfl⟩ := c2; exact h2
  rw [if_neg c2]
  by_cases c3 : a = 3 ∧ i = 2
  · rw [if_pos c3]; obtain ⟨rfl, rfl⟩ := c3; rfl
  rw [if_neg c3]
  by_cases c4 : a = 3 ∧ i = 4
  · rw [if_pos c4]; obtain ⟨rfl, rfl⟩ := c4; rfl
  rw [if_neg c4]
  by_cases c5 : a = 10 ∧ i = 2
  · rw [if_pos c5]; obtain ⟨rfl, rfl⟩ := c5; exact h3
  rw [if_neg c5]
  by_cases c6 : a = 4 ∧ i = 7
  · rw [if_pos c6]; obtain ⟨rfl, rfl⟩ := c6; rfl
  rw [if_neg c6]
  by_cases c7 : a = 33 ∧ i = 1
  · rw [if_pos c7]; obtain ⟨rfl, rfl⟩ := c7; rfl
  rw [if_neg c7]
theorem FT_m0 {T : Nat → Nat} {n : Nat → Int} {m : Nat} (hm : m = 0) (h : ∀ e, e < 18 → 0 ≤ n e) : FT m T n := by
  subst hm
  exact ⟨h, fun s hs => absurd hs (by omega)⟩
theorem WT_0 {m E : Int} {T o fs : Nat → Int} (hm : m = 0) (hE : E = 0) : WT m E T o fs := by
  subst hm hE
  exact ⟨by omega, by omega, by omega, fun s h => absurd h (by omega), fun s h => absurd h (by omega), fun s h => absurd h (by omega), fun s h => absurd h (by omega), fun s h => absurd h (by omega), fun s h => absurd h (by omega), fun s r h => absurd h (by omega)⟩
theorem kq_L0 {z w : mZ} (v : z 39 0 = 0 ∧ z 39 1 = 0 ∧ z 39 2 = 0 ∧ z 225 73 = 0 ∧ z 225 74 = 0) (h : (∀ e, e < 18 → w 41 e = 0 ∧ w 270 e = 0) ∧ ∀ b, b < 3 → z 147 b = 0 ∧ z 274 b = 0) : LN (rE z) z w z w ∧ BXE (rE z) z w z w := by
  obtain ⟨v1, v2, v3, v4, v5⟩ := v
  have ea : aR z 0 = 41 := by unfold aR; rw [v3]; rfl
  refine ⟨LN_1 v1 v2 v4 v5 (fun e he => ?_), fun b hb => ⟨by rw [(h.2 b hb).1, (h.2 b hb).2], fun q => ?_⟩⟩
  · rw [ea, (h.1 e he).1, (h.1 e he).2]
    exact ⟨rfl, fun _ => rfl⟩
  · rw [(h.2 b hb).2] at q; exact absurd q (by decide)
/-- what holds between calls holds of fresh objects -/
theorem kq_C0 {z w : mZ} {tx it tt ct : Option Nat} (hz : rz z) (hw : rw_ w) (v : z 159 0 = 0 ∧ z 159 1 = 0 ∧ z 159 3 = 0 ∧ z 39 0 = 0 ∧ z 39 1 = 0 ∧ z 39 2 = 0 ∧ z 3 7 = 0 ∧ z 1 15 = 0) : kqC z w (pq (some 159) (some 192) tx it none tt ct) := by
  obtain ⟨v1, v2, v3, v4, v5, v6, v7, v8⟩ := v
  refine ⟨159, 192, tx, it, none, tt, ct, Or.inl rfl, Or.inr rfl, Or.inl rfl, rfl, hz, hw, ⟨WT_0 v1 v2, fun l hl => absurd hl (by omega), ⟨by omega, fun j hj => ?_⟩, fun b hb q => ?_, fun q => absurd q (by omega)⟩, Or.inl rfl⟩
  · refine FT_m0 (by omega) (fun e he => ?_)
    have := rd_41 (k := ((z 39 2 + j) % 61).toNat) (by omega) hw (i := e) he
    exact this.1
  · refine FT_m0 (by omega) (fun e he => ?_)
    have := rd_144 (k := b) hb hw (i := e) he
    exact this.1
theorem kq_R0 {z w : mZ} (hz : rz z) (hw : rw_ w) (v : z 225 26 = 0 ∧ z 225 27 = 0 ∧ z 225 28 = 0 ∧ z 225 73 = 0 ∧ z 225 74 = 0 ∧ z 225 1 = 0) : kqR z w := by
  obtain ⟨v1, v2, v3, v4, v5, v6⟩ := v
  have hE : rE z = 0 := by unfold rE; omega
  have ft : ∀ n : Nat → Int, FTw z n := fun n => FT_m0 (by omega) (fun e he => by rw [tr_g (by omega)]; omega)
  exact ⟨hz, hw, ⟨WT_0 v1 hE, fun l hl => absurd hl (by omega), fun a ha => absurd ha (by omega), fun l hl => absurd hl (by omega)⟩, ft _, ⟨by omega, fun k hk => ft _⟩, fun b hb q => ft _⟩
/-- the cells' sizes rest on their shapes alone -/
theorem mkg_sls (ft : mc) (m m' : mm) (l : List mt) : ∀ a, pm_sls (mkg ft m l a) = pm_sls (mkg ft m' l a) := by
  induction l with
  | nil => intro a; rfl
  | cons s r ih =>
    intro a
    show pm_sl (mce ft s m a) + pm_sls (mkg ft m r (a + 1)) = pm_sl (mce ft s m' a) + pm_sls (mkg ft m' r (a + 1))
    rw [ih (a + 1)]
    congr 1
    obtain ⟨k, c, n⟩ := s
    unfold mce
    dsimp only
    split
    · show (mfs m a (ft c) 0).length = (mfs m' a (ft c) 0).length
      rw [mfs_len, mfs_len]
    · split <;> rfl
theorem kq_room (z w : mZ) (p : mP) : (mk z w p).length ≤ 600000 ∧ pm_sls (mk z w p) ≤ 7302250 := by
  have h := pz_3
  rw [ph_3_mk, Bool.and_eq_true] at h
  have h1 := Nat.le_of_ble_eq_true h.1
  have h2 := Nat.le_of_ble_eq_true h.2
  constructor
  · rw [mkg_len] at h1
    unfold mk
    rw [mkg_len]; exact h1
  · unfold mk at *
    rw [mkg_sls mft (z, w, p) (xz ph_3, xw ph_3, xp ph_3)]; exact h2

/-! what holds of the class's object between calls -/
abbrev aR (z : mZ) (j : Int) : Nat := 41 + ((z 39 2 + j) % 61).toNat
def AK (z w : mZ) (t : Nat) : Prop := z 39 0 + z 39 1 ≤ 60 ∧ ∀ j : Nat, (j : Int) ≤ z 39 0 + z 39 1 → FTt z t (w (aR z j))
def BX (z w : mZ) (t : Nat) : Prop := ∀ b : Nat, b < 3 → z 147 b = 1 → FTt z t (w (144 + b))
abbrev KNz (z : mZ) : Prop := z 3 7 = 2 → 0 ≤ z 3 9 ∧ z 3 9 ≤ 9999
def CV (z w : mZ) (t : Nat) : Prop := WTt z t ∧ LF z w t ∧ AK z w t ∧ BX z w t ∧ KNz z
/-- places on which it rests -/
theorem CV_f {S : mS} {z w z' w' : mZ} {t : Nat} (ht : isT t) (hz : rz z) (h : st_ S z w z' w') (s7 : ¬ inS S 3 7) (s9 : ¬ inS S 3 9) (h0 : ¬ inS S t 0) (h1 : ¬ inS S t 1) (h3 : ¬ inS S t 3) (f1 : ∀ i, ¬ inS S (t + 1) i) (f2 : ∀ i, ¬ inS S (t + 2) i) (f5 : ∀ i, ¬ inS S (t + 5) i) (f8 : ∀ a, t + 8 ≤ a → a ≤ t + 15 → ∀ i, ¬ inS S a i)
    (a0 : ¬ inS S 39 0) (a1 : ¬ inS S 39 1) (a2 : ¬ inS S 39 2) (a4 : ∀ a, 41 ≤ a → a ≤ 101 → ∀ i, ¬ inS S a i) (b1 : ∀ a, 144 ≤ a → a ≤ 147 → ∀ i, ¬ inS S a i) (k : CV z w t) : CV z' w' t := by
  obtain ⟨k1, k2, k3, k4, k5⟩ := k
  have e0 := h.2.2.1 _ _ h0; have e3 := h.2.2.1 _ _ h3
  have g1 : z' (t + 1) = z (t + 1) := funext fun i => h.2.2.1 _ _ (f1 i)
  have ft : ∀ n, FTt z t n → FTt z' t n := fun n q => FTt_fr e0 g1 q
  have t3 := rd_T_3 ht hz
  refine ⟨WTt_f h h0 h1 f1 f2 f5 k1, fun l hl => ?_, ⟨?_, fun j hj => ?_⟩, fun b hb q => ?_, ?_⟩
  · rw [show w' (t + 8 + l) = w (t + 8 + l) from funext fun i => h.2.2.2 _ _ (f8 _ (by omega) (by omega) i)]
    exact ft _ (k2 l (by omega))
  · rw [h.2.2.1 _ _ a0, h.2.2.1 _ _ a1]; exact k3.1
  · rw [h.2.2.1 _ _ a0, h.2.2.1 _ _ a1] at hj
    unfold aR
    rw [h.2.2.1 _ _ a2, show w' (41 + ((z 39 2 + j) % 61).toNat) = w (41 + ((z 39 2 + j) % 61).toNat) from funext fun i => h.2.2.2 _ _ (a4 _ (by omega) (by omega) i)]
    exact ft _ (k3.2 j hj)
  · rw [h.2.2.1 _ _ (b1 147 (by omega) (by omega) b)] at q
    rw [show w' (144 + b) = w (144 + b) from funext fun i => h.2.2.2 _ _ (b1 _ (by omega) (by omega) i)]
    exact ft _ (k4 b hb q)
  · unfold KNz
    rw [h.2.2.1 _ _ s7, h.2.2.1 _ _ s9]; exact k5
theorem GA_f {S : mS} {z w z' w' : mZ} {t : Nat} (ht : isT t) (hz : rz z) (h : st_ S z w z' w') (h0 : ¬ inS S t 0) (h3 : ¬ inS S t 3) (f1 : ∀ i, ¬ inS S (t + 1) i) (r : ∀ a, 17 ≤ a → a ≤ 32 → ∀ i, ¬ inS S a i) (k : GA z z t) : GA z' z' t := by
  intro l hl
  have t3 := rd_T_3 ht hz
  rw [h.2.2.1 _ _ h3] at hl
  exact GRt_cg (k l hl) (h.2.2.1 _ _ h0).symm (funext fun i => (h.2.2.1 _ _ (f1 i)).symm) (fun i _ => h.2.2.1 _ _ (r _ (by omega) (by omega) i)) (funext fun i => h.2.2.1 _ _ (r _ (by omega) (by omega) i))
theorem FT_0 {m : Nat} {T : Nat → Nat} {n : Nat → Int} (hT : ∀ s, s < 3 * m → T s < 18) (h : ∀ j, j < 18 → n j = 0) : FT m T n := by
  refine ⟨fun e he => by rw [h e he]; omega, fun s hs => ?_⟩
  rw [h _ (hT s hs), h _ (hT _ (bh_lt hs)), h _ (hT _ (ah_lt hs))]
  exact ⟨by omega, by omega, by omega, by omega⟩
theorem FTt_cg {z w w' : mZ} {t a b : Nat} (hw : WTt z t) (h : ∀ j : Nat, j < 18 → w' b j = w a j) (f : FTt z t (w a)) : FTt z t (w' b) := FT_cg (WT.lt hw) (fun j hj => (h j hj).symm) f
/-- rows of numbers 0 .. 10^14 take such numbers -/
def wrb (a : Nat) : Prop := ∀ (i : Nat) (v : Int), (0 ≤ v ∧ v ≤ 100000000000000) → ok_t ((wkl[a]?).getD (.inr [])) i v
theorem wrb_w {a : Nat} (h : wrb a) {i : Nat} {v : Int} (hv : 0 ≤ v ∧ v ≤ 100000000000000) : ok_t ((wkl[a]?).getD (.inr [])) i v := h i v hv
theorem wrb_41 {k : Nat} (hk : k < 61) : wrb (41 + k) := fun i v h => wr_41 hk h
theorem wrb_144 {k : Nat} (hk : k < 3) : wrb (144 + k) := fun i v h => wr_144 hk h
/-- an act is kept: the row behind the last is new, the others stay -/
theorem AK_k {z z' w w' : mZ} {t n : Nat} (hw : WTt z t) (k : AK z w t) (e0 : z' t 0 = z t 0) (e1 : z' (t + 1) = z (t + 1)) (hf : FTt z t (w n)) (d0 : 0 ≤ z 39 0) (d1 : z 39 0 ≤ 60) (a0 : 0 ≤ z 39 1) (o0 : 0 ≤ z 39 2) (o1 : z 39 2 ≤ 60)
    (ha : z' 39 1 = 0) (hc : (z 39 0 ≤ 59 ∧ z' 39 0 = z 39 0 + 1 ∧ z' 39 2 = z 39 2) ∨ (z 39 0 = 60 ∧ z' 39 0 = 60 ∧ z' 39 2 = (z 39 2 + 1) % 61))
    (hn : ∀ j : Nat, j < 18 → w' (aR z' (z' 39 0)) j = w n j) (ho : ∀ a, 41 ≤ a → a ≤ 101 → a ≠ aR z' (z' 39 0) → w' a = w a) : AK z' w' t := by
  refine ⟨by omega, fun j hj => ?_⟩
  apply FTt_fr e0 e1
  by_cases c : aR z' j = aR z' (z' 39 0)
  · rw [c]; exact FTt_cg hw hn hf
  · rw [ho _ (by unfold aR; omega) (by unfold aR; omega) c]
    rcases hc with ⟨c1, c2, c3⟩ | ⟨c1, c2, c3⟩
    · have : aR z' j = aR z j := by unfold aR; rw [c3]
      rw [this]
      apply k.2 j
      apply Classical.byContradiction
      intro q
      apply c
      unfold aR
      omega
    · have e : aR z' j = aR z ((j + 1 : Nat) : Int) := by unfold aR; rw [c3]; omega
      rw [e]
      apply k.2 (j + 1)
      apply Classical.byContradiction
      intro q
      apply c
      unfold aR
      omega
theorem AK_c {z w : mZ} {t : Nat} (h0 : z 39 0 = 0) (h1 : z 39 1 = 0) (h : FTt z t (w (aR z 0))) : AK z w t := by
  refine ⟨by omega, fun j hj => ?_⟩
  have : j = 0 := by omega
  subst this; exact h
theorem AK_s {z w z' w' : mZ} {t : Nat} (k : AK z w t) (e0 : z' t 0 = z t 0) (e1 : z' (t + 1) = z (t + 1)) (h : z' 39 0 + z' 39 1 = z 39 0 + z 39 1) (h2 : z' 39 2 = z 39 2) (hw : ∀ a, 41 ≤ a → a ≤ 101 → w' a = w a) : AK z' w' t := by
  refine ⟨by rw [h]; exact k.1, fun j hj => ?_⟩
  apply FTt_fr e0 e1
  have : aR z' j = aR z j := by unfold aR; rw [h2]
  rw [this, hw _ (by unfold aR; omega) (by unfold aR; omega)]
  exact k.2 j (by omega)
theorem AK_now {z w : mZ} {t : Nat} (k : AK z w t) (h0 : 0 ≤ z 39 0) (h1 : 0 ≤ z 39 1) : FTt z t (w (41 + ((z 39 2 + z 39 0) % 61).toNat)) := by
  have q := k.2 (z 39 0).toNat (by omega)
  unfold aR at q
  rw [show ((z 39 0).toNat : Int) = z 39 0 by omega] at q
  exact q

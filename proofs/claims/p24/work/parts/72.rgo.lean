/-! the reference: moving numbers -/
def NZE (E : Int) (n : Nat → Int) : Prop := ∃ j : Nat, (j : Int) < E ∧ n j ≠ 0
theorem NZE_fl {E : Int} {e x y z w : Nat} {n n' : Nat → Int} (hn : n' = fl e x y z w n) (hx : (x : Int) < E ∧ x ≠ e) (hy : (y : Int) < E ∧ y ≠ e) (hz : (z : Int) < E ∧ z ≠ e) (hw : (w : Int) < E ∧ w ≠ e) (he : (e : Int) < E) (h : NZE E n) : NZE E n' := by
  apply Classical.byContradiction
  intro q
  have zero : ∀ j : Nat, (j : Int) < E → n' j = 0 := fun j hj => Classical.byContradiction fun d => q ⟨j, hj, d⟩
  have o : ∀ j : Nat, (j : Int) < E → j ≠ e → n j = 0 := fun j hj d => by have := zero j hj; rw [hn, fl_ne d] at this; exact this
  have k := zero e he
  rw [hn, fl_e, o x hx.1 hx.2, o y hy.1 hy.2, o z hz.1 hz.2, o w hw.1 hw.2] at k
  obtain ⟨j, hj, d⟩ := h
  by_cases c : j = e
  · subst c; apply d; omega
  · exact d (o j hj c)
theorem NZE_tw {E : Int} {a b u v : Nat} {n n' : Nat → Int} (hn : n' = tw a b u v n) (ha : (a : Int) < E ∧ a ≠ u ∧ a ≠ v) (hb : (b : Int) < E ∧ b ≠ u ∧ b ≠ v) (hu : (u : Int) < E) (hv : (v : Int) < E) (uv : u ≠ v) (h : NZE E n) : NZE E n' := by
  apply Classical.byContradiction
  intro q
  have zero : ∀ j : Nat, (j : Int) < E → n' j = 0 := fun j hj => Classical.byContradiction fun d => q ⟨j, hj, d⟩
  have o : ∀ j : Nat, (j : Int) < E → j ≠ u → j ≠ v → n j = 0 := fun j hj d1 d2 => by have := zero j hj; rw [hn] at this; unfold tw at this; rw [if_neg d2, if_neg d1] at this; exact this
  have k1 := zero u hu
  rw [hn] at k1; unfold tw at k1; rw [if_neg uv, if_pos rfl] at k1
  have k2 := zero v hv
  rw [hn] at k2; unfold tw at k2; rw [if_pos rfl, o a ha.1 ha.2.1 ha.2.2, o b hb.1 hb.2.1 hb.2.2, k1] at k2
  obtain ⟨j, hj, d⟩ := h
  by_cases c : j = u
  · subst c; apply d; omega
  · by_cases c2 : j = v
    · subst c2; exact d k1
    · exact d (o j hj c c2)
theorem tw_of2 {n n1 n2 : Nat → Int} {a b u v : Nat} (uv : u ≠ v) (h1 : n1 = fun j => if j = v then max (n a + n b) (n v + n v) - n u else n j) (h2 : n2 = fun j => if j = u then n v else n1 j) : n2 = tw a b u v n := by
  funext j
  rw [h2, h1]
  unfold tw
  dsimp only
  by_cases c : j = v
  · subst c
    rw [if_neg (fun q => uv q.symm), if_pos rfl, if_pos rfl]
  · rw [if_neg c, if_neg c]
theorem cfQ_v {z : mZ} {l : Int} {i j : Nat} (l0 : 0 ≤ l) {k : Int} (hk : k = 5 * (1782 * l + i) + j) : (z 247 k.toNat).toNat = cfQ z l.toNat i j := by
  unfold cfQ
  rw [show k.toNat = 5 * (1782 * l.toNat + i) + j by omega]
theorem GRq_c {z z' : mZ} {l : Nat} (e26 : z' 225 26 = z 225 26) (e235 : z' 235 = z 235) (e : ∀ a, 247 ≤ a → a ≤ 254 → z' a = z a) (g : GRq z z l) : GRq z' z' l := by
  unfold GRq at *
  have c : cfQ z' l = cfQ z l := by funext i j; unfold cfQ; rw [e 247 (by omega) (by omega)]
  rw [c, e 248 (by omega) (by omega), e 249 (by omega) (by omega), e 250 (by omega) (by omega), e 251 (by omega) (by omega), e 252 (by omega) (by omega), e 254 (by omega) (by omega), e26, e235]
  unfold rE at *
  rw [e26]
  exact g
def GAr (z : mZ) : Prop := ∀ l : Nat, (l : Int) < z 225 27 → GRq z z l
def FWr (z : mZ) (a : Nat) : Prop := ∀ i : Nat, (i : Int) < z 239 a → z 237 (8 * a + i) < z 225 27 ∧ z 254 (z 237 (8 * a + i)).toNat = 1
abbrev GOk (z0 w0 w : mZ) (P : (Nat → Int) → Prop) : Prop := P (w 257) ∧ NBr w 257 ∧ (NZE (rE z0) (w0 257) → NZE (rE z0) (w 257))

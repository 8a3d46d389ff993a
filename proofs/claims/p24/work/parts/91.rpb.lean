/-! the reference: lines that an act lays -/
theorem tr_tr {E : Int} {f : Nat → Int} : tr E (tr E f) = tr E f := by
  funext k
  by_cases c : (k : Int) < E
  · rw [tr_l c]
  · rw [tr_g (by omega), tr_g (by omega)]
theorem FTw_b {z z' : mZ} {n f : Nat → Int} (hz : rz z) (e26 : z' 225 26 = z 225 26) (e235 : z' 235 = z 235) (h : FTw z f) (a : ∀ j : Nat, j < 18 → n j = tr (rE z) f j) : FTw z' n := by
  refine FTw_c (z := z) (n := tr (rE z) f) e26 e235 (rE18 hz) a ?_
  unfold FTw at *; rw [tr_tr]; exact h
theorem FTw_w {z z' : mZ} {n f : Nat → Int} (hr : RW z) (e26 : z' 225 26 = z 225 26) (e235 : z' 235 = z 235) (h : FTw z f) (a : ∀ j : Nat, j < 18 → n j = tr (rE z) f j) : FT (z' 225 26).toNat (vT (z' 235)) n := by
  rw [e26, e235]
  exact FT_cg (WT.lt hr) (fun j hj => (a j hj).symm) h
theorem FTw_t {z z' : mZ} {n : Nat → Int} (hz : rz z) (hr : RW z) (e26 : z' 225 26 = z 225 26) (e235 : z' 235 = z 235) (h : FT (z 225 26).toNat (vT (z 235)) n) : FTw z' n := by
  refine FTw_c (z := z) (n := n) e26 e235 (rE18 hz) (fun _ _ => rfl) ?_
  unfold FTw
  refine ⟨fun e he => ?_, fun s hs => ?_⟩
  · by_cases c : (e : Int) < rE z
    · rw [tr_l c]; exact h.1 e he
    · rw [tr_g (by omega)]; omega
  · have g : ∀ s : Nat, s < 3 * (z 225 26).toNat → tr (rE z) n (vT (z 235) s) = n (vT (z 235) s) := by
      intro s hs
      have h26 := rd_225_26 hz
      have k := hr.tE s (by omega)
      exact tr_l (by show (((z 235 s).toNat : Nat) : Int) < rE z; omega)
    rw [g s hs, g _ (bh_lt hs), g _ (ah_lt hs)]; exact h.2 s hs
theorem NB_b {w w' : mZ} {E : Int} {f : Nat → Int} (hf : ∀ j : Nat, j < 18 → 0 ≤ f j ∧ f j ≤ 100000000000000) (a : ∀ j : Nat, j < 18 → w' 257 j = tr E f j) : NBr w' 257 := by
  intro e he
  rw [a e he]
  by_cases c : (e : Int) < E
  · rw [tr_l c]; exact hf e he
  · rw [tr_g (by omega)]; omega

/-! the reference: an act keeps the invariant -/
theorem LF_sm {z : mZ} {l : Nat} (h : LFr z) (hl : (l : Int) < z 225 27) : sm (tr (rE z) (lnR z l)) 18 ≤ 18000 := by
  refine Int.le_trans (sm_99 (fun j hj => ?_)) (by omega)
  by_cases c : (j : Int) < rE z
  · rw [tr_l c]; exact (h l hl).2 j c
  · rw [tr_g (by omega)]; omega
theorem RV_at {z z' w w' : mZ} {k : Nat} (hz : rz z) (e1 : ∀ i, 26 ≤ i → i ≤ 28 → z' 225 i = z 225 i) (e2 : ∀ a, 235 ≤ a → a ≤ 241 → a ≠ 238 → z' a = z a) (e3 : ∀ a, 247 ≤ a → a ≤ 254 → z' a = z a) (e6 : z' 274 = z 274) (f5 : w' 275 = w 275) (s : z' 225 73 = k + 1) (s2 : z' 225 74 = 0) (hk : k < 60)
    (a : ∀ j : Nat, (j : Int) < k → FTw z (fun e => w' 271 (18 * j + e))) (b : ∀ e : Nat, e < 18 → w' 271 (18 * k + e) = w 270 e ∧ w' 270 e = w 257 e) (g : FTw z (w 257)) (h : RV z w) : RV z' w' := by
  obtain ⟨h1, h2, ⟨h3, h4⟩, h5⟩ := h
  have q26 := e1 26 (by omega) (by omega)
  have q235 := e2 235 (by omega) (by omega) (by omega)
  have h18 := rE18 hz
  refine ⟨RGd_c e1 e2 e3 h1, FTw_c q26 q235 h18 (fun e he => (b e he).2) g, ⟨by omega, fun j hj => ?_⟩, fun j hj q => FTw_c q26 q235 h18 (fun e _ => by rw [f5]) (h5 j hj (by rw [← e6]; exact q))⟩
  by_cases c : j = k
  · subst c; exact FTw_c q26 q235 h18 (fun e he => (b e he).1) h2
  · exact FTw_c q26 q235 h18 (fun _ _ => rfl) (a j (by omega))
theorem AC_s {z w w' : mZ} {k : Int} (hz : rz z) (hk : k ≤ 59) (h : RV z w) (s : z 225 73 = 60) (a : ∀ i : Nat, (i : Int) < 1062 → w' 271 i = w 271 (i + 18)) : ∀ j : Nat, (j : Int) < k → FTw z (fun e => w' 271 (18 * j + e)) := by
  have h74 := rd_225_74 hz
  intro j hj
  refine FTw_c rfl rfl (rE18 hz) (fun e he => ?_) (h.2.2.1.2 (j + 1) (by omega))
  show w' 271 (18 * j + e) = w 271 (18 * (j + 1) + e)
  rw [a _ (by omega)]; congr 1; omega

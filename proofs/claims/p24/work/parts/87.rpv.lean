/-! the reference: boxes and acts keep the invariant -/
theorem rE18 {z : mZ} (hz : rz z) : rE z ≤ 18 := by have := rd_225_26 hz; unfold rE; omega
theorem RV_im {z z' w w' : mZ} {k : Nat} (hz : rz z) (e1 : ∀ i, 26 ≤ i → i ≤ 28 → z' 225 i = z 225 i) (e2 : ∀ a, 235 ≤ a → a ≤ 241 → a ≠ 238 → z' a = z a) (e3 : ∀ a, 247 ≤ a → a ≤ 254 → z' a = z a) (e4 : z' 225 73 = z 225 73) (e5 : z' 225 74 = z 225 74)
    (f0 : w' 270 = w 270) (f1 : w' 271 = w 271) (a : ∀ e : Nat, e < 18 → w' 275 (18 * k + e) = w 270 e) (o : ∀ i : Nat, i < 18 * k ∨ 18 * k + 18 ≤ i → w' 275 i = w 275 i) (b : ∀ j : Nat, j ≠ k → z' 274 j = z 274 j) (h : RV z w) : RV z' w' := by
  obtain ⟨h1, h2, ⟨h3, h4⟩, h5⟩ := h
  have q26 := e1 26 (by omega) (by omega)
  have q235 := e2 235 (by omega) (by omega) (by omega)
  have h18 := rE18 hz
  refine ⟨RGd_c e1 e2 e3 h1, FTw_c q26 q235 h18 (fun e _ => by rw [f0]) h2, ⟨by omega, fun k hk => FTw_c q26 q235 h18 (fun e _ => by rw [f1]) (h4 k (by omega))⟩, fun j hj q => ?_⟩
  by_cases c : j = k
  · subst c; exact FTw_c q26 q235 h18 (fun e he => a e he) h2
  · exact FTw_c q26 q235 h18 (fun e he => o _ (by omega)) (h5 j hj (by rw [← b j c]; exact q))
theorem RV_bk {z z' w w' : mZ} {k : Nat} (hz : rz z) (e1 : ∀ i, 26 ≤ i → i ≤ 28 → z' 225 i = z 225 i) (e2 : ∀ a, 235 ≤ a → a ≤ 241 → a ≠ 238 → z' a = z a) (e3 : ∀ a, 247 ≤ a → a ≤ 254 → z' a = z a) (e6 : z' 274 = z 274) (f5 : w' 275 = w 275) (hk : k < 3) (hb : z 274 k = 1)
    (s : z' 225 73 + z' 225 74 = 0) (a : ∀ e : Nat, e < 18 → w' 270 e = w 275 (18 * k + e)) (h : RV z w) : RV z' w' := by
  obtain ⟨h1, h2, ⟨h3, h4⟩, h5⟩ := h
  have q26 := e1 26 (by omega) (by omega)
  have q235 := e2 235 (by omega) (by omega) (by omega)
  have h18 := rE18 hz
  exact ⟨RGd_c e1 e2 e3 h1, FTw_c q26 q235 h18 (fun e he => a e he) (h5 k hk hb), ⟨by omega, fun k hk => absurd hk (by omega)⟩, fun j hj q => FTw_c q26 q235 h18 (fun e _ => by rw [f5]) (h5 j hj (by rw [← e6]; exact q))⟩
def EXd (w w' : mZ) (k : Nat) : Prop := (∀ e : Nat, e < 18 → w' 271 (18 * k + e) = w 270 e ∧ w' 270 e = w 271 (18 * k + e)) ∧ ∀ i : Nat, i < 18 * k ∨ 18 * k + 18 ≤ i → w' 271 i = w 271 i
theorem RV_ex {z z' w w' : mZ} {k : Nat} (hz : rz z) (e1 : ∀ i, 26 ≤ i → i ≤ 28 → z' 225 i = z 225 i) (e2 : ∀ a, 235 ≤ a → a ≤ 241 → a ≠ 238 → z' a = z a) (e3 : ∀ a, 247 ≤ a → a ≤ 254 → z' a = z a) (e6 : z' 274 = z 274) (f5 : w' 275 = w 275) (hk : (k : Int) < z 225 73 + z 225 74)
    (s : z' 225 73 + z' 225 74 = z 225 73 + z 225 74) (x : EXd w w' k) (h : RV z w) : RV z' w' := by
  obtain ⟨h1, h2, ⟨h3, h4⟩, h5⟩ := h
  have q26 := e1 26 (by omega) (by omega)
  have q235 := e2 235 (by omega) (by omega) (by omega)
  have h18 := rE18 hz
  refine ⟨RGd_c e1 e2 e3 h1, FTw_c q26 q235 h18 (fun e he => (x.1 e he).2) (h4 k hk), ⟨by omega, fun j hj => ?_⟩, fun j hj q => FTw_c q26 q235 h18 (fun e _ => by rw [f5]) (h5 j hj (by rw [← e6]; exact q))⟩
  by_cases c : j = k
  · subst c; exact FTw_c q26 q235 h18 (fun e he => (x.1 e he).1) h2
  · exact FTw_c q26 q235 h18 (fun e he => x.2 _ (by omega)) (h4 j (by omega))

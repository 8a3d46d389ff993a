/-! the reference: the ground as it is told, the line, what is kept -/
def WHr (z : mZ) : Prop := z 225 26 % 2 = 0 ∧ ∀ e : Nat, e < 18 → ct (z 235) e (3 * z 225 26).toNat = if (e : Int) < rE z then 2 else 0
def LFr (z : mZ) : Prop := ∀ l : Nat, (l : Int) < z 225 27 → FT (z 225 26).toNat (vT (z 235)) (tr (rE z) (lnR z l)) ∧ ∀ e : Nat, (e : Int) < rE z → lnR z l e ≤ 99
def WDr (z : mZ) : Prop := ∀ a : Nat, (a : Int) < z 225 28 → ∀ i : Nat, (i : Int) < z 239 a → z 237 (8 * a + i) < z 225 27
def FTw (z : mZ) (n : Nat → Int) : Prop := FT (z 225 26).toNat (vT (z 235)) (tr (rE z) n)
def RGd (z : mZ) : Prop := RW z ∧ LFr z ∧ WDr z ∧ GAr z
def RV (z w : mZ) : Prop := RGd z ∧ FTw z (w 270) ∧ (z 225 73 + z 225 74 ≤ 60 ∧ ∀ k : Nat, (k : Int) < z 225 73 + z 225 74 → FTw z (fun e => w 271 (18 * k + e))) ∧ ∀ b : Nat, b < 3 → z 274 b = 1 → FTw z (fun e => w 275 (18 * b + e))
theorem LY_r {z : mZ} (hz : rz z) (w : WHr z) : LY (z 225 26) (rE z) (z 235) := by
  have h26 := rd_225_26 hz
  refine LY_ct (by omega) (by omega) w.1 (fun s hs => rd_235 hz (i := s) (by omega)) (fun e he => ?_)
  have := w.2 e he
  rw [show (3 * z 225 26).toNat = 3 * (z 225 26).toNat by omega] at this
  exact this
theorem WHr_n {z : mZ} (hz : rz z) (e : z 225 26 = z 225 23) (h : ∀ s : Nat, s < 36 → z 235 s = z 229 s) (w : WHn z) : WHr z := by
  have h23 := rd_225_23 hz
  unfold WHr rE
  rw [e]
  refine ⟨w.1, fun k hk => ?_⟩
  rw [ct_c (T := z 229) _ (fun s hs => h s (by omega))]
  exact w.2 k hk
theorem FT_T {m : Nat} {T T' : Nat → Nat} {n : Nat → Int} (h : ∀ s, s < 3 * m → T' s = T s) (f : FT m T n) : FT m T' n := by
  refine ⟨f.1, fun s hs => ?_⟩
  rw [h s hs, h (bh s) (by have := bh_cases s; omega), h (ah s) (by have := ah_cases s; omega)]
  exact f.2 s hs
theorem LFr_n {z : mZ} (hz : rz z) (e : z 225 26 = z 225 23) (e7 : z 225 27 = z 225 24) (h : ∀ s : Nat, s < 36 → z 235 s = z 229 s) (g : ∀ i : Nat, i < 144 → z 236 i = z 231 i) (w : LFn z) : LFr z := by
  have h23 := rd_225_23 hz
  have h24 := rd_225_24 hz
  intro l hl
  obtain ⟨w1, w2⟩ := w l (by omega)
  have hE : rE z = nE z := by unfold rE nE; rw [e]
  have hn : nE z ≤ 18 := by unfold nE; omega
  rw [hE, e]
  have f : tr (nE z) (lnR z l) = tr (nE z) (fun e => z 231 (18 * l + e)) := by
    funext k
    by_cases c : (k : Int) < nE z
    · rw [tr_l c, tr_l c]; exact g _ (by omega)
    · rw [tr_g (by omega), tr_g (by omega)]
  rw [f]
  refine ⟨FT_T (fun s hs => ?_) w1, fun k hk => ?_⟩
  · show (z 235 s).toNat = (z 229 s).toNat
    rw [h s (by omega)]
  · show z 236 (18 * l + k) ≤ 99
    rw [g _ (by omega)]; exact w2 k hk
theorem WDr_n {z : mZ} (hz : rz z) (e7 : z 225 27 = z 225 24) (e8 : z 225 28 = z 225 25) (h : ∀ i : Nat, i < 48 → z 237 i = z 232 i) (g : ∀ i : Nat, i < 6 → z 239 i = z 234 i) (w : WDn z) : WDr z := by
  have h25 := rd_225_25 hz
  intro a ha i hi
  have h6 : a < 6 := by omega
  rw [g a h6] at hi
  have h8 := rd_234 hz (i := a) (by omega)
  rw [h _ (by omega), e7]
  exact w a (by omega) i hi
theorem FTw_c {z z' : mZ} {n n' : Nat → Int} (e26 : z' 225 26 = z 225 26) (e235 : z' 235 = z 235) (h18 : rE z ≤ 18) (en : ∀ e : Nat, e < 18 → n' e = n e) (h : FTw z n) : FTw z' n' := by
  have hE : rE z' = rE z := by unfold rE; rw [e26]
  unfold FTw at *
  rw [hE, e26, e235]
  have f : tr (rE z) n' = tr (rE z) n := by
    funext k
    by_cases c : (k : Int) < rE z
    · rw [tr_l c, tr_l c]; exact en _ (by omega)
    · rw [tr_g (by omega), tr_g (by omega)]
  rw [f]; exact h
theorem RGd_c {z z' : mZ} (e1 : ∀ i, 26 ≤ i → i ≤ 28 → z' 225 i = z 225 i) (e2 : ∀ a, 235 ≤ a → a ≤ 241 → a ≠ 238 → z' a = z a) (e3 : ∀ a, 247 ≤ a → a ≤ 254 → z' a = z a) (h : RGd z) : RGd z' := by
  have q26 := e1 26 (by omega) (by omega)
  have q27 := e1 27 (by omega) (by omega)
  have q28 := e1 28 (by omega) (by omega)
  have q235 := e2 235 (by omega) (by omega) (by omega)
  have q236 := e2 236 (by omega) (by omega) (by omega)
  have q237 := e2 237 (by omega) (by omega) (by omega)
  have q239 := e2 239 (by omega) (by omega) (by omega)
  have q240 := e2 240 (by omega) (by omega) (by omega)
  have q241 := e2 241 (by omega) (by omega) (by omega)
  have hE : rE z' = rE z := by unfold rE; rw [q26]
  obtain ⟨h1, h2, h3, h4⟩ := h
  refine ⟨?_, ?_, ?_, ?_⟩
  · unfold RW at *; rw [hE, q26, q235, q240, q241]; exact h1
  · intro l hl
    rw [q27] at hl
    have := h2 l hl
    unfold lnR at *
    rw [hE, q26, q235, q236]; exact this
  · unfold WDr at *; rw [q27, q28, q237, q239]; exact h3
  · intro l hl
    rw [q27] at hl
    exact GRq_c q26 q235 e3 (h4 l hl)
theorem RV_c {z z' w w' : mZ} (hz : rz z) (e1 : ∀ i, 26 ≤ i → i ≤ 28 → z' 225 i = z 225 i) (e2 : ∀ a, 235 ≤ a → a ≤ 241 → a ≠ 238 → z' a = z a) (e3 : ∀ a, 247 ≤ a → a ≤ 254 → z' a = z a) (e4 : z' 225 73 = z 225 73) (e5 : z' 225 74 = z 225 74) (e6 : z' 274 = z 274)
    (f : ∀ a, a = 270 ∨ a = 271 ∨ a = 275 → w' a = w a) (h : RV z w) : RV z' w' := by
  obtain ⟨h1, h2, ⟨h3, h4⟩, h5⟩ := h
  have q26 := e1 26 (by omega) (by omega)
  have q235 := e2 235 (by omega) (by omega) (by omega)
  have h26 := rd_225_26 hz
  have h18 : rE z ≤ 18 := by unfold rE; omega
  refine ⟨RGd_c e1 e2 e3 h1, FTw_c q26 q235 h18 (fun e _ => by rw [f 270 (by omega)]) h2, ⟨by omega, fun k hk => FTw_c q26 q235 h18 (fun e _ => by rw [f 271 (by omega)]) (h4 k (by omega))⟩, fun b hb q => FTw_c q26 q235 h18 (fun e _ => by rw [f 275 (by omega)]) (h5 b hb (by rw [← e6]; exact q))⟩
theorem GAr_s {z z' : mZ} {x : Int} (hz : rz z) (x0 : 0 ≤ x) (x7 : x ≤ 7) (e26 : z' 225 26 = z 225 26) (e235 : z' 235 = z 235) (h : ∀ l : Nat, (l : Int) < x → GRq z z l) (g : GRq z z' x.toNat) (o : OTH z z' x.toNat) : ∀ l : Nat, (l : Int) < x + 1 → GRq z' z' l := by
  have hE : rE z' = rE z := by unfold rE; rw [e26]
  intro l hl
  have k : GRq z z' l := by
    by_cases c : l = x.toNat
    · rw [c]; exact g
    · have := rd_248 hz (i := l) (by omega)
      exact OTH_g o c (by omega) (by omega) (by omega) (h l (by omega))
  unfold GRq at *
  rw [hE, e26, e235]; exact k
theorem FTw_0 {z : mZ} {n : Nat → Int} (h : ∀ e : Nat, e < 18 → n e = 0) (hr : RW z) (h18 : rE z ≤ 18) : FTw z n := by
  unfold FTw
  refine FT_0 (WT.lt hr) (fun j hj => ?_)
  by_cases c : (j : Int) < rE z
  · rw [tr_l c]; exact h j (by omega)
  · rw [tr_g (by omega)]
def NGd (z : mZ) : Prop := WHn z ∧ LFn z ∧ WDn z
theorem NGd_c {z z' : mZ} (e23 : z' 225 23 = z 225 23) (e24 : z' 225 24 = z 225 24) (e25 : z' 225 25 = z 225 25) (e229 : z' 229 = z 229) (e231 : z' 231 = z 231) (e232 : z' 232 = z 232) (e234 : z' 234 = z 234) (h : NGd z) : NGd z' := by
  unfold NGd WHn LFn WDn nE at *
  rw [e23, e24, e25, e229, e231, e232, e234]; exact h
theorem RW_c {z z' : mZ} (e26 : z' 225 26 = z 225 26) (e235 : z' 235 = z 235) (e240 : z' 240 = z 240) (e241 : z' 241 = z 241) (h : RW z) : RW z' := by
  unfold RW rE at *; rw [e26, e235, e240, e241]; exact h
theorem LFr_c {z z' : mZ} (e26 : z' 225 26 = z 225 26) (e27 : z' 225 27 = z 225 27) (e235 : z' 235 = z 235) (e236 : z' 236 = z 236) (h : LFr z) : LFr z' := by
  unfold LFr lnR rE at *; rw [e26, e27, e235, e236]; exact h
theorem WDr_c {z z' : mZ} (e27 : z' 225 27 = z 225 27) (e28 : z' 225 28 = z 225 28) (e237 : z' 237 = z 237) (e239 : z' 239 = z 239) (h : WDr z) : WDr z' := by
  unfold WDr at *; rw [e27, e28, e237, e239]; exact h

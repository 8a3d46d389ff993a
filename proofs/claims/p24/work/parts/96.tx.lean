/-! the reference: TWISTS -/
def TMq (h : Int → Int) (p q m : Int) : Prop := (m = 0 ∧ q = p ∧ tkK h p ≠ 4) ∨ (m = 1 ∧ tkK h p = 4 ∧ q = ups h isB (tkE h p))
def TM3 (h : Int → Int) (z0 z w : mZ) (v q m : Int) : Prop := (tkK h q ≠ 2 ∧ z 225 2 = bdc (tkK h q) ∧ z 225 3 = q) ∨ (tkK h q = 2 ∧ (tkN h q = 0 ∨ 9 < tkN h q) ∧ z 225 2 = 4 ∧ z 225 3 = z0 225 7) ∨ (tkK h q = 2 ∧ (tkN h q ≠ 0 ∧ tkN h q ≤ 9 ∧ 0 ≤ tkN h q) ∧ v = (if m = 1 then -tkN h q else tkN h q) ∧ z 225 2 = 0 ∧ z 225 3 = z0 225 3 ∧ TKr h z w (ups h isB (tkE h q)) ∧ z0 225 7 < z 225 7)
def TMp (h : Int → Int) (z0 z w : mZ) (v : Int) : Prop := ((0 < z0 225 2 ∧ SMs z0 z) ∨ (z0 225 2 = 0 ∧ ∃ q m, TMq h (z0 225 7) q m ∧ TM3 h z0 z w v q m)) ∧ z0 225 7 ≤ z 225 7
def RAt (h : Int → Int) (z w : mZ) (x nm l : Int) : Prop := ∃ k, RA h z w k ∧ sq h k 0 = 11 ∧ sq h k 6 = x ∧ CW (sq h k) ∧ nm = tkW8 h (sq h k 7) ∧ sq h k 8 = l
theorem RA8_i {h : Int → Int} {z w : mZ} (hc : RAm h z w 8) (hk : tkK h (z 225 7) = 1) (nd : ∀ i : Nat, (i : Int) < z 225 25 → w 228 i ≠ w 225 9) : RA8 h z w := by
  obtain ⟨k, ⟨tk, m⟩, h0, h6, h10⟩ := hc
  have e7 := tk.1
  rw [e7] at hk
  refine ⟨k, ⟨tk, m⟩, h0, h6, h10, hk, fun q => ?_⟩
  obtain ⟨l, hl, e⟩ := q
  have b5 : z 225 25 = sq h k 5 := m.1.1.2.2
  exact nd l (by omega) (by rw [m.2.1.2.2 l hl, TKr_W tk hk]; exact e)
theorem OK_w3 {h : Int → Int} {z0 z w z1 : mZ} (hc : RAm h z w 8) (hf : z 225 2 = 0) (hk : tkK h (z 225 7) = 1) (hd : ¬ ∀ i : Nat, (i : Int) < z 225 25 → w 228 i ≠ w 225 9) (wr : WRp z z1 3) (P : Prop) (g0 : z0 225 7 ≤ z1 225 7) : OKr h z0 z1 P := by
  obtain ⟨k, ⟨tk, m⟩, h0, _⟩ := hc
  have e7 := tk.1
  rw [e7] at hk
  have g := WRp_0 wr hf tk
  rw [if_neg (by omega)] at g
  have b5 : z 225 25 = sq h k 5 := m.1.1.2.2
  refine ⟨fun q => absurd q (by omega), fun _ => RF_i (f := 3) (a8_3 h0 hk ?_) (by omega) g.1 g.2, g0⟩
  apply Classical.byContradiction
  intro c
  exact hd (fun i hi e => c ⟨i, by omega, by rw [← m.2.1.2.2 i (by omega), e]; exact TKr_W tk hk⟩)
theorem OK_t2 {h : Int → Int} {z0 z w z1 : mZ} {x nm : Int} (hc : OKr h z0 z (RAn h z w 10 x nm)) (hf : z 225 2 = 0) (c : tkK h (z 225 7) ≠ 1 ∨ x = 8) (d : x = 0 ∨ z 225 6 = 1) (wr : WRp z z1 2) (P : Prop) (g0 : z1 225 7 = z 225 7) : OKr h z0 z1 P := by
  obtain ⟨⟨k, ⟨tk, m⟩, h0, h6, h10, hn⟩, c3, c7⟩ := hc.1 hf
  have e7 := tk.1
  rw [e7] at c
  have g := WRp_0 wr hf tk
  have b : z1 225 2 = bdc (tkK h (tp h k)) := g.1
  have bp := bdc_p (tkK h (tp h k))
  have k1 := tk1 tk
  exact ⟨fun q => absurd q (by omega), fun _ => RF_b (a10_b h0 (by rcases d with d | d; (exact Or.inr (by omega)); (have := k1.mp d; exact Or.inl (by omega))) (by omega)) g.1 g.2, by omega⟩
theorem OK_t5 {h : Int → Int} {z0 z w z1 : mZ} {x nm : Int} (hc : OKr h z0 z (RAn h z w 10 x nm)) (hf : z 225 2 = 0) (K : tkK h (z 225 7) = 1) (hx : x < 8) (n4 : 0 ≤ z 225 24) (v0 : fnl (w 227) (w 225 9) (z 225 24).toNat < 0) (wr : WRp z z1 5) (P : Prop) (g0 : z1 225 7 = z 225 7) : OKr h z0 z1 P := by
  obtain ⟨⟨k, ⟨tk, m⟩, h0, h6, h10, hn⟩, c3, c7⟩ := hc.1 hf
  have e7 := tk.1
  rw [e7] at K
  have g := WRp_0 wr hf tk
  rw [if_neg (by omega)] at g
  rw [fn_r tk m K n4] at v0
  exact ⟨fun q => absurd q (by omega), fun _ => RF_i (f := 5) (a10_5 h0 K (by omega) v0) (by omega) g.1 g.2, by omega⟩
theorem RAt_i {h : Int → Int} {z w z' w' : mZ} {x nm : Int} (hc : RAn h z w 10 x nm) (K : tkK h (z 225 7) = 1) (hx : x < 8) (n4 : 0 ≤ z 225 24) (v0 : 0 ≤ fnl (w 227) (w 225 9) (z 225 24).toNat) (fr : Fs z w z' w') (tt : TKr h z' w' (ups h isB (z 225 4))) : RAt h z' w' x nm (fnl (w 227) (w 225 9) (z 225 24).toNat) := by
  obtain ⟨k, ⟨tk, m⟩, h0, h6, h10, hn⟩ := hc
  have e7 := tk.1
  rw [e7] at K
  rw [fn_r tk m K n4] at v0 ⊢
  have e : sq h (k + 1) = _ := (sq_s h k).trans (a10_o h0 K (by omega) v0)
  have n : ∀ j, j ≠ 0 → j ≠ 8 → sq h (k + 1) j = sq h k j := fun j g1 g2 => by rw [e, su_n g1, su_n g2]
  have e0 : sq h (k + 1) 0 = 11 := by rw [e, su_e]
  exact ⟨k + 1, RA_2 (i := 8) m (by omega) n (by omega) (by omega) (fun _ => Or.inl ⟨by omega, by omega⟩) (by omega) fr (by rw [tp_s, ← (TKr_E tk (by omega) (by omega)).1]; exact tt), e0, by rw [n 6 (by omega) (by omega)]; exact h6, CW_c (n 3 (by omega) (by omega)) (n 10 (by omega) (by omega)) (fun j g1 g2 => n j (by omega) (by omega)) h10, by rw [n 7 (by omega) (by omega)]; exact hn, by rw [e, su_n (by omega), su_e]⟩
theorem RAt_t {h : Int → Int} {z w : mZ} {x nm l : Int} (hc : RAt h z w x nm l) : TKr h z w (z 225 7) := by
  obtain ⟨k, ⟨tk, _⟩, _⟩ := hc
  rw [tk.1]; exact tk
/-- the two ways of V: the state at its number -/
theorem RAt_q {h : Int → Int} {z w : mZ} {x nm l q m : Int} (hc : RAt h z w x nm l) (tq : TMq h (z 225 7) q m) : ∃ k, tp h k = q ∧ MR h (sq h k) z w ∧ ((m = 0 ∧ sq h k 0 = 11 ∧ tp h k = z 225 7 ∧ tkK h q ≠ 4) ∨ (m = 1 ∧ sq h k 0 = 12 ∧ sq h k 9 = z 225 7)) ∧ sq h k 6 = x ∧ CW (sq h k) ∧ nm = tkW8 h (sq h k 7) ∧ sq h k 8 = l := by
  obtain ⟨k, ⟨tk, mm⟩, h0, h6, h10, hn, h8⟩ := hc
  have e7 := tk.1
  rw [e7] at tq
  rcases tq with ⟨m0, qp, kp⟩ | ⟨m1, kp, qp⟩
  · exact ⟨k, qp.symm, mm, Or.inl ⟨m0, h0, e7.symm, by rw [qp]; exact kp⟩, h6, h10, hn, h8⟩
  · have e : sq h (k + 1) = _ := (sq_s h k).trans (a11_m h0 kp)
    have n : ∀ j, j ≠ 0 → j ≠ 9 → sq h (k + 1) j = sq h k j := fun j g1 g2 => by rw [e, su_n g1, su_n g2]
    have e0 : sq h (k + 1) 0 = 12 := by rw [e, su_e]
    refine ⟨k + 1, by rw [tp_s]; exact qp.symm, ?_, Or.inr ⟨m1, e0, by rw [e, su_n (by omega), su_e]; exact e7.symm⟩, by rw [n 6 (by omega) (by omega)]; exact h6, CW_c (n 3 (by omega) (by omega)) (n 10 (by omega) (by omega)) (fun j g1 g2 => n j (by omega) (by omega)) h10, by rw [n 7 (by omega) (by omega)]; exact hn, by rw [n 8 (by omega) (by omega)]; exact h8⟩
    refine MR_m (fun j h1 h2 => n j (by omega) (by omega)) (fun j h1 => n j (by omega) (by omega)) ?_ (fun a j q => ?_) (fun l e q => ?_) mm
    · unfold cs; rw [if_neg (by omega), if_neg (by omega)]
    · unfold iw at q ⊢
      rw [n 5 (by omega) (by omega), n 6 (by omega) (by omega), n (520 + a) (by omega) (by omega)] at q
      exact ⟨q.1, q.2.elim Or.inl (fun g => Or.inr ⟨g.1, by omega, g.2.2⟩)⟩
    · unfold il ED at q ⊢
      rw [n 4 (by omega) (by omega), n 6 (by omega) (by omega), n 3 (by omega) (by omega)] at q
      exact ⟨q.1, q.2.elim Or.inl (fun g => absurd g.2.1 (by omega))⟩
/-- a fault in V -/
theorem OK_tf {h : Int → Int} {z0 z w z1 w1 : mZ} {x nm l v : Int} (hc : OKr h z0 z (RAt h z w x nm l)) (n2 : 0 ≤ z 225 2) (ti : TMp h z z1 w1 v) (h2 : 0 < z1 225 2) (P : Prop) : OKr h z0 z1 P := by
  refine ⟨fun q => absurd q (by omega), fun _ => ?_, by have := hc.2.2; have := ti.2; omega⟩
  rcases ti.1 with g | ⟨g, q, m, tq, t3⟩
  · exact RF_f g.2.1 g.2.2.1 (hc.2.1 g.1)
  · obtain ⟨c, _, _⟩ := hc.1 g
    obtain ⟨k, eq, _, hm, _⟩ := RAt_q c tq
    rw [← eq] at t3 hm
    rcases t3 with t | t | t
    · rcases hm with hm | hm
      · exact RF_b (a11_b hm.2.1 ⟨hm.2.2.2, t.1⟩) t.2.1 t.2.2
      · exact RF_b (a12_b hm.2.1 t.1) t.2.1 t.2.2
    · rcases hm with hm | hm
      · exact RF_i (f := 4) (a11_4 hm.2.1 t.1 t.2.1) (by omega) t.2.2.1 (by rw [t.2.2.2]; exact hm.2.2.1.symm)
      · exact RF_i (f := 4) (a12_4 hm.2.1 t.1 t.2.1) (by omega) t.2.2.1 (by rw [t.2.2.2]; exact hm.2.2.symm)
    · have := t.2.2.2.1; omega
/-- a TWIST -/
theorem OK_tm {h : Int → Int} {z0 z w z1 w1 z' : mZ} {x nm l v : Int} (hc : OKr h z0 z (RAt h z w x nm l)) (n2 : 0 ≤ z 225 2) (hx : 0 ≤ x ∧ x ≤ 7) (h4 : z 225 24 ≤ 8) (h5 : 0 ≤ z 225 25 ∧ z 225 25 ≤ 5) (ti : TMp h z z1 w1 v) (h2 : z1 225 2 = 0) (fr : Fs z w z1 w1) (a0 : ∀ i, z' 225 i = z1 225 i) (f1 : ∀ a i, 229 ≤ a → a ≤ 234 → a ≠ 232 → a ≠ 233 → z' a i = z1 a i) (u1 : ∀ i : Nat, z' 232 i = if i = (8 * z 225 25 + x).toNat then l else z1 232 i) (u2 : ∀ i : Nat, z' 233 i = if i = (8 * z 225 25 + x).toNat then v else z1 233 i) : OKr h z0 z' (RAn h z' w1 10 (x + 1) nm) := by
  have a2 := a0 2
  have a3 := a0 3
  have a7 := a0 7
  rcases ti.1 with g | ⟨g, q, m, tq, t3⟩
  · have := g.2.1; omega
  obtain ⟨c, c3, c7⟩ := hc.1 g
  obtain ⟨k, eq, mm, hm, h6, h10, hn, h8⟩ := RAt_q c tq
  have b4 : z 225 24 = sq h k 4 := mm.1.1.2.1
  have b5 : z 225 25 = sq h k 5 := mm.1.1.2.2
  have t : _ := (t3.resolve_left (by have := bdc_p (tkK h q); omega)).resolve_left (by omega)
  rw [← eq] at t hm
  obtain ⟨tK, tN, tv, t2, tt3, tt, t7⟩ := t
  have e : sq h (k + 1) = adt (sq h k) v := by
    rw [sq_s]
    rcases hm with hm | hm
    · rw [a11_o hm.2.1 tK ⟨tN.1, tN.2.1⟩, tv, if_neg (by omega)]
    · rw [a12_o hm.2.1 tK ⟨tN.1, tN.2.1⟩, tv, if_pos hm.1]
  have M := MR_t (z' := z') (w' := w1) (v := v) (hm.imp (fun a => a.2.1) (fun a => a.2.1)) (by omega) (by omega) (by omega) (fun i g1 g2 => a0 i) f1 (by rw [← b5, h6, h8]; exact u1) (by rw [← b5, h6]; exact u2) (fun _ _ _ _ => rfl) (MR_f fr mm)
  rw [← e] at M
  have n : ∀ j, j ≠ 0 → j ≠ 6 → j < 420 → sq h (k + 1) j = sq h k j := fun j g1 g2 g3 => by rw [e]; unfold adt; rw [su_n g1, su_n g2, su_n (by omega), su_n (by omega)]
  refine ⟨fun _ => ⟨⟨k + 1, ⟨TKr_f (a0 _) (a0 _) (a0 _) (a0 _) rfl (a0 _) tt, M⟩, by rw [e]; rfl, ?_, CW_c (n 3 (by omega) (by omega) (by omega)) (n 10 (by omega) (by omega) (by omega)) (fun j g1 g2 => n j (by omega) (by omega) (by omega)) h10, by rw [n 7 (by omega) (by omega) (by omega)]; exact hn⟩, by omega, by omega⟩, fun q => absurd q (by omega), by omega⟩
  rw [e]; unfold adt; rw [su_n (by omega), su_e, h6]
/-- ahead of a WORD's ; -/
theorem RP_w {h : Int → Int} {z w z' w' : mZ} {x nm : Int} (hc : RAn h z w 10 x nm) (hx : 0 < x) (h61 : z 225 6 ≠ 1) (h4 : 0 ≤ z 225 24 ∧ z 225 24 ≤ 8) (h5 : 0 ≤ z 225 25 ∧ z 225 25 ≤ 5) (a0 : z' 225 25 = z 225 25 + 1) (a1 : ∀ i, i ≠ 25 → z' 225 i = z 225 i) (f1 : ∀ a i, 229 ≤ a → a ≤ 233 → z' a i = z a i) (u1 : ∀ e : Nat, z' 234 e = if e = (z 225 25).toNat then x else z 234 e) (u : ∀ e : Nat, w' 228 e = if e = (z 225 25).toNat then nm else w 228 e) (f2 : ∀ a i, a ≠ 228 → w' a i = w a i) : RPz h z' w' := by
  obtain ⟨k, ⟨tk, m⟩, h0, h6, h10, hn⟩ := hc
  have b4 : z 225 24 = sq h k 4 := m.1.1.2.1
  have b5 : z 225 25 = sq h k 5 := m.1.1.2.2
  refine ⟨k, TKr_f (a1 _ (by omega)) (a1 _ (by omega)) (a1 _ (by omega)) (a1 _ (by omega)) (f2 _ _ (by omega)) (a1 _ (by omega)) tk, fun K => ?_, fun K => ?_⟩
  · have e : sq h (k + 1) = _ := (sq_s h k).trans (a10_e h0 K (by omega))
    rw [e]
    rw [b5] at u u1
    rw [hn] at u
    rw [← h6] at u1
    have n : ∀ j, j ≠ 6 → j ≠ 0 → j ≠ 5 → (j < 410 ∨ (416 ≤ j ∧ j < 520)) → fin10 (sq h k) j = sq h k j := fun j g1 g2 g3 g4 => by unfold fin10; rw [su_n g2, su_n g1, su_n g3, su_n (by omega), su_n (by omega)]
    refine ⟨MR_w h0 (by omega) (by omega) a0 (a1 _ (by omega)) (a1 _ (by omega)) f1 u1 u (fun i => f2 _ _ (by omega)) m, rfl, Or.inr ⟨?_, ?_, ?_⟩⟩
    · rw [n 10 (by omega) (by omega) (by omega) (by omega)]; exact h10.1.1
    · rw [n 4 (by omega) (by omega) (by omega) (by omega), show fin10 (sq h k) 5 = sq h k 5 + 1 from rfl]; omega
    · exact WHq_c h10.1.2 (n 3 (by omega) (by omega) (by omega) (by omega)) (fun j g1 g2 => n j (by omega) (by omega) (by omega) (by omega)) h10.2
  · exact a10_b h0 (Or.inl K) (Or.inl (fun q => h61 ((tk1 tk).mpr (Or.inl q))))
theorem hgr_t {T : Nat → Int} {m r p c : Nat} {x u v : Int} (hb : hgx T m (r * m + p) p) (X : ∀ q, BT x q ↔ hgr T m r p c q) (hv : ∀ q, BT v q ↔ BT x q ∨ BT u q) (hu : (u = 2 ^ c ∧ hg T p c) ∨ (u = 0 ∧ ¬ hg T p c)) : ∀ q, BT v q ↔ hgr T m r p (c + 1) q := by
  intro q
  rw [hgr_s, hv q, X q]
  rcases hu with ⟨rfl, g⟩ | ⟨rfl, g⟩
  · rw [BT_2]
    exact ⟨fun a => a.imp id (fun e => ⟨e, hb, g⟩), fun a => a.imp id (fun e => e.1)⟩
  · exact ⟨fun a => a.elim Or.inl (fun e => absurd e (BT_0 q)), fun a => a.elim Or.inl (fun e => absurd e.2.2 g)⟩
theorem WHm_s {m : Int} {T tt : Nat → Int} (hx : ∀ q, q < m.toNat → hgx T m.toNat (m.toNat * m.toNat) q) (h : m % 2 = 0 ∧ ∀ e : Nat, (e : Int) < 18 → tt e = if (e : Int) < 3 * m / 2 then 2 else 0) : WHm m T tt := ⟨h.1, fun e he => h.2 e (by omega), fun q hq => hx q (by omega)⟩
theorem WHm_t {m : Int} {T tt : Nat → Int} (h : WHm m T tt) : m % 2 = 0 ∧ ∀ e : Nat, (e : Int) < 18 → tt e = if (e : Int) < 3 * m / 2 then 2 else 0 := ⟨h.1, fun e he => h.2.1 e (by omega)⟩

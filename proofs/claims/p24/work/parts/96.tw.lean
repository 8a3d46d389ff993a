/-! the reference: LINES and WORDS -/
def OKr (h : Int → Int) (z0 z : mZ) (P : Prop) : Prop := (z 225 2 = 0 → P ∧ z 225 3 = z0 225 3 ∧ z0 225 7 < z 225 7) ∧ (0 < z 225 2 → RF h z) ∧ z0 225 7 ≤ z 225 7
def CW (s : RG) : Prop := (s 10 = 1 ∧ s 3 ≤ 12) ∧ WHq s
theorem WHq_c {s s' : RG} (h3 : s 3 ≤ 12) (e3 : s' 3 = s 3) (g : ∀ j, 100 ≤ j → j < 160 → s' j = s j) (k : WHq s) : WHq s' := by
  rw [WHm_q] at k ⊢
  rw [e3]
  exact (WHm_c (fun i hi => (g (100 + i) (by omega) (by omega)).symm) (fun e he => (g (140 + e) (by omega) (by omega)).symm)).mp k
theorem CW_c {s s' : RG} (e3 : s' 3 = s 3) (e10 : s' 10 = s 10) (g : ∀ j, 100 ≤ j → j < 160 → s' j = s j) (k : CW s) : CW s' := ⟨⟨by rw [e10]; exact k.1.1, by rw [e3]; exact k.1.2⟩, WHq_c k.1.2 e3 g k.2⟩
def RAm (h : Int → Int) (z w : mZ) (m : Int) : Prop := ∃ k, RA h z w k ∧ sq h k 0 = m ∧ sq h k 6 = 0 ∧ CW (sq h k)
def RA5 (h : Int → Int) (z w : mZ) : Prop := ∃ k, RA h z w k ∧ sq h k 0 = 5 ∧ sq h k 6 = 0 ∧ CW (sq h k) ∧ tkK h (tp h k) = 1 ∧ ¬ ∃ l : Nat, (l : Int) < sq h k 4 ∧ tkW8 h (sq h k (400 + l)) = tkW8 h (tp h k)
def RA8 (h : Int → Int) (z w : mZ) : Prop := ∃ k, RA h z w k ∧ sq h k 0 = 8 ∧ sq h k 6 = 0 ∧ CW (sq h k) ∧ tkK h (tp h k) = 1 ∧ ¬ ∃ l : Nat, (l : Int) < sq h k 5 ∧ tkW8 h (sq h k (410 + l)) = tkW8 h (tp h k)
def RAn (h : Int → Int) (z w : mZ) (m x nm : Int) : Prop := ∃ k, RA h z w k ∧ sq h k 0 = m ∧ sq h k 6 = x ∧ CW (sq h k) ∧ nm = tkW8 h (sq h k 7)
def RAf (h : Int → Int) (z w : mZ) (nm : Int) : Prop := ∃ k, RA h z w k ∧ sq h k 0 = 7 ∧ (sq h k 6 ≠ 0 ∧ ED (sq h k) ≤ sq h k 6) ∧ CW (sq h k) ∧ nm = tkW8 h (sq h k 7) ∧ (tkK h (tp h k) = 3 → FITq (sq h k))
/-- modes alone -/
theorem RA_2 {h : Int → Int} {z w z' w' : mZ} {k i : Nat} (hc : MR h (sq h k) z w) (hi : 7 ≤ i ∧ i ≤ 9) (n : ∀ j, j ≠ 0 → j ≠ i → sq h (k + 1) j = sq h k j) (h0 : sq h k 0 ≠ 1) (h0' : sq h (k + 1) 0 ≠ 1) (h6 : (10 ≤ sq h (k + 1) 0 ∧ sq h (k + 1) 0 ≤ 12) → (10 ≤ sq h k 0 ∧ sq h k 0 ≤ 12) ∨ sq h k 6 ≤ 0) (h7 : sq h (k + 1) 0 = 7 → sq h k 6 ≤ 0) (fr : Fs z w z' w') (tk : TKr h z' w' (tp h (k + 1))) : RA h z' w' (k + 1) := by
  refine ⟨tk, MR_m (fun j h1 h2 => n j (by omega) (by omega)) (fun j h1 => n j (by omega) (by omega)) ?_ (fun a j q => ?_) (fun l e q => ?_) (MR_f fr hc)⟩
  · unfold cs; rw [if_neg h0, if_neg h0']
  · unfold iw at q ⊢
    rw [n 5 (by omega) (by omega), n 6 (by omega) (by omega), n (520 + a) (by omega) (by omega)] at q
    refine ⟨q.1, q.2.elim Or.inl (fun g => ?_)⟩
    rcases h6 g.2.1 with g2 | g2
    · exact Or.inr ⟨g.1, g2, g.2.2⟩
    · have := g.2.2; omega
  · unfold il ED at q ⊢
    rw [n 4 (by omega) (by omega), n 6 (by omega) (by omega), n 3 (by omega) (by omega)] at q
    refine ⟨q.1, q.2.elim Or.inl (fun g => ?_)⟩
    have := h7 g.2.1
    have := g.2.2
    omega
/-- a line's first word -/
theorem RA_b {h : Int → Int} {z w z' w' : mZ} {k : Nat} {m : Int} (hc : MR h (sq h k) z w) (hm : sq h k 0 = 0) (e : sq h (k + 1) = su (su (su (sq h k) 0 m) 10 1) 6 0) (m1 : m = 5 ∨ m = 8) (hw : WHq (sq h k)) (h3 : z 225 23 ≤ 12) (fr : Fs z w z' w') (tk : TKr h z' w' (tp h (k + 1))) : RAm h z' w' m := by
  have n : ∀ j, j ≠ 0 → j ≠ 6 → j ≠ 10 → sq h (k + 1) j = sq h k j := fun j h1 h2 h3 => by rw [e, su_n h2, su_n h3, su_n h1]
  have e0 : sq h (k + 1) 0 = m := by rw [e, su_n (by omega), su_n (by omega), su_e]
  refine ⟨k + 1, ⟨tk, MR_m (fun j h1 h2 => n j (by omega) (by omega) (by omega)) (fun j h1 => n j (by omega) (by omega) (by omega)) ?_ (fun a j q => ?_) (fun l e q => ?_) (MR_f fr hc)⟩, e0, by rw [e, su_e], ⟨by rw [e, su_n (by omega), su_e], by rw [n 3 (by omega) (by omega) (by omega), ← hc.1.1.1]; exact h3⟩, WHq_c (by rw [← hc.1.1.1]; exact h3) (n 3 (by omega) (by omega) (by omega)) (fun j g1 g2 => n j (by omega) (by omega) (by omega)) hw⟩
  · unfold cs; rw [e0, if_neg (by omega), hm, if_neg (by omega)]
  · unfold iw at q ⊢
    rw [n 5 (by omega) (by omega) (by omega), n (520 + a) (by omega) (by omega) (by omega), e0] at q
    exact ⟨q.1, q.2.elim Or.inl (fun g => absurd g.2.1 (by omega))⟩
  · unfold il ED at q ⊢
    rw [n 4 (by omega) (by omega) (by omega), n 3 (by omega) (by omega) (by omega), e0] at q
    exact ⟨q.1, q.2.elim Or.inl (fun g => absurd g.2.1 (by omega))⟩
/-- a NAME that can't be -/
theorem OK_nb {h : Int → Int} {z0 z w z1 : mZ} {m : Int} (hc : RAm h z w m) (hm : m = 5 ∨ m = 8) (hf : z 225 2 = 0) (hk : tkK h (z 225 7) ≠ 1) (wr : WRp z z1 2) (P : Prop) (g0 : z0 225 7 ≤ z1 225 7) : OKr h z0 z1 P := by
  obtain ⟨k, ⟨tk, mm⟩, h0, _⟩ := hc
  have e7 := tk.1
  rw [e7] at hk
  have g := WRp_0 wr hf tk
  have g2 : z1 225 2 = bdc (tkK h (tp h k)) := g.1
  have b := bdc_p (tkK h (tp h k))
  refine ⟨fun q => absurd q (by omega), fun _ => ?_, g0⟩
  rcases hm with rfl | rfl
  · exact RF_b (a5_b h0 hk) g.1 g.2
  · exact RF_b (a8_b h0 hk) g.1 g.2
theorem fnl_i {W : Nat → Int} {x : Int} : ∀ m : Nat, (fnl W x m < 0 ↔ ¬ ∃ l, l < m ∧ W l = x) ∧ fnl W x m < m
  | 0 => ⟨⟨fun _ q => by obtain ⟨l, hl, _⟩ := q; omega, fun _ => by show (-1 : Int) < 0; omega⟩, by show (-1 : Int) < 0; omega⟩
  | m + 1 => by
    have ih := fnl_i (W := W) (x := x) m
    have e : fnl W x (m + 1) = if W m = x then (m : Int) else fnl W x m := rfl
    by_cases c : W m = x
    · rw [e, if_pos c]
      exact ⟨⟨fun q => by omega, fun q => absurd ⟨m, by omega, c⟩ q⟩, by omega⟩
    · rw [e, if_neg c]
      refine ⟨ih.1.trans ⟨fun q r => ?_, fun q r => ?_⟩, by have := ih.2; omega⟩
      · obtain ⟨l, hl, hw⟩ := r
        by_cases d : l = m
        · rw [d] at hw; exact c hw
        · exact q ⟨l, by omega, hw⟩
      · obtain ⟨l, hl, hw⟩ := r
        exact q ⟨l, by omega, hw⟩
theorem fnl_c {W W' : Nat → Int} {x : Int} : ∀ m : Nat, (∀ l, l < m → W l = W' l) → fnl W x m = fnl W' x m
  | 0, _ => rfl
  | m + 1, e => by
    show (if W m = x then (m : Int) else fnl W x m) = (if W' m = x then (m : Int) else fnl W' x m)
    rw [e m (by omega), fnl_c m (fun l hl => e l (by omega))]
/-- the LINE of a name, as the reference finds it -/
theorem fn_r {h : Int → Int} {z w : mZ} {k : Nat} (tk : TKr h z w (tp h k)) (m : MR h (sq h k) z w) (K : tkK h (tp h k) = 1) (n4 : 0 ≤ z 225 24) : fnl (w 227) (w 225 9) (z 225 24).toNat = fnq h (sq h k) (tp h k) := by
  rw [TKr_W tk K, m.1.1.2.1]
  exact fnl_c _ (fun l hl => m.2.1.2.1 l (by have := m.1.1.2.1; omega))
theorem OK_n3 {h : Int → Int} {z0 z w z1 : mZ} (hc : RAm h z w 5) (hf : z 225 2 = 0) (hk : tkK h (z 225 7) = 1) (n4 : 0 ≤ z 225 24) (v0 : 0 ≤ fnl (w 227) (w 225 9) (z 225 24).toNat) (wr : WRp z z1 3) (P : Prop) (g0 : z0 225 7 ≤ z1 225 7) : OKr h z0 z1 P := by
  obtain ⟨k, ⟨tk, m⟩, h0, _⟩ := hc
  have e7 := tk.1
  rw [e7] at hk
  have g := WRp_0 wr hf tk
  rw [if_neg (by omega)] at g
  rw [fn_r tk m hk n4] at v0
  refine ⟨fun q => absurd q (by omega), fun _ => RF_i (f := 3) (a5_3 h0 hk ?_) (by omega) g.1 g.2, g0⟩
  have i := (fnl_i (W := fun l => tkW8 h (sq h k (400 + l))) (x := tkW8 h (tp h k)) (sq h k 4).toNat).1
  have v1 : 0 ≤ fnl (fun l => tkW8 h (sq h k (400 + l))) (tkW8 h (tp h k)) (sq h k 4).toNat := v0
  have j := Classical.byContradiction (fun q => absurd (i.mpr q) (by omega))
  obtain ⟨l, hl, e⟩ := j
  exact ⟨l, by omega, e⟩
theorem RA5_i {h : Int → Int} {z w : mZ} (hc : RAm h z w 5) (hk : tkK h (z 225 7) = 1) (n4 : 0 ≤ z 225 24) (v0 : fnl (w 227) (w 225 9) (z 225 24).toNat < 0) : RA5 h z w := by
  obtain ⟨k, ⟨tk, m⟩, h0, h6, h10⟩ := hc
  have e7 := tk.1
  rw [e7] at hk
  rw [fn_r tk m hk n4] at v0
  refine ⟨k, ⟨tk, m⟩, h0, h6, h10, hk, fun q => ?_⟩
  obtain ⟨l, hl, e⟩ := q
  exact ((fnl_i (W := fun l => tkW8 h (sq h k (400 + l))) (x := tkW8 h (tp h k)) (sq h k 4).toNat).1.mp v0) ⟨l, by omega, e⟩
/-- behind a NAME -/
theorem RA5_n {h : Int → Int} {z w z' w' : mZ} (hc : RA5 h z w) (fr : Fs z w z' w') (tt : TKr h z' w' (ups h isB (z 225 4))) : RAn h z' w' 6 0 (w 225 9) := by
  obtain ⟨k, ⟨tk, m⟩, h0, h6, h10, K, nd⟩ := hc
  have e : sq h (k + 1) = _ := (sq_s h k).trans (a5_o h0 K nd)
  have e0 : sq h (k + 1) 0 = 6 := by rw [e, su_n (by omega), su_e]
  refine ⟨k + 1, RA_2 (i := 7) m (by omega) (fun j g1 g2 => by rw [e, su_n g2, su_n g1]) (by omega) (by omega) (by omega) (by omega) fr (by rw [tp_s, ← (TKr_E tk (by omega) (by omega)).1]; exact tt), e0, by rw [e, su_n (by omega), su_n (by omega)]; exact h6, CW_c (by rw [e, su_n (by omega), su_n (by omega)]) (by rw [e, su_n (by omega), su_n (by omega)]) (fun j g1 g2 => by rw [e, su_n (by omega), su_n (by omega)]) h10, by rw [e, su_e]; exact TKr_W tk K⟩
theorem RA8_n {h : Int → Int} {z w z' w' : mZ} (hc : RA8 h z w) (fr : Fs z w z' w') (tt : TKr h z' w' (ups h isB (z 225 4))) : RAn h z' w' 9 0 (w 225 9) := by
  obtain ⟨k, ⟨tk, m⟩, h0, h6, h10, K, nd⟩ := hc
  have e : sq h (k + 1) = _ := (sq_s h k).trans (a8_o h0 K nd)
  have e0 : sq h (k + 1) 0 = 9 := by rw [e, su_n (by omega), su_e]
  refine ⟨k + 1, RA_2 (i := 7) m (by omega) (fun j g1 g2 => by rw [e, su_n g2, su_n g1]) (by omega) (by omega) (by omega) (by omega) fr (by rw [tp_s, ← (TKr_E tk (by omega) (by omega)).1]; exact tt), e0, by rw [e, su_n (by omega), su_n (by omega)]; exact h6, CW_c (by rw [e, su_n (by omega), su_n (by omega)]) (by rw [e, su_n (by omega), su_n (by omega)]) (fun j g1 g2 => by rw [e, su_n (by omega), su_n (by omega)]) h10, by rw [e, su_e]; exact TKr_W tk K⟩
/-- of, is -/
theorem OK_w {h : Int → Int} {z0 z w z' w' : mZ} {m a nm : Int} (hc : OKr h z0 z (RAn h z w m 0 nm)) (hm : (m = 6 ∧ a = 28518) ∨ (m = 9 ∧ a = 26995)) (n2 : 0 ≤ z 225 2) (n2' : 0 ≤ z' 225 2) (wt : WTp h z z' w' (kcd a)) (fr : Fs z w z' w') : OKr h z0 z' (RAn h z' w' (m + 1) 0 nm) := by
  have gg := WTp_g wt
  refine ⟨fun q => ?_, fun q => ?_, by have := hc.2.2; omega⟩
  · obtain ⟨s0, sK, sn⟩ := WTp_s wt q n2
    obtain ⟨c, c3, c7⟩ := hc.1 s0
    obtain ⟨k, ⟨tk, mm⟩, h0, h6, h10, hn⟩ := c
    have e7 := tk.1
    have sn3 := sn.2.1
    have sn7 := sn.2.2.2
    have sn4 := sn.2.2.1
    rw [e7] at sK sn4
    refine ⟨?_, by omega, by omega⟩
    rcases hm with ⟨rfl, rfl⟩ | ⟨rfl, rfl⟩
    · have sK : tkK h (tp h k) = 8 := sK
      have e : sq h (k + 1) = _ := (sq_s h k).trans (a6_o h0 sK)
      have n : ∀ j, j ≠ 0 → sq h (k + 1) j = sq h k j := fun j g => by rw [e, su_n g]
      have e0 : sq h (k + 1) 0 = 7 := by rw [e, su_e]
      exact ⟨k + 1, RA_2 (i := 7) mm (by omega) (fun j g1 _ => n j g1) (by omega) (by omega) (by omega) (by omega) fr sn4, e0, by rw [n 6 (by omega)]; exact h6, CW_c (n 3 (by omega)) (n 10 (by omega)) (fun j g1 g2 => n j (by omega)) h10, by rw [n 7 (by omega)]; exact hn⟩
    · have sK : tkK h (tp h k) = 10 := sK
      have e : sq h (k + 1) = _ := (sq_s h k).trans (a9_o h0 sK)
      have n : ∀ j, j ≠ 0 → sq h (k + 1) j = sq h k j := fun j g => by rw [e, su_n g]
      have e0 : sq h (k + 1) 0 = 10 := by rw [e, su_e]
      exact ⟨k + 1, RA_2 (i := 7) mm (by omega) (fun j g1 _ => n j g1) (by omega) (by omega) (by omega) (by omega) fr sn4, e0, by rw [n 6 (by omega)]; exact h6, CW_c (n 3 (by omega)) (n 10 (by omega)) (fun j g1 g2 => n j (by omega)) h10, by rw [n 7 (by omega)]; exact hn⟩
  · by_cases c : z 225 2 = 0
    · obtain ⟨c1, _, _⟩ := hc.1 c
      obtain ⟨k, ⟨tk, mm⟩, h0, _⟩ := c1
      have b := WTp_b wt c q
      have e7 := tk.1
      rw [e7] at b
      rcases hm with ⟨rfl, rfl⟩ | ⟨rfl, rfl⟩
      · exact RF_b (a6_b h0 b.1) b.2.1 b.2.2
      · exact RF_b (a9_b h0 b.1) b.2.1 b.2.2
    · have f := WTp_f wt (by omega)
      exact RF_f f.1 f.2 (hc.2.1 (by omega))
theorem RAn_t {h : Int → Int} {z w : mZ} {m x nm : Int} (hc : RAn h z w m x nm) : TKr h z w (z 225 7) := by
  obtain ⟨k, ⟨tk, _⟩, _⟩ := hc
  rw [tk.1]; exact tk
/-- no EDGES: no LINE -/
theorem OK_0 {h : Int → Int} {z0 z w z1 : mZ} {nm : Int} (hc : OKr h z0 z (RAn h z w 7 0 nm)) (hf : z 225 2 = 0) (hE : 3 * z 225 23 / 2 = 0) (wr : WRp z z1 2) (P : Prop) (g0 : z1 225 7 = z 225 7) : OKr h z0 z1 P := by
  obtain ⟨⟨k, ⟨tk, m⟩, h0, h6, h10, hn⟩, c3, c7⟩ := hc.1 hf
  have g := WRp_0 wr hf tk
  have b : z1 225 2 = bdc (tkK h (tp h k)) := g.1
  have bp := bdc_p (tkK h (tp h k))
  have e3 : z 225 23 = sq h k 3 := m.1.1.1
  have eD : ED (sq h k) = 0 := by show 3 * sq h k 3 / 2 = 0; omega
  refine ⟨fun q => absurd q (by omega), fun _ => ?_, by omega⟩
  by_cases c : tkK h (tp h k) = 2
  · exact RF_b (a7_nb h0 c (by omega)) g.1 g.2
  · by_cases d : tkK h (tp h k) = 3
    · exact RF_b (a7_sb h0 d (Or.inl h6)) g.1 g.2
    · exact RF_b (a7_b h0 ⟨c, d⟩) g.1 g.2
/-- a number of a LINE -/
theorem OK_n {h : Int → Int} {z0 z w z1 w1 z' : mZ} {x v nm : Int} (hc : OKr h z0 z (RAn h z w 7 x nm)) (hf : z 225 2 = 0) (hx : 0 ≤ x ∧ x < 3 * z 225 23 / 2) (h3 : z 225 23 ≤ 12) (h4 : 0 ≤ z 225 24 ∧ z 225 24 ≤ 7) (ti : TNp h z z1 w1 v 99) (n2 : 0 ≤ z1 225 2) (fr : Fs z w z1 w1) (a0 : ∀ i, z' 225 i = z1 225 i) (u : ∀ i : Nat, z' 231 i = if i = (18 * z 225 24 + x).toNat then v else z1 231 i) (f1 : ∀ a i, 229 ≤ a → a ≤ 234 → a ≠ 231 → z' a i = z1 a i) : OKr h z0 z' (RAn h z' w1 7 (x + 1) nm) := by
  obtain ⟨⟨k, ⟨tk, m⟩, h0, h6, h10, hn⟩, c3, c7⟩ := hc.1 hf
  have e3 : z 225 23 = sq h k 3 := m.1.1.1
  have e4 : z 225 24 = sq h k 4 := m.1.1.2.1
  have e7 := tk.1
  have gg := TNp_g ti
  have eD : ED (sq h k) = 3 * z 225 23 / 2 := by rw [e3]
  have a2 := a0 2
  have a3 := a0 3
  have a7 := a0 7
  refine ⟨fun q => ?_, fun q => ?_, by omega⟩
  · have s := TNp_s ti (by omega) (by omega)
    have sn := s.2.2
    have sn3 := sn.2.1
    have sn7 := sn.2.2.2
    have sn4 := sn.2.2.1
    have sk := s.2.1
    rw [e7] at sk sn4
    have e : sq h (k + 1) = _ := (sq_s h k).trans (a7_n h0 sk.1 (by omega) (by omega))
    rw [← sk.2.2.2] at e
    have mm := MR_n (z' := z') (w' := w1) (nu := v) h0 (by omega) (by omega) (fun i g1 g2 => a0 i) (by rw [← e4, h6]; exact u) f1 (fun _ _ _ _ => rfl) (MR_f fr m)
    rw [← e] at mm
    have n : ∀ j, j ≠ 6 → j < 200 → sq h (k + 1) j = sq h k j := fun j g1 g2 => by rw [e, su_n g1, su_n (by omega)]
    exact ⟨⟨k + 1, ⟨TKr_f (a0 _) (a0 _) (a0 _) (a0 _) rfl (a0 _) sn4, mm⟩, by rw [n 0 (by omega) (by omega)]; exact h0, by rw [e, su_e, h6], CW_c (n 3 (by omega) (by omega)) (n 10 (by omega) (by omega)) (fun j g1 g2 => n j (by omega) (by omega)) h10, by rw [n 7 (by omega) (by omega)]; exact hn⟩, by omega, by omega⟩
  · refine RF_f (z := z1) a2 a3 ?_
    rcases TNp_b ti hf (by omega) with g | g
    · rw [e7] at g
      by_cases d : tkK h (tp h k) = 3
      · exact RF_b (a7_sb h0 d (Or.inr (by omega))) g.2.1 g.2.2
      · exact RF_b (a7_b h0 ⟨g.1, d⟩) g.2.1 g.2.2
    · rw [e7] at g
      exact RF_i (f := 4) (a7_4 h0 g.1 (by omega) g.2.1) (by omega) g.2.2.1 g.2.2.2
theorem OK_nf {h : Int → Int} {z0 z w z' w' : mZ} {P Q : Prop} (hc : OKr h z0 z P) (a2 : z' 225 2 = z 225 2) (a3 : z' 225 3 = z 225 3) (a7 : z' 225 7 = z 225 7) (pq : z 225 2 = 0 → P → Q) : OKr h z0 z' Q := by
  refine ⟨fun q => ?_, fun q => RF_f a2 a3 (hc.2.1 (by omega)), by have := hc.2.2; omega⟩
  have c := hc.1 (by omega)
  exact ⟨pq (by omega) c.1, by omega, by omega⟩
theorem OK_p {h : Int → Int} {z0 z : mZ} {P Q : Prop} (hc : OKr h z0 z P) (pq : z 225 2 = 0 → P → Q) : OKr h z0 z Q := OK_nf (w := fun _ _ => 0) (w' := fun _ _ => 0) hc rfl rfl rfl pq
/-- a told EDGE is one of the ground, once it is WHOLE -/
theorem TI_w {s : RG} (k : TI s) (hw : WHq s) (h3 : s 3 ≤ 12) (i : Nat) (hi : (i : Int) < 3 * s 3) (hc : cs s = 0) : 0 ≤ s (100 + i) ∧ s (100 + i) < ED s := by
  have q := k i (by omega) (by omega)
  refine ⟨q.1.1, ?_⟩
  apply Classical.byContradiction
  intro c
  have e := hw.2.1 (s (100 + i)).toNat (by omega)
  rw [if_neg (by omega)] at e
  omega
/-- whether the numbers FIT -/
theorem FIT_r {h : Int → Int} {z w : mZ} {k : Nat} (m : MR h (sq h k) z w) (h0 : sq h k 0 = 7) (h6 : ED (sq h k) ≤ sq h k 6) (h3 : z 225 23 ≤ 12) (h4 : 0 ≤ z 225 24 ∧ z 225 24 ≤ 7) (hw : WHq (sq h k)) : FITq (sq h k) ↔ ∀ q : Nat, (q : Int) < z 225 23 → tri (z 231 (18 * z 225 24 + z 229 (3 * q)).toNat) (z 231 (18 * z 225 24 + z 229 (3 * q + 1)).toNat) (z 231 (18 * z 225 24 + z 229 (3 * q + 2)).toNat) := by
  have e3 : z 225 23 = sq h k 3 := m.1.1.1
  have e4 : z 225 24 = sq h k 4 := m.1.1.2.1
  have c0 : cs (sq h k) = 0 := if_neg (by omega)
  have eD : ED (sq h k) = 3 * z 225 23 / 2 := by rw [e3]
  have E : ∀ i : Nat, (i : Int) < 3 * z 225 23 → nmq (sq h k) i = z 231 (18 * z 225 24 + z 229 i).toNat := fun i hi => by
    have e := m.1.2.1 i (by omega) (by omega)
    have b := TI_w m.1.2.2.2 hw (by omega) i (by omega) c0
    rw [← e] at b
    unfold nmq
    rw [← e, ← e4]
    have r := m.2.1.1 (z 225 24).toNat (z 229 i).toNat ⟨⟨by omega, by omega⟩, Or.inr ⟨by omega, h0, by omega⟩⟩
    rw [show (18 * z 225 24 + z 229 i).toNat = 18 * (z 225 24).toNat + (z 229 i).toNat by omega]
    exact r.symm
  unfold FITq
  rw [← e3]
  constructor
  · intro g q hq
    have := g q hq
    rw [E _ (by omega), E _ (by omega), E _ (by omega)] at this
    exact this
  · intro g q hq
    rw [E _ (by omega), E _ (by omega), E _ (by omega)]
    exact g q hq
/-- ahead of a LINE's ; -/
theorem RAf_i {h : Int → Int} {z w : mZ} {x nm : Int} (hc : RAn h z w 7 x nm) (hx : 3 * z 225 23 / 2 ≤ x ∧ x ≠ 0) (h4 : 0 ≤ z 225 24 ∧ z 225 24 ≤ 7) (hf : z 225 6 ≠ 59 ∨ ∀ q : Nat, (q : Int) < z 225 23 → tri (z 231 (18 * z 225 24 + z 229 (3 * q)).toNat) (z 231 (18 * z 225 24 + z 229 (3 * q + 1)).toNat) (z 231 (18 * z 225 24 + z 229 (3 * q + 2)).toNat)) : RAf h z w nm := by
  obtain ⟨k, ⟨tk, m⟩, h0, h6, h10, hn⟩ := hc
  have e3 : z 225 23 = sq h k 3 := m.1.1.1
  have eD : ED (sq h k) = 3 * z 225 23 / 2 := by rw [e3]
  refine ⟨k, ⟨tk, m⟩, h0, ⟨by omega, by omega⟩, h10, hn, fun K => ?_⟩
  rcases hf with g | g
  · exact absurd ((tk3 tk).mpr K) g
  · exact (FIT_r m h0 (by omega) (by have := h10.1.2; omega) h4 h10.2).mpr g
theorem OK_f6 {h : Int → Int} {z0 z w z1 : mZ} {x nm : Int} (hc : OKr h z0 z (RAn h z w 7 x nm)) (hf0 : z 225 2 = 0) (hx : 3 * z 225 23 / 2 ≤ x ∧ x ≠ 0) (h4 : 0 ≤ z 225 24 ∧ z 225 24 ≤ 7) (h59 : z 225 6 = 59) (hf : ¬ ∀ q : Nat, (q : Int) < z 225 23 → tri (z 231 (18 * z 225 24 + z 229 (3 * q)).toNat) (z 231 (18 * z 225 24 + z 229 (3 * q + 1)).toNat) (z 231 (18 * z 225 24 + z 229 (3 * q + 2)).toNat)) (wr : WRp z z1 6) (P : Prop) (g0 : z1 225 7 = z 225 7) : OKr h z0 z1 P := by
  obtain ⟨⟨k, ⟨tk, m⟩, h0, h6, h10, hn⟩, c3, c7⟩ := hc.1 hf0
  have e3 : z 225 23 = sq h k 3 := m.1.1.1
  have eD : ED (sq h k) = 3 * z 225 23 / 2 := by rw [e3]
  have K := (tk3 tk).mp h59
  have g := WRp_0 wr hf0 tk
  rw [if_neg (by omega)] at g
  refine ⟨fun q => absurd q (by omega), fun _ => RF_i (f := 6) (a7_f h0 K ⟨by omega, by omega⟩ (fun F => hf ((FIT_r m h0 (by omega) (by have := h10.1.2; omega) h4 h10.2).mp F))) (by omega) g.1 g.2, by omega⟩
theorem RP_l {h : Int → Int} {z w z' w' : mZ} {nm : Int} (hc : RAf h z w nm) (h4 : 0 ≤ z 225 24 ∧ z 225 24 ≤ 7) (n5 : 0 ≤ z 225 25) (a0 : z' 225 24 = z 225 24 + 1) (a1 : ∀ i, i ≠ 24 → z' 225 i = z 225 i) (f1 : ∀ a i, 229 ≤ a → a ≤ 234 → z' a i = z a i) (u : ∀ e : Nat, w' 227 e = if e = (z 225 24).toNat then nm else w 227 e) (f2 : ∀ a i, a ≠ 227 → w' a i = w a i) : RPz h z' w' := by
  obtain ⟨k, ⟨tk, m⟩, h0, h6, h10, hn, hF⟩ := hc
  have b4 : z 225 24 = sq h k 4 := m.1.1.2.1
  have b5 : z 225 25 = sq h k 5 := m.1.1.2.2
  refine ⟨k, TKr_f (a1 _ (by omega)) (a1 _ (by omega)) (a1 _ (by omega)) (a1 _ (by omega)) (f2 _ _ (by omega)) (a1 _ (by omega)) tk, fun K => ?_, fun K => ?_⟩
  · have e : sq h (k + 1) = _ := (sq_s h k).trans (a7_o h0 K h6 (hF K))
    rw [e]
    rw [b4] at u
    rw [hn] at u
    have n : ∀ j, j ≠ 6 → j ≠ 0 → j ≠ 4 → (j < 400 ∨ 408 ≤ j) → fin7 (sq h k) j = sq h k j := fun j g1 g2 g3 g4 => by unfold fin7; rw [su_n g2, su_n g1, su_n g3, su_n (by omega)]
    refine ⟨MR_l h0 (by omega) h6.2 a0 (a1 _ (by omega)) (a1 _ (by omega)) f1 u (fun i => f2 _ _ (by omega)) m, rfl, Or.inr ⟨?_, ?_, ?_⟩⟩
    · rw [n 10 (by omega) (by omega) (by omega) (by omega)]; exact h10.1.1
    · rw [n 5 (by omega) (by omega) (by omega) (by omega), show fin7 (sq h k) 4 = sq h k 4 + 1 from rfl]; omega
    · exact WHq_c h10.1.2 (n 3 (by omega) (by omega) (by omega) (by omega)) (fun j g1 g2 => n j (by omega) (by omega) (by omega) (by omega)) h10.2
  · by_cases c : tkK h (tp h k) = 2
    · exact a7_nb h0 c h6.2
    · exact a7_b h0 ⟨c, K⟩

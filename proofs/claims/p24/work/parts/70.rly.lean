/-! the reference's road, flip by flip -/
theorem SQ_t {m E e s1 s2 : Int} {T n : Nat → Int} (ly : LY m E T) (ft : FT m.toNat (vT T) n) (sq : SQ m T e s1 s2) : tri (n e.toNat) (n (T (bh s1.toNat)).toNat) (n (T (ah s1.toNat)).toNat) ∧ tri (n e.toNat) (n (T (bh s2.toNat)).toNat) (n (T (ah s2.toNat)).toNat) := by
  obtain ⟨a1, a2, a3, a4, a5, a6⟩ := sq
  have m0 := ly.1
  have t1 := ft.2 s1.toNat (by omega)
  have t2 := ft.2 s2.toNat (by omega)
  have e1 : vT T s1.toNat = e.toNat := by show (T s1.toNat).toNat = _; rw [a4]
  have e2 : vT T s2.toNat = e.toNat := by show (T s2.toNat).toNat = _; rw [a5]
  rw [e1] at t1; rw [e2] at t2
  exact ⟨t1, t2⟩
theorem SQ_b {m E e s1 s2 : Int} {T : Nat → Int} (ly : LY m E T) (sq : SQ m T e s1 s2) : (0 ≤ T (bh s1.toNat) ∧ T (bh s1.toNat) < E) ∧ (0 ≤ T (ah s1.toNat) ∧ T (ah s1.toNat) < E) ∧ (0 ≤ T (bh s2.toNat) ∧ T (bh s2.toNat) < E) ∧ (0 ≤ T (ah s2.toNat) ∧ T (ah s2.toNat) < E) := by
  obtain ⟨a1, a2, a3, a4, a5, a6⟩ := sq
  have m0 := ly.1
  have h1 : s1.toNat < 3 * m.toNat := by omega
  have h2 : s2.toNat < 3 * m.toNat := by omega
  have b1 := bh_lt h1; have b2 := ah_lt h1; have b3 := bh_lt h2; have b4 := ah_lt h2
  exact ⟨ly.2.2.2.1 _ (by omega), ly.2.2.2.1 _ (by omega), ly.2.2.2.1 _ (by omega), ly.2.2.2.1 _ (by omega)⟩
theorem FQ_nn {m E e s1 s2 : Int} {z : mZ} (ly : LY m E (z 255)) (e0 : 0 ≤ e) (he : e < E) (ft : FT m.toNat (vT (z 255)) (tr E (z 256))) (sq : SQ m (z 255) e s1 s2) : 0 ≤ FQ z s1 s2 e := by
  obtain ⟨t1, t2⟩ := SQ_t ly ft sq
  obtain ⟨b1, b2, b3, b4⟩ := SQ_b ly sq
  rw [tr_l (by omega), tr_l (by omega), tr_l (by omega)] at t1 t2
  have := flip_val t1 t2
  exact this.2.2
theorem DF_s {z0 zc z' : mZ} {l e s1 s2 : Int} (l0 : 0 ≤ l) (l7 : l ≤ 7) (e0 : 0 ≤ e) (he : e < rE z0) (e26 : zc 225 26 = z0 225 26) (sq : SQ (z0 225 26) (zc 255) e s1 s2) (h : SHI (z0 225 26) (rE z0) (z0 235) (zc 255) (tr (rE z0) (zc 256)) (cfQ zc l.toNat) (zc 248 l.toNat)) (d : DF zc z' l e s1 s2) (dl : FQ zc s1 s2 e < zc 256 e.toNat) (rz' : rz z') :
    SHI (z0 225 26) (rE z0) (z0 235) (z' 255) (tr (rE z0) (z' 256)) (cfQ z' l.toNat) (z' 248 l.toNat) ∧ (∀ j, j < 5 → ((cfQ z' l.toNat (zc 248 l.toNat).toNat j : Nat) : Int) < rE z0) ∧ (∀ i j, i < (zc 248 l.toNat).toNat → j < 5 → cfQ z' l.toNat i j = cfQ zc l.toNat i j) := by
  obtain ⟨d1, d2, d3, d4, d5, d6, d7, d8, d9, d10⟩ := d
  have ly := h.1
  obtain ⟨b1, b2, b3, b4⟩ := SQ_b ly sq
  have k0 : 0 ≤ zc 248 l.toNat := h.2.2.2.2.2.2
  have m12 := ly.2.1
  rw [e26] at d1
  have cf : ∀ j : Nat, cfQ z' l.toNat (zc 248 l.toNat).toNat j = (z' 247 (5 * (1782 * l + zc 248 l.toNat) + j).toNat).toNat := by
    intro j
    unfold cfQ
    rw [show 5 * (1782 * l.toNat + (zc 248 l.toNat).toNat) + j = (5 * (1782 * l + zc 248 l.toNat) + j).toNat by omega]
  have c0 : cfQ z' l.toNat (zc 248 l.toNat).toNat 0 = e.toNat := by rw [cf 0, show (5 * (1782 * l + zc 248 l.toNat) + ((0 : Nat) : Int)).toNat = (5 * (1782 * l + zc 248 l.toNat)).toNat by omega, d5]
  have c1 : cfQ z' l.toNat (zc 248 l.toNat).toNat 1 = (zc 255 (bh s1.toNat)).toNat := by rw [cf 1]; show (z' 247 (5 * (1782 * l + zc 248 l.toNat) + 1).toNat).toNat = _; rw [d6]
  have c2 : cfQ z' l.toNat (zc 248 l.toNat).toNat 2 = (zc 255 (ah s1.toNat)).toNat := by rw [cf 2]; show (z' 247 (5 * (1782 * l + zc 248 l.toNat) + 2).toNat).toNat = _; rw [d7]
  have c3 : cfQ z' l.toNat (zc 248 l.toNat).toNat 3 = (zc 255 (bh s2.toNat)).toNat := by rw [cf 3]; show (z' 247 (5 * (1782 * l + zc 248 l.toNat) + 3).toNat).toNat = _; rw [d8]
  have c4 : cfQ z' l.toNat (zc 248 l.toNat).toNat 4 = (zc 255 (ah s2.toNat)).toNat := by rw [cf 4]; show (z' 247 (5 * (1782 * l + zc 248 l.toNat) + 4).toNat).toNat = _; rw [d9]
  have hc : ∀ i j, i < (zc 248 l.toNat).toNat → j < 5 → cfQ z' l.toNat i j = cfQ zc l.toNat i j := by
    intro i j hi hj
    unfold cfQ
    rw [d10 _ (by omega)]
  refine ⟨?_, fun j hj => ?_, hc⟩
  · rw [d3]
    refine SHI_r h d1 (fun s hs => (rd_255 rz' (i := s) (by omega)).1) ?_ ?_ c0 c1 c2 c3 c4 hc
    · funext j
      unfold fl
      by_cases c : (j : Int) < rE z0
      · rw [tr_l c, d2 j]
        by_cases q : j = e.toNat
        · rw [if_pos q, if_pos q, tr_l (by omega), tr_l (by omega), tr_l (by omega), tr_l (by omega), tr_l (by omega)]
        · rw [if_neg q, if_neg q, tr_l c]
      · rw [tr_g (by omega), if_neg (by omega), tr_g (by omega)]
    · rw [tr_l (by omega), tr_l (by omega), d2, if_pos rfl]; exact dl
  · rcases (show j = 0 ∨ j = 1 ∨ j = 2 ∨ j = 3 ∨ j = 4 by omega) with q | q | q | q | q
    · rw [q, c0]; omega
    · rw [q, c1]; omega
    · rw [q, c2]; omega
    · rw [q, c3]; omega
    · rw [q, c4]; omega
def OTH (z0 z : mZ) (l : Nat) : Prop := (∀ j : Nat, j ≠ l → z 248 j = z0 248 j ∧ z 249 j = z0 249 j ∧ z 250 j = z0 250 j ∧ z 251 j = z0 251 j ∧ z 252 j = z0 252 j ∧ z 254 j = z0 254 j) ∧ ∀ i : Nat, i < 8910 * l ∨ 8910 * l + 8910 ≤ i → z 247 i = z0 247 i
theorem OTH_c {z0 z z' : mZ} {l : Nat} (h : OTH z0 z l) (e : ∀ a j, 247 ≤ a → a ≤ 254 → a ≠ 253 → (j ≠ l ∨ a = 247) → z' a j = z a j) : OTH z0 z' l := by
  refine ⟨fun j hj => ?_, fun i hi => by rw [e 247 i (by omega) (by omega) (by omega) (Or.inr rfl)]; exact h.2 i hi⟩
  obtain ⟨h1, h2, h3, h4, h5, h6⟩ := h.1 j hj
  rw [e 248 j (by omega) (by omega) (by omega) (Or.inl hj), e 249 j (by omega) (by omega) (by omega) (Or.inl hj), e 250 j (by omega) (by omega) (by omega) (Or.inl hj), e 251 j (by omega) (by omega) (by omega) (Or.inl hj), e 252 j (by omega) (by omega) (by omega) (Or.inl hj), e 254 j (by omega) (by omega) (by omega) (Or.inl hj)]
  exact ⟨h1, h2, h3, h4, h5, h6⟩
theorem OTH_0 (z : mZ) (l : Nat) : OTH z z l := ⟨fun _ _ => ⟨rfl, rfl, rfl, rfl, rfl, rfl⟩, fun _ _ => rfl⟩
theorem OTH_g {z0 z : mZ} {l k : Nat} (h : OTH z0 z l) (hk : k ≠ l) (hl : l < 8) (h8 : k < 8) (b : (z0 248 k).toNat ≤ 1782) (g : GRq z0 z0 k) : GRq z0 z k := by
  obtain ⟨h1, h2, h3, h4, h5, h6⟩ := h.1 k hk
  have cf : ∀ i j, i < (z0 248 k).toNat → j < 5 → cfQ z k i j = cfQ z0 k i j := by
    intro i j hi hj
    unfold cfQ
    rw [h.2 _ (by omega)]
  unfold GRq at *
  rw [h1, h2, h3, h4, h5, h6]
  intro q
  obtain ⟨g1, g2, g3⟩ := g q
  refine ⟨?_, fun i j hi hj => by rw [cf i j hi hj]; exact g2 i j hi hj, g3⟩
  obtain ⟨G, o, r⟩ := g1
  have fe : ∀ i n, i < (z0 248 k).toNat → flc (cfQ z k) i n = flc (cfQ z0 k) i n := by
    intro i n hi
    unfold flc
    rw [cf i 0 hi (by omega), cf i 1 hi (by omega), cf i 2 hi (by omega), cf i 3 hi (by omega), cf i 4 hi (by omega)]
  exact ⟨G, ⟨o.g0, fun i n hi q => by rw [fe i n hi]; exact o.fw i n hi q, fun i n hi q => by rw [fe i n hi]; exact o.bw i n hi q, o.nn, o.cg, fun i j hi hj => by rw [cf i j hi hj]; exact o.cl i j hi hj, fun i j hi h0 hj => by rw [cf i j hi hj, cf i 0 hi (by omega)]; exact o.cn i j hi h0 hj⟩, r⟩

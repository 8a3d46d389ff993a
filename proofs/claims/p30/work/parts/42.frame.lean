section
theorem WTt_f {S : mS} {z w z' w' : mZ} {t : Nat} (h : st_ S z w z' w') (h0 : ¬ inS S t 0) (h1 : ¬ inS S t 1) (f1 : ∀ i, ¬ inS S (t + 1) i) (f2 : ∀ i, ¬ inS S (t + 2) i) (f5 : ∀ i, ¬ inS S (t + 5) i) (k : WTt z t) : WTt z' t := by
  unfold WTt at *
  rw [h.2.2.1 _ _ h0, h.2.2.1 _ _ h1, show z' (t + 1) = z (t + 1) from funext fun i => h.2.2.1 _ _ (f1 i), show z' (t + 2) = z (t + 2) from funext fun i => h.2.2.1 _ _ (f2 i), show z' (t + 5) = z (t + 5) from funext fun i => h.2.2.1 _ _ (f5 i)]
  exact k
theorem TL_f {S : mS} {z w z' w' : mZ} {t : Nat} (h : st_ S z w z' w') (h0 : ¬ inS S t 0) (h8 : ¬ inS S 4 8) (f1 : ∀ i, ¬ inS S (t + 1) i) (f6 : ∀ i, ¬ inS S 6 i) (f7 : ∀ i, ¬ inS S 7 i) (k : TL z t) : TL z' t := by
  unfold TL FTt at *
  rw [h.2.2.1 _ _ h0, h.2.2.1 _ _ h8, show z' (t + 1) = z (t + 1) from funext fun i => h.2.2.1 _ _ (f1 i), show z' 6 = z 6 from funext fun i => h.2.2.1 _ _ (f6 i), show z' 7 = z 7 from funext fun i => h.2.2.1 _ _ (f7 i)]
  exact k
theorem RD_f {S : mS} {z w z' w' : mZ} {t : Nat} (h : st_ S z w z' w') (h8 : z t 3 ≤ 8) (h5 : ¬ inS S 3 5) (h0 : ¬ inS S t 0) (h1 : ¬ inS S t 1) (h3 : ¬ inS S t 3) (f1 : ∀ a, t + 1 ≤ a → a ≤ t + 2 → ∀ i, ¬ inS S a i) (f4 : ∀ a, t + 4 ≤ a → a ≤ t + 6 → ∀ i, ¬ inS S a i) (f8 : ∀ a, t + 8 ≤ a → a ≤ t + 15 → ∀ i, ¬ inS S a i) (r : RD z w t) : RD z' w' t := by
  refine RD_fr h h8 (fun a i q => ?_) r
  unfold inD at q
  rcases q with ⟨rfl, rfl⟩ | ⟨rfl, rfl | rfl | rfl⟩ | ⟨q1, q2⟩ | ⟨q1, q2⟩ | ⟨q1, q2⟩
  · exact h5
  · exact h0
  · exact h1
  · exact h3
  · exact f1 a q1 q2 i
  · exact f4 a q1 q2 i
  · exact f8 a q1 q2 i
end
section
/-! methods, printed by wip/tools/vcg.py -/
/-- Tracer begin -/
abbrev S_87v  : mS := [(4, 4, 9, 9), (4, 4, 10, 10), (4, 4, 11, 11), (4, 4, 12, 12)]
abbrev E_87v (a1 : Int) (a2 : Int) (z0 w0 : mZ) (x y tx it mt tt ct : Option Nat) : mZ → mZ → mP → Prop := fun z w p => p = (pq x y tx it mt tt ct) ∧ (z 4 9 = a1 ∧ z 4 10 = a2)
theorem m_87v {d : Nat} {z0 w0 : mZ} {x y tx it mt tt ct : Option Nat} (a1 : Int) (a2 : Int) (hz : rz z0) (hw : rw_ w0) (ha1 : 0 ≤ a1 ∧ a1 ≤ 35) (ha2 : (-2147483648) ≤ a2 ∧ a2 ≤ 2147483647) : wc (d + 1) 87 [.ref 4, .int (Int32.ofInt a1), .int (Int32.ofInt a2)] (mk z0 w0 (pq x y tx it mt tt ct)) (poV S_87v z0 w0 (E_87v a1 a2 z0 w0 x y tx it mt tt ct)) := by
  have hst : st_ S_87v z0 w0 z0 w0 := st_rf hz hw
  refine w_m rfl rfl ?_
  refine r_ld (pc' := 1) rfl rfl rfl rfl ?_
  refine r_ld (pc' := 2) rfl rfl rfl rfl ?_
  refine r_pi (pc' := 5) rfl rfl sh_4 rfl rfl hst (inS_0 (by omega) (by omega) (by omega) (by omega)) (wr_4_9 ⟨by omega, by omega⟩) (fun z15 hq16 hs17 => ?_)
  refine r_ld (pc' := 6) rfl rfl rfl rfl ?_
  refine r_ld (pc' := 7) rfl rfl rfl rfl ?_
  refine r_pi (pc' := 10) rfl rfl sh_4 rfl rfl hs17 (inS_s (inS_0 (by omega) (by omega) (by omega) (by omega))) (wr_4_10 ⟨by omega, by omega⟩) (fun z18 hq19 hs20 => ?_)
  refine r_ld (pc' := 11) rfl rfl rfl rfl ?_
  refine r_ld (pc' := 12) rfl rfl rfl rfl ?_
  refine r_pi (pc' := 15) rfl rfl sh_4 rfl rfl hs20 (inS_s (inS_s (inS_0 (by omega) (by omega) (by omega) (by omega)))) (wr_4_11 ⟨by omega, by omega⟩) (fun z21 hq22 hs23 => ?_)
  refine r_ld (pc' := 16) rfl rfl rfl rfl ?_
  refine r_ld (pc' := 17) rfl rfl rfl rfl ?_
  refine r_pi (pc' := 20) rfl rfl sh_4 rfl rfl hs23 (inS_s (inS_s (inS_s (inS_0 (by omega) (by omega) (by omega) (by omega))))) (wr_4_12 ⟨by omega, by omega⟩) (fun z24 hq25 hs26 => ?_)
  have hf27 : z24 4 9 = a1 := (((congrFun (congrFun hq25 _) _).trans (mu_ne (by omega))).trans (((congrFun (congrFun hq22 _) _).trans (mu_ne (by omega))).trans (((congrFun (congrFun hq19 _) _).trans (mu_ne (by omega))).trans ((congrFun (congrFun hq16 _) _).trans mu_eq))))
  have hf28 : z24 4 10 = a2 := (((congrFun (congrFun hq25 _) _).trans (mu_ne (by omega))).trans (((congrFun (congrFun hq22 _) _).trans (mu_ne (by omega))).trans ((congrFun (congrFun hq19 _) _).trans mu_eq)))
  exact r_ret rfl (po_V hs26 ⟨rfl, (by first | omega | assumption | (simp only [hf27, hf28]; assumption))⟩)
/-- Tracer countAt -/
abbrev S_90v  : mS := []
abbrev E_90v (t : Nat) (a1 : Int) (z0 w0 : mZ) (x y tx it mt ct : Option Nat) : Int → mZ → mZ → mP → Prop := fun v z w p => p = (pq x y tx it mt (some t) ct) ∧ z0 = z ∧ w0 = w ∧ 0 ≤ v ∧ v ≤ 18000 ∧ (v = z0 7 (z0 (t + 1) a1.toNat).toNat)
theorem m_90v {d : Nat} {z0 w0 : mZ} {x y tx it mt ct : Option Nat} (t : Nat) (a1 : Int) (hz : rz z0) (hw : rw_ w0) (ha1 : 0 ≤ a1 ∧ a1 ≤ 35) (ht : isT t) : wc (d + 1) 90 [.ref 4, .int (Int32.ofInt a1)] (mk z0 w0 (pq x y tx it mt (some t) ct)) (poI S_90v z0 w0 (E_90v t a1 z0 w0 x y tx it mt ct)) := by
  have hst : st_ S_90v z0 w0 z0 w0 := st_rf hz hw
  have htb : 159 ≤ t ∧ t ≤ 192 := by have := ht; unfold isT at this; omega
  refine w_m rfl rfl ?_
  refine r_ld (pc' := 1) rfl rfl rfl rfl ?_
  refine r_gr (b := 7) (pc' := 4) rfl rfl sh_4 rfl pp_4_4 ?_
  refine r_ld (pc' := 5) rfl rfl rfl rfl ?_
  refine r_gr (b := t) (pc' := 8) rfl rfl sh_4 rfl pp_4_7 ?_
  refine r_gr (b := t + 1) (pc' := 11) rfl rfl (sh_T ht) rfl (pp_T_5 ht) ?_
  refine r_ld (pc' := 12) rfl rfl rfl rfl ?_
  have hb3 := rd_T1 ht hz (i := a1.toNat) (by omega)
  refine r_ia (pc' := 13) rfl rfl (sh_T1 ht) rfl (by omega) (by omega) rfl ?_
  have hb4 := rd_7 hz (i := (z0 (t + 1) a1.toNat).toNat) (by omega)
  refine r_ia (pc' := 14) rfl rfl sh_7 rfl (by omega) (by omega) rfl ?_
  exact r_ri rfl (po_I hst ⟨by omega, by omega⟩ ⟨rfl, rfl, rfl, by omega, by omega, (by first | omega | assumption)⟩)
/-- Tracer strandNumber -/
abbrev S_92v  : mS := []
abbrev E_92v (t : Nat) (z0 w0 : mZ) (x y tx it mt ct : Option Nat) : Int → mZ → mZ → mP → Prop := fun v z w p => p = (pq x y tx it mt (some t) ct) ∧ z0 = z ∧ w0 = w ∧ 0 ≤ v ∧ v ≤ 17999 ∧ (∃ k : Int, v = sm (z0 7) (z0 (t + 1) (z0 4 9).toNat).toNat + k ∧ 0 ≤ k ∧ k < z0 7 (z0 (t + 1) (z0 4 9).toNat).toNat ∧ (z0 (t + 1) (z0 4 9).toNat).toNat < 18 ∧ ∀ A : Nat → Int → Prop, BB (vT (z0 (t + 1))) (oF (z0 (t + 1)) (z0 (t + 5))) (z0 7) A (z0 4 9).toNat (z0 4 10) ↔ A (z0 (t + 1) (z0 4 9).toNat).toNat k)
theorem m_92v {d : Nat} {z0 w0 : mZ} {x y tx it mt ct : Option Nat} (t : Nat) (hz : rz z0) (hw : rw_ w0) (ht : isT t) (hwt : WTt z0 t) (htl : TL z0 t) (hvs : VSt z0 t (z0 4 9) (z0 4 10)) : wc (d + 1) 92 [.ref 4] (mk z0 w0 (pq x y tx it mt (some t) ct)) (poI S_92v z0 w0 (E_92v t z0 w0 x y tx it mt ct)) := by
  have hst : st_ S_92v z0 w0 z0 w0 := st_rf hz hw
  have htb : 159 ≤ t ∧ t ≤ 192 := by have := ht; unfold isT at this; omega
  have hz19 := rd_4_10 hz
  have hz20 := rd_4_9 hz
  have hz48 := rd_4_8 hz
  refine w_m rfl rfl ?_
  refine r_ld (pc' := 1) rfl rfl rfl rfl ?_
  refine r_gr (b := t) (pc' := 4) rfl rfl sh_4 rfl pp_4_7 ?_
  refine r_gr (b := t + 1) (pc' := 7) rfl rfl (sh_T ht) rfl (pp_T_5 ht) ?_
  refine r_ld (pc' := 8) rfl rfl rfl rfl ?_
  have hb21 := rd_4_9 hz
  refine r_gi (pc' := 11) rfl rfl sh_4 rfl rfl ?_
  have hb22 := rd_T1 ht hz (i := (z0 4 9).toNat) (by omega)
  refine r_ia (pc' := 12) rfl rfl (sh_T1 ht) rfl (by omega) (by omega) rfl ?_
  refine r_st (pc' := 13) (lv' := [(1, _), (0, _)]) rfl rfl rfl rfl ?_
  refine r_ld (pc' := 14) rfl rfl rfl rfl ?_
  refine r_gi (pc' := 17) rfl rfl sh_4 rfl rfl ?_
  refine r_ld (pc' := 18) rfl rfl rfl rfl ?_
  refine r_gr (b := t) (pc' := 21) rfl rfl sh_4 rfl pp_4_7 ?_
  refine r_gr (b := t + 5) (pc' := 24) rfl rfl (sh_T ht) rfl (pp_T_9 ht) ?_
  refine r_ld (pc' := 25) rfl rfl rfl rfl ?_
  have hb23 := rd_T5 ht hz (i := (z0 (t + 1) (z0 4 9).toNat).toNat) (by omega)
  refine r_ia (pc' := 26) rfl rfl (sh_T5 ht) rfl (by omega) (by omega) rfl ?_
  refine r_ine (pc' := 29) rfl rfl ⟨by omega, by omega⟩ ⟨by omega, by omega⟩ (fun hc24 => ?_) (fun hc24 => ?_)
  · skip
    have hsn := SN_ hwt htl hvs (k := z0 7 (z0 (t + 1) (z0 4 9).toNat).toNat - 1 - z0 4 10) (by rw [if_neg (by omega)])
    refine r_ld (pc' := 37) rfl rfl rfl rfl ?_
    refine r_gr (b := 7) (pc' := 40) rfl rfl sh_4 rfl pp_4_4 ?_
    refine r_ld (pc' := 41) rfl rfl rfl rfl ?_
    have hb25 := rd_7 hz (i := (z0 (t + 1) (z0 4 9).toNat).toNat) (by omega)
    refine r_ia (pc' := 42) rfl rfl sh_7 rfl (by omega) (by omega) rfl ?_
    refine r_c0 (pc' := 43) rfl rfl ?_
    refine r_sub (pc' := 44) rfl rfl ?_
    refine r_ld (pc' := 45) rfl rfl rfl rfl ?_
    have hb26 := rd_4_10 hz
    refine r_gi (pc' := 48) rfl rfl sh_4 rfl rfl ?_
    refine r_sub (pc' := 49) rfl rfl ?_
    refine w_hxi (fun v27 h28 h29 => ?_)
    refine r_st (pc' := 50) (lv' := [(2, _), (1, _), (0, _)]) rfl rfl rfl rfl ?_
    refine r_ld (pc' := 51) rfl rfl rfl rfl ?_
    refine r_gr (b := 6) (pc' := 54) rfl rfl sh_4 rfl pp_4_3 ?_
    refine r_ld (pc' := 55) rfl rfl rfl rfl ?_
    have hb30 := rd_6 hz (i := (z0 (t + 1) (z0 4 9).toNat).toNat) (by omega)
    refine r_ia (pc' := 56) rfl rfl sh_6 rfl (by omega) (by omega) rfl ?_
    refine r_ld (pc' := 57) rfl rfl rfl rfl ?_
    refine r_add (pc' := 58) rfl rfl ?_
    refine w_hxi (fun v31 h32 h33 => ?_)
    exact r_ri rfl (po_I hst ⟨by omega, by omega⟩ ⟨rfl, rfl, rfl, by omega, by omega, (by exact ⟨_, by omega, hsn.2.1, hsn.2.2.1, hsn.2.2.2.2.2.1, hsn.2.2.2.2.2.2⟩)⟩)
  · skip
    have hsn := SN_ hwt htl hvs (k := z0 4 10) (by rw [if_pos (by omega)])
    refine r_ld (pc' := 30) rfl rfl rfl rfl ?_
    have hb34 := rd_4_10 hz
    refine r_gi (pc' := 33) rfl rfl sh_4 rfl rfl ?_
    refine r_go rfl ?_
    refine r_st (pc' := 50) (lv' := [(2, _), (1, _), (0, _)]) rfl rfl rfl rfl ?_
    refine r_ld (pc' := 51) rfl rfl rfl rfl ?_
    refine r_gr (b := 6) (pc' := 54) rfl rfl sh_4 rfl pp_4_3 ?_
    refine r_ld (pc' := 55) rfl rfl rfl rfl ?_
    have hb35 := rd_6 hz (i := (z0 (t + 1) (z0 4 9).toNat).toNat) (by omega)
    refine r_ia (pc' := 56) rfl rfl sh_6 rfl (by omega) (by omega) rfl ?_
    refine r_ld (pc' := 57) rfl rfl rfl rfl ?_
    refine r_add (pc' := 58) rfl rfl ?_
    refine w_hxi (fun v36 h37 h38 => ?_)
    exact r_ri rfl (po_I hst ⟨by omega, by omega⟩ ⟨rfl, rfl, rfl, by omega, by omega, (by exact ⟨_, by omega, hsn.2.1, hsn.2.2.1, hsn.2.2.2.2.2.1, hsn.2.2.2.2.2.2⟩)⟩)
/-- Tracer isPassed -/
abbrev S_94v  : mS := []
abbrev E_94v (a1 : Int) (z0 w0 : mZ) (x y tx it mt tt ct : Option Nat) : Int → mZ → mZ → mP → Prop := fun v z w p => p = (pq x y tx it mt tt ct) ∧ z0 = z ∧ w0 = w ∧ 0 ≤ v ∧ v ≤ 1 ∧ ((v = 1 → PB w0 a1.toNat))
theorem m_94v {d : Nat} {z0 w0 : mZ} {x y tx it mt tt ct : Option Nat} (a1 : Int) (hz : rz z0) (hw : rw_ w0) (ha1 : 0 ≤ a1 ∧ a1 ≤ 17999) : wc (d + 1) 94 [.ref 4, .int (Int32.ofInt a1)] (mk z0 w0 (pq x y tx it mt tt ct)) (poI S_94v z0 w0 (E_94v a1 z0 w0 x y tx it mt tt ct)) := by
  have hst : st_ S_94v z0 w0 z0 w0 := st_rf hz hw
  refine w_m rfl rfl ?_
  refine r_ld (pc' := 1) rfl rfl rfl rfl ?_
  refine r_gr (b := 5) (pc' := 4) rfl rfl sh_4 rfl pp_4_2 ?_
  refine r_ld (pc' := 5) rfl rfl rfl rfl ?_
  refine r_cb (pc' := 7) rfl (by decide) rfl ?_
  refine r_dv (pc' := 8) (v := a1 / 64) rfl rfl ⟨by omega, by omega⟩ ⟨by decide, by decide⟩ (by decide) (tdiv_n (by omega)) ?_
  have hb7 := rd_5 hw (i := (a1 / 64).toNat) (by omega)
  refine r_la (pc' := 9) rfl rfl sh_5 rfl (by omega) (by omega) rfl ?_
  refine r_ld (pc' := 10) rfl rfl rfl rfl ?_
  refine r_cb (pc' := 12) rfl (by decide) rfl ?_
  refine r_rm (pc' := 13) (v := a1 % 64) rfl rfl ⟨by omega, by omega⟩ ⟨by decide, by decide⟩ (by decide) (tmod_n (by omega)) ?_
  refine r_aLx (pc' := 14) rfl rfl rfl rfl (fun v8 h9 hbit13 => ?_)
  have h9i := h9
  unfold inL at h9
  refine r_lc1 (pc' := 15) rfl rfl ?_
  refine r_aLx (pc' := 16) rfl rfl rfl rfl (fun v10 h11 hbit15 => ?_)
  have h11i := h11
  unfold inL at h11
  refine r_lc0 (pc' := 17) rfl rfl ?_
  refine r_leq (pc' := 21) rfl rfl rfl ⟨by omega, by omega⟩ ⟨by decide, by decide⟩ (fun hc12 => ?_) (fun hc12 => ?_)
  · skip
    refine r_c0 (pc' := 26) rfl rfl ?_
    exact r_rz rfl (by omega) (po_I hst ⟨by decide, by decide⟩ ⟨rfl, rfl, rfl, by omega, by omega, (by first | (intro h; exfalso; omega) | (intro _; exact PB_r hbit13 hbit15 (by omega) (by omega) (by assumption)))⟩)
  · skip
    refine r_c0 (pc' := 22) rfl rfl ?_
    refine r_go rfl ?_
    exact r_rz rfl (by omega) (po_I hst ⟨by decide, by decide⟩ ⟨rfl, rfl, rfl, by omega, by omega, (by first | (intro h; exfalso; omega) | (intro _; exact PB_r hbit13 hbit15 (by omega) (by omega) (by assumption)))⟩)
/-- Tracer isSingle -/
abbrev S_96v  : mS := []
abbrev E_96v  (z0 w0 : mZ) (x y tx it mt tt ct : Option Nat) : Int → mZ → mZ → mP → Prop := fun v z w p => p = (pq x y tx it mt tt ct) ∧ z0 = z ∧ w0 = w ∧ 0 ≤ v ∧ v ≤ 1 ∧ ((v = 1 → z0 4 0 = 1))
theorem m_96v {d : Nat} {z0 w0 : mZ} {x y tx it mt tt ct : Option Nat}  (hz : rz z0) (hw : rw_ w0) : wc (d + 1) 96 [.ref 4] (mk z0 w0 (pq x y tx it mt tt ct)) (poI S_96v z0 w0 (E_96v  z0 w0 x y tx it mt tt ct)) := by
  have hst : st_ S_96v z0 w0 z0 w0 := st_rf hz hw
  have hz5 := rd_4_0 hz
  refine w_m rfl rfl ?_
  refine r_ld (pc' := 1) rfl rfl rfl rfl ?_
  have hb6 := rd_4_0 hz
  refine r_gi (pc' := 4) rfl rfl sh_4 rfl rfl ?_
  refine r_c0 (pc' := 5) rfl rfl ?_
  refine r_ine (pc' := 8) rfl rfl ⟨by omega, by omega⟩ ⟨by decide, by decide⟩ (fun hc7 => ?_) (fun hc7 => ?_)
  · skip
    refine r_c0 (pc' := 20) rfl rfl ?_
    exact r_rz rfl (by omega) (po_I hst ⟨by decide, by decide⟩ ⟨rfl, rfl, rfl, by omega, by omega, (by first | omega | assumption)⟩)
  · skip
    refine r_ld (pc' := 9) rfl rfl rfl rfl ?_
    have hb8 := rd_4_1 hz
    refine r_gi (pc' := 12) rfl rfl sh_4 rfl rfl ?_
    refine r_zne (pc' := 15) rfl rfl ⟨by omega, by omega⟩ (fun hc9 => ?_) (fun hc9 => ?_)
    · skip
      refine r_c0 (pc' := 20) rfl rfl ?_
      exact r_rz rfl (by omega) (po_I hst ⟨by decide, by decide⟩ ⟨rfl, rfl, rfl, by omega, by omega, (by first | omega | assumption)⟩)
    · skip
      refine r_c0 (pc' := 16) rfl rfl ?_
      refine r_go rfl ?_
      exact r_rz rfl (by omega) (po_I hst ⟨by decide, by decide⟩ ⟨rfl, rfl, rfl, by omega, by omega, (by first | omega | assumption)⟩)
/-- LoopGround copyRow -/
abbrev S_140 (q : Nat) : mS := [(q, q, 0, 17)]
abbrev E_140 (n : Nat) (q : Nat) (z0 w0 : mZ) (x y tx it mt tt ct : Option Nat) : mZ → mZ → mP → Prop := fun z w p => p = (pq x y tx it mt tt ct) ∧ (∀ e : Nat, e < 18 → w q e = w0 n e)
theorem m_140 {d : Nat} {z0 w0 : mZ} {x y tx it mt tt ct : Option Nat} (n : Nat) (q : Nat) (hz : rz z0) (hw : rw_ w0) (hnq : n ≠ q) (hn : lr n) (b15n : 15 ≤ n) (hq : lr q) (b15q : 15 ≤ q) (wq : wrr q) : wc (d + 1) 140 [.ref n, .ref q] (mk z0 w0 (pq x y tx it mt tt ct)) (poV (S_140 q) z0 w0 (E_140 n q z0 w0 x y tx it mt tt ct)) := by
  have hst : st_ (S_140 q) z0 w0 z0 w0 := st_rf hz hw
  have key : ∀ N : Nat, (∀ (x2 : Int) (z w : mZ), 0 ≤ x2 ∧ x2 ≤ 18 → st_ (S_140 q) z0 w0 z w → (∀ e : Nat, (e : Int) < x2 → w q e = w0 n e) → 14 * (18 - x2) + 11 < (N : Int) → wp_ (d) 140 3 none (2, [(0, .ref n), (1, .ref q), (2, .int (Int32.ofInt x2))], [], mk z w (pq x y tx it mt tt ct)) (poV (S_140 q) z0 w0 (E_140 n q z0 w0 x y tx it mt tt ct))) := by
    intro N
    induction N with
    | zero =>
      intro x2 z w
      intros; exfalso; omega
    | succ N ih =>
      have ih0 := ih; clear ih
      intro x2 z w  hx2 hst as1 hM
      have hwn : w n = w0 n := funext fun i => hst.2.2.2 _ _ (fun k => by simp only [S_140, inS, or_false] at k; omega)
      refine r_ld (pc' := 3) rfl rfl rfl rfl ?_
      refine r_cb (pc' := 5) rfl (by decide) rfl ?_
      refine r_ige (pc' := 8) rfl rfl ⟨by omega, by omega⟩ ⟨by decide, by decide⟩ (fun hc6 => ?_) (fun hc6 => ?_)
      · skip
        exact r_ret rfl (po_V hst ⟨rfl, (by exact fun e he => as1 e (by omega))⟩)
      · skip
        refine r_ld (pc' := 9) rfl rfl rfl rfl ?_
        refine r_ld (pc' := 10) rfl rfl rfl rfl ?_
        refine r_ld (pc' := 11) rfl rfl rfl rfl ?_
        refine r_ld (pc' := 12) rfl rfl rfl rfl ?_
        have hb7 := lr_rd hn hst.2.1 (i := x2.toNat) (by omega)
        refine r_la (pc' := 13) rfl rfl hn.1 rfl (by omega) (by omega) rfl ?_
        refine r_ls (pc' := 14) rfl rfl hq.1 rfl (by omega) (by omega) hst (inS_0 (by omega) (by omega) (by omega) (by omega)) (wrr_w wq ⟨by omega, by omega⟩) (fun w8 hq9 hs10 => ?_)
        have hqm := hq9
        refine r_inc (pc' := 17) (lv' := [(0, _), (1, _)]) rfl rfl rfl rfl rfl ?_
        refine r_go rfl ?_
        exact w_lv (sub_c rfl (sub_c rfl (sub_c rfl sub_n))) rfl (ih0 (x2 + 1) z w8 ⟨by omega, by omega⟩ hs10 (by first | (intro e he; exfalso; omega) | (intro e he; rw [hqm]; by_cases c : e = x2.toNat; (subst c; rw [mu_eq, hwn]); (rw [mu_ne (by omega)]; exact as1 e (by omega)))) (by omega))
  refine w_m rfl rfl ?_
  refine r_c0 (pc' := 1) rfl rfl ?_
  refine r_st (pc' := 2) (lv' := [(2, _), (0, _), (1, _)]) rfl rfl rfl rfl ?_
  exact w_lv (sub_c rfl (sub_c rfl (sub_c rfl sub_n))) rfl ((key ((14 * (18 - 0) + 11 : Int).toNat + 1)) 0 z0 w0 ⟨by omega, by omega⟩ hst (by first | (intro e he; exfalso; omega) | (intro e he; rw [hqm]; by_cases c : e = x2.toNat; (subst c; rw [mu_eq, hwn]); (rw [mu_ne (by omega)]; exact as1 e (by omega)))) (by omega))
/-- LoopGround total -/
abbrev S_142s  : mS := []
abbrev E_142s (n : Nat) (z0 w0 : mZ) (x y tx it mt tt ct : Option Nat) : Int → mZ → mZ → mP → Prop := fun v z w p => p = (pq x y tx it mt tt ct) ∧ z0 = z ∧ w0 = w ∧ 0 ≤ v ∧ v ≤ 1800000000000000 ∧ (v = sm (w0 n) 18)
theorem m_142s {d : Nat} {z0 w0 : mZ} {x y tx it mt tt ct : Option Nat} (n : Nat) (hz : rz z0) (hw : rw_ w0) (hn : lr n) (b15n : 15 ≤ n) (hnb : ∀ e : Nat, e < 18 → 0 ≤ w0 n e ∧ w0 n e ≤ 100000000000000) : wc (d + 1) 142 [.ref n] (mk z0 w0 (pq x y tx it mt tt ct)) (poL S_142s z0 w0 (E_142s n z0 w0 x y tx it mt tt ct)) := by
  have hst : st_ S_142s z0 w0 z0 w0 := st_rf hz hw
  have key : ∀ N : Nat, (∀ (x1 x3 : Int) , 0 ≤ x1 ∧ x1 ≤ 1800000000000000 → 0 ≤ x3 ∧ x3 ≤ 18 → (x1 = sm (w0 n) x3.toNat) → (0 ≤ x1 ∧ x1 ≤ 100000000000000 * x3) → 17 * (18 - x3) + 12 < (N : Int) → wp_ (d) 142 4 (some .long) (4, [(0, .ref n), (1, .long (Int64.ofInt x1)), (3, .int (Int32.ofInt x3))], [], mk z0 w0 (pq x y tx it mt tt ct)) (poL S_142s z0 w0 (E_142s n z0 w0 x y tx it mt tt ct))) := by
    intro N
    induction N with
    | zero =>
      intro x1 x3 
      intros; exfalso; omega
    | succ N ih =>
      have ih0 := ih; clear ih
      intro x1 x3  hx1 hx3 as1 as2 hM
      refine r_ld (pc' := 5) rfl rfl rfl rfl ?_
      refine r_cb (pc' := 7) rfl (by decide) rfl ?_
      refine r_ige (pc' := 10) rfl rfl ⟨by omega, by omega⟩ ⟨by decide, by decide⟩ (fun hc3 => ?_) (fun hc3 => ?_)
      · skip
        refine r_ld (pc' := 23) rfl rfl rfl rfl ?_
        exact r_rl rfl (po_L hst ⟨by omega, by omega⟩ ⟨rfl, rfl, rfl, by omega, by omega, (by rw [as1, show x3.toNat = 18 by omega])⟩)
      · skip
        refine r_ld (pc' := 11) rfl rfl rfl rfl ?_
        refine r_ld (pc' := 12) rfl rfl rfl rfl ?_
        refine r_ld (pc' := 13) rfl rfl rfl rfl ?_
        have hb4 := nb_rd hnb hw (i := x3.toNat) (by omega)
        refine r_la (pc' := 14) rfl rfl hn.1 rfl (by omega) (by omega) rfl ?_
        refine r_ladd (pc' := 15) rfl rfl ?_
        refine r_st (pc' := 16) (lv' := [(1, _), (0, _), (3, _)]) rfl rfl rfl rfl ?_
        refine r_inc (pc' := 19) (lv' := [(1, _), (0, _)]) rfl rfl rfl rfl rfl ?_
        refine r_go rfl ?_
        exact w_lv (sub_c rfl (sub_c rfl (sub_c rfl sub_n))) rfl (ih0 (x1 + (w0 n x3.toNat)) (x3 + 1) ⟨by omega, by omega⟩ ⟨by omega, by omega⟩ (by first | rfl | (rw [show (x3 + 1).toNat = x3.toNat + 1 by omega, sm_s]; omega)) (by first | omega | assumption) (by omega))
  refine w_m rfl rfl ?_
  refine r_lc0 (pc' := 1) rfl rfl ?_
  refine r_st (pc' := 2) (lv' := [(1, _), (0, _)]) rfl rfl rfl rfl ?_
  refine r_c0 (pc' := 3) rfl rfl ?_
  refine r_st (pc' := 4) (lv' := [(3, _), (1, _), (0, _)]) rfl rfl rfl rfl ?_
  exact w_lv (sub_c rfl (sub_c rfl (sub_c rfl sub_n))) rfl ((key ((17 * (18 - 0) + 12 : Int).toNat + 1)) 0 0 ⟨by omega, by omega⟩ ⟨by omega, by omega⟩ (by first | rfl | (rw [show (x3 + 1).toNat = x3.toNat + 1 by omega, sm_s]; omega)) (by first | omega | assumption) (by omega))
/-- Tracer load -/
abbrev S_86  : mS := [(4, 4, 8, 8), (7, 7, 0, 17), (6, 6, 0, 17)]
abbrev E_86 (t : Nat) (n : Nat) (z0 w0 : mZ) (x y tx it mt tt ct : Option Nat) : Int → mZ → mZ → mP → Prop := fun v z w p => p = (pq x y tx it mt (some t) ct) ∧ 0 ≤ v ∧ v ≤ 1 ∧ ((v = 1 → TL z t ∧ ∀ e : Nat, e < 18 → z 7 e = w0 n e))
theorem m_86 {d : Nat} {z0 w0 : mZ} {x y tx it mt tt ct : Option Nat} (t : Nat) (n : Nat) (hz : rz z0) (hw : rw_ w0) (ht : isT t) (hwt : WTt z0 t) (hft : FTt z0 t (w0 n)) (hn : lr n) (b15n : 15 ≤ n) (hnb : ∀ e : Nat, e < 18 → 0 ≤ w0 n e ∧ w0 n e ≤ 100000000000000) : wc (d + 2) 86 [.ref 4, .ref t, .ref n] (mk z0 w0 (pq x y tx it mt tt ct)) (poI S_86 z0 w0 (E_86 t n z0 w0 x y tx it mt tt ct)) := by
  have hst : st_ S_86 z0 w0 z0 w0 := st_rf hz hw
  have htb : 159 ≤ t ∧ t ≤ 192 := by have := ht; unfold isT at this; omega
  have key : ∀ N : Nat, (∀ (x5 : Int) (z w : mZ), 0 ≤ x5 ∧ x5 ≤ 18 → st_ S_86 z0 w0 z w → (∀ e : Nat, (e : Int) < x5 → z 7 e = w0 n e ∧ z 6 e = sm (w0 n) e) → (z 4 8 = sm (w0 n) x5.toNat) → (sm (w0 n) 18 ≤ 18000) → 47 * (18 - x5) + 29 < (N : Int) → wp_ (d + 1) 86 6 (some .boolean) (28, [(0, .ref 4), (2, .ref n), (5, .int (Int32.ofInt x5))], [], mk z w (pq x y tx it mt (some t) ct)) (poI S_86 z0 w0 (E_86 t n z0 w0 x y tx it mt tt ct))) := by
    intro N
    induction N with
    | zero =>
      intro x5 z w
      intros; exfalso; omega
    | succ N ih =>
      have ih0 := ih; clear ih
      intro x5 z w  hx5 hst as1 as2 as3 hM
      refine r_ld (pc' := 30) rfl rfl rfl rfl ?_
      refine r_cb (pc' := 32) rfl (by decide) rfl ?_
      refine r_ige (pc' := 35) rfl rfl ⟨by omega, by omega⟩ ⟨by decide, by decide⟩ (fun hc39 => ?_) (fun hc39 => ?_)
      · skip
        refine r_c0 (pc' := 81) rfl rfl ?_
        have hb40 := rd_T_0 ht hz
        have hf41 : z t 0 = z0 t 0 := (hst.2.2.1 _ _ (notS_c (by omega) (notS_c (by omega) (notS_c (by omega) notS_n))))
        have hb42 := rd_4_8 hst.1
        have hF43 : z (t + 1) = z0 (t + 1) := (funext fun _ => hst.2.2.1 _ _ (notS_c (by omega) (notS_c (by omega) (notS_c (by omega) notS_n))))
        exact r_rz rfl (by omega) (po_I hst ⟨by decide, by decide⟩ ⟨rfl, by omega, by omega, (by first | (intro h; exfalso; omega) | (intro _; exact ⟨TL_of hwt hft (by omega) (by simp only [hF43, hf41]) (fun e he => as1 e (by omega)) (by rw [as2, show x5.toNat = 18 by omega]), fun e he => (as1 e (by omega)).1⟩))⟩)
      · skip
        have hge := hnb x5.toNat (by omega)
        have hle := sm_le (f := w0 n) (k := x5.toNat + 1) 18 (by omega) (fun j hj => (hnb j hj).1)
        rw [sm_s] at hle
        have hnn := sm_nn (f := w0 n) x5.toNat (fun j hj => (hnb j (by omega)).1)
        refine r_ld (pc' := 36) rfl rfl rfl rfl ?_
        refine r_gr (b := 7) (pc' := 39) rfl rfl sh_4 rfl pp_4_4 ?_
        refine r_ld (pc' := 41) rfl rfl rfl rfl ?_
        refine r_ld (pc' := 42) rfl rfl rfl rfl ?_
        refine r_ld (pc' := 44) rfl rfl rfl rfl ?_
        have hb44 := nb_rd hnb hw (i := x5.toNat) (by omega)
        refine r_la (pc' := 45) rfl rfl hn.1 rfl (by omega) (by omega) (hst.2.2.2 _ _ (notS_c (by omega) (notS_c (by omega) (notS_c (by omega) notS_n)))) ?_
        refine r_l2i (pc' := 46) rfl rfl ?_
        refine w_hxi (fun v45 h46 h47 => ?_)
        refine r_is (pc' := 47) rfl rfl sh_7 rfl (by omega) (by omega) hst (inS_s (inS_0 (by omega) (by omega) (by omega) (by omega))) (wr_7 ⟨by omega, by omega⟩) (fun z48 hq49 hs50 => ?_)
        have hq7 := hq49
        refine r_ld (pc' := 48) rfl rfl rfl rfl ?_
        refine r_gr (b := 6) (pc' := 51) rfl rfl sh_4 rfl pp_4_3 ?_
        refine r_ld (pc' := 53) rfl rfl rfl rfl ?_
        refine r_ld (pc' := 54) rfl rfl rfl rfl ?_
        have hb51 := rd_4_8 hst.1
        refine r_gi (pc' := 57) rfl rfl sh_4 rfl ((congrFun (congrFun hq49 _) _).trans (mu_ne (by omega))) ?_
        refine r_is (pc' := 58) rfl rfl sh_6 rfl (by omega) (by omega) hs50 (inS_s (inS_s (inS_0 (by omega) (by omega) (by omega) (by omega)))) (wr_6 ⟨by omega, by omega⟩) (fun z52 hq53 hs54 => ?_)
        have hq6 := hq53
        refine r_ld (pc' := 59) rfl rfl rfl rfl ?_
        refine r_al (pc' := 60) rfl rfl rfl rfl ?_
        refine r_gi (pc' := 63) rfl rfl sh_4 rfl (((congrFun (congrFun hq53 _) _).trans (mu_ne (by omega))).trans ((congrFun (congrFun hq49 _) _).trans (mu_ne (by omega)))) ?_
        refine r_ld (pc' := 64) rfl rfl rfl rfl ?_
        refine r_gr (b := 7) (pc' := 67) rfl rfl sh_4 rfl pp_4_4 ?_
        refine r_ld (pc' := 69) rfl rfl rfl rfl ?_
        refine r_ia (pc' := 70) rfl rfl sh_7 rfl (by omega) (by omega) (((congrFun (congrFun hq53 _) _).trans (mu_ne (by omega))).trans ((congrFun (congrFun hq49 _) _).trans mu_eq)) ?_
        refine r_add (pc' := 71) rfl rfl ?_
        refine w_hxi (fun v55 h56 h57 => ?_)
        refine r_pi (pc' := 74) rfl rfl sh_4 rfl rfl hs54 (inS_0 (by omega) (by omega) (by omega) (by omega)) (wr_4_8 ⟨by omega, by omega⟩) (fun z58 hq59 hs60 => ?_)
        have hq4 := hq59
        refine r_inc (pc' := 77) (lv' := [(0, _), (2, _)]) rfl rfl rfl rfl rfl ?_
        refine r_go rfl ?_
        have hf61 : z58 4 8 = v55 := ((congrFun (congrFun hq59 _) _).trans mu_eq)
        exact w_lv (sub_c rfl (sub_c rfl (sub_c rfl sub_n))) rfl (ih0 (x5 + 1) z58 w ⟨by omega, by omega⟩ hs60 (by first | (intro e he; exfalso; omega) | (intro e he; by_cases c : e = x5.toNat; (subst c; exact ⟨by rw [hq4, mu_ne (by omega), hq6, mu_ne (by omega), hq7, mu_eq]; omega, by rw [hq4, mu_ne (by omega), hq6, mu_eq]; omega⟩); exact ⟨by rw [hq4, mu_ne (by omega), hq6, mu_ne (by omega), hq7, mu_ne (by omega)]; exact (as1 e (by omega)).1, by rw [hq4, mu_ne (by omega), hq6, mu_ne (by omega), hq7, mu_ne (by omega)]; exact (as1 e (by omega)).2⟩)) (by first | (rw [show (0 : Int).toNat = 0 from rfl]; show _ = (0 : Int); omega) | (rw [show (x5 + 1).toNat = x5.toNat + 1 by omega, sm_s]; omega)) (by omega) (by omega))
  refine w_m rfl rfl ?_
  refine r_ld (pc' := 1) rfl rfl rfl rfl ?_
  refine r_ld (pc' := 2) rfl rfl rfl rfl ?_
  refine r_pr (b := some t) (pc' := 5) rfl rfl sh_4 rfl rfl pq_u5 ?_
  refine r_ld (pc' := 6) rfl rfl rfl rfl ?_
  refine r_c0 (pc' := 7) rfl rfl ?_
  refine r_pi (pc' := 10) rfl rfl sh_4 rfl rfl hst (inS_0 (by omega) (by omega) (by omega) (by omega)) (wr_4_8 ⟨by omega, by omega⟩) (fun z62 hq63 hs64 => ?_)
  refine r_ld (pc' := 11) rfl rfl rfl rfl ?_
  refine r_cSL (pc' := 14) rfl rfl rfl rfl rfl (m_142s (d := d) n hs64.1 hs64.2.1 hn (by first | omega | assumption) (by first | omega | assumption)) (fun v65 z66 w67 p68 h69 hs70 hE71 => ?_)
  obtain ⟨rfl, rfl, rfl, hE71⟩ := hE71
  have htt := hE71
  refine r_st (pc' := 15) (lv' := [(3, _), (0, _), (1, _), (2, _)]) rfl rfl rfl rfl ?_
  refine r_ld (pc' := 16) rfl rfl rfl rfl ?_
  refine r_al (pc' := 19) rfl rfl rfl rfl ?_
  refine r_lle (pc' := 23) rfl rfl rfl ⟨by omega, by omega⟩ ⟨by decide, by decide⟩ (fun hc73 => ?_) (fun hc73 => ?_)
  · skip
    refine r_c0 (pc' := 26) rfl rfl ?_
    refine r_st (pc' := 28) (lv' := [(5, _), (3, _), (0, _), (1, _), (2, _)]) rfl rfl rfl rfl ?_
    have hf74 : z62 4 8 = 0 := ((congrFun (congrFun hq63 _) _).trans mu_eq)
    exact w_lv (sub_c rfl (sub_c rfl (sub_c rfl sub_n))) rfl ((key ((47 * (18 - 0) + 29 : Int).toNat + 1)) 0 z62 w0 ⟨by omega, by omega⟩ hs64 (by first | (intro e he; exfalso; omega) | (intro e he; by_cases c : e = x5.toNat; (subst c; exact ⟨by rw [hq4, mu_ne (by omega), hq6, mu_ne (by omega), hq7, mu_eq]; omega, by rw [hq4, mu_ne (by omega), hq6, mu_eq]; omega⟩); exact ⟨by rw [hq4, mu_ne (by omega), hq6, mu_ne (by omega), hq7, mu_ne (by omega)]; exact (as1 e (by omega)).1, by rw [hq4, mu_ne (by omega), hq6, mu_ne (by omega), hq7, mu_ne (by omega)]; exact (as1 e (by omega)).2⟩)) (by first | (rw [show (0 : Int).toNat = 0 from rfl]; show _ = (0 : Int); omega) | (rw [show (x5 + 1).toNat = x5.toNat + 1 by omega, sm_s]; omega)) (by omega) (by omega))
  · skip
    refine r_c0 (pc' := 24) rfl rfl ?_
    have hb75 := rd_T_0 ht hz
    have hf76 : z62 t 0 = z0 t 0 := ((congrFun (congrFun hq63 _) _).trans (mu_ne (by omega)))
    have hf77 : z62 4 8 = 0 := ((congrFun (congrFun hq63 _) _).trans mu_eq)
    have hF78 : z62 (t + 1) = z0 (t + 1) := ((congrFun hq63 _).trans (mu_fn (by omega)))
    exact r_rz rfl (by omega) (po_I hs64 ⟨by decide, by decide⟩ ⟨rfl, by omega, by omega, (by first | (intro h; exfalso; omega) | (intro _; exact ⟨TL_of hwt hft (by omega) (by simp only [hF78, hf76, hf77]) (fun e he => as1 e (by omega)) (by rw [as2, show x5.toNat = 18 by omega]), fun e he => (as1 e (by omega)).1⟩))⟩)
/-- Tracer step -/
abbrev S_91v  : mS := [(4, 4, 13, 13), (4, 4, 9, 9), (4, 4, 10, 10)]
abbrev E_91v (t : Nat) (z0 w0 : mZ) (x y tx it mt ct : Option Nat) : mZ → mZ → mP → Prop := fun z w p => p = (pq x y tx it mt (some t) ct) ∧ (VSt z0 t (z 4 9) (z 4 10) ∧ JNt z0 t (z0 4 9) (z0 4 10) (z 4 9) (z 4 10))
theorem m_91v {d : Nat} {z0 w0 : mZ} {x y tx it mt ct : Option Nat} (t : Nat) (hz : rz z0) (hw : rw_ w0) (ht : isT t) (hwt : WTt z0 t) (htl : TL z0 t) (hvs : VSt z0 t (z0 4 9) (z0 4 10)) : wc (d + 2) 91 [.ref 4] (mk z0 w0 (pq x y tx it mt (some t) ct)) (poV S_91v z0 w0 (E_91v t z0 w0 x y tx it mt ct)) := by
  have hst : st_ S_91v z0 w0 z0 w0 := st_rf hz hw
  have htb : 159 ≤ t ∧ t ≤ 192 := by have := ht; unfold isT at this; omega
  have hz104 := rd_4_10 hz
  have hz105 := rd_4_9 hz
  have hv3 := hvs.2.2
  have hv4 := rd_T1 ht hz (i := (z0 4 9).toNat) (by omega)
  have hv5 := rd_7 hz (i := (z0 (t + 1) (z0 4 9).toNat).toNat) (by omega)
  refine w_m rfl rfl ?_
  refine r_ld (pc' := 1) rfl rfl rfl rfl ?_
  refine r_gr (b := t) (pc' := 4) rfl rfl sh_4 rfl pp_4_7 ?_
  refine r_gr (b := t + 2) (pc' := 7) rfl rfl (sh_T ht) rfl (pp_T_6 ht) ?_
  refine r_ld (pc' := 8) rfl rfl rfl rfl ?_
  have hb106 := rd_4_9 hz
  refine r_gi (pc' := 11) rfl rfl sh_4 rfl rfl ?_
  have hb107 := rd_T2 ht hz (i := (z0 4 9).toNat) (by omega)
  refine r_ia (pc' := 12) rfl rfl (sh_T2 ht) rfl (by omega) (by omega) rfl ?_
  refine r_st (pc' := 13) (lv' := [(1, _), (0, _)]) rfl rfl rfl rfl ?_
  refine r_ld (pc' := 14) rfl rfl rfl rfl ?_
  refine r_ld (pc' := 15) rfl rfl rfl rfl ?_
  refine r_cVI (pc' := 18) rfl rfl rfl rfl rfl sh_4 (m_90v (d := d) t (z0 (t + 2) (z0 4 9).toNat) hst.1 hst.2.1 ⟨by omega, by omega⟩ ht) (fun v108 z109 w110 p111 h112 hs113 hE114 => ?_)
  obtain ⟨rfl, rfl, rfl, hE114⟩ := hE114
  have hc15 := hE114.2.2
  refine r_c0 (pc' := 19) rfl rfl ?_
  refine r_sub (pc' := 20) rfl rfl ?_
  refine r_ld (pc' := 21) rfl rfl rfl rfl ?_
  have hb116 := rd_4_10 hz
  refine r_gi (pc' := 24) rfl rfl sh_4 rfl rfl ?_
  refine r_sub (pc' := 25) rfl rfl ?_
  refine w_hxi (fun v117 h118 h119 => ?_)
  refine r_st (pc' := 26) (lv' := [(2, _), (1, _), (0, _)]) rfl rfl rfl rfl ?_
  refine r_ld (pc' := 27) rfl rfl rfl rfl ?_
  refine r_cSI (pc' := 30) rfl rfl rfl rfl rfl (m_144 (d := d) (z0 (t + 2) (z0 4 9).toNat) hst.1 hst.2.1 ⟨by omega, by omega⟩) (fun v120 z121 w122 p123 h124 hs125 hE126 => ?_)
  obtain ⟨rfl, rfl, rfl, hE126⟩ := hE126
  have ha27 := hE126.2.2
  refine r_st (pc' := 31) (lv' := [(3, _), (2, _), (1, _), (0, _)]) rfl rfl rfl rfl ?_
  refine r_ld (pc' := 32) rfl rfl rfl rfl ?_
  refine r_cSI (pc' := 35) rfl rfl rfl rfl rfl (m_143 (d := d) (z0 (t + 2) (z0 4 9).toNat) hst.1 hst.2.1 ⟨by omega, by omega⟩) (fun v128 z129 w130 p131 h132 hs133 hE134 => ?_)
  obtain ⟨rfl, rfl, rfl, hE134⟩ := hE134
  have hb32 := hE134.2.2
  refine r_st (pc' := 37) (lv' := [(4, _), (3, _), (2, _), (1, _), (0, _)]) rfl rfl rfl rfl ?_
  refine r_ld (pc' := 38) rfl rfl rfl rfl ?_
  refine r_ld (pc' := 39) rfl rfl rfl rfl ?_
  refine r_cVI (pc' := 42) rfl rfl rfl rfl rfl sh_4 (m_90v (d := d) t v120 hst.1 hst.2.1 ⟨by omega, by omega⟩ ht) (fun v136 z137 w138 p139 h140 hs141 hE142 => ?_)
  obtain ⟨rfl, rfl, rfl, hE142⟩ := hE142
  have hc39 := hE142.2.2
  refine r_ld (pc' := 43) rfl rfl rfl rfl ?_
  refine r_ld (pc' := 44) rfl rfl rfl rfl ?_
  refine r_cVI (pc' := 47) rfl rfl rfl rfl rfl sh_4 (m_90v (d := d) t (z0 (t + 2) (z0 4 9).toNat) hst.1 hst.2.1 ⟨by omega, by omega⟩ ht) (fun v144 z145 w146 p147 h148 hs149 hE150 => ?_)
  obtain ⟨rfl, rfl, rfl, hE150⟩ := hE150
  have hc44 := hE150.2.2
  refine r_add (pc' := 48) rfl rfl ?_
  refine r_ld (pc' := 49) rfl rfl rfl rfl ?_
  refine r_ld (pc' := 51) rfl rfl rfl rfl ?_
  refine r_cVI (pc' := 54) rfl rfl rfl rfl rfl sh_4 (m_90v (d := d) t v128 hst.1 hst.2.1 ⟨by omega, by omega⟩ ht) (fun v152 z153 w154 p155 h156 hs157 hE158 => ?_)
  obtain ⟨rfl, rfl, rfl, hE158⟩ := hE158
  have hc51 := hE158.2.2
  have hst_ := ST_ hwt htl.1 hvs hc15 ha27 hb32 hc39 hc51
  refine r_sub (pc' := 55) rfl rfl ?_
  refine r_c0 (pc' := 56) rfl rfl ?_
  refine r_dvg (pc' := 57) rfl rfl ⟨by omega, by omega⟩ ⟨by decide, by decide⟩ (by decide) (fun v160 h161 h162 => ?_)
  refine r_st (pc' := 59) (lv' := [(5, _), (4, _), (3, _), (2, _), (1, _), (0, _)]) rfl rfl rfl rfl ?_
  refine r_ld (pc' := 60) rfl rfl rfl rfl ?_
  refine r_ld (pc' := 61) rfl rfl rfl rfl ?_
  refine r_ld (pc' := 63) rfl rfl rfl rfl ?_
  refine r_ilt (pc' := 66) rfl rfl ⟨by omega, by omega⟩ ⟨by omega, by omega⟩ (fun hc163 => ?_) (fun hc163 => ?_)
  · skip
    refine r_c0 (pc' := 71) rfl rfl ?_
    refine r_pi (pc' := 74) rfl rfl sh_4 rfl (fit_b (by omega)) hst (inS_0 (by omega) (by omega) (by omega) (by omega)) (wr_4_13 ⟨by omega, by omega⟩) (fun z164 hq165 hs166 => ?_)
    refine r_ld (pc' := 75) rfl rfl rfl rfl ?_
    refine r_ld (pc' := 76) rfl rfl rfl rfl ?_
    refine r_gi (pc' := 79) rfl rfl sh_4 rfl ((congrFun (congrFun hq165 _) _).trans mu_eq) ?_
    refine r_zeq (pc' := 82) rfl rfl ⟨by decide, by decide⟩ (fun hc167 => ?_) (fun hc167 => ?_)
    · skip
      refine r_ld (pc' := 88) rfl rfl rfl rfl ?_
      refine r_pi (pc' := 91) rfl rfl sh_4 rfl rfl hs166 (inS_s (inS_0 (by omega) (by omega) (by omega) (by omega))) (wr_4_9 ⟨by omega, by omega⟩) (fun z168 hq169 hs170 => ?_)
      refine r_ld (pc' := 92) rfl rfl rfl rfl ?_
      refine r_ld (pc' := 93) rfl rfl rfl rfl ?_
      refine r_gi (pc' := 96) rfl rfl sh_4 rfl (((congrFun (congrFun hq169 _) _).trans (mu_ne (by omega))).trans ((congrFun (congrFun hq165 _) _).trans mu_eq)) ?_
      refine r_zeq (pc' := 99) rfl rfl ⟨by decide, by decide⟩ (fun hc171 => ?_) (fun hc171 => ?_)
      · skip
        refine r_ld (pc' := 108) rfl rfl rfl rfl ?_
        refine r_ld (pc' := 109) rfl rfl rfl rfl ?_
        refine r_cVI (pc' := 112) rfl rfl rfl rfl rfl sh_4 (m_90v (d := d) t v120 hs170.1 hs170.2.1 ⟨by omega, by omega⟩ ht) (fun v172 z173 w174 p175 h176 hs177 hE178 => ?_)
        obtain ⟨rfl, rfl, rfl, hE178⟩ := hE178
        have g7 : z168 7 = z0 7 := funext fun i => hs170.2.2.1 _ _ (notS_c (by omega) (notS_c (by omega) (notS_c (by omega) (notS_n))))
        have g1 : z168 (t + 1) = z0 (t + 1) := funext fun i => hs170.2.2.1 _ _ (notS_c (by omega) (notS_c (by omega) (notS_c (by omega) (notS_n))))
        have hcx := hE178.2.2
        rw [g7, g1] at hcx
        refine r_c0 (pc' := 113) rfl rfl ?_
        refine r_sub (pc' := 114) rfl rfl ?_
        refine r_ld (pc' := 115) rfl rfl rfl rfl ?_
        refine r_sub (pc' := 116) rfl rfl ?_
        refine w_hxi (fun v180 h181 h182 => ?_)
        refine r_pi (pc' := 119) rfl rfl sh_4 rfl rfl hs170 (inS_s (inS_s (inS_0 (by omega) (by omega) (by omega) (by omega)))) (wr_4_10 ⟨by omega, by omega⟩) (fun z183 hq184 hs185 => ?_)
        have hf186 : z183 4 9 = v120 := (((congrFun (congrFun hq184 _) _).trans (mu_ne (by omega))).trans ((congrFun (congrFun hq169 _) _).trans mu_eq))
        have hf187 : z183 4 10 = v180 := ((congrFun (congrFun hq184 _) _).trans mu_eq)
        exact r_ret rfl (po_V hs185 ⟨rfl, (by first | exact hst_.2.1 _ _ (by omega) (by omega) (by omega) | exact hst_.2.2 _ _ (by omega) (by omega) (by omega))⟩)
      · exfalso; omega
    · exfalso; omega
  · skip
    refine r_c0 (pc' := 67) rfl rfl ?_
    refine r_go rfl ?_
    refine r_pi (pc' := 74) rfl rfl sh_4 rfl (fit_b (by omega)) hst (inS_0 (by omega) (by omega) (by omega) (by omega)) (wr_4_13 ⟨by omega, by omega⟩) (fun z188 hq189 hs190 => ?_)
    refine r_ld (pc' := 75) rfl rfl rfl rfl ?_
    refine r_ld (pc' := 76) rfl rfl rfl rfl ?_
    refine r_gi (pc' := 79) rfl rfl sh_4 rfl ((congrFun (congrFun hq189 _) _).trans mu_eq) ?_
    refine r_zeq (pc' := 82) rfl rfl ⟨by decide, by decide⟩ (fun hc191 => ?_) (fun hc191 => ?_)
    · exfalso; omega
    · skip
      refine r_ld (pc' := 84) rfl rfl rfl rfl ?_
      refine r_go rfl ?_
      refine r_pi (pc' := 91) rfl rfl sh_4 rfl rfl hs190 (inS_s (inS_0 (by omega) (by omega) (by omega) (by omega))) (wr_4_9 ⟨by omega, by omega⟩) (fun z192 hq193 hs194 => ?_)
      refine r_ld (pc' := 92) rfl rfl rfl rfl ?_
      refine r_ld (pc' := 93) rfl rfl rfl rfl ?_
      refine r_gi (pc' := 96) rfl rfl sh_4 rfl (((congrFun (congrFun hq193 _) _).trans (mu_ne (by omega))).trans ((congrFun (congrFun hq189 _) _).trans mu_eq)) ?_
      refine r_zeq (pc' := 99) rfl rfl ⟨by decide, by decide⟩ (fun hc195 => ?_) (fun hc195 => ?_)
      · exfalso; omega
      · skip
        refine r_ld (pc' := 100) rfl rfl rfl rfl ?_
        refine r_ld (pc' := 101) rfl rfl rfl rfl ?_
        refine r_cVI (pc' := 104) rfl rfl rfl rfl rfl sh_4 (m_90v (d := d) t (z0 (t + 2) (z0 4 9).toNat) hs194.1 hs194.2.1 ⟨by omega, by omega⟩ ht) (fun v196 z197 w198 p199 h200 hs201 hE202 => ?_)
        obtain ⟨rfl, rfl, rfl, hE202⟩ := hE202
        have g7 : z192 7 = z0 7 := funext fun i => hs194.2.2.1 _ _ (notS_c (by omega) (notS_c (by omega) (notS_c (by omega) (notS_n))))
        have g1 : z192 (t + 1) = z0 (t + 1) := funext fun i => hs194.2.2.1 _ _ (notS_c (by omega) (notS_c (by omega) (notS_c (by omega) (notS_n))))
        have hcx := hE202.2.2
        rw [g7, g1] at hcx
        refine r_go rfl ?_
        refine r_c0 (pc' := 113) rfl rfl ?_
        refine r_sub (pc' := 114) rfl rfl ?_
        refine r_ld (pc' := 115) rfl rfl rfl rfl ?_
        refine r_sub (pc' := 116) rfl rfl ?_
        refine r_pi (pc' := 119) rfl rfl sh_4 rfl rfl hs194 (inS_s (inS_s (inS_0 (by omega) (by omega) (by omega) (by omega)))) (wr_4_10 ⟨by omega, by omega⟩) (fun z204 hq205 hs206 => ?_)
        have hf207 : z204 4 9 = v128 := (((congrFun (congrFun hq205 _) _).trans (mu_ne (by omega))).trans ((congrFun (congrFun hq193 _) _).trans mu_eq))
        have hf208 : z204 4 10 = (v196 - 1) - v117 := ((congrFun (congrFun hq205 _) _).trans mu_eq)
        exact r_ret rfl (po_V hs206 ⟨rfl, (by first | exact hst_.2.1 _ _ (by omega) (by omega) (by omega) | exact hst_.2.2 _ _ (by omega) (by omega) (by omega))⟩)
/-- Tracer closeLoop -/
abbrev S_95  : mS := [(5, 5, 0, 281), (4, 4, 13, 13), (4, 4, 9, 9), (4, 4, 10, 10)]
abbrev E_95 (t : Nat) (z0 w0 : mZ) (x y tx it mt ct : Option Nat) : Int → mZ → mZ → mP → Prop := fun v z w p => p = (pq x y tx it mt (some t) ct) ∧ 0 ≤ v ∧ v ≤ 1 ∧ (∀ (e0 : Nat) (i0 : Int), JCt z0 t (z0 4 9) (z0 4 10) e0 i0 → PS (z0 t 0) (z0 (t + 1)) (z0 (t + 5)) (z0 7) (PB w0) e0 i0 → PS (z0 t 0) (z0 (t + 1)) (z0 (t + 5)) (z0 7) (PB w) e0 i0)
theorem m_95 {d : Nat} {z0 w0 : mZ} {x y tx it mt ct : Option Nat} (t : Nat) (hz : rz z0) (hw : rw_ w0) (ht : isT t) (hwt : WTt z0 t) (htl : TL z0 t) (hvs : VSt z0 t (z0 4 9) (z0 4 10)) : wc (d + 3) 95 [.ref 4] (mk z0 w0 (pq x y tx it mt (some t) ct)) (poI S_95 z0 w0 (E_95 t z0 w0 x y tx it mt ct)) := by
  have hst : st_ S_95 z0 w0 z0 w0 := st_rf hz hw
  have htb : 159 ≤ t ∧ t ≤ 192 := by have := ht; unfold isT at this; omega
  have hz59 := rd_4_10 hz
  have hz60 := rd_4_9 hz
  have hz61 := rd_T_0 ht hz
  have key : ∀ N : Nat, (∀ (x1 x2 x3 : Int) (z w : mZ), 0 ≤ x1 ∧ x1 ≤ 1 → 0 ≤ x2 ∧ x2 ≤ 1 → 0 ≤ x3 ∧ x3 ≤ 18000 → st_ S_95 z0 w0 z w → (VSt z0 t (z 4 9) (z 4 10)) → (∀ (e0 : Nat) (i0 : Int), JCt z0 t (z0 4 9) (z0 4 10) e0 i0 → PS (z0 t 0) (z0 (t + 1)) (z0 (t + 5)) (z0 7) (PB w0) e0 i0 → JCt z0 t (z 4 9) (z 4 10) e0 i0 ∧ PS (z0 t 0) (z0 (t + 1)) (z0 (t + 5)) (z0 7) (PB w) e0 i0) → 60 * (18000 - x3) + 53 < (N : Int) → wp_ (d + 2) 95 5 (some .boolean) (6, [(0, .ref 4), (1, .int (Int32.ofInt x1)), (2, .int (Int32.ofInt x2)), (3, .int (Int32.ofInt x3))], [], mk z w (pq x y tx it mt (some t) ct)) (poI S_95 z0 w0 (E_95 t z0 w0 x y tx it mt ct))) ∧ (∀ (x2 x3 : Int) (z w : mZ), 0 ≤ x2 ∧ x2 ≤ 1 → 0 ≤ x3 ∧ x3 ≤ 17999 → 1 ≤ z0 4 8 ∧ z0 4 8 ≤ 18000 → st_ S_95 z0 w0 z w → (VSt z0 t (z 4 9) (z 4 10)) → (∀ (e0 : Nat) (i0 : Int), JCt z0 t (z0 4 9) (z0 4 10) e0 i0 → PS (z0 t 0) (z0 (t + 1)) (z0 (t + 5)) (z0 7) (PB w0) e0 i0 → JCt z0 t (z 4 9) (z 4 10) e0 i0 ∧ PS (z0 t 0) (z0 (t + 1)) (z0 (t + 5)) (z0 7) (PB w) e0 i0) → 60 * (18000 - x3) + 24 < (N : Int) → wp_ (d + 2) 95 5 (some .boolean) (55, [(0, .ref 4), (2, .int (Int32.ofInt x2)), (3, .int (Int32.ofInt x3))], [], mk z w (pq x y tx it mt (some t) ct)) (poI S_95 z0 w0 (E_95 t z0 w0 x y tx it mt ct))) ∧ (∀ (x1 x3 : Int) (z w : mZ), 0 ≤ x1 ∧ x1 ≤ 1 → 0 ≤ x3 ∧ x3 ≤ 17999 → 1 ≤ z0 4 8 ∧ z0 4 8 ≤ 18000 → st_ S_95 z0 w0 z w → (VSt z0 t (z 4 9) (z 4 10)) → (∀ (e0 : Nat) (i0 : Int), JCt z0 t (z0 4 9) (z0 4 10) e0 i0 → PS (z0 t 0) (z0 (t + 1)) (z0 (t + 5)) (z0 7) (PB w0) e0 i0 → JCt z0 t (z 4 9) (z 4 10) e0 i0 ∧ PS (z0 t 0) (z0 (t + 1)) (z0 (t + 5)) (z0 7) (PB w) e0 i0) → 60 * (18000 - x3) + 15 < (N : Int) → wp_ (d + 2) 95 5 (some .boolean) (72, [(0, .ref 4), (1, .int (Int32.ofInt x1)), (3, .int (Int32.ofInt x3))], [], mk z w (pq x y tx it mt (some t) ct)) (poI S_95 z0 w0 (E_95 t z0 w0 x y tx it mt ct))) ∧ (∀ (x1 x2 : Int) (z w : mZ), 0 ≤ x1 ∧ x1 ≤ 1 → 0 ≤ x2 ∧ x2 ≤ 1 → st_ S_95 z0 w0 z w → (∀ (e0 : Nat) (i0 : Int), JCt z0 t (z0 4 9) (z0 4 10) e0 i0 → PS (z0 t 0) (z0 (t + 1)) (z0 (t + 5)) (z0 7) (PB w0) e0 i0 → PS (z0 t 0) (z0 (t + 1)) (z0 (t + 5)) (z0 7) (PB w) e0 i0) → 6 < (N : Int) → wp_ (d + 2) 95 5 (some .boolean) (94, [(1, .int (Int32.ofInt x1)), (2, .int (Int32.ofInt x2))], [], mk z w (pq x y tx it mt (some t) ct)) (poI S_95 z0 w0 (E_95 t z0 w0 x y tx it mt ct))) := by
    intro N
    induction N with
    | zero =>
      refine ⟨?_, ?_, ?_, ?_⟩
      · intro x1 x2 x3 z w
        intros; exfalso; omega
      · intro x2 x3 z w
        intros; exfalso; omega
      · intro x1 x3 z w
        intros; exfalso; omega
      · intro x1 x2 z w
        intros; exfalso; omega
    | succ N ih =>
      obtain ⟨ih0, ih1, ih2, ih3⟩ := ih
      refine ⟨?_, ?_, ?_, ?_⟩
      · intro x1 x2 x3 z w  hx1 hx2 hx3 hst as1 as2 hM
        have e1 : z (t + 1) = z0 (t + 1) := funext fun i => hst.2.2.1 _ _ (notS_c (by omega) (notS_c (by omega) (notS_c (by omega) (notS_c (by omega) (notS_n)))))
        have e5 : z (t + 5) = z0 (t + 5) := funext fun i => hst.2.2.1 _ _ (notS_c (by omega) (notS_c (by omega) (notS_c (by omega) (notS_c (by omega) (notS_n)))))
        have e7 : z 7 = z0 7 := funext fun i => hst.2.2.1 _ _ (notS_c (by omega) (notS_c (by omega) (notS_c (by omega) (notS_c (by omega) (notS_n)))))
        have e0 : z t 0 = z0 t 0 := hst.2.2.1 _ _ (notS_c (by omega) (notS_c (by omega) (notS_c (by omega) (notS_c (by omega) (notS_n)))))
        refine r_ld (pc' := 7) rfl rfl rfl rfl ?_
        refine r_ld (pc' := 8) rfl rfl rfl rfl ?_
        have hb62 := rd_4_8 hz
        refine r_gi (pc' := 11) rfl rfl sh_4 rfl (hst.2.2.1 _ _ (notS_c (by omega) (notS_c (by omega) (notS_c (by omega) (notS_c (by omega) notS_n))))) ?_
        refine r_ige (pc' := 14) rfl rfl ⟨by omega, by omega⟩ ⟨by omega, by omega⟩ (fun hc63 => ?_) (fun hc63 => ?_)
        · skip
          exact w_lv (sub_c rfl (sub_c rfl sub_n)) rfl (ih3 x1 x2 z w ⟨by omega, by omega⟩ ⟨by omega, by omega⟩ hst (by first | exact fun e0 i0 j p => (as2 e0 i0 j p).2) (by omega))
        · skip
          refine r_ld (pc' := 15) rfl rfl rfl rfl ?_
          have hb64 := rd_4_9 hst.1
          have hb65 := rd_4_10 hst.1
          have hF66 : z 7 = z0 7 := (funext fun _ => hst.2.2.1 _ _ (notS_c (by omega) (notS_c (by omega) (notS_c (by omega) (notS_c (by omega) notS_n)))))
          have hF67 : z (t + 1) = z0 (t + 1) := (funext fun _ => hst.2.2.1 _ _ (notS_c (by omega) (notS_c (by omega) (notS_c (by omega) (notS_c (by omega) notS_n)))))
          have hF68 : z (t + 5) = z0 (t + 5) := (funext fun _ => hst.2.2.1 _ _ (notS_c (by omega) (notS_c (by omega) (notS_c (by omega) (notS_c (by omega) notS_n)))))
          refine r_cVI (pc' := 18) rfl rfl rfl rfl rfl sh_4 (m_92v (d := d + 1) t hst.1 hst.2.1 ht (by exact WTt_f hst (notS_c (by omega) (notS_c (by omega) (notS_c (by omega) (notS_c (by omega) (notS_n))))) (notS_c (by omega) (notS_c (by omega) (notS_c (by omega) (notS_c (by omega) (notS_n))))) (fun i => (notS_c (by omega) (notS_c (by omega) (notS_c (by omega) (notS_c (by omega) (notS_n)))))) (fun i => (notS_c (by omega) (notS_c (by omega) (notS_c (by omega) (notS_c (by omega) (notS_n)))))) (fun i => (notS_c (by omega) (notS_c (by omega) (notS_c (by omega) (notS_c (by omega) (notS_n)))))) hwt) (by exact TL_f hst (notS_c (by omega) (notS_c (by omega) (notS_c (by omega) (notS_c (by omega) (notS_n))))) (notS_c (by omega) (notS_c (by omega) (notS_c (by omega) (notS_c (by omega) (notS_n))))) (fun i => (notS_c (by omega) (notS_c (by omega) (notS_c (by omega) (notS_c (by omega) (notS_n)))))) (fun i => (notS_c (by omega) (notS_c (by omega) (notS_c (by omega) (notS_c (by omega) (notS_n)))))) (fun i => (notS_c (by omega) (notS_c (by omega) (notS_c (by omega) (notS_c (by omega) (notS_n)))))) htl) (by simp only [VSt, e0, e1, e7]; exact as1)) (fun v69 z70 w71 p72 h73 hs74 hE75 => ?_)
          obtain ⟨rfl, rfl, rfl, hE75⟩ := hE75
          obtain ⟨kk, hk1, hk2, hk3, hk4, hk5⟩ := hE75.2.2
          rw [e1, e7] at hk1 hk3 hk5; rw [e1] at hk4; rw [e5] at hk5
          refine r_st (pc' := 20) (lv' := [(4, _), (0, _), (1, _), (2, _), (3, _)]) rfl rfl rfl rfl ?_
          refine r_ld (pc' := 21) rfl rfl rfl rfl ?_
          refine r_gr (b := 5) (pc' := 24) rfl rfl sh_4 rfl pp_4_2 ?_
          refine r_ld (pc' := 26) rfl rfl rfl rfl ?_
          refine r_cb (pc' := 28) rfl (by decide) rfl ?_
          refine r_dv (pc' := 29) (v := v69 / 64) rfl rfl ⟨by omega, by omega⟩ ⟨by decide, by decide⟩ (by decide) (tdiv_n (by omega)) ?_
          refine r_al (pc' := 30) rfl rfl rfl rfl ?_
          have hb77 := rd_5 hst.2.1 (i := (v69 / 64).toNat) (by omega)
          refine r_la (pc' := 31) rfl rfl sh_5 rfl (by omega) (by omega) rfl ?_
          refine r_lc1 (pc' := 32) rfl rfl ?_
          refine r_ld (pc' := 34) rfl rfl rfl rfl ?_
          refine r_cb (pc' := 36) rfl (by decide) rfl ?_
          refine r_rm (pc' := 37) (v := v69 % 64) rfl rfl ⟨by omega, by omega⟩ ⟨by decide, by decide⟩ (by decide) (tmod_n (by omega)) ?_
          refine r_aLx (pc' := 38) rfl rfl rfl rfl (fun v78 h79 hbit37 => ?_)
          have h79i := h79
          unfold inL at h79
          refine r_aLx (pc' := 39) rfl rfl rfl rfl (fun v80 h81 hbit38 => ?_)
          have h81i := h81
          unfold inL at h81
          refine r_ls (pc' := 40) rfl rfl sh_5 rfl (by omega) (by omega) hst (inS_0 (by omega) (by omega) (by omega) (by omega)) (wr_5 ⟨by omega, by omega⟩) (fun w82 hq83 hs84 => ?_)
          have hqm := hq83
          refine r_ld (pc' := 41) rfl rfl rfl rfl ?_
          refine r_cVV (pc' := 44) rfl rfl rfl rfl rfl sh_4 (m_91v (d := d) t hs84.1 hs84.2.1 ht (by exact WTt_f hs84 (notS_c (by omega) (notS_c (by omega) (notS_c (by omega) (notS_c (by omega) (notS_n))))) (notS_c (by omega) (notS_c (by omega) (notS_c (by omega) (notS_c (by omega) (notS_n))))) (fun i => (notS_c (by omega) (notS_c (by omega) (notS_c (by omega) (notS_c (by omega) (notS_n)))))) (fun i => (notS_c (by omega) (notS_c (by omega) (notS_c (by omega) (notS_c (by omega) (notS_n)))))) (fun i => (notS_c (by omega) (notS_c (by omega) (notS_c (by omega) (notS_c (by omega) (notS_n)))))) hwt) (by exact TL_f hs84 (notS_c (by omega) (notS_c (by omega) (notS_c (by omega) (notS_c (by omega) (notS_n))))) (notS_c (by omega) (notS_c (by omega) (notS_c (by omega) (notS_c (by omega) (notS_n))))) (fun i => (notS_c (by omega) (notS_c (by omega) (notS_c (by omega) (notS_c (by omega) (notS_n)))))) (fun i => (notS_c (by omega) (notS_c (by omega) (notS_c (by omega) (notS_c (by omega) (notS_n)))))) (fun i => (notS_c (by omega) (notS_c (by omega) (notS_c (by omega) (notS_c (by omega) (notS_n)))))) htl) (by simp only [VSt, e0, e1, e7]; exact as1)) (fun z86 w87 p88 hs90 hE91 => ?_)
          have hs92 := st_tr hs84 hs90 (sub_B rfl)
          obtain ⟨rfl, hE91⟩ := hE91
          have hse := hE91
          simp only [VSt, JNt, e0, e1, e5, e7] at hse
          refine r_ld (pc' := 45) rfl rfl rfl rfl ?_
          refine r_zne (pc' := 48) rfl rfl ⟨by omega, by omega⟩ (fun hc93 => ?_) (fun hc93 => ?_)
          · skip
            have hb94 := rd_4_9 hs92.1
            have hb95 := rd_4_10 hs92.1
            exact w_lv (sub_c rfl (sub_c rfl (sub_c rfl sub_n))) rfl (ih1 x2 x3 z86 w87 ⟨by omega, by omega⟩ ⟨by omega, by omega⟩ ⟨by omega, by omega⟩ hs92 (by first | exact hse.1 | exact as1 | (simp only []; exact as1) | exact hvs) (by first | exact as2 | exact fun e0 i0 j p => ⟨j, p⟩ | (intro e0 i0 j p; obtain ⟨j1, p1⟩ := as2 e0 i0 j p; refine ⟨fun A c => ((hse.2 A c).symm.trans (j1 A c)), ?_⟩; exact PS_m htl.1.1 p1 hk4 hk2 hk3 (fun A c => (hk5 A).symm.trans (j1 A c)) (fun k q => (PB_w hqm hbit38 hbit37 (by omega) k (PB_c (fun j => (hs90.2.2.2 _ _ (notS_c (by omega) (notS_c (by omega) (notS_c (by omega) notS_n))))) q)).imp id (fun r => r.trans (by rw [hk1]))))) (by omega))
          · skip
            refine r_ld (pc' := 49) rfl rfl rfl rfl ?_
            have hb96 := rd_4_13 hs92.1
            refine r_gi (pc' := 52) rfl rfl sh_4 rfl rfl ?_
            refine r_zeq (pc' := 55) rfl rfl ⟨by omega, by omega⟩ (fun hc97 => ?_) (fun hc97 => ?_)
            · skip
              refine r_c0 (pc' := 60) rfl rfl ?_
              refine r_st (pc' := 61) (lv' := [(1, _), (4, _), (0, _), (2, _), (3, _)]) rfl rfl rfl rfl ?_
              refine r_ld (pc' := 62) rfl rfl rfl rfl ?_
              refine r_zne (pc' := 65) rfl rfl ⟨by omega, by omega⟩ (fun hc98 => ?_) (fun hc98 => ?_)
              · skip
                have hb99 := rd_4_9 hs92.1
                have hb100 := rd_4_10 hs92.1
                exact w_lv (sub_c rfl (sub_c rfl (sub_c rfl sub_n))) rfl (ih2 0 x3 z86 w87 ⟨by omega, by omega⟩ ⟨by omega, by omega⟩ ⟨by omega, by omega⟩ hs92 (by first | exact hse.1 | exact as1 | (simp only []; exact as1) | exact hvs) (by first | exact as2 | exact fun e0 i0 j p => ⟨j, p⟩ | (intro e0 i0 j p; obtain ⟨j1, p1⟩ := as2 e0 i0 j p; refine ⟨fun A c => ((hse.2 A c).symm.trans (j1 A c)), ?_⟩; exact PS_m htl.1.1 p1 hk4 hk2 hk3 (fun A c => (hk5 A).symm.trans (j1 A c)) (fun k q => (PB_w hqm hbit38 hbit37 (by omega) k (PB_c (fun j => (hs90.2.2.2 _ _ (notS_c (by omega) (notS_c (by omega) (notS_c (by omega) notS_n))))) q)).imp id (fun r => r.trans (by rw [hk1]))))) (by omega))
              · skip
                refine r_ld (pc' := 66) rfl rfl rfl rfl ?_
                refine r_gi (pc' := 69) rfl rfl sh_4 rfl rfl ?_
                refine r_zne (pc' := 72) rfl rfl ⟨by omega, by omega⟩ (fun hc101 => ?_) (fun hc101 => ?_)
                · exfalso; omega
                · skip
                  have hb102 := rd_4_9 hs92.1
                  have hb103 := rd_4_10 hs92.1
                  exact w_lv (sub_c rfl (sub_c rfl (sub_c rfl sub_n))) rfl (ih2 0 x3 z86 w87 ⟨by omega, by omega⟩ ⟨by omega, by omega⟩ ⟨by omega, by omega⟩ hs92 (by first | exact hse.1 | exact as1 | (simp only []; exact as1) | exact hvs) (by first | exact as2 | exact fun e0 i0 j p => ⟨j, p⟩ | (intro e0 i0 j p; obtain ⟨j1, p1⟩ := as2 e0 i0 j p; refine ⟨fun A c => ((hse.2 A c).symm.trans (j1 A c)), ?_⟩; exact PS_m htl.1.1 p1 hk4 hk2 hk3 (fun A c => (hk5 A).symm.trans (j1 A c)) (fun k q => (PB_w hqm hbit38 hbit37 (by omega) k (PB_c (fun j => (hs90.2.2.2 _ _ (notS_c (by omega) (notS_c (by omega) (notS_c (by omega) notS_n))))) q)).imp id (fun r => r.trans (by rw [hk1]))))) (by omega))
            · skip
              have hb104 := rd_4_9 hs92.1
              have hb105 := rd_4_10 hs92.1
              exact w_lv (sub_c rfl (sub_c rfl (sub_c rfl sub_n))) rfl (ih1 x2 x3 z86 w87 ⟨by omega, by omega⟩ ⟨by omega, by omega⟩ ⟨by omega, by omega⟩ hs92 (by first | exact hse.1 | exact as1 | (simp only []; exact as1) | exact hvs) (by first | exact as2 | exact fun e0 i0 j p => ⟨j, p⟩ | (intro e0 i0 j p; obtain ⟨j1, p1⟩ := as2 e0 i0 j p; refine ⟨fun A c => ((hse.2 A c).symm.trans (j1 A c)), ?_⟩; exact PS_m htl.1.1 p1 hk4 hk2 hk3 (fun A c => (hk5 A).symm.trans (j1 A c)) (fun k q => (PB_w hqm hbit38 hbit37 (by omega) k (PB_c (fun j => (hs90.2.2.2 _ _ (notS_c (by omega) (notS_c (by omega) (notS_c (by omega) notS_n))))) q)).imp id (fun r => r.trans (by rw [hk1]))))) (by omega))
      · intro x2 x3 z w  hx2 hx3 hz0_0 hst as1 as2 hM
        refine r_c0 (pc' := 56) rfl rfl ?_
        refine r_go rfl ?_
        refine r_st (pc' := 61) (lv' := [(1, _), (0, _), (2, _), (3, _)]) rfl rfl rfl rfl ?_
        refine r_ld (pc' := 62) rfl rfl rfl rfl ?_
        refine r_zne (pc' := 65) rfl rfl ⟨by omega, by omega⟩ (fun hc106 => ?_) (fun hc106 => ?_)
        · skip
          have hb107 := rd_4_9 hst.1
          have hb108 := rd_4_10 hst.1
          exact w_lv (sub_c rfl (sub_c rfl (sub_c rfl sub_n))) rfl (ih2 1 x3 z w ⟨by omega, by omega⟩ ⟨by omega, by omega⟩ ⟨by omega, by omega⟩ hst (by first | exact hse.1 | exact as1 | (simp only []; exact as1) | exact hvs) (by first | exact as2 | exact fun e0 i0 j p => ⟨j, p⟩ | (intro e0 i0 j p; obtain ⟨j1, p1⟩ := as2 e0 i0 j p; refine ⟨fun A c => ((hse.2 A c).symm.trans (j1 A c)), ?_⟩; exact PS_m htl.1.1 p1 hk4 hk2 hk3 (fun A c => (hk5 A).symm.trans (j1 A c)) (fun k q => (PB_w hqm hbit38 hbit37 (by omega) k (PB_c (fun j => NOMARK) q)).imp id (fun r => r.trans (by rw [hk1]))))) (by omega))
        · skip
          refine r_ld (pc' := 66) rfl rfl rfl rfl ?_
          have hb109 := rd_4_13 hst.1
          refine r_gi (pc' := 69) rfl rfl sh_4 rfl rfl ?_
          refine r_zne (pc' := 72) rfl rfl ⟨by omega, by omega⟩ (fun hc110 => ?_) (fun hc110 => ?_)
          · skip
            refine r_c0 (pc' := 77) rfl rfl ?_
            refine r_st (pc' := 78) (lv' := [(2, _), (1, _), (0, _), (3, _)]) rfl rfl rfl rfl ?_
            refine r_ld (pc' := 79) rfl rfl rfl rfl ?_
            refine r_cVI (pc' := 82) rfl rfl rfl rfl rfl sh_4 (m_89 (d := d + 1)  hst.1 hst.2.1 ) (fun v111 z112 w113 p114 h115 hs116 hE117 => ?_)
            obtain ⟨rfl, rfl, rfl, hE117⟩ := hE117
            refine r_zeq (pc' := 85) rfl rfl ⟨by omega, by omega⟩ (fun hc119 => ?_) (fun hc119 => ?_)
            · skip
              refine r_inc (pc' := 91) (lv' := [(2, _), (1, _), (0, _)]) rfl rfl rfl rfl rfl ?_
              refine r_go rfl ?_
              have hb120 := rd_4_9 hst.1
              have hb121 := rd_4_10 hst.1
              exact w_lv (sub_c rfl (sub_c rfl (sub_c rfl (sub_c rfl sub_n)))) rfl (ih0 1 0 (x3 + 1) z w ⟨by omega, by omega⟩ ⟨by omega, by omega⟩ ⟨by omega, by omega⟩ hst (by first | exact hse.1 | exact as1 | (simp only []; exact as1) | exact hvs) (by first | exact as2 | exact fun e0 i0 j p => ⟨j, p⟩ | (intro e0 i0 j p; obtain ⟨j1, p1⟩ := as2 e0 i0 j p; refine ⟨fun A c => ((hse.2 A c).symm.trans (j1 A c)), ?_⟩; exact PS_m htl.1.1 p1 hk4 hk2 hk3 (fun A c => (hk5 A).symm.trans (j1 A c)) (fun k q => (PB_w hqm hbit38 hbit37 (by omega) k (PB_c (fun j => NOMARK) q)).imp id (fun r => r.trans (by rw [hk1]))))) (by omega))
            · skip
              refine r_go rfl ?_
              exact w_lv (sub_c rfl (sub_c rfl sub_n)) rfl (ih3 1 0 z w ⟨by omega, by omega⟩ ⟨by omega, by omega⟩ hst (by first | exact fun e0 i0 j p => (as2 e0 i0 j p).2) (by omega))
          · skip
            have hb122 := rd_4_9 hst.1
            have hb123 := rd_4_10 hst.1
            exact w_lv (sub_c rfl (sub_c rfl (sub_c rfl sub_n))) rfl (ih2 1 x3 z w ⟨by omega, by omega⟩ ⟨by omega, by omega⟩ ⟨by omega, by omega⟩ hst (by first | exact hse.1 | exact as1 | (simp only []; exact as1) | exact hvs) (by first | exact as2 | exact fun e0 i0 j p => ⟨j, p⟩ | (intro e0 i0 j p; obtain ⟨j1, p1⟩ := as2 e0 i0 j p; refine ⟨fun A c => ((hse.2 A c).symm.trans (j1 A c)), ?_⟩; exact PS_m htl.1.1 p1 hk4 hk2 hk3 (fun A c => (hk5 A).symm.trans (j1 A c)) (fun k q => (PB_w hqm hbit38 hbit37 (by omega) k (PB_c (fun j => NOMARK) q)).imp id (fun r => r.trans (by rw [hk1]))))) (by omega))
      · intro x1 x3 z w  hx1 hx3 hz0_0 hst as1 as2 hM
        refine r_c0 (pc' := 73) rfl rfl ?_
        refine r_go rfl ?_
        refine r_st (pc' := 78) (lv' := [(2, _), (0, _), (1, _), (3, _)]) rfl rfl rfl rfl ?_
        refine r_ld (pc' := 79) rfl rfl rfl rfl ?_
        refine r_cVI (pc' := 82) rfl rfl rfl rfl rfl sh_4 (m_89 (d := d + 1)  hst.1 hst.2.1 ) (fun v124 z125 w126 p127 h128 hs129 hE130 => ?_)
        obtain ⟨rfl, rfl, rfl, hE130⟩ := hE130
        refine r_zeq (pc' := 85) rfl rfl ⟨by omega, by omega⟩ (fun hc132 => ?_) (fun hc132 => ?_)
        · skip
          refine r_inc (pc' := 91) (lv' := [(2, _), (0, _), (1, _)]) rfl rfl rfl rfl rfl ?_
          refine r_go rfl ?_
          have hb133 := rd_4_9 hst.1
          have hb134 := rd_4_10 hst.1
          exact w_lv (sub_c rfl (sub_c rfl (sub_c rfl (sub_c rfl sub_n)))) rfl (ih0 x1 1 (x3 + 1) z w ⟨by omega, by omega⟩ ⟨by omega, by omega⟩ ⟨by omega, by omega⟩ hst (by first | exact hse.1 | exact as1 | (simp only []; exact as1) | exact hvs) (by first | exact as2 | exact fun e0 i0 j p => ⟨j, p⟩ | (intro e0 i0 j p; obtain ⟨j1, p1⟩ := as2 e0 i0 j p; refine ⟨fun A c => ((hse.2 A c).symm.trans (j1 A c)), ?_⟩; exact PS_m htl.1.1 p1 hk4 hk2 hk3 (fun A c => (hk5 A).symm.trans (j1 A c)) (fun k q => (PB_w hqm hbit38 hbit37 (by omega) k (PB_c (fun j => NOMARK) q)).imp id (fun r => r.trans (by rw [hk1]))))) (by omega))
        · skip
          refine r_go rfl ?_
          exact w_lv (sub_c rfl (sub_c rfl sub_n)) rfl (ih3 x1 1 z w ⟨by omega, by omega⟩ ⟨by omega, by omega⟩ hst (by first | exact fun e0 i0 j p => (as2 e0 i0 j p).2) (by omega))
      · intro x1 x2 z w  hx1 hx2 hst as2 hM
        refine r_ld (pc' := 95) rfl rfl rfl rfl ?_
        refine r_ld (pc' := 96) rfl rfl rfl rfl ?_
        refine r_ieq (pc' := 99) rfl rfl ⟨by omega, by omega⟩ ⟨by omega, by omega⟩ (fun hc135 => ?_) (fun hc135 => ?_)
        · skip
          refine r_c0 (pc' := 104) rfl rfl ?_
          exact r_rz rfl (by omega) (po_I hst ⟨by decide, by decide⟩ ⟨rfl, by omega, by omega, (by exact as2)⟩)
        · skip
          refine r_c0 (pc' := 100) rfl rfl ?_
          refine r_go rfl ?_
          exact r_rz rfl (by omega) (po_I hst ⟨by decide, by decide⟩ ⟨rfl, by omega, by omega, (by exact as2)⟩)
  refine w_m rfl rfl ?_
  refine r_c0 (pc' := 1) rfl rfl ?_
  refine r_st (pc' := 2) (lv' := [(1, _), (0, _)]) rfl rfl rfl rfl ?_
  refine r_c0 (pc' := 3) rfl rfl ?_
  refine r_st (pc' := 4) (lv' := [(2, _), (1, _), (0, _)]) rfl rfl rfl rfl ?_
  refine r_c0 (pc' := 5) rfl rfl ?_
  refine r_st (pc' := 6) (lv' := [(3, _), (2, _), (1, _), (0, _)]) rfl rfl rfl rfl ?_
  have hb136 := rd_4_9 hz
  have hb137 := rd_4_10 hz
  exact w_lv (sub_c rfl (sub_c rfl (sub_c rfl (sub_c rfl sub_n)))) rfl ((key ((60 * (18000 - 0) + 53 : Int).toNat + 1)).1 0 0 0 z0 w0 ⟨by omega, by omega⟩ ⟨by omega, by omega⟩ ⟨by omega, by omega⟩ hst (by first | exact hse.1 | exact as1 | (simp only []; exact as1) | exact hvs) (by first | exact as2 | exact fun e0 i0 j p => ⟨j, p⟩ | (intro e0 i0 j p; obtain ⟨j1, p1⟩ := as2 e0 i0 j p; refine ⟨fun A c => ((hse.2 A c).symm.trans (j1 A c)), ?_⟩; exact PS_m htl.1.1 p1 hk4 hk2 hk3 (fun A c => (hk5 A).symm.trans (j1 A c)) (fun k q => (PB_w hqm hbit38 hbit37 (by omega) k (PB_c (fun j => NOMARK) q)).imp id (fun r => r.trans (by rw [hk1]))))) (by omega))
/-- Tracer countLoops -/
abbrev S_93  : mS := [(4, 4, 0, 0), (4, 4, 1, 1), (5, 5, 0, 281), (4, 4, 9, 9), (4, 4, 10, 10), (4, 4, 11, 11), (4, 4, 12, 12), (4, 4, 13, 13)]
abbrev E_93 (t : Nat) (z0 w0 : mZ) (x y tx it mt ct : Option Nat) : mZ → mZ → mP → Prop := fun z w p => p = (pq x y tx it mt (some t) ct) ∧ ((z 4 0 = 1 → CN (z0 t 0).toNat (vT (z0 (t + 1))) (oF (z0 (t + 1)) (z0 (t + 5))) (z0 7) ∧ ∃ e : Nat, (e : Int) < z0 t 1 ∧ 0 < z0 7 e))
theorem m_93 {d : Nat} {z0 w0 : mZ} {x y tx it mt ct : Option Nat} (t : Nat) (hz : rz z0) (hw : rw_ w0) (ht : isT t) (hwt : WTt z0 t) (htl : TL z0 t) : wc (d + 4) 93 [.ref 4] (mk z0 w0 (pq x y tx it mt (some t) ct)) (poV S_93 z0 w0 (E_93 t z0 w0 x y tx it mt ct)) := by
  have hst : st_ S_93 z0 w0 z0 w0 := st_rf hz hw
  have htb : 159 ≤ t ∧ t ≤ 192 := by have := ht; unfold isT at this; omega
  have hz71 := rd_T_0 ht hz
  have hz72 := rd_T_1 ht hz
  have hz48 := rd_4_8 hz
  have key : ∀ N : Nat, (∀ (x1 : Int) (z w : mZ), 0 ≤ x1 ∧ x1 ≤ 282 → st_ S_93 z0 w0 z w → z 4 9 = z0 4 9 → z 4 10 = z0 4 10 → z 4 11 = z0 4 11 → z 4 12 = z0 4 12 → z 4 13 = z0 4 13 → (z 4 0 = 0) → (∀ j : Nat, (j : Int) < x1 → w 5 j = 0) → 75 * (282 - x1) + 27004566 < (N : Int) → wp_ (d + 3) 93 3 none (12, [(0, .ref 4), (1, .int (Int32.ofInt x1))], [], mk z w (pq x y tx it mt (some t) ct)) (poV S_93 z0 w0 (E_93 t z0 w0 x y tx it mt ct))) ∧ (∀ (x1 : Int) (z w : mZ), 0 ≤ x1 ∧ x1 ≤ 18 → st_ S_93 z0 w0 z w → (CI (z0 t 0) (z0 t 1) (z0 (t + 1)) (z0 (t + 5)) (z0 7) (PB w) (z 4 0) x1 0) → (z 4 0 ≤ 18000 * x1) → 1350225 * (18 - x1) + 1350201 < (N : Int) → wp_ (d + 3) 93 3 none (38, [(0, .ref 4), (1, .int (Int32.ofInt x1))], [], mk z w (pq x y tx it mt (some t) ct)) (poV S_93 z0 w0 (E_93 t z0 w0 x y tx it mt ct))) ∧ (∀ (x1 x2 : Int) (z w : mZ), 0 ≤ x1 ∧ x1 ≤ 17 → 0 ≤ x2 ∧ x2 ≤ 18000 → 1 ≤ z0 t 1 ∧ z0 t 1 ≤ 18 → st_ S_93 z0 w0 z w → (CI (z0 t 0) (z0 t 1) (z0 (t + 1)) (z0 (t + 5)) (z0 7) (PB w) (z 4 0) x1 x2) → (z 4 0 ≤ 18000 * x1 + x2) → (x1 < z0 t 1) → 1350225 * (18 - x1) + 75 * (18000 - x2) + 44 < (N : Int) → wp_ (d + 3) 93 3 none (51, [(0, .ref 4), (1, .int (Int32.ofInt x1)), (2, .int (Int32.ofInt x2))], [], mk z w (pq x y tx it mt (some t) ct)) (poV S_93 z0 w0 (E_93 t z0 w0 x y tx it mt ct))) := by
    intro N
    induction N with
    | zero =>
      refine ⟨?_, ?_, ?_⟩
      · intro x1 z w
        intros; exfalso; omega
      · intro x1 z w
        intros; exfalso; omega
      · intro x1 x2 z w
        intros; exfalso; omega
    | succ N ih =>
      obtain ⟨ih0, ih1, ih2⟩ := ih
      refine ⟨?_, ?_, ?_⟩
      · intro x1 z w  hx1 hst un_z_4_9 un_z_4_10 un_z_4_11 un_z_4_12 un_z_4_13 as1 as2 hM
        refine r_ld (pc' := 13) rfl rfl rfl rfl ?_
        refine r_ld (pc' := 14) rfl rfl rfl rfl ?_
        have hb73 := rd_4_8 hz
        refine r_gi (pc' := 17) rfl rfl sh_4 rfl (hst.2.2.1 _ _ (notS_c (by omega) (notS_c (by omega) (notS_c (by omega) (notS_c (by omega) (notS_c (by omega) (notS_c (by omega) (notS_c (by omega) (notS_c (by omega) notS_n))))))))) ?_
        refine r_cb (pc' := 19) rfl (by decide) rfl ?_
        refine r_dv (pc' := 20) (v := (z0 4 8) / 64) rfl rfl ⟨by omega, by omega⟩ ⟨by decide, by decide⟩ (by decide) (tdiv_n (by omega)) ?_
        refine r_igt (pc' := 23) rfl rfl ⟨by omega, by omega⟩ ⟨by omega, by omega⟩ (fun hc74 => ?_) (fun hc74 => ?_)
        · skip
          refine r_c0 (pc' := 37) rfl rfl ?_
          refine r_st (pc' := 38) (lv' := [(1, _), (0, _)]) rfl rfl rfl rfl ?_
          have hb75 := rd_4_0 hst.1
          exact w_lv (sub_c rfl (sub_c rfl sub_n)) rfl (ih1 0 z w ⟨by omega, by omega⟩ hst (by first | exact CI_e as1 (by omega) (by omega) | (rw [as1]; exact CI_0 (by rw [← htl.2.2]; exact PB_0 (fun j hj => as2 j (by omega))))) (by first | omega | assumption) (by omega))
        · skip
          refine r_ld (pc' := 24) rfl rfl rfl rfl ?_
          refine r_gr (b := 5) (pc' := 27) rfl rfl sh_4 rfl pp_4_2 ?_
          refine r_ld (pc' := 28) rfl rfl rfl rfl ?_
          refine r_lc0 (pc' := 29) rfl rfl ?_
          refine r_ls (pc' := 30) rfl rfl sh_5 rfl (by omega) (by omega) hst (inS_s (inS_s (inS_0 (by omega) (by omega) (by omega) (by omega)))) (wr_5 ⟨by omega, by omega⟩) (fun w76 hq77 hs78 => ?_)
          have hqz := hq77
          refine r_inc (pc' := 33) (lv' := [(0, _)]) rfl rfl rfl rfl rfl ?_
          refine r_go rfl ?_
          have hb79 := rd_4_0 hst.1
          have hb80 := rd_4_9 hz
          have hb81 := rd_4_10 hz
          have hb82 := rd_4_11 hz
          have hb83 := rd_4_12 hz
          have hb84 := rd_4_13 hz
          exact w_lv (sub_c rfl (sub_c rfl sub_n)) rfl (ih0 (x1 + 1) z w76 ⟨by omega, by omega⟩ hs78 (un_z_4_9) (un_z_4_10) (un_z_4_11) (un_z_4_12) (un_z_4_13) (by first | omega | assumption) (by first | (intro j hj; exfalso; omega) | (intro j hj; rw [hqz]; by_cases c : j = x1.toNat; (subst c; exact mu_eq); (rw [mu_ne (by omega)]; exact as2 j (by omega)))) (by omega))
      · intro x1 z w  hx1 hst as1 as2 hM
        refine r_ld (pc' := 39) rfl rfl rfl rfl ?_
        refine r_ld (pc' := 40) rfl rfl rfl rfl ?_
        refine r_gr (b := t) (pc' := 43) rfl rfl sh_4 rfl pp_4_7 ?_
        have hb85 := rd_T_1 ht hz
        refine r_gi (pc' := 46) rfl rfl (sh_T ht) rfl (hst.2.2.1 _ _ (notS_c (by omega) (notS_c (by omega) (notS_c (by omega) (notS_c (by omega) (notS_c (by omega) (notS_c (by omega) (notS_c (by omega) (notS_c (by omega) notS_n))))))))) ?_
        refine r_ige (pc' := 49) rfl rfl ⟨by omega, by omega⟩ ⟨by omega, by omega⟩ (fun hc86 => ?_) (fun hc86 => ?_)
        · skip
          have hb87 := rd_4_0 hst.1
          exact r_ret rfl (po_V hst ⟨rfl, (by intro h; rw [h] at as1; exact CI_end hwt as1 (by omega))⟩)
        · skip
          refine r_c0 (pc' := 50) rfl rfl ?_
          refine r_st (pc' := 51) (lv' := [(2, _), (0, _), (1, _)]) rfl rfl rfl rfl ?_
          have hb88 := rd_4_0 hst.1
          exact w_lv (sub_c rfl (sub_c rfl (sub_c rfl sub_n))) rfl (ih2 x1 0 z w ⟨by omega, by omega⟩ ⟨by omega, by omega⟩ ⟨by omega, by omega⟩ hst (by first | exact as1 | exact CI_p htl.1.1 (by omega) as1 (by omega) (by omega) (by omega) (by omega) (by rw [← hs6]; exact hpa (by omega)) | exact CI_n (by omega) as1 (by omega) (by omega) (by omega) (by omega) (by omega) htl.1.1 (fun p => PS_c (fun k q => PB_c (fun j => NOMARK) q) (hcl x1.toNat x2 (by rw [h49, h410]; exact JC_0 hwt (by omega) rfl) (PS_c (fun k q => PB_c gw q) p)))) (by first | omega | assumption) (by first | omega | assumption) (by omega))
      · intro x1 x2 z w  hx1 hx2 hz0_0 hst as1 as2 as3 hM
        refine r_ld (pc' := 52) rfl rfl rfl rfl ?_
        refine r_ld (pc' := 53) rfl rfl rfl rfl ?_
        refine r_gr (b := 7) (pc' := 56) rfl rfl sh_4 rfl pp_4_4 ?_
        refine r_ld (pc' := 57) rfl rfl rfl rfl ?_
        have hb89 := rd_7 hz (i := x1.toNat) (by omega)
        refine r_ia (pc' := 58) rfl rfl sh_7 rfl (by omega) (by omega) (hst.2.2.1 _ _ (notS_c (by omega) (notS_c (by omega) (notS_c (by omega) (notS_c (by omega) (notS_c (by omega) (notS_c (by omega) (notS_c (by omega) (notS_c (by omega) notS_n))))))))) ?_
        refine r_ige (pc' := 61) rfl rfl ⟨by omega, by omega⟩ ⟨by omega, by omega⟩ (fun hc90 => ?_) (fun hc90 => ?_)
        · skip
          refine r_inc (pc' := 130) (lv' := [(0, _), (2, _)]) rfl rfl rfl rfl rfl ?_
          refine r_go rfl ?_
          have hb91 := rd_4_0 hst.1
          exact w_lv (sub_c rfl (sub_c rfl sub_n)) rfl (ih1 (x1 + 1) z w ⟨by omega, by omega⟩ hst (by first | exact CI_e as1 (by omega) (by omega) | (rw [as1]; exact CI_0 (by rw [← htl.2.2]; exact PB_0 (fun j hj => as2 j (by omega))))) (by first | omega | assumption) (by omega))
        · skip
          have hsb := sm_b (n := z0 7) htl.1.1 (e := x1.toNat) (i := x2) (by omega) (by omega) (by omega)
          have hs6 := htl.2.1 x1.toNat (by omega)
          have hs8 := htl.2.2
          have hci := as1.1
          refine r_ld (pc' := 62) rfl rfl rfl rfl ?_
          refine r_ld (pc' := 63) rfl rfl rfl rfl ?_
          refine r_gr (b := 6) (pc' := 66) rfl rfl sh_4 rfl pp_4_3 ?_
          refine r_ld (pc' := 67) rfl rfl rfl rfl ?_
          have hb92 := rd_6 hz (i := x1.toNat) (by omega)
          refine r_ia (pc' := 68) rfl rfl sh_6 rfl (by omega) (by omega) (hst.2.2.1 _ _ (notS_c (by omega) (notS_c (by omega) (notS_c (by omega) (notS_c (by omega) (notS_c (by omega) (notS_c (by omega) (notS_c (by omega) (notS_c (by omega) notS_n))))))))) ?_
          refine r_ld (pc' := 69) rfl rfl rfl rfl ?_
          refine r_add (pc' := 70) rfl rfl ?_
          refine r_cVI (pc' := 73) rfl rfl rfl rfl rfl sh_4 (m_94v (d := d + 2) ((z0 6 x1.toNat) + x2) hst.1 hst.2.1 ⟨by omega, by omega⟩) (fun v93 z94 w95 p96 h97 hs98 hE99 => ?_)
          obtain ⟨rfl, rfl, rfl, hE99⟩ := hE99
          have hpa := hE99.2.2
          refine r_zne (pc' := 76) rfl rfl ⟨by omega, by omega⟩ (fun hc101 => ?_) (fun hc101 => ?_)
          · skip
            refine r_inc (pc' := 124) (lv' := [(0, _), (1, _)]) rfl rfl rfl rfl rfl ?_
            refine r_go rfl ?_
            have hb102 := rd_4_0 hst.1
            exact w_lv (sub_c rfl (sub_c rfl (sub_c rfl sub_n))) rfl (ih2 x1 (x2 + 1) z w ⟨by omega, by omega⟩ ⟨by omega, by omega⟩ ⟨by omega, by omega⟩ hst (by first | exact as1 | exact CI_p htl.1.1 (by omega) as1 (by omega) (by omega) (by omega) (by omega) (by rw [← hs6]; exact hpa (by omega)) | exact CI_n (by omega) as1 (by omega) (by omega) (by omega) (by omega) (by omega) htl.1.1 (fun p => PS_c (fun k q => PB_c (fun j => NOMARK) q) (hcl x1.toNat x2 (by rw [h49, h410]; exact JC_0 hwt (by omega) rfl) (PS_c (fun k q => PB_c gw q) p)))) (by first | omega | assumption) (by first | omega | assumption) (by omega))
          · skip
            refine r_ld (pc' := 77) rfl rfl rfl rfl ?_
            refine r_ld (pc' := 78) rfl rfl rfl rfl ?_
            refine r_gr (b := t) (pc' := 81) rfl rfl sh_4 rfl pp_4_7 ?_
            refine r_gr (b := t + 5) (pc' := 84) rfl rfl (sh_T ht) rfl (pp_T_9 ht) ?_
            refine r_ld (pc' := 85) rfl rfl rfl rfl ?_
            have hb103 := rd_T5 ht hz (i := x1.toNat) (by omega)
            refine r_ia (pc' := 86) rfl rfl (sh_T5 ht) rfl (by omega) (by omega) (hst.2.2.1 _ _ (notS_c (by omega) (notS_c (by omega) (notS_c (by omega) (notS_c (by omega) (notS_c (by omega) (notS_c (by omega) (notS_c (by omega) (notS_c (by omega) notS_n))))))))) ?_
            refine r_ld (pc' := 87) rfl rfl rfl rfl ?_
            refine r_cVV (pc' := 90) rfl rfl rfl rfl rfl sh_4 (m_87v (d := d + 2) (z0 (t + 5) x1.toNat) x2 hst.1 hst.2.1 ⟨by omega, by omega⟩ ⟨by omega, by omega⟩) (fun z105 w106 p107 hs109 hE110 => ?_)
            have hs111 := st_tr hst hs109 (sub_B rfl)
            obtain ⟨rfl, hE110⟩ := hE110
            have hbg := hE110
            refine r_ld (pc' := 91) rfl rfl rfl rfl ?_
            refine r_al (pc' := 92) rfl rfl rfl rfl ?_
            have hb112 := rd_4_0 hst.1
            refine r_gi (pc' := 95) rfl rfl sh_4 rfl (hs109.2.2.1 _ _ (notS_c (by omega) (notS_c (by omega) (notS_c (by omega) (notS_c (by omega) notS_n))))) ?_
            refine r_c0 (pc' := 96) rfl rfl ?_
            refine r_add (pc' := 97) rfl rfl ?_
            refine w_hxi (fun v113 h114 h115 => ?_)
            refine r_pi (pc' := 100) rfl rfl sh_4 rfl rfl hs111 (inS_0 (by omega) (by omega) (by omega) (by omega)) (wr_4_0 ⟨by omega, by omega⟩) (fun z116 hq117 hs118 => ?_)
            have hq97 := hq117
            refine r_ld (pc' := 101) rfl rfl rfl rfl ?_
            refine r_al (pc' := 102) rfl rfl rfl rfl ?_
            have hb119 := rd_4_1 hst.1
            refine r_gi (pc' := 105) rfl rfl sh_4 rfl (((congrFun (congrFun hq117 _) _).trans (mu_ne (by omega))).trans (hs109.2.2.1 _ _ (notS_c (by omega) (notS_c (by omega) (notS_c (by omega) (notS_c (by omega) notS_n)))))) ?_
            refine r_ld (pc' := 106) rfl rfl rfl rfl ?_
            have g1 : z116 (t + 1) = z0 (t + 1) := funext fun i => hs118.2.2.1 _ _ (notS_c (by omega) (notS_c (by omega) (notS_c (by omega) (notS_c (by omega) (notS_c (by omega) (notS_c (by omega) (notS_c (by omega) (notS_c (by omega) (notS_n)))))))))
            have g5 : z116 (t + 5) = z0 (t + 5) := funext fun i => hs118.2.2.1 _ _ (notS_c (by omega) (notS_c (by omega) (notS_c (by omega) (notS_c (by omega) (notS_c (by omega) (notS_c (by omega) (notS_c (by omega) (notS_c (by omega) (notS_n)))))))))
            have g7 : z116 7 = z0 7 := funext fun i => hs118.2.2.1 _ _ (notS_c (by omega) (notS_c (by omega) (notS_c (by omega) (notS_c (by omega) (notS_c (by omega) (notS_c (by omega) (notS_c (by omega) (notS_c (by omega) (notS_n)))))))))
            have g0 : z116 t 0 = z0 t 0 := hs118.2.2.1 _ _ (notS_c (by omega) (notS_c (by omega) (notS_c (by omega) (notS_c (by omega) (notS_c (by omega) (notS_c (by omega) (notS_c (by omega) (notS_c (by omega) (notS_n)))))))))
            have h49 : z116 4 9 = z0 (t + 5) x1.toNat := (congrFun (congrFun hq97 _) _).trans ((mu_ne (by omega)).trans hbg.1)
            have h410 : z116 4 10 = x2 := (congrFun (congrFun hq97 _) _).trans ((mu_ne (by omega)).trans hbg.2)
            have gw : ∀ j, w106 5 j = w 5 j := fun j => (hs109.2.2.2 _ _ (notS_c (by omega) (notS_c (by omega) (notS_c (by omega) (notS_c (by omega) notS_n)))))
            have hb120 := rd_4_9 hs111.1
            have hf121 : z116 4 9 = z105 4 9 := ((congrFun (congrFun hq117 _) _).trans (mu_ne (by omega)))
            have hb122 := rd_4_10 hs111.1
            have hf123 : z116 4 10 = z105 4 10 := ((congrFun (congrFun hq117 _) _).trans (mu_ne (by omega)))
            have hb124 := rd_T_0 ht hz
            have hf125 : z116 t 0 = z0 t 0 := (((congrFun (congrFun hq117 _) _).trans (mu_ne (by omega))).trans ((hs109.2.2.1 _ _ (notS_c (by omega) (notS_c (by omega) (notS_c (by omega) (notS_c (by omega) notS_n))))).trans (hst.2.2.1 _ _ (notS_c (by omega) (notS_c (by omega) (notS_c (by omega) (notS_c (by omega) (notS_c (by omega) (notS_c (by omega) (notS_c (by omega) (notS_c (by omega) notS_n)))))))))))
            have hF126 : z116 (t + 1) = z0 (t + 1) := (((congrFun hq117 _).trans (mu_fn (by omega))).trans ((funext fun _ => hs109.2.2.1 _ _ (notS_c (by omega) (notS_c (by omega) (notS_c (by omega) (notS_c (by omega) notS_n))))).trans (funext fun _ => hst.2.2.1 _ _ (notS_c (by omega) (notS_c (by omega) (notS_c (by omega) (notS_c (by omega) (notS_c (by omega) (notS_c (by omega) (notS_c (by omega) (notS_c (by omega) notS_n)))))))))))
            have hF127 : z116 (t + 5) = z0 (t + 5) := (((congrFun hq117 _).trans (mu_fn (by omega))).trans ((funext fun _ => hs109.2.2.1 _ _ (notS_c (by omega) (notS_c (by omega) (notS_c (by omega) (notS_c (by omega) notS_n))))).trans (funext fun _ => hst.2.2.1 _ _ (notS_c (by omega) (notS_c (by omega) (notS_c (by omega) (notS_c (by omega) (notS_c (by omega) (notS_c (by omega) (notS_c (by omega) (notS_c (by omega) notS_n)))))))))))
            have hF128 : z116 7 = z0 7 := (((congrFun hq117 _).trans (mu_fn (by omega))).trans ((funext fun _ => hs109.2.2.1 _ _ (notS_c (by omega) (notS_c (by omega) (notS_c (by omega) (notS_c (by omega) notS_n))))).trans (funext fun _ => hst.2.2.1 _ _ (notS_c (by omega) (notS_c (by omega) (notS_c (by omega) (notS_c (by omega) (notS_c (by omega) (notS_c (by omega) (notS_c (by omega) (notS_c (by omega) notS_n)))))))))))
            refine r_cVI (pc' := 109) rfl rfl rfl rfl rfl sh_4 (m_95 (d := d) t hs118.1 hs118.2.1 ht (by exact WTt_f hs118 (notS_c (by omega) (notS_c (by omega) (notS_c (by omega) (notS_c (by omega) (notS_c (by omega) (notS_c (by omega) (notS_c (by omega) (notS_c (by omega) (notS_n))))))))) (notS_c (by omega) (notS_c (by omega) (notS_c (by omega) (notS_c (by omega) (notS_c (by omega) (notS_c (by omega) (notS_c (by omega) (notS_c (by omega) (notS_n))))))))) (fun i => (notS_c (by omega) (notS_c (by omega) (notS_c (by omega) (notS_c (by omega) (notS_c (by omega) (notS_c (by omega) (notS_c (by omega) (notS_c (by omega) (notS_n)))))))))) (fun i => (notS_c (by omega) (notS_c (by omega) (notS_c (by omega) (notS_c (by omega) (notS_c (by omega) (notS_c (by omega) (notS_c (by omega) (notS_c (by omega) (notS_n)))))))))) (fun i => (notS_c (by omega) (notS_c (by omega) (notS_c (by omega) (notS_c (by omega) (notS_c (by omega) (notS_c (by omega) (notS_c (by omega) (notS_c (by omega) (notS_n)))))))))) hwt) (by exact TL_f hs118 (notS_c (by omega) (notS_c (by omega) (notS_c (by omega) (notS_c (by omega) (notS_c (by omega) (notS_c (by omega) (notS_c (by omega) (notS_c (by omega) (notS_n))))))))) (notS_c (by omega) (notS_c (by omega) (notS_c (by omega) (notS_c (by omega) (notS_c (by omega) (notS_c (by omega) (notS_c (by omega) (notS_c (by omega) (notS_n))))))))) (fun i => (notS_c (by omega) (notS_c (by omega) (notS_c (by omega) (notS_c (by omega) (notS_c (by omega) (notS_c (by omega) (notS_c (by omega) (notS_c (by omega) (notS_n)))))))))) (fun i => (notS_c (by omega) (notS_c (by omega) (notS_c (by omega) (notS_c (by omega) (notS_c (by omega) (notS_c (by omega) (notS_c (by omega) (notS_c (by omega) (notS_n)))))))))) (fun i => (notS_c (by omega) (notS_c (by omega) (notS_c (by omega) (notS_c (by omega) (notS_c (by omega) (notS_c (by omega) (notS_c (by omega) (notS_c (by omega) (notS_n)))))))))) htl) (by simp only [VSt, g0, g1, g7, h49, h410]; exact VS_0 hwt (e := x1.toNat) (by omega) rfl (by omega) (by omega))) (fun v129 z130 w131 p132 h133 hs134 hE135 => ?_)
            have hs136 := st_tr hs118 hs134 (sub_B rfl)
            obtain ⟨rfl, hE135⟩ := hE135
            have hcl := hE135.2.2
            simp only [JCt, g0, g1, g5, g7] at hcl
            refine r_zeq (pc' := 112) rfl rfl ⟨by omega, by omega⟩ (fun hc137 => ?_) (fun hc137 => ?_)
            · skip
              refine r_c0 (pc' := 117) rfl rfl ?_
              refine r_add (pc' := 118) rfl rfl ?_
              refine r_pi (pc' := 121) rfl rfl sh_4 rfl rfl hs136 (inS_s (inS_0 (by omega) (by omega) (by omega) (by omega))) (wr_4_1 ⟨by omega, by omega⟩) (fun z138 hq139 hs140 => ?_)
              refine r_inc (pc' := 124) (lv' := [(0, _), (1, _)]) rfl rfl rfl rfl rfl ?_
              refine r_go rfl ?_
              have hf141 : z138 4 0 = v113 := (((congrFun (congrFun hq139 _) _).trans (mu_ne (by omega))).trans ((hs134.2.2.1 _ _ (notS_c (by omega) (notS_c (by omega) (notS_c (by omega) (notS_c (by omega) notS_n))))).trans ((congrFun (congrFun hq117 _) _).trans mu_eq)))
              exact w_lv (sub_c rfl (sub_c rfl (sub_c rfl sub_n))) rfl (ih2 x1 (x2 + 1) z138 w131 ⟨by omega, by omega⟩ ⟨by omega, by omega⟩ ⟨by omega, by omega⟩ hs140 (by first | exact as1 | exact CI_p htl.1.1 (by omega) as1 (by omega) (by omega) (by omega) (by omega) (by rw [← hs6]; exact hpa (by omega)) | exact CI_n (by omega) as1 (by omega) (by omega) (by omega) (by omega) (by omega) htl.1.1 (fun p => PS_c (fun k q => PB_c (fun j => rfl) q) (hcl x1.toNat x2 (by rw [h49, h410]; exact JC_0 hwt (by omega) rfl) (PS_c (fun k q => PB_c gw q) p)))) (by first | omega | assumption | (simp only [hf141]; assumption)) (by first | omega | assumption | (simp only [hf141]; assumption)) (by omega))
            · skip
              refine r_c0 (pc' := 113) rfl rfl ?_
              refine r_go rfl ?_
              refine r_add (pc' := 118) rfl rfl ?_
              refine w_hxi (fun v142 h143 h144 => ?_)
              refine r_pi (pc' := 121) rfl rfl sh_4 rfl rfl hs136 (inS_s (inS_0 (by omega) (by omega) (by omega) (by omega))) (wr_4_1 ⟨by omega, by omega⟩) (fun z145 hq146 hs147 => ?_)
              refine r_inc (pc' := 124) (lv' := [(0, _), (1, _)]) rfl rfl rfl rfl rfl ?_
              refine r_go rfl ?_
              have hf148 : z145 4 0 = v113 := (((congrFun (congrFun hq146 _) _).trans (mu_ne (by omega))).trans ((hs134.2.2.1 _ _ (notS_c (by omega) (notS_c (by omega) (notS_c (by omega) (notS_c (by omega) notS_n))))).trans ((congrFun (congrFun hq117 _) _).trans mu_eq)))
              exact w_lv (sub_c rfl (sub_c rfl (sub_c rfl sub_n))) rfl (ih2 x1 (x2 + 1) z145 w131 ⟨by omega, by omega⟩ ⟨by omega, by omega⟩ ⟨by omega, by omega⟩ hs147 (by first | exact as1 | exact CI_p htl.1.1 (by omega) as1 (by omega) (by omega) (by omega) (by omega) (by rw [← hs6]; exact hpa (by omega)) | exact CI_n (by omega) as1 (by omega) (by omega) (by omega) (by omega) (by omega) htl.1.1 (fun p => PS_c (fun k q => PB_c (fun j => rfl) q) (hcl x1.toNat x2 (by rw [h49, h410]; exact JC_0 hwt (by omega) rfl) (PS_c (fun k q => PB_c gw q) p)))) (by first | omega | assumption | (simp only [hf148]; assumption)) (by first | omega | assumption | (simp only [hf148]; assumption)) (by omega))
  refine w_m rfl rfl ?_
  refine r_ld (pc' := 1) rfl rfl rfl rfl ?_
  refine r_c0 (pc' := 2) rfl rfl ?_
  refine r_pi (pc' := 5) rfl rfl sh_4 rfl rfl hst (inS_0 (by omega) (by omega) (by omega) (by omega)) (wr_4_0 ⟨by omega, by omega⟩) (fun z149 hq150 hs151 => ?_)
  refine r_ld (pc' := 6) rfl rfl rfl rfl ?_
  refine r_c0 (pc' := 7) rfl rfl ?_
  refine r_pi (pc' := 10) rfl rfl sh_4 rfl rfl hs151 (inS_s (inS_0 (by omega) (by omega) (by omega) (by omega))) (wr_4_1 ⟨by omega, by omega⟩) (fun z152 hq153 hs154 => ?_)
  refine r_c0 (pc' := 11) rfl rfl ?_
  refine r_st (pc' := 12) (lv' := [(1, _), (0, _)]) rfl rfl rfl rfl ?_
  have hf155 : z152 4 0 = 0 := (((congrFun (congrFun hq153 _) _).trans (mu_ne (by omega))).trans ((congrFun (congrFun hq150 _) _).trans mu_eq))
  have hb156 := rd_4_9 hz
  have hb157 := rd_4_10 hz
  have hb158 := rd_4_11 hz
  have hb159 := rd_4_12 hz
  have hb160 := rd_4_13 hz
  exact w_lv (sub_c rfl (sub_c rfl sub_n)) rfl ((key ((75 * (282 - 0) + 27004566 : Int).toNat + 1)).1 0 z152 w0 ⟨by omega, by omega⟩ hs154 ((((congrFun (congrFun hq153 _) _).trans (mu_ne (by omega))).trans ((congrFun (congrFun hq150 _) _).trans (mu_ne (by omega))))) ((((congrFun (congrFun hq153 _) _).trans (mu_ne (by omega))).trans ((congrFun (congrFun hq150 _) _).trans (mu_ne (by omega))))) ((((congrFun (congrFun hq153 _) _).trans (mu_ne (by omega))).trans ((congrFun (congrFun hq150 _) _).trans (mu_ne (by omega))))) ((((congrFun (congrFun hq153 _) _).trans (mu_ne (by omega))).trans ((congrFun (congrFun hq150 _) _).trans (mu_ne (by omega))))) ((((congrFun (congrFun hq153 _) _).trans (mu_ne (by omega))).trans ((congrFun (congrFun hq150 _) _).trans (mu_ne (by omega))))) (by first | omega | assumption | (simp only [hf155]; assumption)) (by first | (intro j hj; exfalso; omega) | (intro j hj; rw [hqz]; by_cases c : j = x1.toNat; (subst c; exact mu_eq); (rw [mu_ne (by omega)]; exact as2 j (by omega)))) (by omega))
end

/-! methods, printed by wip/tools/vcg.py -/
/-- Tracer begin -/
abbrev S_87f  : mS := [(4, 4, 9, 9), (4, 4, 10, 10), (4, 4, 11, 11), (4, 4, 12, 12)]
abbrev E_87f (a1 : Int) (a2 : Int) (z0 w0 : mZ) (x y tx it mt tt ct : Option Nat) : mZ → mZ → mP → Prop := fun z w p => p = (pq x y tx it mt tt ct) ∧ (z 4 9 = a1 ∧ z 4 10 = a2 ∧ z 4 11 = a1 ∧ z 4 12 = a2)
theorem m_87f {d : Nat} {z0 w0 : mZ} {x y tx it mt tt ct : Option Nat} (a1 : Int) (a2 : Int) (hz : rz z0) (hw : rw_ w0) (ha1 : 0 ≤ a1 ∧ a1 ≤ 35) (ha2 : (-2147483648) ≤ a2 ∧ a2 ≤ 2147483647) : wc (d + 1) 87 [.ref 4, .int (Int32.ofInt a1), .int (Int32.ofInt a2)] (mk z0 w0 (pq x y tx it mt tt ct)) (poV S_87f z0 w0 (E_87f a1 a2 z0 w0 x y tx it mt tt ct)) := by
  have hst : st_ S_87f z0 w0 z0 w0 := st_rf hz hw
  refine w_m rfl rfl ?_
  refine r_ld (pc' := 1) rfl rfl rfl rfl ?_
  refine r_ld (pc' := 2) rfl rfl rfl rfl ?_
  refine r_pi (pc' := 5) rfl rfl sh_4 rfl rfl hst (inS_0 (by omega) (by omega) (by omega) (by omega)) (wr_4_9 ⟨by omega, by omega⟩) (fun z17 hq18 hs19 => ?_)
  refine r_ld (pc' := 6) rfl rfl rfl rfl ?_
  refine r_ld (pc' := 7) rfl rfl rfl rfl ?_
  refine r_pi (pc' := 10) rfl rfl sh_4 rfl rfl hs19 (inS_s (inS_0 (by omega) (by omega) (by omega) (by omega))) (wr_4_10 ⟨by omega, by omega⟩) (fun z20 hq21 hs22 => ?_)
  refine r_ld (pc' := 11) rfl rfl rfl rfl ?_
  refine r_ld (pc' := 12) rfl rfl rfl rfl ?_
  refine r_pi (pc' := 15) rfl rfl sh_4 rfl rfl hs22 (inS_s (inS_s (inS_0 (by omega) (by omega) (by omega) (by omega)))) (wr_4_11 ⟨by omega, by omega⟩) (fun z23 hq24 hs25 => ?_)
  refine r_ld (pc' := 16) rfl rfl rfl rfl ?_
  refine r_ld (pc' := 17) rfl rfl rfl rfl ?_
  refine r_pi (pc' := 20) rfl rfl sh_4 rfl rfl hs25 (inS_s (inS_s (inS_s (inS_0 (by omega) (by omega) (by omega) (by omega))))) (wr_4_12 ⟨by omega, by omega⟩) (fun z26 hq27 hs28 => ?_)
  have hf29 : z26 4 9 = a1 := (((congrFun (congrFun hq27 _) _).trans (mu_ne (by omega))).trans (((congrFun (congrFun hq24 _) _).trans (mu_ne (by omega))).trans (((congrFun (congrFun hq21 _) _).trans (mu_ne (by omega))).trans ((congrFun (congrFun hq18 _) _).trans mu_eq))))
  have hf30 : z26 4 10 = a2 := (((congrFun (congrFun hq27 _) _).trans (mu_ne (by omega))).trans (((congrFun (congrFun hq24 _) _).trans (mu_ne (by omega))).trans ((congrFun (congrFun hq21 _) _).trans mu_eq)))
  have hf31 : z26 4 11 = a1 := (((congrFun (congrFun hq27 _) _).trans (mu_ne (by omega))).trans ((congrFun (congrFun hq24 _) _).trans mu_eq))
  have hf32 : z26 4 12 = a2 := ((congrFun (congrFun hq27 _) _).trans mu_eq)
  exact r_ret rfl (po_V hs28 ⟨rfl, (by first | omega | assumption | (simp only [hf29, hf30, hf31, hf32]; assumption))⟩)
/-- Tracer isBack -/
abbrev S_89v  : mS := []
abbrev E_89v  (z0 w0 : mZ) (x y tx it mt tt ct : Option Nat) : Int → mZ → mZ → mP → Prop := fun v z w p => p = (pq x y tx it mt tt ct) ∧ z0 = z ∧ w0 = w ∧ 0 ≤ v ∧ v ≤ 1 ∧ ((v = 1 → z0 4 9 = z0 4 11 ∧ z0 4 10 = z0 4 12) ∧ (v = 0 → ¬ (z0 4 9 = z0 4 11 ∧ z0 4 10 = z0 4 12)))
theorem m_89v {d : Nat} {z0 w0 : mZ} {x y tx it mt tt ct : Option Nat}  (hz : rz z0) (hw : rw_ w0) : wc (d + 1) 89 [.ref 4] (mk z0 w0 (pq x y tx it mt tt ct)) (poI S_89v z0 w0 (E_89v  z0 w0 x y tx it mt tt ct)) := by
  have hst : st_ S_89v z0 w0 z0 w0 := st_rf hz hw
  have hz7 := rd_4_10 hz
  have hz8 := rd_4_11 hz
  have hz9 := rd_4_12 hz
  have hz10 := rd_4_9 hz
  refine w_m rfl rfl ?_
  refine r_ld (pc' := 1) rfl rfl rfl rfl ?_
  have hb11 := rd_4_9 hz
  refine r_gi (pc' := 4) rfl rfl sh_4 rfl rfl ?_
  refine r_ld (pc' := 5) rfl rfl rfl rfl ?_
  have hb12 := rd_4_11 hz
  refine r_gi (pc' := 8) rfl rfl sh_4 rfl rfl ?_
  refine r_ine (pc' := 11) rfl rfl ⟨by omega, by omega⟩ ⟨by omega, by omega⟩ (fun hc13 => ?_) (fun hc13 => ?_)
  · skip
    refine r_c0 (pc' := 27) rfl rfl ?_
    exact r_rz rfl (by omega) (po_I hst ⟨by decide, by decide⟩ ⟨rfl, rfl, rfl, by omega, by omega, (by first | omega | assumption)⟩)
  · skip
    refine r_ld (pc' := 12) rfl rfl rfl rfl ?_
    have hb14 := rd_4_10 hz
    refine r_gi (pc' := 15) rfl rfl sh_4 rfl rfl ?_
    refine r_ld (pc' := 16) rfl rfl rfl rfl ?_
    have hb15 := rd_4_12 hz
    refine r_gi (pc' := 19) rfl rfl sh_4 rfl rfl ?_
    refine r_ine (pc' := 22) rfl rfl ⟨by omega, by omega⟩ ⟨by omega, by omega⟩ (fun hc16 => ?_) (fun hc16 => ?_)
    · skip
      refine r_c0 (pc' := 27) rfl rfl ?_
      exact r_rz rfl (by omega) (po_I hst ⟨by decide, by decide⟩ ⟨rfl, rfl, rfl, by omega, by omega, (by first | omega | assumption)⟩)
    · skip
      refine r_c0 (pc' := 23) rfl rfl ?_
      refine r_go rfl ?_
      exact r_rz rfl (by omega) (po_I hst ⟨by decide, by decide⟩ ⟨rfl, rfl, rfl, by omega, by omega, (by first | omega | assumption)⟩)
/-- Tracer strandNumber -/
abbrev S_92f  : mS := []
abbrev E_92f (t : Nat) (z0 w0 : mZ) (x y tx it mt ct : Option Nat) : Int → mZ → mZ → mP → Prop := fun v z w p => p = (pq x y tx it mt (some t) ct) ∧ z0 = z ∧ w0 = w ∧ 0 ≤ v ∧ v ≤ 17999 ∧ (v = nu (z0 (t + 1)) (z0 (t + 5)) (z0 7) (cuc z0) ∧ 0 ≤ v)
theorem m_92f {d : Nat} {z0 w0 : mZ} {x y tx it mt ct : Option Nat} (t : Nat) (hz : rz z0) (hw : rw_ w0) (ht : isT t) (hwt : WTt z0 t) (htl : TL z0 t) (hvs : VSt z0 t (z0 4 9) (z0 4 10)) : wc (d + 1) 92 [.ref 4] (mk z0 w0 (pq x y tx it mt (some t) ct)) (poI S_92f z0 w0 (E_92f t z0 w0 x y tx it mt ct)) := by
  have hst : st_ S_92f z0 w0 z0 w0 := st_rf hz hw
  have htb : 159 ≤ t ∧ t ≤ 192 := by have := ht; unfold isT at this; omega
  have hz19 := rd_4_10 hz
  have hz20 := rd_4_9 hz
  have hz48 := rd_4_8 hz
  refine w_m rfl rfl ?_
  refine r_ld (pc' := 1) rfl rfl rfl rfl ?_
  refine r_gr (b := t) (pc' := 4) rfl rfl sh_4 rfl pp_4_7 ?_
  refine r_gr (b := t + 1) (pc' := 7) rfl rfl (sh_T ht) rfl (pp_T_5 ht) ?_
  refine r_ld (pc' := 8) rfl rfl rfl rfl ?_
  have hb21 := rd_4_9 hz
  refine r_gi (pc' := 11) rfl rfl sh_4 rfl rfl ?_
  have hb22 := rd_T1 ht hz (i := (z0 4 9).toNat) (by omega)
  refine r_ia (pc' := 12) rfl rfl (sh_T1 ht) rfl (by omega) (by omega) rfl ?_
  refine r_st (pc' := 13) (lv' := [(1, _), (0, _)]) rfl rfl rfl rfl ?_
  refine r_ld (pc' := 14) rfl rfl rfl rfl ?_
  refine r_gi (pc' := 17) rfl rfl sh_4 rfl rfl ?_
  refine r_ld (pc' := 18) rfl rfl rfl rfl ?_
  refine r_gr (b := t) (pc' := 21) rfl rfl sh_4 rfl pp_4_7 ?_
  refine r_gr (b := t + 5) (pc' := 24) rfl rfl (sh_T ht) rfl (pp_T_9 ht) ?_
  refine r_ld (pc' := 25) rfl rfl rfl rfl ?_
  have hb23 := rd_T5 ht hz (i := (z0 (t + 1) (z0 4 9).toNat).toNat) (by omega)
  refine r_ia (pc' := 26) rfl rfl (sh_T5 ht) rfl (by omega) (by omega) rfl ?_
  refine r_ine (pc' := 29) rfl rfl ⟨by omega, by omega⟩ ⟨by omega, by omega⟩ (fun hc24 => ?_) (fun hc24 => ?_)
  · skip
    have hsn := SN_ hwt htl hvs (k := z0 7 (z0 (t + 1) (z0 4 9).toNat).toNat - 1 - z0 4 10) (by rw [if_neg (by omega)])
    have hnc := NC_ htl (s := z0 4 9) (i := z0 4 10) (k := z0 7 (z0 (t + 1) (z0 4 9).toNat).toNat - 1 - z0 4 10) hvs.1 hsn.2.2.2.2.2.1 (by rw [if_neg (by omega)])
    refine r_ld (pc' := 37) rfl rfl rfl rfl ?_
    refine r_gr (b := 7) (pc' := 40) rfl rfl sh_4 rfl pp_4_4 ?_
    refine r_ld (pc' := 41) rfl rfl rfl rfl ?_
    have hb25 := rd_7 hz (i := (z0 (t + 1) (z0 4 9).toNat).toNat) (by omega)
    refine r_ia (pc' := 42) rfl rfl sh_7 rfl (by omega) (by omega) rfl ?_
    refine r_c0 (pc' := 43) rfl rfl ?_
    refine r_sub (pc' := 44) rfl rfl ?_
    refine r_ld (pc' := 45) rfl rfl rfl rfl ?_
    have hb26 := rd_4_10 hz
    refine r_gi (pc' := 48) rfl rfl sh_4 rfl rfl ?_
    refine r_sub (pc' := 49) rfl rfl ?_
    refine w_hxi (fun v27 h28 h29 => ?_)
    refine r_st (pc' := 50) (lv' := [(2, _), (1, _), (0, _)]) rfl rfl rfl rfl ?_
    refine r_ld (pc' := 51) rfl rfl rfl rfl ?_
    refine r_gr (b := 6) (pc' := 54) rfl rfl sh_4 rfl pp_4_3 ?_
    refine r_ld (pc' := 55) rfl rfl rfl rfl ?_
    have hb30 := rd_6 hz (i := (z0 (t + 1) (z0 4 9).toNat).toNat) (by omega)
    refine r_ia (pc' := 56) rfl rfl sh_6 rfl (by omega) (by omega) rfl ?_
    refine r_ld (pc' := 57) rfl rfl rfl rfl ?_
    refine r_add (pc' := 58) rfl rfl ?_
    refine w_hxi (fun v31 h32 h33 => ?_)
    exact r_ri rfl (po_I hst ⟨by omega, by omega⟩ ⟨rfl, rfl, rfl, by omega, by omega, (by have h9 := hsn.2.2.2.1; exact ⟨by rw [← hnc]; omega, by omega⟩)⟩)
  · skip
    have hsn := SN_ hwt htl hvs (k := z0 4 10) (by rw [if_pos (by omega)])
    have hnc := NC_ htl (s := z0 4 9) (i := z0 4 10) (k := z0 4 10) hvs.1 hsn.2.2.2.2.2.1 (by rw [if_pos (by omega)])
    refine r_ld (pc' := 30) rfl rfl rfl rfl ?_
    have hb34 := rd_4_10 hz
    refine r_gi (pc' := 33) rfl rfl sh_4 rfl rfl ?_
    refine r_go rfl ?_
    refine r_st (pc' := 50) (lv' := [(2, _), (1, _), (0, _)]) rfl rfl rfl rfl ?_
    refine r_ld (pc' := 51) rfl rfl rfl rfl ?_
    refine r_gr (b := 6) (pc' := 54) rfl rfl sh_4 rfl pp_4_3 ?_
    refine r_ld (pc' := 55) rfl rfl rfl rfl ?_
    have hb35 := rd_6 hz (i := (z0 (t + 1) (z0 4 9).toNat).toNat) (by omega)
    refine r_ia (pc' := 56) rfl rfl sh_6 rfl (by omega) (by omega) rfl ?_
    refine r_ld (pc' := 57) rfl rfl rfl rfl ?_
    refine r_add (pc' := 58) rfl rfl ?_
    refine w_hxi (fun v36 h37 h38 => ?_)
    exact r_ri rfl (po_I hst ⟨by omega, by omega⟩ ⟨rfl, rfl, rfl, by omega, by omega, (by have h9 := hsn.2.2.2.1; exact ⟨by rw [← hnc]; omega, by omega⟩)⟩)
/-- Tracer isPassed -/
abbrev S_94f  : mS := []
abbrev E_94f (a1 : Int) (z0 w0 : mZ) (x y tx it mt tt ct : Option Nat) : Int → mZ → mZ → mP → Prop := fun v z w p => p = (pq x y tx it mt tt ct) ∧ z0 = z ∧ w0 = w ∧ 0 ≤ v ∧ v ≤ 1 ∧ ((v = 1 → PB w0 a1.toNat) ∧ (v = 0 → ¬ PB w0 a1.toNat))
theorem m_94f {d : Nat} {z0 w0 : mZ} {x y tx it mt tt ct : Option Nat} (a1 : Int) (hz : rz z0) (hw : rw_ w0) (ha1 : 0 ≤ a1 ∧ a1 ≤ 17999) : wc (d + 1) 94 [.ref 4, .int (Int32.ofInt a1)] (mk z0 w0 (pq x y tx it mt tt ct)) (poI S_94f z0 w0 (E_94f a1 z0 w0 x y tx it mt tt ct)) := by
  have hst : st_ S_94f z0 w0 z0 w0 := st_rf hz hw
  refine w_m rfl rfl ?_
  refine r_ld (pc' := 1) rfl rfl rfl rfl ?_
  refine r_gr (b := 5) (pc' := 4) rfl rfl sh_4 rfl pp_4_2 ?_
  refine r_ld (pc' := 5) rfl rfl rfl rfl ?_
  refine r_cb (pc' := 7) rfl (by decide) rfl ?_
  refine r_dv (pc' := 8) (v := a1 / 64) rfl rfl ⟨by omega, by omega⟩ ⟨by decide, by decide⟩ (by decide) (tdiv_n (by omega)) ?_
  have hb7 := rd_5 hw (i := (a1 / 64).toNat) (by omega)
  refine r_la (pc' := 9) rfl rfl sh_5 rfl (by omega) (by omega) rfl ?_
  refine r_ld (pc' := 10) rfl rfl rfl rfl ?_
  refine r_cb (pc' := 12) rfl (by decide) rfl ?_
  refine r_rm (pc' := 13) (v := a1 % 64) rfl rfl ⟨by omega, by omega⟩ ⟨by decide, by decide⟩ (by decide) (tmod_n (by omega)) ?_
  refine r_aLx (pc' := 14) rfl rfl rfl rfl (fun v8 h9 hbit13 => ?_)
  have h9i := h9
  have hin13 := h9
  unfold inL at h9
  refine r_lc1 (pc' := 15) rfl rfl ?_
  refine r_aLx (pc' := 16) rfl rfl rfl rfl (fun v10 h11 hbit15 => ?_)
  have h11i := h11
  have hin15 := h11
  unfold inL at h11
  refine r_lc0 (pc' := 17) rfl rfl ?_
  refine r_leq (pc' := 21) rfl rfl rfl ⟨by omega, by omega⟩ ⟨by decide, by decide⟩ (fun hc12 => ?_) (fun hc12 => ?_)
  · skip
    refine r_c0 (pc' := 26) rfl rfl ?_
    exact r_rz rfl (by omega) (po_I hst ⟨by decide, by decide⟩ ⟨rfl, rfl, rfl, by omega, by omega, (by constructor; (first | (intro h; exfalso; omega) | (intro _; exact PB_r hbit13 hbit15 (by omega) (by omega) (by assumption))); (first | (intro h; exfalso; omega) | (intro _ p; exact absurd (by omega) (PB_s hbit13 hbit15 (by omega) p))))⟩)
  · skip
    refine r_c0 (pc' := 22) rfl rfl ?_
    refine r_go rfl ?_
    exact r_rz rfl (by omega) (po_I hst ⟨by decide, by decide⟩ ⟨rfl, rfl, rfl, by omega, by omega, (by constructor; (first | (intro h; exfalso; omega) | (intro _; exact PB_r hbit13 hbit15 (by omega) (by omega) (by assumption))); (first | (intro h; exfalso; omega) | (intro _ p; exact absurd (by omega) (PB_s hbit13 hbit15 (by omega) p))))⟩)
/-- Tracer step -/
abbrev S_91f  : mS := [(4, 4, 13, 13), (4, 4, 9, 9), (4, 4, 10, 10)]
abbrev E_91f (t : Nat) (z0 w0 : mZ) (x y tx it mt ct : Option Nat) : mZ → mZ → mP → Prop := fun z w p => p = (pq x y tx it mt (some t) ct) ∧ (VSt z0 t (z 4 9) (z 4 10) ∧ cuc z = gg (z0 (t + 1)) (z0 7) (vv (z0 (t + 1)) (z0 (t + 2)) (z0 7) (cuc z0)) ∧ ((z 4 13 = 1 ∧ ¬ hdx (z0 (t + 1)) (z0 (t + 2)) (z0 7) (cuc z0)) ∨ (z 4 13 = 0 ∧ hdx (z0 (t + 1)) (z0 (t + 2)) (z0 7) (cuc z0))))
theorem m_91f {d : Nat} {z0 w0 : mZ} {x y tx it mt ct : Option Nat} (t : Nat) (hz : rz z0) (hw : rw_ w0) (ht : isT t) (hwt : WTt z0 t) (htl : TL z0 t) (hvs : VSt z0 t (z0 4 9) (z0 4 10)) : wc (d + 2) 91 [.ref 4] (mk z0 w0 (pq x y tx it mt (some t) ct)) (poV S_91f z0 w0 (E_91f t z0 w0 x y tx it mt ct)) := by
  have hst : st_ S_91f z0 w0 z0 w0 := st_rf hz hw
  have htb : 159 ≤ t ∧ t ≤ 192 := by have := ht; unfold isT at this; omega
  have hz106 := rd_4_10 hz
  have hz107 := rd_4_9 hz
  have hv3 := hvs.2.2
  have hv4 := rd_T1 ht hz (i := (z0 4 9).toNat) (by omega)
  have hv5 := rd_7 hz (i := (z0 (t + 1) (z0 4 9).toNat).toNat) (by omega)
  refine w_m rfl rfl ?_
  refine r_ld (pc' := 1) rfl rfl rfl rfl ?_
  refine r_gr (b := t) (pc' := 4) rfl rfl sh_4 rfl pp_4_7 ?_
  refine r_gr (b := t + 2) (pc' := 7) rfl rfl (sh_T ht) rfl (pp_T_6 ht) ?_
  refine r_ld (pc' := 8) rfl rfl rfl rfl ?_
  have hb108 := rd_4_9 hz
  refine r_gi (pc' := 11) rfl rfl sh_4 rfl rfl ?_
  have hb109 := rd_T2 ht hz (i := (z0 4 9).toNat) (by omega)
  refine r_ia (pc' := 12) rfl rfl (sh_T2 ht) rfl (by omega) (by omega) rfl ?_
  refine r_st (pc' := 13) (lv' := [(1, _), (0, _)]) rfl rfl rfl rfl ?_
  refine r_ld (pc' := 14) rfl rfl rfl rfl ?_
  refine r_ld (pc' := 15) rfl rfl rfl rfl ?_
  refine r_cVI (pc' := 18) rfl rfl rfl rfl rfl sh_4 (m_90v (d := d) t (z0 (t + 2) (z0 4 9).toNat) hst.1 hst.2.1 ⟨by omega, by omega⟩ ht) (fun v110 z111 w112 p113 h114 hs115 hE116 => ?_)
  obtain ⟨rfl, rfl, rfl, hE116⟩ := hE116
  have hc15 := hE116.2.2
  refine r_c0 (pc' := 19) rfl rfl ?_
  refine r_sub (pc' := 20) rfl rfl ?_
  refine r_ld (pc' := 21) rfl rfl rfl rfl ?_
  have hb118 := rd_4_10 hz
  refine r_gi (pc' := 24) rfl rfl sh_4 rfl rfl ?_
  refine r_sub (pc' := 25) rfl rfl ?_
  refine w_hxi (fun v119 h120 h121 => ?_)
  refine r_st (pc' := 26) (lv' := [(2, _), (1, _), (0, _)]) rfl rfl rfl rfl ?_
  refine r_ld (pc' := 27) rfl rfl rfl rfl ?_
  refine r_cSI (pc' := 30) rfl rfl rfl rfl rfl (m_144 (d := d) (z0 (t + 2) (z0 4 9).toNat) hst.1 hst.2.1 ⟨by omega, by omega⟩) (fun v122 z123 w124 p125 h126 hs127 hE128 => ?_)
  obtain ⟨rfl, rfl, rfl, hE128⟩ := hE128
  have ha27 := hE128.2.2
  refine r_st (pc' := 31) (lv' := [(3, _), (2, _), (1, _), (0, _)]) rfl rfl rfl rfl ?_
  refine r_ld (pc' := 32) rfl rfl rfl rfl ?_
  refine r_cSI (pc' := 35) rfl rfl rfl rfl rfl (m_143 (d := d) (z0 (t + 2) (z0 4 9).toNat) hst.1 hst.2.1 ⟨by omega, by omega⟩) (fun v130 z131 w132 p133 h134 hs135 hE136 => ?_)
  obtain ⟨rfl, rfl, rfl, hE136⟩ := hE136
  have hb32 := hE136.2.2
  refine r_st (pc' := 37) (lv' := [(4, _), (3, _), (2, _), (1, _), (0, _)]) rfl rfl rfl rfl ?_
  refine r_ld (pc' := 38) rfl rfl rfl rfl ?_
  refine r_ld (pc' := 39) rfl rfl rfl rfl ?_
  refine r_cVI (pc' := 42) rfl rfl rfl rfl rfl sh_4 (m_90v (d := d) t v122 hst.1 hst.2.1 ⟨by omega, by omega⟩ ht) (fun v138 z139 w140 p141 h142 hs143 hE144 => ?_)
  obtain ⟨rfl, rfl, rfl, hE144⟩ := hE144
  have hc39 := hE144.2.2
  refine r_ld (pc' := 43) rfl rfl rfl rfl ?_
  refine r_ld (pc' := 44) rfl rfl rfl rfl ?_
  refine r_cVI (pc' := 47) rfl rfl rfl rfl rfl sh_4 (m_90v (d := d) t (z0 (t + 2) (z0 4 9).toNat) hst.1 hst.2.1 ⟨by omega, by omega⟩ ht) (fun v146 z147 w148 p149 h150 hs151 hE152 => ?_)
  obtain ⟨rfl, rfl, rfl, hE152⟩ := hE152
  have hc44 := hE152.2.2
  refine r_add (pc' := 48) rfl rfl ?_
  refine r_ld (pc' := 49) rfl rfl rfl rfl ?_
  refine r_ld (pc' := 51) rfl rfl rfl rfl ?_
  refine r_cVI (pc' := 54) rfl rfl rfl rfl rfl sh_4 (m_90v (d := d) t v130 hst.1 hst.2.1 ⟨by omega, by omega⟩ ht) (fun v154 z155 w156 p157 h158 hs159 hE160 => ?_)
  obtain ⟨rfl, rfl, rfl, hE160⟩ := hE160
  have hc51 := hE160.2.2
  have hst_ := ST_ hwt htl.1 hvs hc15 ha27 hb32 hc39 hc51
  have hsf := SF_ hwt hvs hc15 ha27 hb32 hc39 hc51
  refine r_sub (pc' := 55) rfl rfl ?_
  refine r_c0 (pc' := 56) rfl rfl ?_
  refine r_dvg (pc' := 57) rfl rfl ⟨by omega, by omega⟩ ⟨by decide, by decide⟩ (by decide) (fun v162 h163 h164 => ?_)
  refine r_st (pc' := 59) (lv' := [(5, _), (4, _), (3, _), (2, _), (1, _), (0, _)]) rfl rfl rfl rfl ?_
  refine r_ld (pc' := 60) rfl rfl rfl rfl ?_
  refine r_ld (pc' := 61) rfl rfl rfl rfl ?_
  refine r_ld (pc' := 63) rfl rfl rfl rfl ?_
  refine r_ilt (pc' := 66) rfl rfl ⟨by omega, by omega⟩ ⟨by omega, by omega⟩ (fun hc165 => ?_) (fun hc165 => ?_)
  · skip
    refine r_c0 (pc' := 71) rfl rfl ?_
    refine r_pi (pc' := 74) rfl rfl sh_4 rfl (fit_b (by omega)) hst (inS_0 (by omega) (by omega) (by omega) (by omega)) (wr_4_13 ⟨by omega, by omega⟩) (fun z166 hq167 hs168 => ?_)
    refine r_ld (pc' := 75) rfl rfl rfl rfl ?_
    refine r_ld (pc' := 76) rfl rfl rfl rfl ?_
    refine r_gi (pc' := 79) rfl rfl sh_4 rfl ((congrFun (congrFun hq167 _) _).trans mu_eq) ?_
    refine r_zeq (pc' := 82) rfl rfl ⟨by decide, by decide⟩ (fun hc169 => ?_) (fun hc169 => ?_)
    · skip
      refine r_ld (pc' := 88) rfl rfl rfl rfl ?_
      refine r_pi (pc' := 91) rfl rfl sh_4 rfl rfl hs168 (inS_s (inS_0 (by omega) (by omega) (by omega) (by omega))) (wr_4_9 ⟨by omega, by omega⟩) (fun z170 hq171 hs172 => ?_)
      refine r_ld (pc' := 92) rfl rfl rfl rfl ?_
      refine r_ld (pc' := 93) rfl rfl rfl rfl ?_
      refine r_gi (pc' := 96) rfl rfl sh_4 rfl (((congrFun (congrFun hq171 _) _).trans (mu_ne (by omega))).trans ((congrFun (congrFun hq167 _) _).trans mu_eq)) ?_
      refine r_zeq (pc' := 99) rfl rfl ⟨by decide, by decide⟩ (fun hc173 => ?_) (fun hc173 => ?_)
      · skip
        refine r_ld (pc' := 108) rfl rfl rfl rfl ?_
        refine r_ld (pc' := 109) rfl rfl rfl rfl ?_
        refine r_cVI (pc' := 112) rfl rfl rfl rfl rfl sh_4 (m_90v (d := d) t v122 hs172.1 hs172.2.1 ⟨by omega, by omega⟩ ht) (fun v174 z175 w176 p177 h178 hs179 hE180 => ?_)
        obtain ⟨rfl, rfl, rfl, hE180⟩ := hE180
        have g7 : z170 7 = z0 7 := funext fun i => hs172.2.2.1 _ _ (notS_c (by omega) (notS_c (by omega) (notS_c (by omega) (notS_n))))
        have g1 : z170 (t + 1) = z0 (t + 1) := funext fun i => hs172.2.2.1 _ _ (notS_c (by omega) (notS_c (by omega) (notS_c (by omega) (notS_n))))
        have hcx := hE180.2.2
        rw [g7, g1] at hcx
        refine r_c0 (pc' := 113) rfl rfl ?_
        refine r_sub (pc' := 114) rfl rfl ?_
        refine r_ld (pc' := 115) rfl rfl rfl rfl ?_
        refine r_sub (pc' := 116) rfl rfl ?_
        refine w_hxi (fun v182 h183 h184 => ?_)
        refine r_pi (pc' := 119) rfl rfl sh_4 rfl rfl hs172 (inS_s (inS_s (inS_0 (by omega) (by omega) (by omega) (by omega)))) (wr_4_10 ⟨by omega, by omega⟩) (fun z185 hq186 hs187 => ?_)
        have hf188 : z185 4 9 = v122 := (((congrFun (congrFun hq186 _) _).trans (mu_ne (by omega))).trans ((congrFun (congrFun hq171 _) _).trans mu_eq))
        have hf189 : z185 4 10 = v182 := ((congrFun (congrFun hq186 _) _).trans mu_eq)
        have hf190 : z185 4 13 = 0 := (((congrFun (congrFun hq186 _) _).trans (mu_ne (by omega))).trans (((congrFun (congrFun hq171 _) _).trans (mu_ne (by omega))).trans ((congrFun (congrFun hq167 _) _).trans mu_eq)))
        exact r_ret rfl (po_V hs187 ⟨rfl, (by first | (have q1 := hst_.2.1 _ _ (by omega) rfl rfl; have q2 := hsf.1 (z185 4 9) (z185 4 10) (by omega) (by omega) (by omega); exact ⟨(hst_.2.1 _ _ (by omega) (by omega) (by omega)).1, q2.1, Or.inr ⟨by omega, q2.2⟩⟩) | (have q2 := hsf.2 (z185 4 9) (z185 4 10) (by omega) (by omega) (by omega); exact ⟨(hst_.2.2 _ _ (by omega) (by omega) (by omega)).1, q2.1, Or.inl ⟨by omega, q2.2⟩⟩))⟩)
      · exfalso; omega
    · exfalso; omega
  · skip
    refine r_c0 (pc' := 67) rfl rfl ?_
    refine r_go rfl ?_
    refine r_pi (pc' := 74) rfl rfl sh_4 rfl (fit_b (by omega)) hst (inS_0 (by omega) (by omega) (by omega) (by omega)) (wr_4_13 ⟨by omega, by omega⟩) (fun z191 hq192 hs193 => ?_)
    refine r_ld (pc' := 75) rfl rfl rfl rfl ?_
    refine r_ld (pc' := 76) rfl rfl rfl rfl ?_
    refine r_gi (pc' := 79) rfl rfl sh_4 rfl ((congrFun (congrFun hq192 _) _).trans mu_eq) ?_
    refine r_zeq (pc' := 82) rfl rfl ⟨by decide, by decide⟩ (fun hc194 => ?_) (fun hc194 => ?_)
    · exfalso; omega
    · skip
      refine r_ld (pc' := 84) rfl rfl rfl rfl ?_
      refine r_go rfl ?_
      refine r_pi (pc' := 91) rfl rfl sh_4 rfl rfl hs193 (inS_s (inS_0 (by omega) (by omega) (by omega) (by omega))) (wr_4_9 ⟨by omega, by omega⟩) (fun z195 hq196 hs197 => ?_)
      refine r_ld (pc' := 92) rfl rfl rfl rfl ?_
      refine r_ld (pc' := 93) rfl rfl rfl rfl ?_
      refine r_gi (pc' := 96) rfl rfl sh_4 rfl (((congrFun (congrFun hq196 _) _).trans (mu_ne (by omega))).trans ((congrFun (congrFun hq192 _) _).trans mu_eq)) ?_
      refine r_zeq (pc' := 99) rfl rfl ⟨by decide, by decide⟩ (fun hc198 => ?_) (fun hc198 => ?_)
      · exfalso; omega
      · skip
        refine r_ld (pc' := 100) rfl rfl rfl rfl ?_
        refine r_ld (pc' := 101) rfl rfl rfl rfl ?_
        refine r_cVI (pc' := 104) rfl rfl rfl rfl rfl sh_4 (m_90v (d := d) t (z0 (t + 2) (z0 4 9).toNat) hs197.1 hs197.2.1 ⟨by omega, by omega⟩ ht) (fun v199 z200 w201 p202 h203 hs204 hE205 => ?_)
        obtain ⟨rfl, rfl, rfl, hE205⟩ := hE205
        have g7 : z195 7 = z0 7 := funext fun i => hs197.2.2.1 _ _ (notS_c (by omega) (notS_c (by omega) (notS_c (by omega) (notS_n))))
        have g1 : z195 (t + 1) = z0 (t + 1) := funext fun i => hs197.2.2.1 _ _ (notS_c (by omega) (notS_c (by omega) (notS_c (by omega) (notS_n))))
        have hcx := hE205.2.2
        rw [g7, g1] at hcx
        refine r_go rfl ?_
        refine r_c0 (pc' := 113) rfl rfl ?_
        refine r_sub (pc' := 114) rfl rfl ?_
        refine r_ld (pc' := 115) rfl rfl rfl rfl ?_
        refine r_sub (pc' := 116) rfl rfl ?_
        refine r_pi (pc' := 119) rfl rfl sh_4 rfl rfl hs197 (inS_s (inS_s (inS_0 (by omega) (by omega) (by omega) (by omega)))) (wr_4_10 ⟨by omega, by omega⟩) (fun z207 hq208 hs209 => ?_)
        have hf210 : z207 4 9 = v130 := (((congrFun (congrFun hq208 _) _).trans (mu_ne (by omega))).trans ((congrFun (congrFun hq196 _) _).trans mu_eq))
        have hf211 : z207 4 10 = (v199 - 1) - v119 := ((congrFun (congrFun hq208 _) _).trans mu_eq)
        have hf212 : z207 4 13 = 1 := (((congrFun (congrFun hq208 _) _).trans (mu_ne (by omega))).trans (((congrFun (congrFun hq196 _) _).trans (mu_ne (by omega))).trans ((congrFun (congrFun hq192 _) _).trans mu_eq)))
        exact r_ret rfl (po_V hs209 ⟨rfl, (by first | (have q1 := hst_.2.1 _ _ (by omega) rfl rfl; have q2 := hsf.1 (z207 4 9) (z207 4 10) (by omega) (by omega) (by omega); exact ⟨(hst_.2.1 _ _ (by omega) (by omega) (by omega)).1, q2.1, Or.inr ⟨by omega, q2.2⟩⟩) | (have q2 := hsf.2 (z207 4 9) (z207 4 10) (by omega) (by omega) (by omega); exact ⟨(hst_.2.2 _ _ (by omega) (by omega) (by omega)).1, q2.1, Or.inl ⟨by omega, q2.2⟩⟩))⟩)
/-- Tracer closeLoop -/
abbrev S_95f  : mS := [(5, 5, 0, 281), (4, 4, 13, 13), (4, 4, 9, 9), (4, 4, 10, 10)]
abbrev E_95f (t : Nat) (z0 w0 : mZ) (x y tx it mt ct : Option Nat) : Int → mZ → mZ → mP → Prop := fun v z w p => p = (pq x y tx it mt (some t) ct) ∧ 0 ≤ v ∧ v ≤ 1 ∧ ((∀ k : Nat, PB w k ↔ PB w0 k ∨ VX (z0 (t + 1)) (z0 (t + 2)) (z0 (t + 5)) (z0 7) (cuc z0) k) ∧ (v = 1 → RGx (z0 (t + 1)) (z0 (t + 2)) (z0 7) (cuc z0)) ∧ (v = 0 → ¬ RGx (z0 (t + 1)) (z0 (t + 2)) (z0 7) (cuc z0)))
set_option maxHeartbeats 8000000 in
theorem m_95f {d : Nat} {z0 w0 : mZ} {x y tx it mt ct : Option Nat} (t : Nat) (hz : rz z0) (hw : rw_ w0) (ht : isT t) (hwt : WTt z0 t) (htl : TL z0 t) (hvs : VSt z0 t (z0 4 9) (z0 4 10)) (hsa : z0 4 11 = z0 4 9 ∧ z0 4 12 = z0 4 10) : wc (d + 3) 95 [.ref 4] (mk z0 w0 (pq x y tx it mt (some t) ct)) (poI S_95f z0 w0 (E_95f t z0 w0 x y tx it mt ct)) := by
  have hst : st_ S_95f z0 w0 z0 w0 := st_rf hz hw
  have htb : 159 ≤ t ∧ t ≤ 192 := by have := ht; unfold isT at this; omega
  have hz74 := rd_4_10 hz
  have hz75 := rd_4_11 hz
  have hz76 := rd_4_12 hz
  have hz77 := rd_4_8 hz
  have hz78 := rd_4_9 hz
  have hz48 := rd_4_8 hz
  have hz49 := rd_4_9 hz
  have key : ∀ N : Nat, (∀ (x1 x2 x3 : Int) (z w : mZ), 0 ≤ x1 ∧ x1 ≤ 1 → 0 ≤ x2 ∧ x2 ≤ 1 → 0 ≤ x3 ∧ x3 ≤ 18000 → st_ S_95f z0 w0 z w → (VSt z0 t (z 4 9) (z 4 10)) → (CK (z0 (t + 1)) (z0 (t + 2)) (z0 (t + 5)) (z0 7) (cuc z0) (PB w0) (PB w) x3.toNat (cuc z)) → (CH (z0 (t + 1)) (z0 (t + 2)) (z0 7) (cuc z0) x3.toNat x1 x2) → (x3.toNat = 0 ∨ cuc z ≠ (cuc z0)) → ((0 ≤ x1 ∧ x1 ≤ 1) ∧ (0 ≤ x2 ∧ x2 ≤ 1)) → 60 * (18000 - x3) + 53 < (N : Int) → wp_ (d + 2) 95 5 (some .boolean) (6, [(0, .ref 4), (1, .int (Int32.ofInt x1)), (2, .int (Int32.ofInt x2)), (3, .int (Int32.ofInt x3))], [], mk z w (pq x y tx it mt (some t) ct)) (poI S_95f z0 w0 (E_95f t z0 w0 x y tx it mt ct))) ∧ (∀ (x2 x3 : Int) (z w : mZ), 0 ≤ x2 ∧ x2 ≤ 1 → 0 ≤ x3 ∧ x3 ≤ 17999 → 1 ≤ z0 4 8 ∧ z0 4 8 ≤ 18000 → st_ S_95f z0 w0 z w → (VSt z0 t (z 4 9) (z 4 10)) → (CK (z0 (t + 1)) (z0 (t + 2)) (z0 (t + 5)) (z0 7) (cuc z0) (PB w0) (PB w) (x3.toNat + 1) (cuc z)) → ((∃ j, j < (x3.toNat + 1) ∧ ¬ hdx (z0 (t + 1)) (z0 (t + 2)) (z0 7) (tk (z0 (t + 1)) (z0 (t + 2)) (z0 7) (cuc z0) j))) → ((x2 = 1 ↔ (∃ j, j < x3.toNat ∧ hdx (z0 (t + 1)) (z0 (t + 2)) (z0 7) (tk (z0 (t + 1)) (z0 (t + 2)) (z0 7) (cuc z0) j)))) → ((z 4 13 = 1 ∧ ¬ hdx (z0 (t + 1)) (z0 (t + 2)) (z0 7) (tk (z0 (t + 1)) (z0 (t + 2)) (z0 7) (cuc z0) x3.toNat)) ∨ (z 4 13 = 0 ∧ hdx (z0 (t + 1)) (z0 (t + 2)) (z0 7) (tk (z0 (t + 1)) (z0 (t + 2)) (z0 7) (cuc z0) x3.toNat))) → ((0 ≤ x2 ∧ x2 ≤ 1) ∧ x3 < z0 4 8) → 60 * (18000 - x3) + 24 < (N : Int) → wp_ (d + 2) 95 5 (some .boolean) (55, [(0, .ref 4), (2, .int (Int32.ofInt x2)), (3, .int (Int32.ofInt x3))], [], mk z w (pq x y tx it mt (some t) ct)) (poI S_95f z0 w0 (E_95f t z0 w0 x y tx it mt ct))) ∧ (∀ (x1 x3 : Int) (z w : mZ), 0 ≤ x1 ∧ x1 ≤ 1 → 0 ≤ x3 ∧ x3 ≤ 17999 → 1 ≤ z0 4 8 ∧ z0 4 8 ≤ 18000 → st_ S_95f z0 w0 z w → (VSt z0 t (z 4 9) (z 4 10)) → (CK (z0 (t + 1)) (z0 (t + 2)) (z0 (t + 5)) (z0 7) (cuc z0) (PB w0) (PB w) (x3.toNat + 1) (cuc z)) → ((x1 = 1 ↔ (∃ j, j < (x3.toNat + 1) ∧ ¬ hdx (z0 (t + 1)) (z0 (t + 2)) (z0 7) (tk (z0 (t + 1)) (z0 (t + 2)) (z0 7) (cuc z0) j)))) → ((∃ j, j < (x3.toNat + 1) ∧ hdx (z0 (t + 1)) (z0 (t + 2)) (z0 7) (tk (z0 (t + 1)) (z0 (t + 2)) (z0 7) (cuc z0) j))) → ((0 ≤ x1 ∧ x1 ≤ 1) ∧ x3 < z0 4 8) → 60 * (18000 - x3) + 15 < (N : Int) → wp_ (d + 2) 95 5 (some .boolean) (72, [(0, .ref 4), (1, .int (Int32.ofInt x1)), (3, .int (Int32.ofInt x3))], [], mk z w (pq x y tx it mt (some t) ct)) (poI S_95f z0 w0 (E_95f t z0 w0 x y tx it mt ct))) ∧ (∀ (x1 x2 : Int) (z w : mZ), 0 ≤ x1 ∧ x1 ≤ 1 → 0 ≤ x2 ∧ x2 ≤ 1 → st_ S_95f z0 w0 z w → (∃ K, 0 < K ∧ tk (z0 (t + 1)) (z0 (t + 2)) (z0 7) (cuc z0) K = (cuc z0) ∧ CH (z0 (t + 1)) (z0 (t + 2)) (z0 7) (cuc z0) K x1 x2) → (∀ k : Nat, PB w k ↔ PB w0 k ∨ VX (z0 (t + 1)) (z0 (t + 2)) (z0 (t + 5)) (z0 7) (cuc z0) k) → ((0 ≤ x1 ∧ x1 ≤ 1) ∧ (0 ≤ x2 ∧ x2 ≤ 1)) → 6 < (N : Int) → wp_ (d + 2) 95 5 (some .boolean) (94, [(1, .int (Int32.ofInt x1)), (2, .int (Int32.ofInt x2))], [], mk z w (pq x y tx it mt (some t) ct)) (poI S_95f z0 w0 (E_95f t z0 w0 x y tx it mt ct))) := by
    intro N
    induction N with
    | zero =>
      refine ⟨?_, ?_, ?_, ?_⟩
      · intro x1 x2 x3 z w
        intros; exfalso; omega
      · intro x2 x3 z w
        intros; exfalso; omega
      · intro x1 x3 z w
        intros; exfalso; omega
      · intro x1 x2 z w
        intros; exfalso; omega
    | succ N ih =>
      obtain ⟨ih0, ih1, ih2, ih3⟩ := ih
      refine ⟨?_, ?_, ?_, ?_⟩
      · intro x1 x2 x3 z w  hx1 hx2 hx3 hst as1 as2 as3 as4 as0 hM
        have e1 : z (t + 1) = z0 (t + 1) := funext fun i => hst.2.2.1 _ _ (notS_c (by omega) (notS_c (by omega) (notS_c (by omega) (notS_c (by omega) (notS_n)))))
        have e5 : z (t + 5) = z0 (t + 5) := funext fun i => hst.2.2.1 _ _ (notS_c (by omega) (notS_c (by omega) (notS_c (by omega) (notS_c (by omega) (notS_n)))))
        have e7 : z 7 = z0 7 := funext fun i => hst.2.2.1 _ _ (notS_c (by omega) (notS_c (by omega) (notS_c (by omega) (notS_c (by omega) (notS_n)))))
        have e0 : z t 0 = z0 t 0 := hst.2.2.1 _ _ (notS_c (by omega) (notS_c (by omega) (notS_c (by omega) (notS_c (by omega) (notS_n)))))
        have e2 : z (t + 2) = z0 (t + 2) := funext fun i => hst.2.2.1 _ _ (notS_c (by omega) (notS_c (by omega) (notS_c (by omega) (notS_c (by omega) (notS_n)))))
        refine r_ld (pc' := 7) rfl rfl rfl rfl ?_
        refine r_ld (pc' := 8) rfl rfl rfl rfl ?_
        have hb79 := rd_4_8 hz
        refine r_gi (pc' := 11) rfl rfl sh_4 rfl (hst.2.2.1 _ _ (notS_c (by omega) (notS_c (by omega) (notS_c (by omega) (notS_c (by omega) notS_n))))) ?_
        refine r_ige (pc' := 14) rfl rfl ⟨by omega, by omega⟩ ⟨by omega, by omega⟩ (fun hc80 => ?_) (fun hc80 => ?_)
        · skip
          exact w_lv (sub_c rfl (sub_c rfl sub_n)) rfl (ih3 x1 x2 z w ⟨by omega, by omega⟩ ⟨by omega, by omega⟩ hst (by first | exact (CK_x (show WT _ _ _ _ _ from hwt) htl.1 (VS_vd hvs) as2 as4 (by rw [← htl.2.2]; omega)).elim | exact ⟨x3.toNat + 1, by omega, (CK_e as2 (by omega) (hcx (by omega))).1, ⟨as3, ⟨fun _ => as5, fun _ => rfl⟩⟩⟩ | exact ⟨x3.toNat + 1, by omega, (CK_e as2 (by omega) (hcx (by omega))).1, ⟨⟨fun _ => as3, fun _ => rfl⟩, ⟨fun q => absurd q (by omega), fun q => by rcases (ex_s rfl).mp q with r | r; (have := as5.mpr r; omega); exact absurd r (as6.resolve_right (fun c => absurd c.1 (by omega))).2⟩⟩⟩ | (exfalso; omega)) (by first | exact (CK_x (show WT _ _ _ _ _ from hwt) htl.1 (VS_vd hvs) as2 as4 (by rw [← htl.2.2]; omega)).elim | exact (CK_e as2 (by omega) (hcx (by omega))).2 | (exfalso; omega)) (by first | omega | assumption) (by omega))
        · skip
          refine r_ld (pc' := 15) rfl rfl rfl rfl ?_
          have hb81 := rd_4_9 hst.1
          have hb82 := rd_4_10 hst.1
          have hF83 : z (t + 1) = z0 (t + 1) := (funext fun _ => hst.2.2.1 _ _ (notS_c (by omega) (notS_c (by omega) (notS_c (by omega) (notS_c (by omega) notS_n)))))
          have hF84 : z (t + 5) = z0 (t + 5) := (funext fun _ => hst.2.2.1 _ _ (notS_c (by omega) (notS_c (by omega) (notS_c (by omega) (notS_c (by omega) notS_n)))))
          have hF85 : z 7 = z0 7 := (funext fun _ => hst.2.2.1 _ _ (notS_c (by omega) (notS_c (by omega) (notS_c (by omega) (notS_c (by omega) notS_n)))))
          refine r_cVI (pc' := 18) rfl rfl rfl rfl rfl sh_4 (m_92f (d := d + 1) t hst.1 hst.2.1 ht (by exact WTt_f hst (notS_c (by omega) (notS_c (by omega) (notS_c (by omega) (notS_c (by omega) (notS_n))))) (notS_c (by omega) (notS_c (by omega) (notS_c (by omega) (notS_c (by omega) (notS_n))))) (fun i => (notS_c (by omega) (notS_c (by omega) (notS_c (by omega) (notS_c (by omega) (notS_n)))))) (fun i => (notS_c (by omega) (notS_c (by omega) (notS_c (by omega) (notS_c (by omega) (notS_n)))))) (fun i => (notS_c (by omega) (notS_c (by omega) (notS_c (by omega) (notS_c (by omega) (notS_n)))))) hwt) (by exact TL_f hst (notS_c (by omega) (notS_c (by omega) (notS_c (by omega) (notS_c (by omega) (notS_n))))) (notS_c (by omega) (notS_c (by omega) (notS_c (by omega) (notS_c (by omega) (notS_n))))) (fun i => (notS_c (by omega) (notS_c (by omega) (notS_c (by omega) (notS_c (by omega) (notS_n)))))) (fun i => (notS_c (by omega) (notS_c (by omega) (notS_c (by omega) (notS_c (by omega) (notS_n)))))) (fun i => (notS_c (by omega) (notS_c (by omega) (notS_c (by omega) (notS_c (by omega) (notS_n)))))) htl) (by simp only [VSt, e0, e1, e7]; exact as1)) (fun v86 z87 w88 p89 h90 hs91 hE92 => ?_)
          obtain ⟨rfl, rfl, rfl, hE92⟩ := hE92
          have hnu := hE92.2.2
          rw [e1, e5, e7] at hnu
          refine r_st (pc' := 20) (lv' := [(4, _), (0, _), (1, _), (2, _), (3, _)]) rfl rfl rfl rfl ?_
          refine r_ld (pc' := 21) rfl rfl rfl rfl ?_
          refine r_gr (b := 5) (pc' := 24) rfl rfl sh_4 rfl pp_4_2 ?_
          refine r_ld (pc' := 26) rfl rfl rfl rfl ?_
          refine r_cb (pc' := 28) rfl (by decide) rfl ?_
          refine r_dv (pc' := 29) (v := v86 / 64) rfl rfl ⟨by omega, by omega⟩ ⟨by decide, by decide⟩ (by decide) (tdiv_n (by omega)) ?_
          refine r_al (pc' := 30) rfl rfl rfl rfl ?_
          have hb94 := rd_5 hst.2.1 (i := (v86 / 64).toNat) (by omega)
          refine r_la (pc' := 31) rfl rfl sh_5 rfl (by omega) (by omega) rfl ?_
          refine r_lc1 (pc' := 32) rfl rfl ?_
          refine r_ld (pc' := 34) rfl rfl rfl rfl ?_
          refine r_cb (pc' := 36) rfl (by decide) rfl ?_
          refine r_rm (pc' := 37) (v := v86 % 64) rfl rfl ⟨by omega, by omega⟩ ⟨by decide, by decide⟩ (by decide) (tmod_n (by omega)) ?_
          refine r_aLx (pc' := 38) rfl rfl rfl rfl (fun v95 h96 hbit37 => ?_)
          have h96i := h96
          have hin37 := h96
          unfold inL at h96
          refine r_aLx (pc' := 39) rfl rfl rfl rfl (fun v97 h98 hbit38 => ?_)
          have h98i := h98
          have hin38 := h98
          unfold inL at h98
          refine r_ls (pc' := 40) rfl rfl sh_5 rfl (by omega) (by omega) hst (inS_0 (by omega) (by omega) (by omega) (by omega)) (wr_5 ⟨by omega, by omega⟩) (fun w99 hq100 hs101 => ?_)
          have hqm := hq100
          refine r_ld (pc' := 41) rfl rfl rfl rfl ?_
          have gg1 : z (t + 1) = z0 (t + 1) := funext fun i => (hst.2.2.1 _ _ (notS_c (by omega) (notS_c (by omega) (notS_c (by omega) (notS_c (by omega) notS_n)))))
          have gg2 : z (t + 2) = z0 (t + 2) := funext fun i => (hst.2.2.1 _ _ (notS_c (by omega) (notS_c (by omega) (notS_c (by omega) (notS_c (by omega) notS_n)))))
          have gg7 : z 7 = z0 7 := funext fun i => (hst.2.2.1 _ _ (notS_c (by omega) (notS_c (by omega) (notS_c (by omega) (notS_c (by omega) notS_n)))))
          have gcu : cuc z = cuc z := rfl
          have hF102 : z (t + 1) = z0 (t + 1) := (funext fun _ => hst.2.2.1 _ _ (notS_c (by omega) (notS_c (by omega) (notS_c (by omega) (notS_c (by omega) notS_n)))))
          have hF103 : z 7 = z0 7 := (funext fun _ => hst.2.2.1 _ _ (notS_c (by omega) (notS_c (by omega) (notS_c (by omega) (notS_c (by omega) notS_n)))))
          have hF104 : z (t + 2) = z0 (t + 2) := (funext fun _ => hst.2.2.1 _ _ (notS_c (by omega) (notS_c (by omega) (notS_c (by omega) (notS_c (by omega) notS_n)))))
          refine r_cVV (pc' := 44) rfl rfl rfl rfl rfl sh_4 (m_91f (d := d) t hs101.1 hs101.2.1 ht (by exact WTt_f hs101 (notS_c (by omega) (notS_c (by omega) (notS_c (by omega) (notS_c (by omega) (notS_n))))) (notS_c (by omega) (notS_c (by omega) (notS_c (by omega) (notS_c (by omega) (notS_n))))) (fun i => (notS_c (by omega) (notS_c (by omega) (notS_c (by omega) (notS_c (by omega) (notS_n)))))) (fun i => (notS_c (by omega) (notS_c (by omega) (notS_c (by omega) (notS_c (by omega) (notS_n)))))) (fun i => (notS_c (by omega) (notS_c (by omega) (notS_c (by omega) (notS_c (by omega) (notS_n)))))) hwt) (by exact TL_f hs101 (notS_c (by omega) (notS_c (by omega) (notS_c (by omega) (notS_c (by omega) (notS_n))))) (notS_c (by omega) (notS_c (by omega) (notS_c (by omega) (notS_c (by omega) (notS_n))))) (fun i => (notS_c (by omega) (notS_c (by omega) (notS_c (by omega) (notS_c (by omega) (notS_n)))))) (fun i => (notS_c (by omega) (notS_c (by omega) (notS_c (by omega) (notS_c (by omega) (notS_n)))))) (fun i => (notS_c (by omega) (notS_c (by omega) (notS_c (by omega) (notS_c (by omega) (notS_n)))))) htl) (by simp only [VSt, e0, e1, e7]; exact as1)) (fun z106 w107 p108 hs110 hE111 => ?_)
          have hs112 := st_tr hs101 hs110 (sub_B rfl)
          obtain ⟨rfl, hE111⟩ := hE111
          have hse := hE111
          have hv2 := hse.1
          simp only [VSt, e0, e1, e7] at hv2
          have hgs := hse.2.1
          rw [gg1, gg2, gg7, gcu] at hgs
          have hhd := hse.2.2
          rw [gg1, gg2, gg7, gcu, as2.1] at hhd
          have hck : CK (z0 (t + 1)) (z0 (t + 2)) (z0 (t + 5)) (z0 7) (cuc z0) (PB w0) (PB w107) (x3.toNat + 1) (cuc z106) := CK_s as2 as4 hnu.1 hnu.2 (fun k => (PB_e (fun j => (hs110.2.2.2 _ _ (notS_c (by omega) (notS_c (by omega) (notS_c (by omega) notS_n))))) k).trans (PB_i hqm hbit38 hbit37 (by omega) k)) hgs rfl
          refine r_ld (pc' := 45) rfl rfl rfl rfl ?_
          refine r_zne (pc' := 48) rfl rfl ⟨by omega, by omega⟩ (fun hc113 => ?_) (fun hc113 => ?_)
          · skip
            have hb114 := rd_4_9 hs112.1
            have hb115 := rd_4_10 hs112.1
            have hb116 := rd_4_13 hs112.1
            exact w_lv (sub_c rfl (sub_c rfl (sub_c rfl sub_n))) rfl (ih1 x2 x3 z106 w107 ⟨by omega, by omega⟩ ⟨by omega, by omega⟩ ⟨by omega, by omega⟩ hs112 (by first | exact hv2 | exact as1 | (simp only []; exact as1) | exact hvs) (by first | exact hck | exact as2) (by first | exact (ex_s rfl).mpr (Or.inl (as3.1.mp (by omega))) | exact ⟨x3.toNat, by omega, (hhd.resolve_right (fun q => absurd q.1 (by omega))).2⟩) (by exact as3.2) (by exact hhd) (by first | omega | assumption) (by omega))
          · skip
            refine r_ld (pc' := 49) rfl rfl rfl rfl ?_
            have hb117 := rd_4_13 hs112.1
            refine r_gi (pc' := 52) rfl rfl sh_4 rfl rfl ?_
            refine r_zeq (pc' := 55) rfl rfl ⟨by omega, by omega⟩ (fun hc118 => ?_) (fun hc118 => ?_)
            · skip
              refine r_c0 (pc' := 60) rfl rfl ?_
              refine r_st (pc' := 61) (lv' := [(1, _), (4, _), (0, _), (2, _), (3, _)]) rfl rfl rfl rfl ?_
              refine r_ld (pc' := 62) rfl rfl rfl rfl ?_
              refine r_zne (pc' := 65) rfl rfl ⟨by omega, by omega⟩ (fun hc119 => ?_) (fun hc119 => ?_)
              · skip
                have hb120 := rd_4_9 hs112.1
                have hb121 := rd_4_10 hs112.1
                exact w_lv (sub_c rfl (sub_c rfl (sub_c rfl sub_n))) rfl (ih2 0 x3 z106 w107 ⟨by omega, by omega⟩ ⟨by omega, by omega⟩ ⟨by omega, by omega⟩ hs112 (by first | exact hv2 | exact as1 | (simp only []; exact as1) | exact hvs) (by first | exact hck | exact as2) (by first | exact ⟨fun _ => as3, fun _ => rfl⟩ | exact ⟨fun q => absurd q (by omega), fun q => by rcases (ex_s rfl).mp q with r | r; (have := as3.1.mpr r; omega); exact absurd (hhd.resolve_left (fun c => absurd c.1 (by omega))).2 r⟩) (by first | exact (ex_s rfl).mpr (Or.inl (as3.2.mp (by omega))) | exact ⟨x3.toNat, by omega, (hhd.resolve_left (fun c => absurd c.1 (by omega))).2⟩ | exact (ex_s rfl).mpr (Or.inl (as5.mp (by omega))) | exact ⟨x3.toNat, by omega, (as6.resolve_left (fun c => absurd c.1 (by omega))).2⟩) (by first | omega | assumption) (by omega))
              · skip
                refine r_ld (pc' := 66) rfl rfl rfl rfl ?_
                refine r_gi (pc' := 69) rfl rfl sh_4 rfl rfl ?_
                refine r_zne (pc' := 72) rfl rfl ⟨by omega, by omega⟩ (fun hc122 => ?_) (fun hc122 => ?_)
                · exfalso; omega
                · skip
                  have hb123 := rd_4_9 hs112.1
                  have hb124 := rd_4_10 hs112.1
                  exact w_lv (sub_c rfl (sub_c rfl (sub_c rfl sub_n))) rfl (ih2 0 x3 z106 w107 ⟨by omega, by omega⟩ ⟨by omega, by omega⟩ ⟨by omega, by omega⟩ hs112 (by first | exact hv2 | exact as1 | (simp only []; exact as1) | exact hvs) (by first | exact hck | exact as2) (by first | exact ⟨fun _ => as3, fun _ => rfl⟩ | exact ⟨fun q => absurd q (by omega), fun q => by rcases (ex_s rfl).mp q with r | r; (have := as3.1.mpr r; omega); exact absurd (hhd.resolve_left (fun c => absurd c.1 (by omega))).2 r⟩) (by first | exact (ex_s rfl).mpr (Or.inl (as3.2.mp (by omega))) | exact ⟨x3.toNat, by omega, (hhd.resolve_left (fun c => absurd c.1 (by omega))).2⟩ | exact (ex_s rfl).mpr (Or.inl (as5.mp (by omega))) | exact ⟨x3.toNat, by omega, (as6.resolve_left (fun c => absurd c.1 (by omega))).2⟩) (by first | omega | assumption) (by omega))
            · skip
              have hb125 := rd_4_9 hs112.1
              have hb126 := rd_4_10 hs112.1
              exact w_lv (sub_c rfl (sub_c rfl (sub_c rfl sub_n))) rfl (ih1 x2 x3 z106 w107 ⟨by omega, by omega⟩ ⟨by omega, by omega⟩ ⟨by omega, by omega⟩ hs112 (by first | exact hv2 | exact as1 | (simp only []; exact as1) | exact hvs) (by first | exact hck | exact as2) (by first | exact (ex_s rfl).mpr (Or.inl (as3.1.mp (by omega))) | exact ⟨x3.toNat, by omega, (hhd.resolve_right (fun q => absurd q.1 (by omega))).2⟩) (by exact as3.2) (by exact hhd) (by first | omega | assumption) (by omega))
      · intro x2 x3 z w  hx2 hx3 hz0_0 hst as1 as2 as3 as5 as6 as0 hM
        refine r_c0 (pc' := 56) rfl rfl ?_
        refine r_go rfl ?_
        refine r_st (pc' := 61) (lv' := [(1, _), (0, _), (2, _), (3, _)]) rfl rfl rfl rfl ?_
        refine r_ld (pc' := 62) rfl rfl rfl rfl ?_
        refine r_zne (pc' := 65) rfl rfl ⟨by omega, by omega⟩ (fun hc127 => ?_) (fun hc127 => ?_)
        · skip
          have hb128 := rd_4_9 hst.1
          have hb129 := rd_4_10 hst.1
          have hb130 := rd_4_13 hst.1
          exact w_lv (sub_c rfl (sub_c rfl (sub_c rfl sub_n))) rfl (ih2 1 x3 z w ⟨by omega, by omega⟩ ⟨by omega, by omega⟩ ⟨by omega, by omega⟩ hst (by first | exact hv2 | exact as1 | (simp only []; exact as1) | exact hvs) (by first | exact hck | exact as2) (by first | exact ⟨fun _ => as3, fun _ => rfl⟩ | exact ⟨fun q => absurd q (by omega), fun q => by rcases (ex_s rfl).mp q with r | r; (have := as3.1.mpr r; omega); exact absurd (hhd.resolve_left (fun c => absurd c.1 (by omega))).2 r⟩) (by first | exact (ex_s rfl).mpr (Or.inl (as3.2.mp (by omega))) | exact ⟨x3.toNat, by omega, (hhd.resolve_left (fun c => absurd c.1 (by omega))).2⟩ | exact (ex_s rfl).mpr (Or.inl (as5.mp (by omega))) | exact ⟨x3.toNat, by omega, (as6.resolve_left (fun c => absurd c.1 (by omega))).2⟩) (by first | omega | assumption) (by omega))
        · skip
          refine r_ld (pc' := 66) rfl rfl rfl rfl ?_
          have hb131 := rd_4_13 hst.1
          refine r_gi (pc' := 69) rfl rfl sh_4 rfl rfl ?_
          refine r_zne (pc' := 72) rfl rfl ⟨by omega, by omega⟩ (fun hc132 => ?_) (fun hc132 => ?_)
          · skip
            refine r_c0 (pc' := 77) rfl rfl ?_
            refine r_st (pc' := 78) (lv' := [(2, _), (1, _), (0, _), (3, _)]) rfl rfl rfl rfl ?_
            refine r_ld (pc' := 79) rfl rfl rfl rfl ?_
            have h411 : z 4 11 = z0 4 11 := (hst.2.2.1 _ _ (notS_c (by omega) (notS_c (by omega) (notS_c (by omega) (notS_c (by omega) notS_n)))))
            have h412 : z 4 12 = z0 4 12 := (hst.2.2.1 _ _ (notS_c (by omega) (notS_c (by omega) (notS_c (by omega) (notS_c (by omega) notS_n)))))
            have hb133 := rd_4_9 hst.1
            have hb134 := rd_4_11 hz
            have hf135 : z 4 11 = z0 4 11 := (hst.2.2.1 _ _ (notS_c (by omega) (notS_c (by omega) (notS_c (by omega) (notS_c (by omega) notS_n)))))
            have hb136 := rd_4_10 hst.1
            have hb137 := rd_4_12 hz
            have hf138 : z 4 12 = z0 4 12 := (hst.2.2.1 _ _ (notS_c (by omega) (notS_c (by omega) (notS_c (by omega) (notS_c (by omega) notS_n)))))
            refine r_cVI (pc' := 82) rfl rfl rfl rfl rfl sh_4 (m_89v (d := d + 1)  hst.1 hst.2.1 ) (fun v139 z140 w141 p142 h143 hs144 hE145 => ?_)
            obtain ⟨rfl, rfl, rfl, hE145⟩ := hE145
            have hib := hE145.2.2
            have hcx : v139 = 1 → cuc z = cuc z0 := fun q => Prod.ext (by show (z 4 9).toNat = (z0 4 9).toNat; have := hib.1 q; omega) (by show z 4 10 = z0 4 10; have := hib.1 q; omega)
            refine r_zeq (pc' := 85) rfl rfl ⟨by omega, by omega⟩ (fun hc147 => ?_) (fun hc147 => ?_)
            · skip
              refine r_inc (pc' := 91) (lv' := [(2, _), (1, _), (0, _)]) rfl rfl rfl rfl rfl ?_
              refine r_go rfl ?_
              exact w_lv (sub_c rfl (sub_c rfl (sub_c rfl (sub_c rfl sub_n)))) rfl (ih0 1 0 (x3 + 1) z w ⟨by omega, by omega⟩ ⟨by omega, by omega⟩ ⟨by omega, by omega⟩ hst (by first | exact hv2 | exact as1 | (simp only []; exact as1) | exact hvs) (by first | exact CK_0 rfl rfl (fun k => Iff.rfl) | (rw [show (x3 + 1).toNat = x3.toNat + 1 by omega]; exact as2) | (exfalso; omega)) (by first | exact CH_0 rfl (by omega) (by omega) | (rw [show (x3 + 1).toNat = x3.toNat + 1 by omega]; exact ⟨as3, ⟨fun _ => as5, fun _ => rfl⟩⟩) | (rw [show (x3 + 1).toNat = x3.toNat + 1 by omega]; exact ⟨⟨fun _ => as3, fun _ => rfl⟩, ⟨fun q => absurd q (by omega), fun q => by rcases (ex_s rfl).mp q with r | r; (have := as5.mpr r; omega); exact absurd r (as6.resolve_right (fun c => absurd c.1 (by omega))).2⟩⟩) | (exfalso; omega)) (by first | (left; omega) | (right; intro q; have q1 : (z 4 9).toNat = (z0 4 9).toNat := congrArg Prod.fst q; have q2 : z 4 10 = z0 4 10 := congrArg Prod.snd q; have q3 := hib.2 (by omega); omega)) (by first | omega | assumption) (by omega))
            · skip
              refine r_go rfl ?_
              exact w_lv (sub_c rfl (sub_c rfl sub_n)) rfl (ih3 1 0 z w ⟨by omega, by omega⟩ ⟨by omega, by omega⟩ hst (by first | exact (CK_x (show WT _ _ _ _ _ from hwt) htl.1 (VS_vd hvs) as2 as4 (by rw [← htl.2.2]; omega)).elim | exact ⟨x3.toNat + 1, by omega, (CK_e as2 (by omega) (hcx (by omega))).1, ⟨as3, ⟨fun _ => as5, fun _ => rfl⟩⟩⟩ | exact ⟨x3.toNat + 1, by omega, (CK_e as2 (by omega) (hcx (by omega))).1, ⟨⟨fun _ => as3, fun _ => rfl⟩, ⟨fun q => absurd q (by omega), fun q => by rcases (ex_s rfl).mp q with r | r; (have := as5.mpr r; omega); exact absurd r (as6.resolve_right (fun c => absurd c.1 (by omega))).2⟩⟩⟩ | (exfalso; omega)) (by first | exact (CK_x (show WT _ _ _ _ _ from hwt) htl.1 (VS_vd hvs) as2 as4 (by rw [← htl.2.2]; omega)).elim | exact (CK_e as2 (by omega) (hcx (by omega))).2 | (exfalso; omega)) (by first | omega | assumption) (by omega))
          · skip
            have hb148 := rd_4_9 hst.1
            have hb149 := rd_4_10 hst.1
            exact w_lv (sub_c rfl (sub_c rfl (sub_c rfl sub_n))) rfl (ih2 1 x3 z w ⟨by omega, by omega⟩ ⟨by omega, by omega⟩ ⟨by omega, by omega⟩ hst (by first | exact hv2 | exact as1 | (simp only []; exact as1) | exact hvs) (by first | exact hck | exact as2) (by first | exact ⟨fun _ => as3, fun _ => rfl⟩ | exact ⟨fun q => absurd q (by omega), fun q => by rcases (ex_s rfl).mp q with r | r; (have := as3.1.mpr r; omega); exact absurd (hhd.resolve_left (fun c => absurd c.1 (by omega))).2 r⟩) (by first | exact (ex_s rfl).mpr (Or.inl (as3.2.mp (by omega))) | exact ⟨x3.toNat, by omega, (hhd.resolve_left (fun c => absurd c.1 (by omega))).2⟩ | exact (ex_s rfl).mpr (Or.inl (as5.mp (by omega))) | exact ⟨x3.toNat, by omega, (as6.resolve_left (fun c => absurd c.1 (by omega))).2⟩) (by first | omega | assumption) (by omega))
      · intro x1 x3 z w  hx1 hx3 hz0_0 hst as1 as2 as3 as5 as0 hM
        refine r_c0 (pc' := 73) rfl rfl ?_
        refine r_go rfl ?_
        refine r_st (pc' := 78) (lv' := [(2, _), (0, _), (1, _), (3, _)]) rfl rfl rfl rfl ?_
        refine r_ld (pc' := 79) rfl rfl rfl rfl ?_
        have h411 : z 4 11 = z0 4 11 := (hst.2.2.1 _ _ (notS_c (by omega) (notS_c (by omega) (notS_c (by omega) (notS_c (by omega) notS_n)))))
        have h412 : z 4 12 = z0 4 12 := (hst.2.2.1 _ _ (notS_c (by omega) (notS_c (by omega) (notS_c (by omega) (notS_c (by omega) notS_n)))))
        have hb150 := rd_4_9 hst.1
        have hb151 := rd_4_11 hz
        have hf152 : z 4 11 = z0 4 11 := (hst.2.2.1 _ _ (notS_c (by omega) (notS_c (by omega) (notS_c (by omega) (notS_c (by omega) notS_n)))))
        have hb153 := rd_4_10 hst.1
        have hb154 := rd_4_12 hz
        have hf155 : z 4 12 = z0 4 12 := (hst.2.2.1 _ _ (notS_c (by omega) (notS_c (by omega) (notS_c (by omega) (notS_c (by omega) notS_n)))))
        refine r_cVI (pc' := 82) rfl rfl rfl rfl rfl sh_4 (m_89v (d := d + 1)  hst.1 hst.2.1 ) (fun v156 z157 w158 p159 h160 hs161 hE162 => ?_)
        obtain ⟨rfl, rfl, rfl, hE162⟩ := hE162
        have hib := hE162.2.2
        have hcx : v156 = 1 → cuc z = cuc z0 := fun q => Prod.ext (by show (z 4 9).toNat = (z0 4 9).toNat; have := hib.1 q; omega) (by show z 4 10 = z0 4 10; have := hib.1 q; omega)
        refine r_zeq (pc' := 85) rfl rfl ⟨by omega, by omega⟩ (fun hc164 => ?_) (fun hc164 => ?_)
        · skip
          refine r_inc (pc' := 91) (lv' := [(2, _), (0, _), (1, _)]) rfl rfl rfl rfl rfl ?_
          refine r_go rfl ?_
          have hb165 := rd_4_13 hst.1
          exact w_lv (sub_c rfl (sub_c rfl (sub_c rfl (sub_c rfl sub_n)))) rfl (ih0 x1 1 (x3 + 1) z w ⟨by omega, by omega⟩ ⟨by omega, by omega⟩ ⟨by omega, by omega⟩ hst (by first | exact hv2 | exact as1 | (simp only []; exact as1) | exact hvs) (by first | exact CK_0 rfl rfl (fun k => Iff.rfl) | (rw [show (x3 + 1).toNat = x3.toNat + 1 by omega]; exact as2) | (exfalso; omega)) (by first | exact CH_0 rfl (by omega) (by omega) | (rw [show (x3 + 1).toNat = x3.toNat + 1 by omega]; exact ⟨as3, ⟨fun _ => as5, fun _ => rfl⟩⟩) | (rw [show (x3 + 1).toNat = x3.toNat + 1 by omega]; exact ⟨⟨fun _ => as3, fun _ => rfl⟩, ⟨fun q => absurd q (by omega), fun q => by rcases (ex_s rfl).mp q with r | r; (have := as5.mpr r; omega); exact absurd r (as6.resolve_right (fun c => absurd c.1 (by omega))).2⟩⟩) | (exfalso; omega)) (by first | (left; omega) | (right; intro q; have q1 : (z 4 9).toNat = (z0 4 9).toNat := congrArg Prod.fst q; have q2 : z 4 10 = z0 4 10 := congrArg Prod.snd q; have q3 := hib.2 (by omega); omega)) (by first | omega | assumption) (by omega))
        · skip
          refine r_go rfl ?_
          exact w_lv (sub_c rfl (sub_c rfl sub_n)) rfl (ih3 x1 1 z w ⟨by omega, by omega⟩ ⟨by omega, by omega⟩ hst (by first | exact (CK_x (show WT _ _ _ _ _ from hwt) htl.1 (VS_vd hvs) as2 as4 (by rw [← htl.2.2]; omega)).elim | exact ⟨x3.toNat + 1, by omega, (CK_e as2 (by omega) (hcx (by omega))).1, ⟨as3, ⟨fun _ => as5, fun _ => rfl⟩⟩⟩ | exact ⟨x3.toNat + 1, by omega, (CK_e as2 (by omega) (hcx (by omega))).1, ⟨⟨fun _ => as3, fun _ => rfl⟩, ⟨fun q => absurd q (by omega), fun q => by rcases (ex_s rfl).mp q with r | r; (have := as5.mpr r; omega); exact absurd r (as6.resolve_right (fun c => absurd c.1 (by omega))).2⟩⟩⟩ | (exfalso; omega)) (by first | exact (CK_x (show WT _ _ _ _ _ from hwt) htl.1 (VS_vd hvs) as2 as4 (by rw [← htl.2.2]; omega)).elim | exact (CK_e as2 (by omega) (hcx (by omega))).2 | (exfalso; omega)) (by first | omega | assumption) (by omega))
      · intro x1 x2 z w  hx1 hx2 hst as2 as3 as0 hM
        refine r_ld (pc' := 95) rfl rfl rfl rfl ?_
        refine r_ld (pc' := 96) rfl rfl rfl rfl ?_
        refine r_ieq (pc' := 99) rfl rfl ⟨by omega, by omega⟩ ⟨by omega, by omega⟩ (fun hc166 => ?_) (fun hc166 => ?_)
        · skip
          refine r_c0 (pc' := 104) rfl rfl ?_
          exact r_rz rfl (by omega) (po_I hst ⟨by decide, by decide⟩ ⟨rfl, by omega, by omega, (by obtain ⟨K, hK, eK, hch⟩ := as2; have r1 := RG_e hK eK hch; have r2 := CH_1 hK hch; exact ⟨as3, fun h => r1.mpr (by omega), fun h q => absurd (r1.mp q) (by omega)⟩)⟩)
        · skip
          refine r_c0 (pc' := 100) rfl rfl ?_
          refine r_go rfl ?_
          exact r_rz rfl (by omega) (po_I hst ⟨by decide, by decide⟩ ⟨rfl, by omega, by omega, (by obtain ⟨K, hK, eK, hch⟩ := as2; have r1 := RG_e hK eK hch; have r2 := CH_1 hK hch; exact ⟨as3, fun h => r1.mpr (by omega), fun h q => absurd (r1.mp q) (by omega)⟩)⟩)
  refine w_m rfl rfl ?_
  refine r_c0 (pc' := 1) rfl rfl ?_
  refine r_st (pc' := 2) (lv' := [(1, _), (0, _)]) rfl rfl rfl rfl ?_
  refine r_c0 (pc' := 3) rfl rfl ?_
  refine r_st (pc' := 4) (lv' := [(2, _), (1, _), (0, _)]) rfl rfl rfl rfl ?_
  refine r_c0 (pc' := 5) rfl rfl ?_
  refine r_st (pc' := 6) (lv' := [(3, _), (2, _), (1, _), (0, _)]) rfl rfl rfl rfl ?_
  have hb167 := rd_4_9 hz
  have hb168 := rd_4_10 hz
  have hb169 := rd_4_13 hz
  exact w_lv (sub_c rfl (sub_c rfl (sub_c rfl (sub_c rfl sub_n)))) rfl ((key ((60 * (18000 - 0) + 53 : Int).toNat + 1)).1 0 0 0 z0 w0 ⟨by omega, by omega⟩ ⟨by omega, by omega⟩ ⟨by omega, by omega⟩ hst (by first | exact hv2 | exact as1 | (simp only []; exact as1) | exact hvs) (by first | exact CK_0 rfl rfl (fun k => Iff.rfl) | (rw [show (x3 + 1).toNat = x3.toNat + 1 by omega]; exact as2) | (exfalso; omega)) (by first | exact CH_0 rfl (by omega) (by omega) | (rw [show (x3 + 1).toNat = x3.toNat + 1 by omega]; exact ⟨as3, ⟨fun _ => as5, fun _ => rfl⟩⟩) | (rw [show (x3 + 1).toNat = x3.toNat + 1 by omega]; exact ⟨⟨fun _ => as3, fun _ => rfl⟩, ⟨fun q => absurd q (by omega), fun q => by rcases (ex_s rfl).mp q with r | r; (have := as5.mpr r; omega); exact absurd r (as6.resolve_right (fun c => absurd c.1 (by omega))).2⟩⟩) | (exfalso; omega)) (by first | (left; omega) | (right; intro q; have q1 : (z0 4 9).toNat = (z0 4 9).toNat := congrArg Prod.fst q; have q2 : z0 4 10 = z0 4 10 := congrArg Prod.snd q; have q3 := hib.2 (by omega); omega)) (by first | omega | assumption) (by omega))
/-- Tracer countLoops -/
abbrev S_93f  : mS := [(4, 4, 0, 0), (4, 4, 1, 1), (5, 5, 0, 281), (4, 4, 9, 9), (4, 4, 10, 10), (4, 4, 11, 11), (4, 4, 12, 12), (4, 4, 13, 13)]
abbrev E_93f (t : Nat) (z0 w0 : mZ) (x y tx it mt ct : Option Nat) : mZ → mZ → mP → Prop := fun z w p => p = (pq x y tx it mt (some t) ct) ∧ (z 4 0 = (lpe (z0 (t + 1)) (z0 (t + 2)) (z0 (t + 5)) (z0 7) (z0 t 1).toNat).2.1 ∧ z 4 1 = (lpe (z0 (t + 1)) (z0 (t + 2)) (z0 (t + 5)) (z0 7) (z0 t 1).toNat).2.2)
theorem m_93f {d : Nat} {z0 w0 : mZ} {x y tx it mt ct : Option Nat} (t : Nat) (hz : rz z0) (hw : rw_ w0) (ht : isT t) (hwt : WTt z0 t) (htl : TL z0 t) : wc (d + 4) 93 [.ref 4] (mk z0 w0 (pq x y tx it mt (some t) ct)) (poV S_93f z0 w0 (E_93f t z0 w0 x y tx it mt ct)) := by
  have hst : st_ S_93f z0 w0 z0 w0 := st_rf hz hw
  have htb : 159 ≤ t ∧ t ≤ 192 := by have := ht; unfold isT at this; omega
  have hz75 := rd_T_1 ht hz
  have hz48 := rd_4_8 hz
  have hzt1 := rd_T_1 ht hz
  have key : ∀ N : Nat, (∀ (x1 : Int) (z w : mZ), 0 ≤ x1 ∧ x1 ≤ 282 → st_ S_93f z0 w0 z w → z 4 9 = z0 4 9 → z 4 10 = z0 4 10 → z 4 11 = z0 4 11 → z 4 12 = z0 4 12 → z 4 13 = z0 4 13 → (z 4 0 = 0 ∧ z 4 1 = 0) → (∀ j : Nat, (j : Int) < x1 → w 5 j = 0) → 75 * (282 - x1) + 27004566 < (N : Int) → wp_ (d + 3) 93 3 none (12, [(0, .ref 4), (1, .int (Int32.ofInt x1))], [], mk z w (pq x y tx it mt (some t) ct)) (poV S_93f z0 w0 (E_93f t z0 w0 x y tx it mt ct))) ∧ (∀ (x1 : Int) (z w : mZ), 0 ≤ x1 ∧ x1 ≤ 18 → st_ S_93f z0 w0 z w → (LPS (z0 7) (lpe (z0 (t + 1)) (z0 (t + 2)) (z0 (t + 5)) (z0 7) x1.toNat) (PB w) (z 4 0) (z 4 1)) → (x1 ≤ z0 t 1) → 1350225 * (18 - x1) + 1350201 < (N : Int) → wp_ (d + 3) 93 3 none (38, [(0, .ref 4), (1, .int (Int32.ofInt x1))], [], mk z w (pq x y tx it mt (some t) ct)) (poV S_93f z0 w0 (E_93f t z0 w0 x y tx it mt ct))) ∧ (∀ (x1 x2 : Int) (z w : mZ), 0 ≤ x1 ∧ x1 ≤ 17 → 0 ≤ x2 ∧ x2 ≤ 18000 → 1 ≤ z0 t 1 ∧ z0 t 1 ≤ 18 → st_ S_93f z0 w0 z w → (LPS (z0 7) (lpi (z0 (t + 1)) (z0 (t + 2)) (z0 (t + 5)) (z0 7) x1.toNat x2.toNat (lpe (z0 (t + 1)) (z0 (t + 2)) (z0 (t + 5)) (z0 7) x1.toNat)) (PB w) (z 4 0) (z 4 1)) → (x1 < z0 t 1) → (x2 ≤ z0 7 x1.toNat) → 1350225 * (18 - x1) + 75 * (18000 - x2) + 44 < (N : Int) → wp_ (d + 3) 93 3 none (51, [(0, .ref 4), (1, .int (Int32.ofInt x1)), (2, .int (Int32.ofInt x2))], [], mk z w (pq x y tx it mt (some t) ct)) (poV S_93f z0 w0 (E_93f t z0 w0 x y tx it mt ct))) := by
    intro N
    induction N with
    | zero =>
      refine ⟨?_, ?_, ?_⟩
      · intro x1 z w
        intros; exfalso; omega
      · intro x1 z w
        intros; exfalso; omega
      · intro x1 x2 z w
        intros; exfalso; omega
    | succ N ih =>
      obtain ⟨ih0, ih1, ih2⟩ := ih
      refine ⟨?_, ?_, ?_⟩
      · intro x1 z w  hx1 hst un_z_4_9 un_z_4_10 un_z_4_11 un_z_4_12 un_z_4_13 as1 as2 hM
        refine r_ld (pc' := 13) rfl rfl rfl rfl ?_
        refine r_ld (pc' := 14) rfl rfl rfl rfl ?_
        have hb76 := rd_4_8 hz
        refine r_gi (pc' := 17) rfl rfl sh_4 rfl (hst.2.2.1 _ _ (notS_c (by omega) (notS_c (by omega) (notS_c (by omega) (notS_c (by omega) (notS_c (by omega) (notS_c (by omega) (notS_c (by omega) (notS_c (by omega) notS_n))))))))) ?_
        refine r_cb (pc' := 19) rfl (by decide) rfl ?_
        refine r_dv (pc' := 20) (v := (z0 4 8) / 64) rfl rfl ⟨by omega, by omega⟩ ⟨by decide, by decide⟩ (by decide) (tdiv_n (by omega)) ?_
        refine r_igt (pc' := 23) rfl rfl ⟨by omega, by omega⟩ ⟨by omega, by omega⟩ (fun hc77 => ?_) (fun hc77 => ?_)
        · skip
          refine r_c0 (pc' := 37) rfl rfl ?_
          refine r_st (pc' := 38) (lv' := [(1, _), (0, _)]) rfl rfl rfl rfl ?_
          have hb78 := rd_4_0 hst.1
          have hb79 := rd_4_1 hst.1
          exact w_lv (sub_c rfl (sub_c rfl sub_n)) rfl (ih1 0 z w ⟨by omega, by omega⟩ hst (by first | exact LP_e as1 (by omega) (by omega) | exact LP_0 (by rw [← htl.2.2]; exact PB_0 (fun j hj => as2 j (by omega))) (by omega) (by omega)) (by first | omega | assumption) (by omega))
        · skip
          refine r_ld (pc' := 24) rfl rfl rfl rfl ?_
          refine r_gr (b := 5) (pc' := 27) rfl rfl sh_4 rfl pp_4_2 ?_
          refine r_ld (pc' := 28) rfl rfl rfl rfl ?_
          refine r_lc0 (pc' := 29) rfl rfl ?_
          refine r_ls (pc' := 30) rfl rfl sh_5 rfl (by omega) (by omega) hst (inS_s (inS_s (inS_0 (by omega) (by omega) (by omega) (by omega)))) (wr_5 ⟨by omega, by omega⟩) (fun w80 hq81 hs82 => ?_)
          have hqz := hq81
          refine r_inc (pc' := 33) (lv' := [(0, _)]) rfl rfl rfl rfl rfl ?_
          refine r_go rfl ?_
          have hb83 := rd_4_0 hst.1
          have hb84 := rd_4_1 hst.1
          have hb85 := rd_4_9 hz
          have hb86 := rd_4_10 hz
          have hb87 := rd_4_11 hz
          have hb88 := rd_4_12 hz
          have hb89 := rd_4_13 hz
          exact w_lv (sub_c rfl (sub_c rfl sub_n)) rfl (ih0 (x1 + 1) z w80 ⟨by omega, by omega⟩ hs82 (un_z_4_9) (un_z_4_10) (un_z_4_11) (un_z_4_12) (un_z_4_13) (by first | omega | assumption) (by first | (intro j hj; exfalso; omega) | (intro j hj; rw [hqz]; by_cases c : j = x1.toNat; (subst c; exact mu_eq); (rw [mu_ne (by omega)]; exact as2 j (by omega)))) (by omega))
      · intro x1 z w  hx1 hst as1 as2 hM
        refine r_ld (pc' := 39) rfl rfl rfl rfl ?_
        refine r_ld (pc' := 40) rfl rfl rfl rfl ?_
        refine r_gr (b := t) (pc' := 43) rfl rfl sh_4 rfl pp_4_7 ?_
        have hb90 := rd_T_1 ht hz
        refine r_gi (pc' := 46) rfl rfl (sh_T ht) rfl (hst.2.2.1 _ _ (notS_c (by omega) (notS_c (by omega) (notS_c (by omega) (notS_c (by omega) (notS_c (by omega) (notS_c (by omega) (notS_c (by omega) (notS_c (by omega) notS_n))))))))) ?_
        refine r_ige (pc' := 49) rfl rfl ⟨by omega, by omega⟩ ⟨by omega, by omega⟩ (fun hc91 => ?_) (fun hc91 => ?_)
        · skip
          have hb92 := rd_4_0 hst.1
          have hb93 := rd_4_1 hst.1
          exact r_ret rfl (po_V hst ⟨rfl, (by have e9 : x1.toNat = (z0 t 1).toNat := (by omega); rw [e9] at as1; exact as1.2)⟩)
        · skip
          refine r_c0 (pc' := 50) rfl rfl ?_
          refine r_st (pc' := 51) (lv' := [(2, _), (0, _), (1, _)]) rfl rfl rfl rfl ?_
          have hb94 := rd_4_0 hst.1
          have hb95 := rd_4_1 hst.1
          exact w_lv (sub_c rfl (sub_c rfl (sub_c rfl sub_n))) rfl (ih2 x1 0 z w ⟨by omega, by omega⟩ ⟨by omega, by omega⟩ ⟨by omega, by omega⟩ hst (by first | exact as1 | exact LP_y as1 hsb2 (by rw [hx2c, ← hs6]; exact hpa.1 (by omega)) (by omega) | exact LP_n as1 hsb2 (by rw [hx2c, ← hs6]; exact hpa.2 (by omega)) (by omega) (fun k hk => (PB_e (fun j => NOMARK) k).trans ((hcl.1 k).trans (or_congr_left (PB_e gw k)))) (by omega) (by first | exact Or.inl ⟨by omega, hcl.2.1 (by omega)⟩ | exact Or.inr ⟨by omega, hcl.2.2 (by omega)⟩)) (by first | omega | assumption) (by first | omega | (have h7 := rd_7 hz (i := x1.toNat) (by omega); omega)) (by omega))
      · intro x1 x2 z w  hx1 hx2 hz0_0 hst as1 as3 as4 hM
        refine r_ld (pc' := 52) rfl rfl rfl rfl ?_
        refine r_ld (pc' := 53) rfl rfl rfl rfl ?_
        refine r_gr (b := 7) (pc' := 56) rfl rfl sh_4 rfl pp_4_4 ?_
        refine r_ld (pc' := 57) rfl rfl rfl rfl ?_
        have hb96 := rd_7 hz (i := x1.toNat) (by omega)
        refine r_ia (pc' := 58) rfl rfl sh_7 rfl (by omega) (by omega) (hst.2.2.1 _ _ (notS_c (by omega) (notS_c (by omega) (notS_c (by omega) (notS_c (by omega) (notS_c (by omega) (notS_c (by omega) (notS_c (by omega) (notS_c (by omega) notS_n))))))))) ?_
        refine r_ige (pc' := 61) rfl rfl ⟨by omega, by omega⟩ ⟨by omega, by omega⟩ (fun hc97 => ?_) (fun hc97 => ?_)
        · skip
          refine r_inc (pc' := 130) (lv' := [(0, _), (2, _)]) rfl rfl rfl rfl rfl ?_
          refine r_go rfl ?_
          have hb98 := rd_4_0 hst.1
          have hb99 := rd_4_1 hst.1
          exact w_lv (sub_c rfl (sub_c rfl sub_n)) rfl (ih1 (x1 + 1) z w ⟨by omega, by omega⟩ hst (by first | exact LP_e as1 (by omega) (by omega) | exact LP_0 (by rw [← htl.2.2]; exact PB_0 (fun j hj => as2 j (by omega))) (by omega) (by omega)) (by first | omega | assumption) (by omega))
        · skip
          have hsb := sm_b (n := z0 7) htl.1.1 (e := x1.toNat) (i := x2) (by omega) (by omega) (by omega)
          have hs6 := htl.2.1 x1.toNat (by omega)
          have hs8 := htl.2.2
          have hx2c : ((x2.toNat : Nat) : Int) = x2 := by omega
          have hsb2 : 0 ≤ sm (z0 7) x1.toNat + ((x2.toNat : Nat) : Int) ∧ sm (z0 7) x1.toNat + ((x2.toNat : Nat) : Int) < sm (z0 7) 18 := by rw [hx2c]; exact hsb
          have hlr := LP_r htl.1.1 (by omega) as1
          refine r_ld (pc' := 62) rfl rfl rfl rfl ?_
          refine r_ld (pc' := 63) rfl rfl rfl rfl ?_
          refine r_gr (b := 6) (pc' := 66) rfl rfl sh_4 rfl pp_4_3 ?_
          refine r_ld (pc' := 67) rfl rfl rfl rfl ?_
          have hb100 := rd_6 hz (i := x1.toNat) (by omega)
          refine r_ia (pc' := 68) rfl rfl sh_6 rfl (by omega) (by omega) (hst.2.2.1 _ _ (notS_c (by omega) (notS_c (by omega) (notS_c (by omega) (notS_c (by omega) (notS_c (by omega) (notS_c (by omega) (notS_c (by omega) (notS_c (by omega) notS_n))))))))) ?_
          refine r_ld (pc' := 69) rfl rfl rfl rfl ?_
          refine r_add (pc' := 70) rfl rfl ?_
          refine r_cVI (pc' := 73) rfl rfl rfl rfl rfl sh_4 (m_94f (d := d + 2) ((z0 6 x1.toNat) + x2) hst.1 hst.2.1 ⟨by omega, by omega⟩) (fun v101 z102 w103 p104 h105 hs106 hE107 => ?_)
          obtain ⟨rfl, rfl, rfl, hE107⟩ := hE107
          have hpa := hE107.2.2
          refine r_zne (pc' := 76) rfl rfl ⟨by omega, by omega⟩ (fun hc109 => ?_) (fun hc109 => ?_)
          · skip
            refine r_inc (pc' := 124) (lv' := [(0, _), (1, _)]) rfl rfl rfl rfl rfl ?_
            refine r_go rfl ?_
            have hb110 := rd_4_0 hst.1
            have hb111 := rd_4_1 hst.1
            exact w_lv (sub_c rfl (sub_c rfl (sub_c rfl sub_n))) rfl (ih2 x1 (x2 + 1) z w ⟨by omega, by omega⟩ ⟨by omega, by omega⟩ ⟨by omega, by omega⟩ hst (by first | exact as1 | exact LP_y as1 hsb2 (by rw [hx2c, ← hs6]; exact hpa.1 (by omega)) (by omega) | exact LP_n as1 hsb2 (by rw [hx2c, ← hs6]; exact hpa.2 (by omega)) (by omega) (fun k hk => (PB_e (fun j => NOMARK) k).trans ((hcl.1 k).trans (or_congr_left (PB_e gw k)))) (by omega) (by first | exact Or.inl ⟨by omega, hcl.2.1 (by omega)⟩ | exact Or.inr ⟨by omega, hcl.2.2 (by omega)⟩)) (by first | omega | assumption) (by first | omega | (have h7 := rd_7 hz (i := x1.toNat) (by omega); omega)) (by omega))
          · skip
            refine r_ld (pc' := 77) rfl rfl rfl rfl ?_
            refine r_ld (pc' := 78) rfl rfl rfl rfl ?_
            refine r_gr (b := t) (pc' := 81) rfl rfl sh_4 rfl pp_4_7 ?_
            refine r_gr (b := t + 5) (pc' := 84) rfl rfl (sh_T ht) rfl (pp_T_9 ht) ?_
            refine r_ld (pc' := 85) rfl rfl rfl rfl ?_
            have hb112 := rd_T5 ht hz (i := x1.toNat) (by omega)
            refine r_ia (pc' := 86) rfl rfl (sh_T5 ht) rfl (by omega) (by omega) (hst.2.2.1 _ _ (notS_c (by omega) (notS_c (by omega) (notS_c (by omega) (notS_c (by omega) (notS_c (by omega) (notS_c (by omega) (notS_c (by omega) (notS_c (by omega) notS_n))))))))) ?_
            refine r_ld (pc' := 87) rfl rfl rfl rfl ?_
            refine r_cVV (pc' := 90) rfl rfl rfl rfl rfl sh_4 (m_87f (d := d + 2) (z0 (t + 5) x1.toNat) x2 hst.1 hst.2.1 ⟨by omega, by omega⟩ ⟨by omega, by omega⟩) (fun z114 w115 p116 hs118 hE119 => ?_)
            have hs120 := st_tr hst hs118 (sub_B rfl)
            obtain ⟨rfl, hE119⟩ := hE119
            have hbg := hE119
            refine r_ld (pc' := 91) rfl rfl rfl rfl ?_
            refine r_al (pc' := 92) rfl rfl rfl rfl ?_
            have hb121 := rd_4_0 hst.1
            refine r_gi (pc' := 95) rfl rfl sh_4 rfl (hs118.2.2.1 _ _ (notS_c (by omega) (notS_c (by omega) (notS_c (by omega) (notS_c (by omega) notS_n))))) ?_
            refine r_c0 (pc' := 96) rfl rfl ?_
            refine r_add (pc' := 97) rfl rfl ?_
            refine w_hxi (fun v122 h123 h124 => ?_)
            refine r_pi (pc' := 100) rfl rfl sh_4 rfl rfl hs120 (inS_0 (by omega) (by omega) (by omega) (by omega)) (wr_4_0 ⟨by omega, by omega⟩) (fun z125 hq126 hs127 => ?_)
            have hq97 := hq126
            refine r_ld (pc' := 101) rfl rfl rfl rfl ?_
            refine r_al (pc' := 102) rfl rfl rfl rfl ?_
            have hb128 := rd_4_1 hst.1
            refine r_gi (pc' := 105) rfl rfl sh_4 rfl (((congrFun (congrFun hq126 _) _).trans (mu_ne (by omega))).trans (hs118.2.2.1 _ _ (notS_c (by omega) (notS_c (by omega) (notS_c (by omega) (notS_c (by omega) notS_n)))))) ?_
            refine r_ld (pc' := 106) rfl rfl rfl rfl ?_
            have g1 : z125 (t + 1) = z0 (t + 1) := funext fun i => hs127.2.2.1 _ _ (notS_c (by omega) (notS_c (by omega) (notS_c (by omega) (notS_c (by omega) (notS_c (by omega) (notS_c (by omega) (notS_c (by omega) (notS_c (by omega) (notS_n)))))))))
            have g5 : z125 (t + 5) = z0 (t + 5) := funext fun i => hs127.2.2.1 _ _ (notS_c (by omega) (notS_c (by omega) (notS_c (by omega) (notS_c (by omega) (notS_c (by omega) (notS_c (by omega) (notS_c (by omega) (notS_c (by omega) (notS_n)))))))))
            have g7 : z125 7 = z0 7 := funext fun i => hs127.2.2.1 _ _ (notS_c (by omega) (notS_c (by omega) (notS_c (by omega) (notS_c (by omega) (notS_c (by omega) (notS_c (by omega) (notS_c (by omega) (notS_c (by omega) (notS_n)))))))))
            have g0 : z125 t 0 = z0 t 0 := hs127.2.2.1 _ _ (notS_c (by omega) (notS_c (by omega) (notS_c (by omega) (notS_c (by omega) (notS_c (by omega) (notS_c (by omega) (notS_c (by omega) (notS_c (by omega) (notS_n)))))))))
            have g2 : z125 (t + 2) = z0 (t + 2) := funext fun i => hs127.2.2.1 _ _ (notS_c (by omega) (notS_c (by omega) (notS_c (by omega) (notS_c (by omega) (notS_c (by omega) (notS_c (by omega) (notS_c (by omega) (notS_c (by omega) (notS_n)))))))))
            have h49 : z125 4 9 = z0 (t + 5) x1.toNat := (congrFun (congrFun hq97 _) _).trans ((mu_ne (by omega)).trans hbg.1)
            have h410 : z125 4 10 = x2 := (congrFun (congrFun hq97 _) _).trans ((mu_ne (by omega)).trans hbg.2.1)
            have h411 : z125 4 11 = z0 (t + 5) x1.toNat := (congrFun (congrFun hq97 _) _).trans ((mu_ne (by omega)).trans hbg.2.2.1)
            have h412 : z125 4 12 = x2 := (congrFun (congrFun hq97 _) _).trans ((mu_ne (by omega)).trans hbg.2.2.2)
            have hcu : cuc z125 = ((z0 (t + 5) x1.toNat).toNat, ((x2.toNat : Nat) : Int)) := by unfold cuc; rw [h49, h410, hx2c]
            have gw : ∀ j, w115 5 j = w 5 j := fun j => (hs118.2.2.2 _ _ (notS_c (by omega) (notS_c (by omega) (notS_c (by omega) (notS_c (by omega) notS_n)))))
            have hb129 := rd_4_9 hs120.1
            have hf130 : z125 4 9 = z114 4 9 := ((congrFun (congrFun hq126 _) _).trans (mu_ne (by omega)))
            have hb131 := rd_4_10 hs120.1
            have hf132 : z125 4 10 = z114 4 10 := ((congrFun (congrFun hq126 _) _).trans (mu_ne (by omega)))
            have hb133 := rd_4_11 hs120.1
            have hf134 : z125 4 11 = z114 4 11 := ((congrFun (congrFun hq126 _) _).trans (mu_ne (by omega)))
            have hb135 := rd_4_12 hs120.1
            have hf136 : z125 4 12 = z114 4 12 := ((congrFun (congrFun hq126 _) _).trans (mu_ne (by omega)))
            have hF137 : z125 (t + 1) = z0 (t + 1) := (((congrFun hq126 _).trans (mu_fn (by omega))).trans ((funext fun _ => hs118.2.2.1 _ _ (notS_c (by omega) (notS_c (by omega) (notS_c (by omega) (notS_c (by omega) notS_n))))).trans (funext fun _ => hst.2.2.1 _ _ (notS_c (by omega) (notS_c (by omega) (notS_c (by omega) (notS_c (by omega) (notS_c (by omega) (notS_c (by omega) (notS_c (by omega) (notS_c (by omega) notS_n)))))))))))
            have hF138 : z125 (t + 2) = z0 (t + 2) := (((congrFun hq126 _).trans (mu_fn (by omega))).trans ((funext fun _ => hs118.2.2.1 _ _ (notS_c (by omega) (notS_c (by omega) (notS_c (by omega) (notS_c (by omega) notS_n))))).trans (funext fun _ => hst.2.2.1 _ _ (notS_c (by omega) (notS_c (by omega) (notS_c (by omega) (notS_c (by omega) (notS_c (by omega) (notS_c (by omega) (notS_c (by omega) (notS_c (by omega) notS_n)))))))))))
            have hF139 : z125 (t + 5) = z0 (t + 5) := (((congrFun hq126 _).trans (mu_fn (by omega))).trans ((funext fun _ => hs118.2.2.1 _ _ (notS_c (by omega) (notS_c (by omega) (notS_c (by omega) (notS_c (by omega) notS_n))))).trans (funext fun _ => hst.2.2.1 _ _ (notS_c (by omega) (notS_c (by omega) (notS_c (by omega) (notS_c (by omega) (notS_c (by omega) (notS_c (by omega) (notS_c (by omega) (notS_c (by omega) notS_n)))))))))))
            have hF140 : z125 7 = z0 7 := (((congrFun hq126 _).trans (mu_fn (by omega))).trans ((funext fun _ => hs118.2.2.1 _ _ (notS_c (by omega) (notS_c (by omega) (notS_c (by omega) (notS_c (by omega) notS_n))))).trans (funext fun _ => hst.2.2.1 _ _ (notS_c (by omega) (notS_c (by omega) (notS_c (by omega) (notS_c (by omega) (notS_c (by omega) (notS_c (by omega) (notS_c (by omega) (notS_c (by omega) notS_n)))))))))))
            refine r_cVI (pc' := 109) rfl rfl rfl rfl rfl sh_4 (m_95f (d := d) t hs127.1 hs127.2.1 ht (by exact WTt_f hs127 (notS_c (by omega) (notS_c (by omega) (notS_c (by omega) (notS_c (by omega) (notS_c (by omega) (notS_c (by omega) (notS_c (by omega) (notS_c (by omega) (notS_n))))))))) (notS_c (by omega) (notS_c (by omega) (notS_c (by omega) (notS_c (by omega) (notS_c (by omega) (notS_c (by omega) (notS_c (by omega) (notS_c (by omega) (notS_n))))))))) (fun i => (notS_c (by omega) (notS_c (by omega) (notS_c (by omega) (notS_c (by omega) (notS_c (by omega) (notS_c (by omega) (notS_c (by omega) (notS_c (by omega) (notS_n)))))))))) (fun i => (notS_c (by omega) (notS_c (by omega) (notS_c (by omega) (notS_c (by omega) (notS_c (by omega) (notS_c (by omega) (notS_c (by omega) (notS_c (by omega) (notS_n)))))))))) (fun i => (notS_c (by omega) (notS_c (by omega) (notS_c (by omega) (notS_c (by omega) (notS_c (by omega) (notS_c (by omega) (notS_c (by omega) (notS_c (by omega) (notS_n)))))))))) hwt) (by exact TL_f hs127 (notS_c (by omega) (notS_c (by omega) (notS_c (by omega) (notS_c (by omega) (notS_c (by omega) (notS_c (by omega) (notS_c (by omega) (notS_c (by omega) (notS_n))))))))) (notS_c (by omega) (notS_c (by omega) (notS_c (by omega) (notS_c (by omega) (notS_c (by omega) (notS_c (by omega) (notS_c (by omega) (notS_c (by omega) (notS_n))))))))) (fun i => (notS_c (by omega) (notS_c (by omega) (notS_c (by omega) (notS_c (by omega) (notS_c (by omega) (notS_c (by omega) (notS_c (by omega) (notS_c (by omega) (notS_n)))))))))) (fun i => (notS_c (by omega) (notS_c (by omega) (notS_c (by omega) (notS_c (by omega) (notS_c (by omega) (notS_c (by omega) (notS_c (by omega) (notS_c (by omega) (notS_n)))))))))) (fun i => (notS_c (by omega) (notS_c (by omega) (notS_c (by omega) (notS_c (by omega) (notS_c (by omega) (notS_c (by omega) (notS_c (by omega) (notS_c (by omega) (notS_n)))))))))) htl) (by simp only [VSt, g0, g1, g7, h49, h410]; exact VS_0 hwt (e := x1.toNat) (by omega) rfl (by omega) (by omega)) (by omega)) (fun v141 z142 w143 p144 h145 hs146 hE147 => ?_)
            have hs148 := st_tr hs127 hs146 (sub_B rfl)
            obtain ⟨rfl, hE147⟩ := hE147
            have hcl := hE147.2.2
            rw [g1, g2, g5, g7, hcu] at hcl
            refine r_zeq (pc' := 112) rfl rfl ⟨by omega, by omega⟩ (fun hc149 => ?_) (fun hc149 => ?_)
            · skip
              refine r_c0 (pc' := 117) rfl rfl ?_
              refine r_add (pc' := 118) rfl rfl ?_
              refine r_pi (pc' := 121) rfl rfl sh_4 rfl rfl hs148 (inS_s (inS_0 (by omega) (by omega) (by omega) (by omega))) (wr_4_1 ⟨by omega, by omega⟩) (fun z150 hq151 hs152 => ?_)
              refine r_inc (pc' := 124) (lv' := [(0, _), (1, _)]) rfl rfl rfl rfl rfl ?_
              refine r_go rfl ?_
              have hf153 : z150 4 0 = v122 := (((congrFun (congrFun hq151 _) _).trans (mu_ne (by omega))).trans ((hs146.2.2.1 _ _ (notS_c (by omega) (notS_c (by omega) (notS_c (by omega) (notS_c (by omega) notS_n))))).trans ((congrFun (congrFun hq126 _) _).trans mu_eq)))
              have hf154 : z150 4 1 = (z 4 1) + 0 := ((congrFun (congrFun hq151 _) _).trans mu_eq)
              exact w_lv (sub_c rfl (sub_c rfl (sub_c rfl sub_n))) rfl (ih2 x1 (x2 + 1) z150 w143 ⟨by omega, by omega⟩ ⟨by omega, by omega⟩ ⟨by omega, by omega⟩ hs152 (by first | exact as1 | exact LP_y as1 hsb2 (by rw [hx2c, ← hs6]; exact hpa.1 (by omega)) (by omega) | exact LP_n as1 hsb2 (by rw [hx2c, ← hs6]; exact hpa.2 (by omega)) (by omega) (fun k hk => (PB_e (fun j => rfl) k).trans ((hcl.1 k).trans (or_congr_left (PB_e gw k)))) (by omega) (by first | exact Or.inl ⟨by omega, hcl.2.1 (by omega)⟩ | exact Or.inr ⟨by omega, hcl.2.2 (by omega)⟩)) (by first | omega | assumption | (simp only [hf153, hf154]; assumption)) (by first | omega | (have h7 := rd_7 hz (i := x1.toNat) (by omega); omega)) (by omega))
            · skip
              refine r_c0 (pc' := 113) rfl rfl ?_
              refine r_go rfl ?_
              refine r_add (pc' := 118) rfl rfl ?_
              refine w_hxi (fun v155 h156 h157 => ?_)
              refine r_pi (pc' := 121) rfl rfl sh_4 rfl rfl hs148 (inS_s (inS_0 (by omega) (by omega) (by omega) (by omega))) (wr_4_1 ⟨by omega, by omega⟩) (fun z158 hq159 hs160 => ?_)
              refine r_inc (pc' := 124) (lv' := [(0, _), (1, _)]) rfl rfl rfl rfl rfl ?_
              refine r_go rfl ?_
              have hf161 : z158 4 0 = v122 := (((congrFun (congrFun hq159 _) _).trans (mu_ne (by omega))).trans ((hs146.2.2.1 _ _ (notS_c (by omega) (notS_c (by omega) (notS_c (by omega) (notS_c (by omega) notS_n))))).trans ((congrFun (congrFun hq126 _) _).trans mu_eq)))
              have hf162 : z158 4 1 = v155 := ((congrFun (congrFun hq159 _) _).trans mu_eq)
              exact w_lv (sub_c rfl (sub_c rfl (sub_c rfl sub_n))) rfl (ih2 x1 (x2 + 1) z158 w143 ⟨by omega, by omega⟩ ⟨by omega, by omega⟩ ⟨by omega, by omega⟩ hs160 (by first | exact as1 | exact LP_y as1 hsb2 (by rw [hx2c, ← hs6]; exact hpa.1 (by omega)) (by omega) | exact LP_n as1 hsb2 (by rw [hx2c, ← hs6]; exact hpa.2 (by omega)) (by omega) (fun k hk => (PB_e (fun j => rfl) k).trans ((hcl.1 k).trans (or_congr_left (PB_e gw k)))) (by omega) (by first | exact Or.inl ⟨by omega, hcl.2.1 (by omega)⟩ | exact Or.inr ⟨by omega, hcl.2.2 (by omega)⟩)) (by first | omega | assumption | (simp only [hf161, hf162]; assumption)) (by first | omega | (have h7 := rd_7 hz (i := x1.toNat) (by omega); omega)) (by omega))
  refine w_m rfl rfl ?_
  refine r_ld (pc' := 1) rfl rfl rfl rfl ?_
  refine r_c0 (pc' := 2) rfl rfl ?_
  refine r_pi (pc' := 5) rfl rfl sh_4 rfl rfl hst (inS_0 (by omega) (by omega) (by omega) (by omega)) (wr_4_0 ⟨by omega, by omega⟩) (fun z163 hq164 hs165 => ?_)
  refine r_ld (pc' := 6) rfl rfl rfl rfl ?_
  refine r_c0 (pc' := 7) rfl rfl ?_
  refine r_pi (pc' := 10) rfl rfl sh_4 rfl rfl hs165 (inS_s (inS_0 (by omega) (by omega) (by omega) (by omega))) (wr_4_1 ⟨by omega, by omega⟩) (fun z166 hq167 hs168 => ?_)
  refine r_c0 (pc' := 11) rfl rfl ?_
  refine r_st (pc' := 12) (lv' := [(1, _), (0, _)]) rfl rfl rfl rfl ?_
  have hf169 : z166 4 0 = 0 := (((congrFun (congrFun hq167 _) _).trans (mu_ne (by omega))).trans ((congrFun (congrFun hq164 _) _).trans mu_eq))
  have hf170 : z166 4 1 = 0 := ((congrFun (congrFun hq167 _) _).trans mu_eq)
  have hb171 := rd_4_9 hz
  have hb172 := rd_4_10 hz
  have hb173 := rd_4_11 hz
  have hb174 := rd_4_12 hz
  have hb175 := rd_4_13 hz
  exact w_lv (sub_c rfl (sub_c rfl sub_n)) rfl ((key ((75 * (282 - 0) + 27004566 : Int).toNat + 1)).1 0 z166 w0 ⟨by omega, by omega⟩ hs168 ((((congrFun (congrFun hq167 _) _).trans (mu_ne (by omega))).trans ((congrFun (congrFun hq164 _) _).trans (mu_ne (by omega))))) ((((congrFun (congrFun hq167 _) _).trans (mu_ne (by omega))).trans ((congrFun (congrFun hq164 _) _).trans (mu_ne (by omega))))) ((((congrFun (congrFun hq167 _) _).trans (mu_ne (by omega))).trans ((congrFun (congrFun hq164 _) _).trans (mu_ne (by omega))))) ((((congrFun (congrFun hq167 _) _).trans (mu_ne (by omega))).trans ((congrFun (congrFun hq164 _) _).trans (mu_ne (by omega))))) ((((congrFun (congrFun hq167 _) _).trans (mu_ne (by omega))).trans ((congrFun (congrFun hq164 _) _).trans (mu_ne (by omega))))) (by first | omega | assumption | (simp only [hf169, hf170]; assumption)) (by first | (intro j hj; exfalso; omega) | (intro j hj; rw [hqz]; by_cases c : j = x1.toNat; (subst c; exact mu_eq); (rw [mu_ne (by omega)]; exact as2 j (by omega)))) (by omega))

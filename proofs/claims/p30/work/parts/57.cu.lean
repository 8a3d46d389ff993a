section
/-! a new ground -/
/-- what holds of a new ground -/
def CU (z w : mZ) (u : Nat) : Prop := WTt z u ∧ LF z w u ∧ AK z w u ∧ KNz z ∧ GA z z u
theorem CU_cv {z w : mZ} {u : Nat} (k : CU z w u) (b : ∀ b : Nat, b < 3 → z 147 b = 0) : CV z w u := ⟨k.1, k.2.1, k.2.2.1, fun c hc q => absurd q (by rw [b c hc]; omega), k.2.2.2.1⟩
theorem CU_m {z z' w w' : mZ} {u : Nat} (hu : isT u) (hz : rz z) (h : ∀ a, a ≠ 147 → a ≠ 102 → a ≠ 1 → z' a = z a) (hw : ∀ a, a ≠ 147 → a ≠ 102 → a ≠ 1 → w' a = w a) (k : CU z w u) : CU z' w' u := by
  obtain ⟨k1, k2, k3, k4, k5⟩ := k
  have t3 := rd_T_3 hu hz
  have hu : u = 159 ∨ u = 192 := hu
  have e : z' u = z u := h u (by omega) (by omega) (by omega)
  have e1 : z' (u + 1) = z (u + 1) := h _ (by omega) (by omega) (by omega)
  have e2 : z' (u + 2) = z (u + 2) := h _ (by omega) (by omega) (by omega)
  have e5 : z' (u + 5) = z (u + 5) := h _ (by omega) (by omega) (by omega)
  have e39 : z' 39 = z 39 := h _ (by omega) (by omega) (by omega)
  have e3 : z' 3 = z 3 := h _ (by omega) (by omega) (by omega)
  refine ⟨?_, fun l hl => ?_, AK_s k3 (by rw [e]) e1 (by rw [e39]) (by rw [e39]) (fun a _ _ => hw a (by omega) (by omega) (by omega)), ?_, fun l hl => ?_⟩
  · unfold WTt at *; rw [e, e1, e2, e5]; exact k1
  · rw [e] at hl
    rw [hw (u + 8 + l) (by omega) (by omega) (by omega)]
    exact FTt_fr (by rw [e]) e1 (k2 l hl)
  · unfold KNz; rw [e3]; exact k4
  · rw [e] at hl
    exact GRt_cg (k5 l hl) (by rw [e]) e1.symm (fun i _ => by rw [h (17 + 2 * l) (by omega) (by omega) (by omega)]) (h (18 + 2 * l) (by omega) (by omega) (by omega))
theorem CU_of {za wa zb zs zc wc : mZ} {u : Nat} (hu : isT u) (ra : rz za) (w1 : WTt za u) (l1 : LF za wa u) (kn : KNz za) (gs : ∀ l : Nat, (l : Int) < zb u 3 → GRt zb zs u l) (c0 : zc 39 0 = 0) (c1 : zc 39 1 = 0) (cr : ∀ e : Nat, e < 18 → wc (aR zc 0) e = 0)
    (ez : ∀ a i, (a = u ∧ i ≤ 3) ∨ a = u + 1 ∨ a = u + 2 ∨ a = u + 5 ∨ (a = 3 ∧ 7 ≤ i ∧ i ≤ 9) → zc a i = za a i) (eb : ∀ a i, (a = u ∧ i ≤ 3) ∨ a = u + 1 → zb a i = za a i) (ew : ∀ a i, u + 8 ≤ a → a ≤ u + 15 → wc a i = wa a i) (es : ∀ a i, 17 ≤ a → a ≤ 32 → zc a i = zs a i) : CU zc wc u := by
  have hu' : u = 159 ∨ u = 192 := hu
  have e0 : zc u 0 = za u 0 := ez _ _ (by omega)
  have e1 : zc u 1 = za u 1 := ez _ _ (by omega)
  have e3 : zc u 3 = za u 3 := ez _ _ (by omega)
  have f1 : zc (u + 1) = za (u + 1) := funext fun i => ez _ _ (by omega)
  have f2 : zc (u + 2) = za (u + 2) := funext fun i => ez _ _ (by omega)
  have f5 : zc (u + 5) = za (u + 5) := funext fun i => ez _ _ (by omega)
  have t3 := rd_T_3 hu ra
  have wc1 : WTt zc u := by unfold WTt at *; rw [e0, e1, f1, f2, f5]; exact w1
  refine ⟨wc1, fun l hl => ?_, AK_c c0 c1 (FT_0 (WT.lt wc1) cr), ?_, fun l hl => ?_⟩
  · rw [e3] at hl
    rw [show wc (u + 8 + l) = wa (u + 8 + l) from funext fun i => ew _ _ (by omega) (by omega)]
    exact FTt_fr e0 f1 (l1 l hl)
  · unfold KNz
    rw [ez 3 7 (by omega), ez 3 9 (by omega)]; exact kn
  · rw [e3] at hl
    have b3 : zb u 3 = za u 3 := eb _ _ (by omega)
    exact GRt_cg (gs l (by omega)) (by rw [e0]; exact eb _ _ (by omega)) (by rw [f1]; exact funext fun i => eb _ _ (by omega)) (fun i _ => es _ _ (by omega) (by omega)) (funext fun i => es _ _ (by omega) (by omega))
end
section
/-! methods, printed by wip/tools/vcg.py -/
/-- Drawing walk -/
abbrev S_13v  : mS := [(35, 35, 3, 3), (35, 35, 4, 4), (37, 37, 0, 1599)]
abbrev E_13v (t : Nat) (a3 : Int) (z0 w0 : mZ) (x y tx it mt tt ct : Option Nat) : Int → mZ → mZ → mP → Prop := fun v z w p => p = (pq x y tx it mt tt ct) ∧ 0 ≤ v ∧ v ≤ 1 ∧ (z 35 3 = 0)
theorem m_13v {d : Nat} {z0 w0 : mZ} {x y tx it mt tt ct : Option Nat} (t : Nat) (a3 : Int) (hz : rz z0) (hw : rw_ w0) (ha3 : 0 ≤ a3 ∧ a3 ≤ 1600) (ht : isT t) : wc (d + 2) 13 [.ref 35, .ref t, .ref 2, .int (Int32.ofInt a3)] (mk z0 w0 (pq x y tx it mt tt ct)) (poI S_13v z0 w0 (E_13v t a3 z0 w0 x y tx it mt tt ct)) := by
  have hst : st_ S_13v z0 w0 z0 w0 := st_rf hz hw
  have htb : 159 ≤ t ∧ t ≤ 192 := by have := ht; unfold isT at this; omega
  have key : ∀ N : Nat, (∀ (x4 x5 x6 : Int) (z w : mZ), 0 ≤ x4 ∧ x4 ≤ 11 → 0 ≤ x5 ∧ x5 ≤ 11 → 1 ≤ x6 ∧ x6 ≤ 1600 → 1 ≤ a3 ∧ a3 ≤ 1600 → 1 ≤ z0 t 0 ∧ z0 t 0 ≤ 12 → st_ S_13v z0 w0 z w → (z 35 4 = x6 - 1 ∧ z 35 3 = 0) → 78 * (1600 - x6) + 48 < (N : Int) → wp_ (d + 1) 13 8 (some .boolean) (54, [(0, .ref 35), (1, .ref t), (2, .ref 2), (3, .int (Int32.ofInt a3)), (4, .int (Int32.ofInt x4)), (5, .int (Int32.ofInt x5)), (6, .int (Int32.ofInt x6))], [], mk z w (pq x y tx it mt tt ct)) (poI S_13v z0 w0 (E_13v t a3 z0 w0 x y tx it mt tt ct))) := by
    intro N
    induction N with
    | zero =>
      intro x4 x5 x6 z w
      intros; exfalso; omega
    | succ N ih =>
      have ih0 := ih; clear ih
      intro x4 x5 x6 z w  hx4 hx5 hx6 hpa3 hz0_0 hst as1 hM
      refine r_ld (pc' := 56) rfl rfl rfl rfl ?_
      refine r_ld (pc' := 57) rfl rfl rfl rfl ?_
      refine r_ige (pc' := 60) rfl rfl ⟨by omega, by omega⟩ ⟨by omega, by omega⟩ (fun hc39 => ?_) (fun hc39 => ?_)
      · skip
        refine r_ld (pc' := 123) rfl rfl rfl rfl ?_
        refine r_ld (pc' := 125) rfl rfl rfl rfl ?_
        refine r_ine (pc' := 128) rfl rfl ⟨by omega, by omega⟩ ⟨by omega, by omega⟩ (fun hc40 => ?_) (fun hc40 => ?_)
        · skip
          refine r_c0 (pc' := 133) rfl rfl ?_
          have hb41 := rd_35_3 hst.1
          exact r_rz rfl (by omega) (po_I hst ⟨by decide, by decide⟩ ⟨rfl, by omega, by omega, (by first | omega | assumption)⟩)
        · skip
          refine r_c0 (pc' := 129) rfl rfl ?_
          refine r_go rfl ?_
          have hb42 := rd_35_3 hst.1
          exact r_rz rfl (by omega) (po_I hst ⟨by decide, by decide⟩ ⟨rfl, by omega, by omega, (by first | omega | assumption)⟩)
      · skip
        refine r_ld (pc' := 61) rfl rfl rfl rfl ?_
        refine r_ld (pc' := 63) rfl rfl rfl rfl ?_
        refine r_ld (pc' := 64) rfl rfl rfl rfl ?_
        refine r_ld (pc' := 66) rfl rfl rfl rfl ?_
        have hb43 := rd_2 hz (i := x6.toNat) (by omega)
        refine r_ba (pc' := 67) rfl rfl sh_2 (Or.inl rfl) rfl (by omega) (by omega) (hst.2.2.1 _ _ (notS_c (by omega) (notS_c (by omega) (notS_c (by omega) notS_n)))) ?_
        refine r_cb (pc' := 69) rfl (by decide) rfl ?_
        refine r_sub (pc' := 70) rfl rfl ?_
        refine r_cSI (pc' := 73) rfl rfl rfl rfl rfl (m_14 (d := d) t x5 ((z0 2 x6.toNat) - 97) hst.1 hst.2.1 ⟨by omega, by omega⟩ ⟨by omega, by omega⟩ ht) (fun v44 z45 w46 p47 h48 hs49 hE50 => ?_)
        obtain ⟨rfl, rfl, rfl, hE50⟩ := hE50
        refine r_st (pc' := 75) (lv' := [(7, _), (0, _), (1, _), (2, _), (3, _), (4, _), (5, _), (6, _)]) rfl rfl rfl rfl ?_
        refine r_ld (pc' := 77) rfl rfl rfl rfl ?_
        refine r_c0 (pc' := 78) rfl rfl ?_
        refine r_ine (pc' := 81) rfl rfl ⟨by omega, by omega⟩ ⟨by decide, by decide⟩ (fun hc52 => ?_) (fun hc52 => ?_)
        · skip
          refine r_ld (pc' := 84) rfl rfl rfl rfl ?_
          refine r_gr (b := 37) (pc' := 87) rfl rfl sh_35 rfl pp_35_1 ?_
          refine r_ld (pc' := 88) rfl rfl rfl rfl ?_
          have hb53 := rd_35_4 hst.1
          refine r_gi (pc' := 91) rfl rfl sh_35 rfl rfl ?_
          refine r_ld (pc' := 93) rfl rfl rfl rfl ?_
          refine r_is (pc' := 94) rfl rfl sh_37 rfl (by omega) (by omega) hst (inS_s (inS_s (inS_0 (by omega) (by omega) (by omega) (by omega)))) (wr_37 ⟨by omega, by omega⟩) (fun z54 hq55 hs56 => ?_)
          refine r_ld (pc' := 95) rfl rfl rfl rfl ?_
          refine r_al (pc' := 96) rfl rfl rfl rfl ?_
          refine r_gi (pc' := 99) rfl rfl sh_35 rfl ((congrFun (congrFun hq55 _) _).trans (mu_ne (by omega))) ?_
          refine r_c0 (pc' := 100) rfl rfl ?_
          refine r_add (pc' := 101) rfl rfl ?_
          refine r_pi (pc' := 104) rfl rfl sh_35 rfl rfl hs56 (inS_s (inS_0 (by omega) (by omega) (by omega) (by omega))) (wr_35_4 ⟨by omega, by omega⟩) (fun z57 hq58 hs59 => ?_)
          refine r_ld (pc' := 105) rfl rfl rfl rfl ?_
          refine r_gr (b := t + 2) (pc' := 108) rfl rfl (sh_T ht) rfl (pp_T_6 ht) ?_
          refine r_ld (pc' := 110) rfl rfl rfl rfl ?_
          have hb60 := rd_T2 ht hz (i := v44.toNat) (by omega)
          refine r_ia (pc' := 111) rfl rfl (sh_T2 ht) rfl (by omega) (by omega) (((congrFun (congrFun hq58 _) _).trans (mu_ne (by omega))).trans (((congrFun (congrFun hq55 _) _).trans (mu_ne (by omega))).trans (hst.2.2.1 _ _ (notS_c (by omega) (notS_c (by omega) (notS_c (by omega) notS_n)))))) ?_
          refine r_c0 (pc' := 112) rfl rfl ?_
          refine r_dv (pc' := 113) (v := (z0 (t + 2) v44.toNat) / 3) rfl rfl ⟨by omega, by omega⟩ ⟨by decide, by decide⟩ (by decide) (tdiv_n (by omega)) ?_
          refine r_st (pc' := 115) (lv' := [(5, _), (7, _), (0, _), (1, _), (2, _), (3, _), (4, _), (6, _)]) rfl rfl rfl rfl ?_
          refine r_inc (pc' := 118) (lv' := [(5, _), (7, _), (0, _), (1, _), (2, _), (3, _), (4, _)]) rfl rfl rfl rfl rfl ?_
          refine r_go rfl ?_
          have hf61 : z57 35 4 = (z 35 4) + 1 := ((congrFun (congrFun hq58 _) _).trans mu_eq)
          have hb62 := rd_35_3 hst.1
          have hf63 : z57 35 3 = z 35 3 := (((congrFun (congrFun hq58 _) _).trans (mu_ne (by omega))).trans ((congrFun (congrFun hq55 _) _).trans (mu_ne (by omega))))
          exact w_lv (sub_c rfl (sub_c rfl (sub_c rfl (sub_c rfl (sub_c rfl (sub_c rfl (sub_c rfl sub_n))))))) rfl (ih0 x4 ((z0 (t + 2) v44.toNat) / 3) (x6 + 1) z57 w ⟨by omega, by omega⟩ ⟨by omega, by omega⟩ ⟨by omega, by omega⟩ ⟨by omega, by omega⟩ ⟨by omega, by omega⟩ hs59 (by first | omega | assumption | (simp only [hf61, hf63]; assumption)) (by omega))
        · skip
          refine r_c0 (pc' := 82) rfl rfl ?_
          have hb64 := rd_35_3 hst.1
          exact r_rz rfl (by omega) (po_I hst ⟨by decide, by decide⟩ ⟨rfl, by omega, by omega, (by first | omega | assumption)⟩)
  refine w_m rfl rfl ?_
  refine r_ld (pc' := 1) rfl rfl rfl rfl ?_
  refine r_c0 (pc' := 2) rfl rfl ?_
  refine r_pi (pc' := 5) rfl rfl sh_35 rfl rfl hst (inS_0 (by omega) (by omega) (by omega) (by omega)) (wr_35_3 ⟨by omega, by omega⟩) (fun z65 hq66 hs67 => ?_)
  refine r_ld (pc' := 6) rfl rfl rfl rfl ?_
  refine r_c0 (pc' := 7) rfl rfl ?_
  refine r_pi (pc' := 10) rfl rfl sh_35 rfl rfl hs67 (inS_s (inS_0 (by omega) (by omega) (by omega) (by omega))) (wr_35_4 ⟨by omega, by omega⟩) (fun z68 hq69 hs70 => ?_)
  refine r_ld (pc' := 11) rfl rfl rfl rfl ?_
  refine r_c0 (pc' := 12) rfl rfl ?_
  refine r_ilt (pc' := 15) rfl rfl ⟨by omega, by omega⟩ ⟨by decide, by decide⟩ (fun hc71 => ?_) (fun hc71 => ?_)
  · skip
    refine r_c0 (pc' := 22) rfl rfl ?_
    have hf72 : z68 35 3 = 0 := (((congrFun (congrFun hq69 _) _).trans (mu_ne (by omega))).trans ((congrFun (congrFun hq66 _) _).trans mu_eq))
    exact r_rz rfl (by omega) (po_I hs70 ⟨by decide, by decide⟩ ⟨rfl, by omega, by omega, (by first | omega | assumption | (simp only [hf72]; assumption))⟩)
  · skip
    refine r_ld (pc' := 16) rfl rfl rfl rfl ?_
    refine r_ld (pc' := 17) rfl rfl rfl rfl ?_
    refine r_len (pc' := 18) rfl rfl sh_2 (by decide) ?_
    refine r_ile (pc' := 21) rfl rfl ⟨by omega, by omega⟩ ⟨by decide, by decide⟩ (fun hc73 => ?_) (fun hc73 => ?_)
    · skip
      refine r_ld (pc' := 24) rfl rfl rfl rfl ?_
      refine r_c0 (pc' := 25) rfl rfl ?_
      have hb74 := rd_2 hz (i := (0 : Int).toNat) (by omega)
      refine r_ba (pc' := 26) rfl rfl sh_2 (Or.inl rfl) rfl (by omega) (by omega) (((congrFun (congrFun hq69 _) _).trans (mu_ne (by omega))).trans ((congrFun (congrFun hq66 _) _).trans (mu_ne (by omega)))) ?_
      refine r_cb (pc' := 28) rfl (by decide) rfl ?_
      refine r_sub (pc' := 29) rfl rfl ?_
      refine r_st (pc' := 31) (lv' := [(4, _), (0, _), (1, _), (2, _), (3, _)]) rfl rfl rfl rfl ?_
      refine r_ld (pc' := 33) rfl rfl rfl rfl ?_
      refine r_zlt (pc' := 36) rfl rfl ⟨by omega, by omega⟩ (fun hc75 => ?_) (fun hc75 => ?_)
      · skip
        refine r_c0 (pc' := 46) rfl rfl ?_
        have hf76 : z68 35 3 = 0 := (((congrFun (congrFun hq69 _) _).trans (mu_ne (by omega))).trans ((congrFun (congrFun hq66 _) _).trans mu_eq))
        exact r_rz rfl (by omega) (po_I hs70 ⟨by decide, by decide⟩ ⟨rfl, by omega, by omega, (by first | omega | assumption | (simp only [hf76]; assumption))⟩)
      · skip
        refine r_ld (pc' := 38) rfl rfl rfl rfl ?_
        refine r_ld (pc' := 39) rfl rfl rfl rfl ?_
        have hb77 := rd_T_0 ht hz
        refine r_gi (pc' := 42) rfl rfl (sh_T ht) rfl (((congrFun (congrFun hq69 _) _).trans (mu_ne (by omega))).trans ((congrFun (congrFun hq66 _) _).trans (mu_ne (by omega)))) ?_
        refine r_ilt (pc' := 45) rfl rfl ⟨by omega, by omega⟩ ⟨by omega, by omega⟩ (fun hc78 => ?_) (fun hc78 => ?_)
        · skip
          refine r_ld (pc' := 49) rfl rfl rfl rfl ?_
          refine r_st (pc' := 51) (lv' := [(5, _), (4, _), (0, _), (1, _), (2, _), (3, _)]) rfl rfl rfl rfl ?_
          refine r_c0 (pc' := 52) rfl rfl ?_
          refine r_st (pc' := 54) (lv' := [(6, _), (5, _), (4, _), (0, _), (1, _), (2, _), (3, _)]) rfl rfl rfl rfl ?_
          have hf79 : z68 35 4 = 0 := ((congrFun (congrFun hq69 _) _).trans mu_eq)
          have hf80 : z68 35 3 = 0 := (((congrFun (congrFun hq69 _) _).trans (mu_ne (by omega))).trans ((congrFun (congrFun hq66 _) _).trans mu_eq))
          exact w_lv (sub_c rfl (sub_c rfl (sub_c rfl (sub_c rfl (sub_c rfl (sub_c rfl (sub_c rfl sub_n))))))) rfl ((key ((78 * (1600 - 1) + 48 : Int).toNat + 1)) ((z0 2 (0 : Int).toNat) - 48) ((z0 2 (0 : Int).toNat) - 48) 1 z68 w0 ⟨by omega, by omega⟩ ⟨by omega, by omega⟩ ⟨by omega, by omega⟩ ⟨by omega, by omega⟩ ⟨by omega, by omega⟩ hs70 (by first | omega | assumption | (simp only [hf79, hf80]; assumption)) (by omega))
        · skip
          refine r_c0 (pc' := 46) rfl rfl ?_
          have hf81 : z68 35 3 = 0 := (((congrFun (congrFun hq69 _) _).trans (mu_ne (by omega))).trans ((congrFun (congrFun hq66 _) _).trans mu_eq))
          exact r_rz rfl (by omega) (po_I hs70 ⟨by decide, by decide⟩ ⟨rfl, by omega, by omega, (by first | omega | assumption | (simp only [hf81]; assumption))⟩)
    · exfalso; omega
/-- Drawing isTrue -/
abbrev S_17  : mS := [(36, 36, 0, 17), (4, 4, 8, 8), (7, 7, 0, 17), (6, 6, 0, 17), (4, 4, 0, 0), (4, 4, 1, 1), (5, 5, 0, 281), (4, 4, 9, 9), (4, 4, 10, 10), (4, 4, 11, 11), (4, 4, 12, 12), (4, 4, 13, 13), (38, 38, 0, 1599), (37, 37, 0, 1599)]
abbrev E_17 (t : Nat) (z0 w0 : mZ) (x y tx it mt tt ct : Option Nat) : Int → mZ → mZ → mP → Prop := fun v z w p => ∃ tt_e : Option Nat, p = (pq x y tx it mt tt_e ct) ∧ 0 ≤ v ∧ v ≤ 1
theorem m_17 {d : Nat} {z0 w0 : mZ} {x y tx it mt tt ct : Option Nat} (t : Nat) (hz : rz z0) (hw : rw_ w0) (ht : isT t) (hwt : WTt z0 t) (hfr : z0 35 3 ≤ z0 35 4) : wc (d + 5) 17 [.ref 35, .ref t, .ref 4] (mk z0 w0 (pq x y tx it mt tt ct)) (poI S_17 z0 w0 (E_17 t z0 w0 x y tx it mt tt ct)) := by
  have hst : st_ S_17 z0 w0 z0 w0 := st_rf hz hw
  have htb : 159 ≤ t ∧ t ≤ 192 := by have := ht; unfold isT at this; omega
  have hz93 := rd_35_3 hz
  have hz94 := rd_35_4 hz
  have key : ∀ N : Nat, (∀ (x3 : Int) (z w : mZ), 0 ≤ x3 ∧ x3 ≤ 18 → st_ S_17 z0 w0 z w → z 4 0 = z0 4 0 → z 4 1 = z0 4 1 → z 4 8 = z0 4 8 → z 4 9 = z0 4 9 → z 4 10 = z0 4 10 → z 4 11 = z0 4 11 → z 4 12 = z0 4 12 → z 4 13 = z0 4 13 → (∀ e : Nat, (e : Int) < x3 → w 36 e = 0) → 75 * (18 - x3) + 120222 < (N : Int) → wp_ (d + 4) 17 4 (some .boolean) (2, [(0, .ref 35), (1, .ref t), (2, .ref 4), (3, .int (Int32.ofInt x3))], [], mk z w (pq x y tx it mt tt ct)) (poI S_17 z0 w0 (E_17 t z0 w0 x y tx it mt tt ct))) ∧ (∀ (x3 : Int) (z w : mZ), 0 ≤ x3 ∧ x3 ≤ 1600 → st_ S_17 z0 w0 z w → z 4 0 = z0 4 0 → z 4 1 = z0 4 1 → z 4 8 = z0 4 8 → z 4 9 = z0 4 9 → z 4 10 = z0 4 10 → z 4 11 = z0 4 11 → z 4 12 = z0 4 12 → z 4 13 = z0 4 13 → (∀ e : Nat, e < 18 → 0 ≤ w 36 e ∧ w 36 e ≤ x3 - z0 35 3) → (z0 35 3 ≤ x3 ∧ x3 ≤ z0 35 4) → 75 * (1600 - x3) + 59 < (N : Int) → wp_ (d + 4) 17 4 (some .boolean) (26, [(0, .ref 35), (1, .ref t), (2, .ref 4), (3, .int (Int32.ofInt x3))], [], mk z w (pq x y tx it mt tt ct)) (poI S_17 z0 w0 (E_17 t z0 w0 x y tx it mt tt ct))) := by
    intro N
    induction N with
    | zero =>
      refine ⟨?_, ?_⟩
      · intro x3 z w
        intros; exfalso; omega
      · intro x3 z w
        intros; exfalso; omega
    | succ N ih =>
      obtain ⟨ih0, ih1⟩ := ih
      refine ⟨?_, ?_⟩
      · intro x3 z w  hx3 hst un_z_4_0 un_z_4_1 un_z_4_8 un_z_4_9 un_z_4_10 un_z_4_11 un_z_4_12 un_z_4_13 as1 hM
        refine r_ld (pc' := 3) rfl rfl rfl rfl ?_
        refine r_cb (pc' := 5) rfl (by decide) rfl ?_
        refine r_ige (pc' := 8) rfl rfl ⟨by omega, by omega⟩ ⟨by decide, by decide⟩ (fun hc95 => ?_) (fun hc95 => ?_)
        · skip
          refine r_ld (pc' := 22) rfl rfl rfl rfl ?_
          have hb96 := rd_35_3 hz
          refine r_gi (pc' := 25) rfl rfl sh_35 rfl (hst.2.2.1 _ _ (notS_c (by omega) (notS_c (by omega) (notS_c (by omega) (notS_c (by omega) (notS_c (by omega) (notS_c (by omega) (notS_c (by omega) (notS_c (by omega) (notS_c (by omega) (notS_c (by omega) (notS_c (by omega) (notS_c (by omega) (notS_c (by omega) (notS_c (by omega) notS_n))))))))))))))) ?_
          refine r_st (pc' := 26) (lv' := [(3, _), (0, _), (1, _), (2, _)]) rfl rfl rfl rfl ?_
          have hb97 := rd_4_0 hz
          have hb98 := rd_4_1 hz
          have hb99 := rd_4_8 hz
          have hb100 := rd_4_9 hz
          have hb101 := rd_4_10 hz
          have hb102 := rd_4_11 hz
          have hb103 := rd_4_12 hz
          have hb104 := rd_4_13 hz
          exact w_lv (sub_c rfl (sub_c rfl (sub_c rfl (sub_c rfl sub_n)))) rfl (ih1 (z0 35 3) z w ⟨by omega, by omega⟩ hst (un_z_4_0) (un_z_4_1) (un_z_4_8) (un_z_4_9) (un_z_4_10) (un_z_4_11) (un_z_4_12) (un_z_4_13) (by first | (intro e he; have := as1 e (by omega); omega) | (intro e he; have h1 := as1 e he; have h2 := mu_inc hqm (by omega) e; omega)) (by first | omega | assumption) (by omega))
        · skip
          refine r_ld (pc' := 9) rfl rfl rfl rfl ?_
          refine r_gr (b := 36) (pc' := 12) rfl rfl sh_35 rfl pp_35_0 ?_
          refine r_ld (pc' := 13) rfl rfl rfl rfl ?_
          refine r_lc0 (pc' := 14) rfl rfl ?_
          refine r_ls (pc' := 15) rfl rfl sh_36 rfl (by omega) (by omega) hst (inS_0 (by omega) (by omega) (by omega) (by omega)) (wr_36 ⟨by omega, by omega⟩) (fun w105 hq106 hs107 => ?_)
          have hqz := hq106
          refine r_inc (pc' := 18) (lv' := [(0, _), (1, _), (2, _)]) rfl rfl rfl rfl rfl ?_
          refine r_go rfl ?_
          have hb108 := rd_4_0 hz
          have hb109 := rd_4_1 hz
          have hb110 := rd_4_8 hz
          have hb111 := rd_4_9 hz
          have hb112 := rd_4_10 hz
          have hb113 := rd_4_11 hz
          have hb114 := rd_4_12 hz
          have hb115 := rd_4_13 hz
          exact w_lv (sub_c rfl (sub_c rfl (sub_c rfl (sub_c rfl sub_n)))) rfl (ih0 (x3 + 1) z w105 ⟨by omega, by omega⟩ hs107 (un_z_4_0) (un_z_4_1) (un_z_4_8) (un_z_4_9) (un_z_4_10) (un_z_4_11) (un_z_4_12) (un_z_4_13) (by first | (intro j hj; exfalso; omega) | (intro j hj; rw [hqz]; by_cases c : j = x3.toNat; (subst c; exact mu_eq); (rw [mu_ne (by omega)]; exact as1 j (by omega)))) (by omega))
      · intro x3 z w  hx3 hst un_z_4_0 un_z_4_1 un_z_4_8 un_z_4_9 un_z_4_10 un_z_4_11 un_z_4_12 un_z_4_13 as1 as2 hM
        refine r_ld (pc' := 27) rfl rfl rfl rfl ?_
        refine r_ld (pc' := 28) rfl rfl rfl rfl ?_
        have hb116 := rd_35_4 hz
        refine r_gi (pc' := 31) rfl rfl sh_35 rfl (hst.2.2.1 _ _ (notS_c (by omega) (notS_c (by omega) (notS_c (by omega) (notS_c (by omega) (notS_c (by omega) (notS_c (by omega) (notS_c (by omega) (notS_c (by omega) (notS_c (by omega) (notS_c (by omega) (notS_c (by omega) (notS_c (by omega) (notS_c (by omega) (notS_c (by omega) notS_n))))))))))))))) ?_
        refine r_ige (pc' := 34) rfl rfl ⟨by omega, by omega⟩ ⟨by omega, by omega⟩ (fun hc117 => ?_) (fun hc117 => ?_)
        · skip
          refine r_ld (pc' := 73) rfl rfl rfl rfl ?_
          refine r_ld (pc' := 74) rfl rfl rfl rfl ?_
          refine r_gr (b := 36) (pc' := 77) rfl rfl sh_35 rfl pp_35_0 ?_
          refine r_cVI (pc' := 80) rfl rfl rfl rfl rfl (sh_T ht) (m_80 (d := d + 2) t 36 hst.1 hst.2.1 ht lr_36 (by first | omega | assumption) (by exact fun e he => ⟨(as1 e he).1, by have := (as1 e he).2; omega⟩)) (fun v118 z119 w120 p121 h122 hs123 hE124 => ?_)
          obtain ⟨rfl, rfl, rfl, hE124⟩ := hE124
          have hfi := hE124.2.2
          refine r_zeq (pc' := 83) rfl rfl ⟨by omega, by omega⟩ (fun hc126 => ?_) (fun hc126 => ?_)
          · skip
            refine r_c0 (pc' := 96) rfl rfl ?_
            exact r_rz rfl (by omega) (po_I hst ⟨by decide, by decide⟩ ⟨_, rfl, by omega, by omega⟩)
          · skip
            refine r_ld (pc' := 84) rfl rfl rfl rfl ?_
            refine r_ld (pc' := 85) rfl rfl rfl rfl ?_
            refine r_ld (pc' := 86) rfl rfl rfl rfl ?_
            refine r_gr (b := 36) (pc' := 89) rfl rfl sh_35 rfl pp_35_0 ?_
            refine r_cVI (pc' := 92) rfl rfl rfl rfl rfl sh_4 (m_86 (d := d + 2) t 36 hst.1 hst.2.1 ht (by exact WTt_f hst (notS_c (by omega) (notS_c (by omega) (notS_c (by omega) (notS_c (by omega) (notS_c (by omega) (notS_c (by omega) (notS_c (by omega) (notS_c (by omega) (notS_c (by omega) (notS_c (by omega) (notS_c (by omega) (notS_c (by omega) (notS_c (by omega) (notS_c (by omega) (notS_n))))))))))))))) (notS_c (by omega) (notS_c (by omega) (notS_c (by omega) (notS_c (by omega) (notS_c (by omega) (notS_c (by omega) (notS_c (by omega) (notS_c (by omega) (notS_c (by omega) (notS_c (by omega) (notS_c (by omega) (notS_c (by omega) (notS_c (by omega) (notS_c (by omega) (notS_n))))))))))))))) (fun i => (notS_c (by omega) (notS_c (by omega) (notS_c (by omega) (notS_c (by omega) (notS_c (by omega) (notS_c (by omega) (notS_c (by omega) (notS_c (by omega) (notS_c (by omega) (notS_c (by omega) (notS_c (by omega) (notS_c (by omega) (notS_c (by omega) (notS_c (by omega) (notS_n)))))))))))))))) (fun i => (notS_c (by omega) (notS_c (by omega) (notS_c (by omega) (notS_c (by omega) (notS_c (by omega) (notS_c (by omega) (notS_c (by omega) (notS_c (by omega) (notS_c (by omega) (notS_c (by omega) (notS_c (by omega) (notS_c (by omega) (notS_c (by omega) (notS_c (by omega) (notS_n)))))))))))))))) (fun i => (notS_c (by omega) (notS_c (by omega) (notS_c (by omega) (notS_c (by omega) (notS_c (by omega) (notS_c (by omega) (notS_c (by omega) (notS_c (by omega) (notS_c (by omega) (notS_c (by omega) (notS_c (by omega) (notS_c (by omega) (notS_c (by omega) (notS_c (by omega) (notS_n)))))))))))))))) hwt) (by exact hfi (by omega)) lr_36 (by first | omega | assumption) (by exact fun e he => ⟨(as1 e he).1, by have := (as1 e he).2; omega⟩)) (fun v127 z128 w129 p130 h131 hs132 hE133 => ?_)
            have hs134 := st_tr hst hs132 (sub_B rfl)
            obtain ⟨rfl, hE133⟩ := hE133
            have hld := hE133.2.2
            refine r_zne (pc' := 95) rfl rfl ⟨by omega, by omega⟩ (fun hc135 => ?_) (fun hc135 => ?_)
            · skip
              refine r_ld (pc' := 98) rfl rfl rfl rfl ?_
              have hb136 := rd_T_0 ht hz
              have hf137 : z128 t 0 = z0 t 0 := ((hs132.2.2.1 _ _ (notS_c (by omega) (notS_c (by omega) (notS_c (by omega) notS_n)))).trans (hst.2.2.1 _ _ (notS_c (by omega) (notS_c (by omega) (notS_c (by omega) (notS_c (by omega) (notS_c (by omega) (notS_c (by omega) (notS_c (by omega) (notS_c (by omega) (notS_c (by omega) (notS_c (by omega) (notS_c (by omega) (notS_c (by omega) (notS_c (by omega) (notS_c (by omega) notS_n))))))))))))))))
              have hb138 := rd_T_1 ht hz
              have hf139 : z128 t 1 = z0 t 1 := ((hs132.2.2.1 _ _ (notS_c (by omega) (notS_c (by omega) (notS_c (by omega) notS_n)))).trans (hst.2.2.1 _ _ (notS_c (by omega) (notS_c (by omega) (notS_c (by omega) (notS_c (by omega) (notS_c (by omega) (notS_c (by omega) (notS_c (by omega) (notS_c (by omega) (notS_c (by omega) (notS_c (by omega) (notS_c (by omega) (notS_c (by omega) (notS_c (by omega) (notS_c (by omega) notS_n))))))))))))))))
              have hF140 : z128 (t + 1) = z0 (t + 1) := ((funext fun _ => hs132.2.2.1 _ _ (notS_c (by omega) (notS_c (by omega) (notS_c (by omega) notS_n)))).trans (funext fun _ => hst.2.2.1 _ _ (notS_c (by omega) (notS_c (by omega) (notS_c (by omega) (notS_c (by omega) (notS_c (by omega) (notS_c (by omega) (notS_c (by omega) (notS_c (by omega) (notS_c (by omega) (notS_c (by omega) (notS_c (by omega) (notS_c (by omega) (notS_c (by omega) (notS_c (by omega) notS_n))))))))))))))))
              have hF141 : z128 (t + 5) = z0 (t + 5) := ((funext fun _ => hs132.2.2.1 _ _ (notS_c (by omega) (notS_c (by omega) (notS_c (by omega) notS_n)))).trans (funext fun _ => hst.2.2.1 _ _ (notS_c (by omega) (notS_c (by omega) (notS_c (by omega) (notS_c (by omega) (notS_c (by omega) (notS_c (by omega) (notS_c (by omega) (notS_c (by omega) (notS_c (by omega) (notS_c (by omega) (notS_c (by omega) (notS_c (by omega) (notS_c (by omega) (notS_c (by omega) notS_n))))))))))))))))
              refine r_cVV (pc' := 101) rfl rfl rfl rfl rfl sh_4 (m_93 (d := d) t hs134.1 hs134.2.1 ht (by exact WTt_f hs134 (notS_c (by omega) (notS_c (by omega) (notS_c (by omega) (notS_c (by omega) (notS_c (by omega) (notS_c (by omega) (notS_c (by omega) (notS_c (by omega) (notS_c (by omega) (notS_c (by omega) (notS_c (by omega) (notS_c (by omega) (notS_c (by omega) (notS_c (by omega) (notS_n))))))))))))))) (notS_c (by omega) (notS_c (by omega) (notS_c (by omega) (notS_c (by omega) (notS_c (by omega) (notS_c (by omega) (notS_c (by omega) (notS_c (by omega) (notS_c (by omega) (notS_c (by omega) (notS_c (by omega) (notS_c (by omega) (notS_c (by omega) (notS_c (by omega) (notS_n))))))))))))))) (fun i => (notS_c (by omega) (notS_c (by omega) (notS_c (by omega) (notS_c (by omega) (notS_c (by omega) (notS_c (by omega) (notS_c (by omega) (notS_c (by omega) (notS_c (by omega) (notS_c (by omega) (notS_c (by omega) (notS_c (by omega) (notS_c (by omega) (notS_c (by omega) (notS_n)))))))))))))))) (fun i => (notS_c (by omega) (notS_c (by omega) (notS_c (by omega) (notS_c (by omega) (notS_c (by omega) (notS_c (by omega) (notS_c (by omega) (notS_c (by omega) (notS_c (by omega) (notS_c (by omega) (notS_c (by omega) (notS_c (by omega) (notS_c (by omega) (notS_c (by omega) (notS_n)))))))))))))))) (fun i => (notS_c (by omega) (notS_c (by omega) (notS_c (by omega) (notS_c (by omega) (notS_c (by omega) (notS_c (by omega) (notS_c (by omega) (notS_c (by omega) (notS_c (by omega) (notS_c (by omega) (notS_c (by omega) (notS_c (by omega) (notS_c (by omega) (notS_c (by omega) (notS_n)))))))))))))))) hwt) (by exact (hld (by omega)).1)) (fun z143 w144 p145 hs147 hE148 => ?_)
              have hs149 := st_tr hs134 hs147 (sub_B rfl)
              obtain ⟨rfl, hE148⟩ := hE148
              refine r_ld (pc' := 102) rfl rfl rfl rfl ?_
              have hb150 := rd_4_0 hs149.1
              refine r_cVI (pc' := 105) rfl rfl rfl rfl rfl sh_4 (m_96v (d := d + 3)  hs149.1 hs149.2.1 ) (fun v151 z152 w153 p154 h155 hs156 hE157 => ?_)
              obtain ⟨rfl, rfl, rfl, hE157⟩ := hE157
              refine r_zeq (pc' := 108) rfl rfl ⟨by omega, by omega⟩ (fun hc159 => ?_) (fun hc159 => ?_)
              · skip
                refine r_c0 (pc' := 135) rfl rfl ?_
                exact r_rz rfl (by omega) (po_I hs149 ⟨by decide, by decide⟩ ⟨_, rfl, by omega, by omega⟩)
              · skip
                refine r_ld (pc' := 109) rfl rfl rfl rfl ?_
                refine r_ld (pc' := 110) rfl rfl rfl rfl ?_
                refine r_gr (b := 38) (pc' := 113) rfl rfl sh_35 rfl pp_35_2 ?_
                refine r_cVI (pc' := 116) rfl rfl rfl rfl rfl sh_4 (m_98 (d := d + 1) t hs149.1 hs149.2.1 ht) (fun v160 z161 w162 p163 h164 hs165 hE166 => ?_)
                have hs167 := st_tr hs149 hs165 (sub_B rfl)
                obtain ⟨rfl, hE166⟩ := hE166
                refine r_ld (pc' := 117) rfl rfl rfl rfl ?_
                have hf168 : z161 35 4 = z0 35 4 := ((hs165.2.2.1 _ _ (notS_c (by omega) (notS_c (by omega) (notS_c (by omega) (notS_c (by omega) (notS_c (by omega) (notS_c (by omega) notS_n))))))).trans ((hs147.2.2.1 _ _ (notS_c (by omega) (notS_c (by omega) (notS_c (by omega) (notS_c (by omega) (notS_c (by omega) (notS_c (by omega) (notS_c (by omega) (notS_c (by omega) notS_n))))))))).trans ((hs132.2.2.1 _ _ (notS_c (by omega) (notS_c (by omega) (notS_c (by omega) notS_n)))).trans (hst.2.2.1 _ _ (notS_c (by omega) (notS_c (by omega) (notS_c (by omega) (notS_c (by omega) (notS_c (by omega) (notS_c (by omega) (notS_c (by omega) (notS_c (by omega) (notS_c (by omega) (notS_c (by omega) (notS_c (by omega) (notS_c (by omega) (notS_c (by omega) (notS_c (by omega) notS_n))))))))))))))))))
                have hb169 := rd_35_3 hz
                have hf170 : z161 35 3 = z0 35 3 := ((hs165.2.2.1 _ _ (notS_c (by omega) (notS_c (by omega) (notS_c (by omega) (notS_c (by omega) (notS_c (by omega) (notS_c (by omega) notS_n))))))).trans ((hs147.2.2.1 _ _ (notS_c (by omega) (notS_c (by omega) (notS_c (by omega) (notS_c (by omega) (notS_c (by omega) (notS_c (by omega) (notS_c (by omega) (notS_c (by omega) notS_n))))))))).trans ((hs132.2.2.1 _ _ (notS_c (by omega) (notS_c (by omega) (notS_c (by omega) notS_n)))).trans (hst.2.2.1 _ _ (notS_c (by omega) (notS_c (by omega) (notS_c (by omega) (notS_c (by omega) (notS_c (by omega) (notS_c (by omega) (notS_c (by omega) (notS_c (by omega) (notS_c (by omega) (notS_c (by omega) (notS_c (by omega) (notS_c (by omega) (notS_c (by omega) (notS_c (by omega) notS_n))))))))))))))))))
                refine r_cVI (pc' := 120) rfl rfl rfl rfl rfl sh_35 (m_16 (d := d + 3)  hs167.1 hs167.2.1 ) (fun v171 z172 w173 p174 h175 hs176 hE177 => ?_)
                obtain ⟨rfl, rfl, rfl, hE177⟩ := hE177
                refine r_ine (pc' := 123) rfl rfl ⟨by omega, by omega⟩ ⟨by omega, by omega⟩ (fun hc179 => ?_) (fun hc179 => ?_)
                · skip
                  refine r_c0 (pc' := 135) rfl rfl ?_
                  exact r_rz rfl (by omega) (po_I hs167 ⟨by decide, by decide⟩ ⟨_, rfl, by omega, by omega⟩)
                · skip
                  refine r_ld (pc' := 124) rfl rfl rfl rfl ?_
                  have hf180 : z161 35 3 = z0 35 3 := ((hs165.2.2.1 _ _ (notS_c (by omega) (notS_c (by omega) (notS_c (by omega) (notS_c (by omega) (notS_c (by omega) (notS_c (by omega) notS_n))))))).trans ((hs147.2.2.1 _ _ (notS_c (by omega) (notS_c (by omega) (notS_c (by omega) (notS_c (by omega) (notS_c (by omega) (notS_c (by omega) (notS_c (by omega) (notS_c (by omega) notS_n))))))))).trans ((hs132.2.2.1 _ _ (notS_c (by omega) (notS_c (by omega) (notS_c (by omega) notS_n)))).trans (hst.2.2.1 _ _ (notS_c (by omega) (notS_c (by omega) (notS_c (by omega) (notS_c (by omega) (notS_c (by omega) (notS_c (by omega) (notS_c (by omega) (notS_c (by omega) (notS_c (by omega) (notS_c (by omega) (notS_c (by omega) (notS_c (by omega) (notS_c (by omega) (notS_c (by omega) notS_n))))))))))))))))))
                  have hf181 : z161 35 4 = z0 35 4 := ((hs165.2.2.1 _ _ (notS_c (by omega) (notS_c (by omega) (notS_c (by omega) (notS_c (by omega) (notS_c (by omega) (notS_c (by omega) notS_n))))))).trans ((hs147.2.2.1 _ _ (notS_c (by omega) (notS_c (by omega) (notS_c (by omega) (notS_c (by omega) (notS_c (by omega) (notS_c (by omega) (notS_c (by omega) (notS_c (by omega) notS_n))))))))).trans ((hs132.2.2.1 _ _ (notS_c (by omega) (notS_c (by omega) (notS_c (by omega) notS_n)))).trans (hst.2.2.1 _ _ (notS_c (by omega) (notS_c (by omega) (notS_c (by omega) (notS_c (by omega) (notS_c (by omega) (notS_c (by omega) (notS_c (by omega) (notS_c (by omega) (notS_c (by omega) (notS_c (by omega) (notS_c (by omega) (notS_c (by omega) (notS_c (by omega) (notS_c (by omega) notS_n))))))))))))))))))
                  refine r_cVI (pc' := 127) rfl rfl rfl rfl rfl sh_35 (m_18 (d := d + 1)  hs167.1 hs167.2.1 (by first | omega | assumption | (simp only [hf180, hf181]; assumption))) (fun v182 z183 w184 p185 h186 hs187 hE188 => ?_)
                  obtain ⟨rfl, rfl, rfl, hE188⟩ := hE188
                  refine r_zeq (pc' := 130) rfl rfl ⟨by omega, by omega⟩ (fun hc190 => ?_) (fun hc190 => ?_)
                  · skip
                    refine r_c0 (pc' := 135) rfl rfl ?_
                    exact r_rz rfl (by omega) (po_I hs167 ⟨by decide, by decide⟩ ⟨_, rfl, by omega, by omega⟩)
                  · skip
                    refine r_c0 (pc' := 131) rfl rfl ?_
                    refine r_go rfl ?_
                    exact r_rz rfl (by omega) (po_I hs167 ⟨by decide, by decide⟩ ⟨_, rfl, by omega, by omega⟩)
            · skip
              refine r_c0 (pc' := 96) rfl rfl ?_
              exact r_rz rfl (by omega) (po_I hs134 ⟨by decide, by decide⟩ ⟨_, rfl, by omega, by omega⟩)
        · skip
          refine r_ld (pc' := 35) rfl rfl rfl rfl ?_
          refine r_gr (b := 37) (pc' := 38) rfl rfl sh_35 rfl pp_35_1 ?_
          refine r_ld (pc' := 39) rfl rfl rfl rfl ?_
          refine r_ld (pc' := 40) rfl rfl rfl rfl ?_
          refine r_gr (b := t + 1) (pc' := 43) rfl rfl (sh_T ht) rfl (pp_T_5 ht) ?_
          refine r_ld (pc' := 44) rfl rfl rfl rfl ?_
          refine r_gr (b := 37) (pc' := 47) rfl rfl sh_35 rfl pp_35_1 ?_
          refine r_ld (pc' := 48) rfl rfl rfl rfl ?_
          have hb191 := rd_37 hst.1 (i := x3.toNat) (by omega)
          refine r_ia (pc' := 49) rfl rfl sh_37 rfl (by omega) (by omega) rfl ?_
          have hb192 := rd_T1 ht hz (i := (z 37 x3.toNat).toNat) (by omega)
          refine r_ia (pc' := 50) rfl rfl (sh_T1 ht) rfl (by omega) (by omega) (hst.2.2.1 _ _ (notS_c (by omega) (notS_c (by omega) (notS_c (by omega) (notS_c (by omega) (notS_c (by omega) (notS_c (by omega) (notS_c (by omega) (notS_c (by omega) (notS_c (by omega) (notS_c (by omega) (notS_c (by omega) (notS_c (by omega) (notS_c (by omega) (notS_c (by omega) notS_n))))))))))))))) ?_
          refine r_is (pc' := 51) rfl rfl sh_37 rfl (by omega) (by omega) hst (inS_s (inS_s (inS_s (inS_s (inS_s (inS_s (inS_s (inS_s (inS_s (inS_s (inS_s (inS_s (inS_s (inS_0 (by omega) (by omega) (by omega) (by omega))))))))))))))) (wr_37 ⟨by omega, by omega⟩) (fun z193 hq194 hs195 => ?_)
          have hqc := hq194
          refine r_ld (pc' := 52) rfl rfl rfl rfl ?_
          refine r_gr (b := 36) (pc' := 55) rfl rfl sh_35 rfl pp_35_0 ?_
          refine r_ld (pc' := 56) rfl rfl rfl rfl ?_
          refine r_gr (b := 37) (pc' := 59) rfl rfl sh_35 rfl pp_35_1 ?_
          refine r_ld (pc' := 60) rfl rfl rfl rfl ?_
          refine r_ia (pc' := 61) rfl rfl sh_37 rfl (by omega) (by omega) ((congrFun (congrFun hq194 _) _).trans mu_eq) ?_
          refine r_al (pc' := 62) rfl rfl rfl rfl ?_
          have hb196 := rd_36 hst.2.1 (i := (z0 (t + 1) (z 37 x3.toNat).toNat).toNat) (by omega)
          refine r_la (pc' := 63) rfl rfl sh_36 rfl (by omega) (by omega) rfl ?_
          refine r_lc1 (pc' := 64) rfl rfl ?_
          refine r_ladd (pc' := 65) rfl rfl ?_
          refine w_hxl (fun v197 h198 h199 => ?_)
          refine r_ls (pc' := 66) rfl rfl sh_36 rfl (by omega) (by omega) hs195 (inS_0 (by omega) (by omega) (by omega) (by omega)) (wr_36 ⟨by omega, by omega⟩) (fun w200 hq201 hs202 => ?_)
          have hqm := hq201
          have h36 := as1 (z0 (t + 1) (z 37 x3.toNat).toNat).toNat (by omega)
          refine r_inc (pc' := 69) (lv' := [(0, _), (1, _), (2, _)]) rfl rfl rfl rfl rfl ?_
          refine r_go rfl ?_
          have hb203 := rd_4_0 hz
          have hb204 := rd_4_1 hz
          have hb205 := rd_4_8 hz
          have hb206 := rd_4_9 hz
          have hb207 := rd_4_10 hz
          have hb208 := rd_4_11 hz
          have hb209 := rd_4_12 hz
          have hb210 := rd_4_13 hz
          exact w_lv (sub_c rfl (sub_c rfl (sub_c rfl (sub_c rfl sub_n)))) rfl (ih1 (x3 + 1) z193 w200 ⟨by omega, by omega⟩ hs202 ((((congrFun (congrFun hq194 _) _).trans (mu_ne (by omega))).trans un_z_4_0)) ((((congrFun (congrFun hq194 _) _).trans (mu_ne (by omega))).trans un_z_4_1)) ((((congrFun (congrFun hq194 _) _).trans (mu_ne (by omega))).trans un_z_4_8)) ((((congrFun (congrFun hq194 _) _).trans (mu_ne (by omega))).trans un_z_4_9)) ((((congrFun (congrFun hq194 _) _).trans (mu_ne (by omega))).trans un_z_4_10)) ((((congrFun (congrFun hq194 _) _).trans (mu_ne (by omega))).trans un_z_4_11)) ((((congrFun (congrFun hq194 _) _).trans (mu_ne (by omega))).trans un_z_4_12)) ((((congrFun (congrFun hq194 _) _).trans (mu_ne (by omega))).trans un_z_4_13)) (by first | (intro e he; have := as1 e (by omega); omega) | (intro e he; have h1 := as1 e he; have h2 := mu_inc hqm (by omega) e; omega)) (by first | omega | assumption) (by omega))
  refine w_m rfl rfl ?_
  refine r_c0 (pc' := 1) rfl rfl ?_
  refine r_st (pc' := 2) (lv' := [(3, _), (0, _), (1, _), (2, _)]) rfl rfl rfl rfl ?_
  have hb211 := rd_4_0 hz
  have hb212 := rd_4_1 hz
  have hb213 := rd_4_8 hz
  have hb214 := rd_4_9 hz
  have hb215 := rd_4_10 hz
  have hb216 := rd_4_11 hz
  have hb217 := rd_4_12 hz
  have hb218 := rd_4_13 hz
  exact w_lv (sub_c rfl (sub_c rfl (sub_c rfl (sub_c rfl sub_n)))) rfl ((key ((75 * (18 - 0) + 120222 : Int).toNat + 1)).1 0 z0 w0 ⟨by omega, by omega⟩ hst (rfl) (rfl) (rfl) (rfl) (rfl) (rfl) (rfl) (rfl) (by first | (intro j hj; exfalso; omega) | (intro j hj; rw [hqz]; by_cases c : j = x3.toNat; (subst c; exact mu_eq); (rw [mu_ne (by omega)]; exact as1 j (by omega)))) (by omega))
/-- LoopGround sketch -/
abbrev S_129v  : mS := [(1, 1, 18, 18), (35, 35, 3, 3), (35, 35, 4, 4), (37, 37, 0, 1599), (1, 1, 15, 15), (36, 36, 0, 17), (4, 4, 8, 8), (7, 7, 0, 17), (6, 6, 0, 17), (4, 4, 0, 0), (4, 4, 1, 1), (5, 5, 0, 281), (4, 4, 9, 9), (4, 4, 10, 10), (4, 4, 11, 11), (4, 4, 12, 12), (4, 4, 13, 13), (38, 38, 0, 1599), (158, 158, 0, 17)]
abbrev E_129v (t : Nat) (u : Nat) (z0 w0 : mZ) (tx it mt tt ct : Option Nat) : Int → mZ → mZ → mP → Prop := fun v z w p => ∃ tt_e : Option Nat, p = (pq (some t) (some u) tx it mt tt_e ct) ∧ (-1600) ≤ v ∧ v ≤ 1600 ∧ (CV z w t ∧ (GA z0 z0 t → GA z z t) ∧ z 1 15 = 0)
theorem m_129v {d : Nat} {z0 w0 : mZ} {tx it mt tt ct : Option Nat} (t : Nat) (u : Nat) (hz : rz z0) (hw : rw_ w0) (ht : isT t) (hu : isT u) (hcv : CV z0 w0 t) : wc (d + 6) 129 [.ref 1] (mk z0 w0 (pq (some t) (some u) tx it mt tt ct)) (poI S_129v z0 w0 (E_129v t u z0 w0 tx it mt tt ct)) := by
  have hst : st_ S_129v z0 w0 z0 w0 := st_rf hz hw
  have htb : 159 ≤ t ∧ t ≤ 192 := by have := ht; unfold isT at this; omega
  have hub : 159 ≤ u ∧ u ≤ 192 := by have := hu; unfold isT at this; omega
  have hwt := hcv.1
  have hzt3 := rd_T_3 ht hz
  have h390 := rd_39_0 hz
  have h391 := rd_39_1 hz
  have h392 := rd_39_2 hz
  refine w_m rfl rfl ?_
  refine r_ld (pc' := 1) rfl rfl rfl rfl ?_
  refine r_c0 (pc' := 2) rfl rfl ?_
  refine r_pi (pc' := 5) rfl rfl sh_1 rfl (fit_b (by omega)) hst (inS_0 (by omega) (by omega) (by omega) (by omega)) (wr_1_18 ⟨by omega, by omega⟩) (fun z63 hq64 hs65 => ?_)
  refine r_ld (pc' := 6) rfl rfl rfl rfl ?_
  refine r_gr (b := 35) (pc' := 9) rfl rfl sh_1 rfl pp_1_5 ?_
  refine r_ld (pc' := 10) rfl rfl rfl rfl ?_
  refine r_gr (b := t) (pc' := 13) rfl rfl sh_1 rfl pp_1_13 ?_
  refine r_ld (pc' := 14) rfl rfl rfl rfl ?_
  refine r_gr (b := 2) (pc' := 17) rfl rfl sh_1 rfl pp_1_0 ?_
  refine r_ld (pc' := 18) rfl rfl rfl rfl ?_
  have hb66 := rd_1_15 hz
  refine r_gi (pc' := 21) rfl rfl sh_1 rfl ((congrFun (congrFun hq64 _) _).trans (mu_ne (by omega))) ?_
  refine r_cVI (pc' := 24) rfl rfl rfl rfl rfl sh_35 (m_13v (d := d + 3) t (z0 1 15) hs65.1 hs65.2.1 ⟨by omega, by omega⟩ ht) (fun v67 z68 w69 p70 h71 hs72 hE73 => ?_)
  have hs74 := st_tr hs65 hs72 (sub_B rfl)
  obtain ⟨rfl, hE73⟩ := hE73
  refine r_st (pc' := 25) (lv' := [(1, _), (0, _)]) rfl rfl rfl rfl ?_
  refine r_ld (pc' := 26) rfl rfl rfl rfl ?_
  refine r_c0 (pc' := 27) rfl rfl ?_
  refine r_pi (pc' := 30) rfl rfl sh_1 rfl rfl hs74 (inS_s (inS_s (inS_s (inS_s (inS_0 (by omega) (by omega) (by omega) (by omega)))))) (wr_1_15 ⟨by omega, by omega⟩) (fun z75 hq76 hs77 => ?_)
  refine r_ld (pc' := 31) rfl rfl rfl rfl ?_
  refine r_zne (pc' := 34) rfl rfl ⟨by omega, by omega⟩ (fun hc78 => ?_) (fun hc78 => ?_)
  · skip
    refine r_ld (pc' := 37) rfl rfl rfl rfl ?_
    refine r_gr (b := 35) (pc' := 40) rfl rfl sh_1 rfl pp_1_5 ?_
    refine r_ld (pc' := 41) rfl rfl rfl rfl ?_
    refine r_gr (b := t) (pc' := 44) rfl rfl sh_1 rfl pp_1_13 ?_
    have hb79 := rd_35_3 hs74.1
    have hf80 : z75 35 3 = z68 35 3 := ((congrFun (congrFun hq76 _) _).trans (mu_ne (by omega)))
    refine r_cVV (pc' := 47) rfl rfl rfl rfl rfl sh_35 (m_15 (d := d + 4) t hs77.1 hs77.2.1 ht (by first | omega | assumption | (simp only [hf80]; assumption))) (fun z82 w83 p84 hs86 hE87 => ?_)
    have hs88 := st_tr hs77 hs86 (sub_B rfl)
    obtain ⟨rfl, hE87⟩ := hE87
    refine r_ld (pc' := 48) rfl rfl rfl rfl ?_
    refine r_gr (b := 35) (pc' := 51) rfl rfl sh_1 rfl pp_1_5 ?_
    refine r_ld (pc' := 52) rfl rfl rfl rfl ?_
    refine r_gr (b := t) (pc' := 55) rfl rfl sh_1 rfl pp_1_13 ?_
    refine r_ld (pc' := 56) rfl rfl rfl rfl ?_
    refine r_gr (b := 4) (pc' := 59) rfl rfl sh_1 rfl pp_1_2 ?_
    have hb89 := rd_35_3 hs88.1
    have hb90 := rd_35_4 hs88.1
    refine r_cVI (pc' := 62) rfl rfl rfl rfl rfl sh_35 (m_17 (d := d) t hs88.1 hs88.2.1 ht (by exact WTt_f hs88 (notS_c (by omega) (notS_c (by omega) (notS_c (by omega) (notS_c (by omega) (notS_c (by omega) (notS_c (by omega) (notS_c (by omega) (notS_c (by omega) (notS_c (by omega) (notS_c (by omega) (notS_c (by omega) (notS_c (by omega) (notS_c (by omega) (notS_c (by omega) (notS_c (by omega) (notS_c (by omega) (notS_c (by omega) (notS_c (by omega) (notS_c (by omega) (notS_n)))))))))))))))))))) (notS_c (by omega) (notS_c (by omega) (notS_c (by omega) (notS_c (by omega) (notS_c (by omega) (notS_c (by omega) (notS_c (by omega) (notS_c (by omega) (notS_c (by omega) (notS_c (by omega) (notS_c (by omega) (notS_c (by omega) (notS_c (by omega) (notS_c (by omega) (notS_c (by omega) (notS_c (by omega) (notS_c (by omega) (notS_c (by omega) (notS_c (by omega) (notS_n)))))))))))))))))))) (fun i => (notS_c (by omega) (notS_c (by omega) (notS_c (by omega) (notS_c (by omega) (notS_c (by omega) (notS_c (by omega) (notS_c (by omega) (notS_c (by omega) (notS_c (by omega) (notS_c (by omega) (notS_c (by omega) (notS_c (by omega) (notS_c (by omega) (notS_c (by omega) (notS_c (by omega) (notS_c (by omega) (notS_c (by omega) (notS_c (by omega) (notS_c (by omega) (notS_n))))))))))))))))))))) (fun i => (notS_c (by omega) (notS_c (by omega) (notS_c (by omega) (notS_c (by omega) (notS_c (by omega) (notS_c (by omega) (notS_c (by omega) (notS_c (by omega) (notS_c (by omega) (notS_c (by omega) (notS_c (by omega) (notS_c (by omega) (notS_c (by omega) (notS_c (by omega) (notS_c (by omega) (notS_c (by omega) (notS_c (by omega) (notS_c (by omega) (notS_c (by omega) (notS_n))))))))))))))))))))) (fun i => (notS_c (by omega) (notS_c (by omega) (notS_c (by omega) (notS_c (by omega) (notS_c (by omega) (notS_c (by omega) (notS_c (by omega) (notS_c (by omega) (notS_c (by omega) (notS_c (by omega) (notS_c (by omega) (notS_c (by omega) (notS_c (by omega) (notS_c (by omega) (notS_c (by omega) (notS_c (by omega) (notS_c (by omega) (notS_c (by omega) (notS_c (by omega) (notS_n))))))))))))))))))))) hwt) (by first | omega | assumption)) (fun v91 z92 w93 p94 h95 hs96 hE97 => ?_)
    have hs98 := st_tr hs88 hs96 (sub_B rfl)
    obtain ⟨pv99, rfl, hE97⟩ := hE97
    refine r_zne (pc' := 65) rfl rfl ⟨by omega, by omega⟩ (fun hc100 => ?_) (fun hc100 => ?_)
    · skip
      refine r_ld (pc' := 69) rfl rfl rfl rfl ?_
      refine r_gr (b := 35) (pc' := 72) rfl rfl sh_1 rfl pp_1_5 ?_
      refine r_gr (b := 36) (pc' := 75) rfl rfl sh_35 rfl pp_35_0 ?_
      refine r_ld (pc' := 76) rfl rfl rfl rfl ?_
      refine r_gr (b := 158) (pc' := 79) rfl rfl sh_1 rfl pp_1_12 ?_
      refine r_cSV (pc' := 82) rfl rfl rfl rfl rfl (m_140 (d := d + 4) 36 158 hs98.1 hs98.2.1 (by first | omega | assumption) lr_36 (by first | omega | assumption) lr_158 (by first | omega | assumption) wrr_158) (fun z102 w103 p104 hs106 hE107 => ?_)
      have hs108 := st_tr hs98 hs106 (sub_B rfl)
      obtain ⟨rfl, hE107⟩ := hE107
      refine r_ld (pc' := 83) rfl rfl rfl rfl ?_
      refine r_c0 (pc' := 84) rfl rfl ?_
      refine r_pi (pc' := 87) rfl rfl sh_1 rfl (fit_b (by omega)) hs108 (inS_0 (by omega) (by omega) (by omega) (by omega)) (wr_1_18 ⟨by omega, by omega⟩) (fun z109 hq110 hs111 => ?_)
      refine r_ld (pc' := 88) rfl rfl rfl rfl ?_
      refine r_gr (b := 35) (pc' := 91) rfl rfl sh_1 rfl pp_1_5 ?_
      have hf112 : z109 35 4 = z82 35 4 := (((congrFun (congrFun hq110 _) _).trans (mu_ne (by omega))).trans ((hs106.2.2.1 _ _ (notS_c (by omega) notS_n)).trans (hs96.2.2.1 _ _ (notS_c (by omega) (notS_c (by omega) (notS_c (by omega) (notS_c (by omega) (notS_c (by omega) (notS_c (by omega) (notS_c (by omega) (notS_c (by omega) (notS_c (by omega) (notS_c (by omega) (notS_c (by omega) (notS_c (by omega) (notS_c (by omega) (notS_c (by omega) notS_n)))))))))))))))))
      have hf113 : z109 35 3 = z82 35 3 := (((congrFun (congrFun hq110 _) _).trans (mu_ne (by omega))).trans ((hs106.2.2.1 _ _ (notS_c (by omega) notS_n)).trans (hs96.2.2.1 _ _ (notS_c (by omega) (notS_c (by omega) (notS_c (by omega) (notS_c (by omega) (notS_c (by omega) (notS_c (by omega) (notS_c (by omega) (notS_c (by omega) (notS_c (by omega) (notS_c (by omega) (notS_c (by omega) (notS_c (by omega) (notS_c (by omega) (notS_c (by omega) notS_n)))))))))))))))))
      refine r_cVI (pc' := 94) rfl rfl rfl rfl rfl sh_35 (m_16 (d := d + 4)  hs111.1 hs111.2.1 ) (fun v114 z115 w116 p117 h118 hs119 hE120 => ?_)
      obtain ⟨rfl, rfl, rfl, hE120⟩ := hE120
      have hf122 : z109 1 15 = 0 := (((congrFun (congrFun hq110 _) _).trans (mu_ne (by omega))).trans ((hs106.2.2.1 _ _ (notS_c (by omega) notS_n)).trans ((hs96.2.2.1 _ _ (notS_c (by omega) (notS_c (by omega) (notS_c (by omega) (notS_c (by omega) (notS_c (by omega) (notS_c (by omega) (notS_c (by omega) (notS_c (by omega) (notS_c (by omega) (notS_c (by omega) (notS_c (by omega) (notS_c (by omega) (notS_c (by omega) (notS_c (by omega) notS_n))))))))))))))).trans ((hs86.2.2.1 _ _ (notS_c (by omega) (notS_c (by omega) (notS_c (by omega) notS_n)))).trans ((congrFun (congrFun hq76 _) _).trans mu_eq)))))
      exact r_ri rfl (po_I hs111 ⟨by omega, by omega⟩ ⟨_, rfl, by omega, by omega, (by exact ⟨CV_f ht hz hs111 (notS_c (by omega) (notS_c (by omega) (notS_c (by omega) (notS_c (by omega) (notS_c (by omega) (notS_c (by omega) (notS_c (by omega) (notS_c (by omega) (notS_c (by omega) (notS_c (by omega) (notS_c (by omega) (notS_c (by omega) (notS_c (by omega) (notS_c (by omega) (notS_c (by omega) (notS_c (by omega) (notS_c (by omega) (notS_c (by omega) (notS_c (by omega) (notS_n)))))))))))))))))))) (notS_c (by omega) (notS_c (by omega) (notS_c (by omega) (notS_c (by omega) (notS_c (by omega) (notS_c (by omega) (notS_c (by omega) (notS_c (by omega) (notS_c (by omega) (notS_c (by omega) (notS_c (by omega) (notS_c (by omega) (notS_c (by omega) (notS_c (by omega) (notS_c (by omega) (notS_c (by omega) (notS_c (by omega) (notS_c (by omega) (notS_c (by omega) (notS_n)))))))))))))))))))) (notS_c (by omega) (notS_c (by omega) (notS_c (by omega) (notS_c (by omega) (notS_c (by omega) (notS_c (by omega) (notS_c (by omega) (notS_c (by omega) (notS_c (by omega) (notS_c (by omega) (notS_c (by omega) (notS_c (by omega) (notS_c (by omega) (notS_c (by omega) (notS_c (by omega) (notS_c (by omega) (notS_c (by omega) (notS_c (by omega) (notS_c (by omega) (notS_n)))))))))))))))))))) (notS_c (by omega) (notS_c (by omega) (notS_c (by omega) (notS_c (by omega) (notS_c (by omega) (notS_c (by omega) (notS_c (by omega) (notS_c (by omega) (notS_c (by omega) (notS_c (by omega) (notS_c (by omega) (notS_c (by omega) (notS_c (by omega) (notS_c (by omega) (notS_c (by omega) (notS_c (by omega) (notS_c (by omega) (notS_c (by omega) (notS_c (by omega) (notS_n)))))))))))))))))))) (notS_c (by omega) (notS_c (by omega) (notS_c (by omega) (notS_c (by omega) (notS_c (by omega) (notS_c (by omega) (notS_c (by omega) (notS_c (by omega) (notS_c (by omega) (notS_c (by omega) (notS_c (by omega) (notS_c (by omega) (notS_c (by omega) (notS_c (by omega) (notS_c (by omega) (notS_c (by omega) (notS_c (by omega) (notS_c (by omega) (notS_c (by omega) (notS_n)))))))))))))))))))) (fun i => (notS_c (by omega) (notS_c (by omega) (notS_c (by omega) (notS_c (by omega) (notS_c (by omega) (notS_c (by omega) (notS_c (by omega) (notS_c (by omega) (notS_c (by omega) (notS_c (by omega) (notS_c (by omega) (notS_c (by omega) (notS_c (by omega) (notS_c (by omega) (notS_c (by omega) (notS_c (by omega) (notS_c (by omega) (notS_c (by omega) (notS_c (by omega) (notS_n))))))))))))))))))))) (fun i => (notS_c (by omega) (notS_c (by omega) (notS_c (by omega) (notS_c (by omega) (notS_c (by omega) (notS_c (by omega) (notS_c (by omega) (notS_c (by omega) (notS_c (by omega) (notS_c (by omega) (notS_c (by omega) (notS_c (by omega) (notS_c (by omega) (notS_c (by omega) (notS_c (by omega) (notS_c (by omega) (notS_c (by omega) (notS_c (by omega) (notS_c (by omega) (notS_n))))))))))))))))))))) (fun i => (notS_c (by omega) (notS_c (by omega) (notS_c (by omega) (notS_c (by omega) (notS_c (by omega) (notS_c (by omega) (notS_c (by omega) (notS_c (by omega) (notS_c (by omega) (notS_c (by omega) (notS_c (by omega) (notS_c (by omega) (notS_c (by omega) (notS_c (by omega) (notS_c (by omega) (notS_c (by omega) (notS_c (by omega) (notS_c (by omega) (notS_c (by omega) (notS_n))))))))))))))))))))) (fun a h1 h2 i => (notS_c (by omega) (notS_c (by omega) (notS_c (by omega) (notS_c (by omega) (notS_c (by omega) (notS_c (by omega) (notS_c (by omega) (notS_c (by omega) (notS_c (by omega) (notS_c (by omega) (notS_c (by omega) (notS_c (by omega) (notS_c (by omega) (notS_c (by omega) (notS_c (by omega) (notS_c (by omega) (notS_c (by omega) (notS_c (by omega) (notS_c (by omega) (notS_n))))))))))))))))))))) (notS_c (by omega) (notS_c (by omega) (notS_c (by omega) (notS_c (by omega) (notS_c (by omega) (notS_c (by omega) (notS_c (by omega) (notS_c (by omega) (notS_c (by omega) (notS_c (by omega) (notS_c (by omega) (notS_c (by omega) (notS_c (by omega) (notS_c (by omega) (notS_c (by omega) (notS_c (by omega) (notS_c (by omega) (notS_c (by omega) (notS_c (by omega) (notS_n)))))))))))))))))))) (notS_c (by omega) (notS_c (by omega) (notS_c (by omega) (notS_c (by omega) (notS_c (by omega) (notS_c (by omega) (notS_c (by omega) (notS_c (by omega) (notS_c (by omega) (notS_c (by omega) (notS_c (by omega) (notS_c (by omega) (notS_c (by omega) (notS_c (by omega) (notS_c (by omega) (notS_c (by omega) (notS_c (by omega) (notS_c (by omega) (notS_c (by omega) (notS_n)))))))))))))))))))) (notS_c (by omega) (notS_c (by omega) (notS_c (by omega) (notS_c (by omega) (notS_c (by omega) (notS_c (by omega) (notS_c (by omega) (notS_c (by omega) (notS_c (by omega) (notS_c (by omega) (notS_c (by omega) (notS_c (by omega) (notS_c (by omega) (notS_c (by omega) (notS_c (by omega) (notS_c (by omega) (notS_c (by omega) (notS_c (by omega) (notS_c (by omega) (notS_n)))))))))))))))))))) (fun a h1 h2 i => (notS_c (by omega) (notS_c (by omega) (notS_c (by omega) (notS_c (by omega) (notS_c (by omega) (notS_c (by omega) (notS_c (by omega) (notS_c (by omega) (notS_c (by omega) (notS_c (by omega) (notS_c (by omega) (notS_c (by omega) (notS_c (by omega) (notS_c (by omega) (notS_c (by omega) (notS_c (by omega) (notS_c (by omega) (notS_c (by omega) (notS_c (by omega) (notS_n))))))))))))))))))))) (fun a h1 h2 i => (notS_c (by omega) (notS_c (by omega) (notS_c (by omega) (notS_c (by omega) (notS_c (by omega) (notS_c (by omega) (notS_c (by omega) (notS_c (by omega) (notS_c (by omega) (notS_c (by omega) (notS_c (by omega) (notS_c (by omega) (notS_c (by omega) (notS_c (by omega) (notS_c (by omega) (notS_c (by omega) (notS_c (by omega) (notS_c (by omega) (notS_c (by omega) (notS_n))))))))))))))))))))) hcv, (fun hq => GA_f ht hz hs111 (notS_c (by omega) (notS_c (by omega) (notS_c (by omega) (notS_c (by omega) (notS_c (by omega) (notS_c (by omega) (notS_c (by omega) (notS_c (by omega) (notS_c (by omega) (notS_c (by omega) (notS_c (by omega) (notS_c (by omega) (notS_c (by omega) (notS_c (by omega) (notS_c (by omega) (notS_c (by omega) (notS_c (by omega) (notS_c (by omega) (notS_c (by omega) (notS_n)))))))))))))))))))) (notS_c (by omega) (notS_c (by omega) (notS_c (by omega) (notS_c (by omega) (notS_c (by omega) (notS_c (by omega) (notS_c (by omega) (notS_c (by omega) (notS_c (by omega) (notS_c (by omega) (notS_c (by omega) (notS_c (by omega) (notS_c (by omega) (notS_c (by omega) (notS_c (by omega) (notS_c (by omega) (notS_c (by omega) (notS_c (by omega) (notS_c (by omega) (notS_n)))))))))))))))))))) (fun i => (notS_c (by omega) (notS_c (by omega) (notS_c (by omega) (notS_c (by omega) (notS_c (by omega) (notS_c (by omega) (notS_c (by omega) (notS_c (by omega) (notS_c (by omega) (notS_c (by omega) (notS_c (by omega) (notS_c (by omega) (notS_c (by omega) (notS_c (by omega) (notS_c (by omega) (notS_c (by omega) (notS_c (by omega) (notS_c (by omega) (notS_c (by omega) (notS_n))))))))))))))))))))) (fun a h1 h2 i => (notS_c (by omega) (notS_c (by omega) (notS_c (by omega) (notS_c (by omega) (notS_c (by omega) (notS_c (by omega) (notS_c (by omega) (notS_c (by omega) (notS_c (by omega) (notS_c (by omega) (notS_c (by omega) (notS_c (by omega) (notS_c (by omega) (notS_c (by omega) (notS_c (by omega) (notS_c (by omega) (notS_c (by omega) (notS_c (by omega) (notS_c (by omega) (notS_n))))))))))))))))))))) hq), by omega⟩)⟩)
    · skip
      refine r_cb (pc' := 67) rfl (by decide) rfl ?_
      have hf123 : z92 1 15 = 0 := ((hs96.2.2.1 _ _ (notS_c (by omega) (notS_c (by omega) (notS_c (by omega) (notS_c (by omega) (notS_c (by omega) (notS_c (by omega) (notS_c (by omega) (notS_c (by omega) (notS_c (by omega) (notS_c (by omega) (notS_c (by omega) (notS_c (by omega) (notS_c (by omega) (notS_c (by omega) notS_n))))))))))))))).trans ((hs86.2.2.1 _ _ (notS_c (by omega) (notS_c (by omega) (notS_c (by omega) notS_n)))).trans ((congrFun (congrFun hq76 _) _).trans mu_eq)))
      exact r_ri rfl (po_I hs98 ⟨by decide, by decide⟩ ⟨_, rfl, by omega, by omega, (by exact ⟨CV_f ht hz hs98 (notS_c (by omega) (notS_c (by omega) (notS_c (by omega) (notS_c (by omega) (notS_c (by omega) (notS_c (by omega) (notS_c (by omega) (notS_c (by omega) (notS_c (by omega) (notS_c (by omega) (notS_c (by omega) (notS_c (by omega) (notS_c (by omega) (notS_c (by omega) (notS_c (by omega) (notS_c (by omega) (notS_c (by omega) (notS_c (by omega) (notS_c (by omega) (notS_n)))))))))))))))))))) (notS_c (by omega) (notS_c (by omega) (notS_c (by omega) (notS_c (by omega) (notS_c (by omega) (notS_c (by omega) (notS_c (by omega) (notS_c (by omega) (notS_c (by omega) (notS_c (by omega) (notS_c (by omega) (notS_c (by omega) (notS_c (by omega) (notS_c (by omega) (notS_c (by omega) (notS_c (by omega) (notS_c (by omega) (notS_c (by omega) (notS_c (by omega) (notS_n)))))))))))))))))))) (notS_c (by omega) (notS_c (by omega) (notS_c (by omega) (notS_c (by omega) (notS_c (by omega) (notS_c (by omega) (notS_c (by omega) (notS_c (by omega) (notS_c (by omega) (notS_c (by omega) (notS_c (by omega) (notS_c (by omega) (notS_c (by omega) (notS_c (by omega) (notS_c (by omega) (notS_c (by omega) (notS_c (by omega) (notS_c (by omega) (notS_c (by omega) (notS_n)))))))))))))))))))) (notS_c (by omega) (notS_c (by omega) (notS_c (by omega) (notS_c (by omega) (notS_c (by omega) (notS_c (by omega) (notS_c (by omega) (notS_c (by omega) (notS_c (by omega) (notS_c (by omega) (notS_c (by omega) (notS_c (by omega) (notS_c (by omega) (notS_c (by omega) (notS_c (by omega) (notS_c (by omega) (notS_c (by omega) (notS_c (by omega) (notS_c (by omega) (notS_n)))))))))))))))))))) (notS_c (by omega) (notS_c (by omega) (notS_c (by omega) (notS_c (by omega) (notS_c (by omega) (notS_c (by omega) (notS_c (by omega) (notS_c (by omega) (notS_c (by omega) (notS_c (by omega) (notS_c (by omega) (notS_c (by omega) (notS_c (by omega) (notS_c (by omega) (notS_c (by omega) (notS_c (by omega) (notS_c (by omega) (notS_c (by omega) (notS_c (by omega) (notS_n)))))))))))))))))))) (fun i => (notS_c (by omega) (notS_c (by omega) (notS_c (by omega) (notS_c (by omega) (notS_c (by omega) (notS_c (by omega) (notS_c (by omega) (notS_c (by omega) (notS_c (by omega) (notS_c (by omega) (notS_c (by omega) (notS_c (by omega) (notS_c (by omega) (notS_c (by omega) (notS_c (by omega) (notS_c (by omega) (notS_c (by omega) (notS_c (by omega) (notS_c (by omega) (notS_n))))))))))))))))))))) (fun i => (notS_c (by omega) (notS_c (by omega) (notS_c (by omega) (notS_c (by omega) (notS_c (by omega) (notS_c (by omega) (notS_c (by omega) (notS_c (by omega) (notS_c (by omega) (notS_c (by omega) (notS_c (by omega) (notS_c (by omega) (notS_c (by omega) (notS_c (by omega) (notS_c (by omega) (notS_c (by omega) (notS_c (by omega) (notS_c (by omega) (notS_c (by omega) (notS_n))))))))))))))))))))) (fun i => (notS_c (by omega) (notS_c (by omega) (notS_c (by omega) (notS_c (by omega) (notS_c (by omega) (notS_c (by omega) (notS_c (by omega) (notS_c (by omega) (notS_c (by omega) (notS_c (by omega) (notS_c (by omega) (notS_c (by omega) (notS_c (by omega) (notS_c (by omega) (notS_c (by omega) (notS_c (by omega) (notS_c (by omega) (notS_c (by omega) (notS_c (by omega) (notS_n))))))))))))))))))))) (fun a h1 h2 i => (notS_c (by omega) (notS_c (by omega) (notS_c (by omega) (notS_c (by omega) (notS_c (by omega) (notS_c (by omega) (notS_c (by omega) (notS_c (by omega) (notS_c (by omega) (notS_c (by omega) (notS_c (by omega) (notS_c (by omega) (notS_c (by omega) (notS_c (by omega) (notS_c (by omega) (notS_c (by omega) (notS_c (by omega) (notS_c (by omega) (notS_c (by omega) (notS_n))))))))))))))))))))) (notS_c (by omega) (notS_c (by omega) (notS_c (by omega) (notS_c (by omega) (notS_c (by omega) (notS_c (by omega) (notS_c (by omega) (notS_c (by omega) (notS_c (by omega) (notS_c (by omega) (notS_c (by omega) (notS_c (by omega) (notS_c (by omega) (notS_c (by omega) (notS_c (by omega) (notS_c (by omega) (notS_c (by omega) (notS_c (by omega) (notS_c (by omega) (notS_n)))))))))))))))))))) (notS_c (by omega) (notS_c (by omega) (notS_c (by omega) (notS_c (by omega) (notS_c (by omega) (notS_c (by omega) (notS_c (by omega) (notS_c (by omega) (notS_c (by omega) (notS_c (by omega) (notS_c (by omega) (notS_c (by omega) (notS_c (by omega) (notS_c (by omega) (notS_c (by omega) (notS_c (by omega) (notS_c (by omega) (notS_c (by omega) (notS_c (by omega) (notS_n)))))))))))))))))))) (notS_c (by omega) (notS_c (by omega) (notS_c (by omega) (notS_c (by omega) (notS_c (by omega) (notS_c (by omega) (notS_c (by omega) (notS_c (by omega) (notS_c (by omega) (notS_c (by omega) (notS_c (by omega) (notS_c (by omega) (notS_c (by omega) (notS_c (by omega) (notS_c (by omega) (notS_c (by omega) (notS_c (by omega) (notS_c (by omega) (notS_c (by omega) (notS_n)))))))))))))))))))) (fun a h1 h2 i => (notS_c (by omega) (notS_c (by omega) (notS_c (by omega) (notS_c (by omega) (notS_c (by omega) (notS_c (by omega) (notS_c (by omega) (notS_c (by omega) (notS_c (by omega) (notS_c (by omega) (notS_c (by omega) (notS_c (by omega) (notS_c (by omega) (notS_c (by omega) (notS_c (by omega) (notS_c (by omega) (notS_c (by omega) (notS_c (by omega) (notS_c (by omega) (notS_n))))))))))))))))))))) (fun a h1 h2 i => (notS_c (by omega) (notS_c (by omega) (notS_c (by omega) (notS_c (by omega) (notS_c (by omega) (notS_c (by omega) (notS_c (by omega) (notS_c (by omega) (notS_c (by omega) (notS_c (by omega) (notS_c (by omega) (notS_c (by omega) (notS_c (by omega) (notS_c (by omega) (notS_c (by omega) (notS_c (by omega) (notS_c (by omega) (notS_c (by omega) (notS_c (by omega) (notS_n))))))))))))))))))))) hcv, (fun hq => GA_f ht hz hs98 (notS_c (by omega) (notS_c (by omega) (notS_c (by omega) (notS_c (by omega) (notS_c (by omega) (notS_c (by omega) (notS_c (by omega) (notS_c (by omega) (notS_c (by omega) (notS_c (by omega) (notS_c (by omega) (notS_c (by omega) (notS_c (by omega) (notS_c (by omega) (notS_c (by omega) (notS_c (by omega) (notS_c (by omega) (notS_c (by omega) (notS_c (by omega) (notS_n)))))))))))))))))))) (notS_c (by omega) (notS_c (by omega) (notS_c (by omega) (notS_c (by omega) (notS_c (by omega) (notS_c (by omega) (notS_c (by omega) (notS_c (by omega) (notS_c (by omega) (notS_c (by omega) (notS_c (by omega) (notS_c (by omega) (notS_c (by omega) (notS_c (by omega) (notS_c (by omega) (notS_c (by omega) (notS_c (by omega) (notS_c (by omega) (notS_c (by omega) (notS_n)))))))))))))))))))) (fun i => (notS_c (by omega) (notS_c (by omega) (notS_c (by omega) (notS_c (by omega) (notS_c (by omega) (notS_c (by omega) (notS_c (by omega) (notS_c (by omega) (notS_c (by omega) (notS_c (by omega) (notS_c (by omega) (notS_c (by omega) (notS_c (by omega) (notS_c (by omega) (notS_c (by omega) (notS_c (by omega) (notS_c (by omega) (notS_c (by omega) (notS_c (by omega) (notS_n))))))))))))))))))))) (fun a h1 h2 i => (notS_c (by omega) (notS_c (by omega) (notS_c (by omega) (notS_c (by omega) (notS_c (by omega) (notS_c (by omega) (notS_c (by omega) (notS_c (by omega) (notS_c (by omega) (notS_c (by omega) (notS_c (by omega) (notS_c (by omega) (notS_c (by omega) (notS_c (by omega) (notS_c (by omega) (notS_c (by omega) (notS_c (by omega) (notS_c (by omega) (notS_c (by omega) (notS_n))))))))))))))))))))) hq), by omega⟩)⟩)
  · skip
    refine r_c0 (pc' := 35) rfl rfl ?_
    have hf124 : z75 1 15 = 0 := ((congrFun (congrFun hq76 _) _).trans mu_eq)
    exact r_ri rfl (po_I hs77 ⟨by decide, by decide⟩ ⟨_, rfl, by omega, by omega, (by exact ⟨CV_f ht hz hs77 (notS_c (by omega) (notS_c (by omega) (notS_c (by omega) (notS_c (by omega) (notS_c (by omega) (notS_c (by omega) (notS_c (by omega) (notS_c (by omega) (notS_c (by omega) (notS_c (by omega) (notS_c (by omega) (notS_c (by omega) (notS_c (by omega) (notS_c (by omega) (notS_c (by omega) (notS_c (by omega) (notS_c (by omega) (notS_c (by omega) (notS_c (by omega) (notS_n)))))))))))))))))))) (notS_c (by omega) (notS_c (by omega) (notS_c (by omega) (notS_c (by omega) (notS_c (by omega) (notS_c (by omega) (notS_c (by omega) (notS_c (by omega) (notS_c (by omega) (notS_c (by omega) (notS_c (by omega) (notS_c (by omega) (notS_c (by omega) (notS_c (by omega) (notS_c (by omega) (notS_c (by omega) (notS_c (by omega) (notS_c (by omega) (notS_c (by omega) (notS_n)))))))))))))))))))) (notS_c (by omega) (notS_c (by omega) (notS_c (by omega) (notS_c (by omega) (notS_c (by omega) (notS_c (by omega) (notS_c (by omega) (notS_c (by omega) (notS_c (by omega) (notS_c (by omega) (notS_c (by omega) (notS_c (by omega) (notS_c (by omega) (notS_c (by omega) (notS_c (by omega) (notS_c (by omega) (notS_c (by omega) (notS_c (by omega) (notS_c (by omega) (notS_n)))))))))))))))))))) (notS_c (by omega) (notS_c (by omega) (notS_c (by omega) (notS_c (by omega) (notS_c (by omega) (notS_c (by omega) (notS_c (by omega) (notS_c (by omega) (notS_c (by omega) (notS_c (by omega) (notS_c (by omega) (notS_c (by omega) (notS_c (by omega) (notS_c (by omega) (notS_c (by omega) (notS_c (by omega) (notS_c (by omega) (notS_c (by omega) (notS_c (by omega) (notS_n)))))))))))))))))))) (notS_c (by omega) (notS_c (by omega) (notS_c (by omega) (notS_c (by omega) (notS_c (by omega) (notS_c (by omega) (notS_c (by omega) (notS_c (by omega) (notS_c (by omega) (notS_c (by omega) (notS_c (by omega) (notS_c (by omega) (notS_c (by omega) (notS_c (by omega) (notS_c (by omega) (notS_c (by omega) (notS_c (by omega) (notS_c (by omega) (notS_c (by omega) (notS_n)))))))))))))))))))) (fun i => (notS_c (by omega) (notS_c (by omega) (notS_c (by omega) (notS_c (by omega) (notS_c (by omega) (notS_c (by omega) (notS_c (by omega) (notS_c (by omega) (notS_c (by omega) (notS_c (by omega) (notS_c (by omega) (notS_c (by omega) (notS_c (by omega) (notS_c (by omega) (notS_c (by omega) (notS_c (by omega) (notS_c (by omega) (notS_c (by omega) (notS_c (by omega) (notS_n))))))))))))))))))))) (fun i => (notS_c (by omega) (notS_c (by omega) (notS_c (by omega) (notS_c (by omega) (notS_c (by omega) (notS_c (by omega) (notS_c (by omega) (notS_c (by omega) (notS_c (by omega) (notS_c (by omega) (notS_c (by omega) (notS_c (by omega) (notS_c (by omega) (notS_c (by omega) (notS_c (by omega) (notS_c (by omega) (notS_c (by omega) (notS_c (by omega) (notS_c (by omega) (notS_n))))))))))))))))))))) (fun i => (notS_c (by omega) (notS_c (by omega) (notS_c (by omega) (notS_c (by omega) (notS_c (by omega) (notS_c (by omega) (notS_c (by omega) (notS_c (by omega) (notS_c (by omega) (notS_c (by omega) (notS_c (by omega) (notS_c (by omega) (notS_c (by omega) (notS_c (by omega) (notS_c (by omega) (notS_c (by omega) (notS_c (by omega) (notS_c (by omega) (notS_c (by omega) (notS_n))))))))))))))))))))) (fun a h1 h2 i => (notS_c (by omega) (notS_c (by omega) (notS_c (by omega) (notS_c (by omega) (notS_c (by omega) (notS_c (by omega) (notS_c (by omega) (notS_c (by omega) (notS_c (by omega) (notS_c (by omega) (notS_c (by omega) (notS_c (by omega) (notS_c (by omega) (notS_c (by omega) (notS_c (by omega) (notS_c (by omega) (notS_c (by omega) (notS_c (by omega) (notS_c (by omega) (notS_n))))))))))))))))))))) (notS_c (by omega) (notS_c (by omega) (notS_c (by omega) (notS_c (by omega) (notS_c (by omega) (notS_c (by omega) (notS_c (by omega) (notS_c (by omega) (notS_c (by omega) (notS_c (by omega) (notS_c (by omega) (notS_c (by omega) (notS_c (by omega) (notS_c (by omega) (notS_c (by omega) (notS_c (by omega) (notS_c (by omega) (notS_c (by omega) (notS_c (by omega) (notS_n)))))))))))))))))))) (notS_c (by omega) (notS_c (by omega) (notS_c (by omega) (notS_c (by omega) (notS_c (by omega) (notS_c (by omega) (notS_c (by omega) (notS_c (by omega) (notS_c (by omega) (notS_c (by omega) (notS_c (by omega) (notS_c (by omega) (notS_c (by omega) (notS_c (by omega) (notS_c (by omega) (notS_c (by omega) (notS_c (by omega) (notS_c (by omega) (notS_c (by omega) (notS_n)))))))))))))))))))) (notS_c (by omega) (notS_c (by omega) (notS_c (by omega) (notS_c (by omega) (notS_c (by omega) (notS_c (by omega) (notS_c (by omega) (notS_c (by omega) (notS_c (by omega) (notS_c (by omega) (notS_c (by omega) (notS_c (by omega) (notS_c (by omega) (notS_c (by omega) (notS_c (by omega) (notS_c (by omega) (notS_c (by omega) (notS_c (by omega) (notS_c (by omega) (notS_n)))))))))))))))))))) (fun a h1 h2 i => (notS_c (by omega) (notS_c (by omega) (notS_c (by omega) (notS_c (by omega) (notS_c (by omega) (notS_c (by omega) (notS_c (by omega) (notS_c (by omega) (notS_c (by omega) (notS_c (by omega) (notS_c (by omega) (notS_c (by omega) (notS_c (by omega) (notS_c (by omega) (notS_c (by omega) (notS_c (by omega) (notS_c (by omega) (notS_c (by omega) (notS_c (by omega) (notS_n))))))))))))))))))))) (fun a h1 h2 i => (notS_c (by omega) (notS_c (by omega) (notS_c (by omega) (notS_c (by omega) (notS_c (by omega) (notS_c (by omega) (notS_c (by omega) (notS_c (by omega) (notS_c (by omega) (notS_c (by omega) (notS_c (by omega) (notS_c (by omega) (notS_c (by omega) (notS_c (by omega) (notS_c (by omega) (notS_c (by omega) (notS_c (by omega) (notS_c (by omega) (notS_c (by omega) (notS_n))))))))))))))))))))) hcv, (fun hq => GA_f ht hz hs77 (notS_c (by omega) (notS_c (by omega) (notS_c (by omega) (notS_c (by omega) (notS_c (by omega) (notS_c (by omega) (notS_c (by omega) (notS_c (by omega) (notS_c (by omega) (notS_c (by omega) (notS_c (by omega) (notS_c (by omega) (notS_c (by omega) (notS_c (by omega) (notS_c (by omega) (notS_c (by omega) (notS_c (by omega) (notS_c (by omega) (notS_c (by omega) (notS_n)))))))))))))))))))) (notS_c (by omega) (notS_c (by omega) (notS_c (by omega) (notS_c (by omega) (notS_c (by omega) (notS_c (by omega) (notS_c (by omega) (notS_c (by omega) (notS_c (by omega) (notS_c (by omega) (notS_c (by omega) (notS_c (by omega) (notS_c (by omega) (notS_c (by omega) (notS_c (by omega) (notS_c (by omega) (notS_c (by omega) (notS_c (by omega) (notS_c (by omega) (notS_n)))))))))))))))))))) (fun i => (notS_c (by omega) (notS_c (by omega) (notS_c (by omega) (notS_c (by omega) (notS_c (by omega) (notS_c (by omega) (notS_c (by omega) (notS_c (by omega) (notS_c (by omega) (notS_c (by omega) (notS_c (by omega) (notS_c (by omega) (notS_c (by omega) (notS_c (by omega) (notS_c (by omega) (notS_c (by omega) (notS_c (by omega) (notS_c (by omega) (notS_c (by omega) (notS_n))))))))))))))))))))) (fun a h1 h2 i => (notS_c (by omega) (notS_c (by omega) (notS_c (by omega) (notS_c (by omega) (notS_c (by omega) (notS_c (by omega) (notS_c (by omega) (notS_c (by omega) (notS_c (by omega) (notS_c (by omega) (notS_c (by omega) (notS_c (by omega) (notS_c (by omega) (notS_c (by omega) (notS_c (by omega) (notS_c (by omega) (notS_c (by omega) (notS_c (by omega) (notS_c (by omega) (notS_n))))))))))))))))))))) hq), by omega⟩)⟩)
end

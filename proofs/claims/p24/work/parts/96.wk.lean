/-! methods, printed by wip/tools/vcg.py -/
/-- Shortener isShort -/
abbrev S_56x  : mS := []
abbrev E_56x (t : Nat) (z0 w0 : mZ) (x y tx it mt tt ct : Option Nat) : Int → mZ → mZ → mP → Prop := fun v z w p => p = (pq x y tx it mt tt ct) ∧ z0 = z ∧ w0 = w ∧ 0 ≤ v ∧ v ≤ 1 ∧ ((v = 1 → SHs (z0 t 1) (w0 15)) ∧ (v = 0 → ¬ SHs (z0 t 1) (w0 15)))
theorem m_56x {d : Nat} {z0 w0 : mZ} {x y tx it mt tt ct : Option Nat} (t : Nat) (hz : rz z0) (hw : rw_ w0) (ht : isT t) (hsl : z0 11 4 = 3 * z0 t 0 ∧ z0 11 5 = z0 t 1) (hn0 : ∀ e : Nat, e < 18 → 0 ≤ w0 15 e ∧ w0 15 e ≤ 1782) : wc (d + 1) 56 [.ref 11] (mk z0 w0 (pq x y tx it mt tt ct)) (poI S_56x z0 w0 (E_56x t z0 w0 x y tx it mt tt ct)) := by
  have hst : st_ S_56x z0 w0 z0 w0 := st_rf hz hw
  have htb : 159 ≤ t ∧ t ≤ 192 := by have := ht; unfold isT at this; omega
  have hz12 := rd_11_4 hz
  have hz13 := rd_11_5 hz
  have hz14 := rd_T_0 ht hz
  have hz15 := rd_T_1 ht hz
  have hzt0 := rd_T_0 ht hz
  have hzt1 := rd_T_1 ht hz
  have key : ∀ N : Nat, (∀ (x1 x2 : Int) , 0 ≤ x1 ∧ x1 ≤ 18 → 0 ≤ x2 ∧ x2 ≤ 18 → (x1 = sm (w0 15) x2.toNat ∧ x1 ≤ x2) → (∀ e : Nat, (e : Int) < x2 → w0 15 e ≤ 1) → (x2 ≤ z0 11 5) → 34 * (18 - x2) + 29 < (N : Int) → wp_ (d) 56 3 (some .boolean) (4, [(0, .ref 11), (1, .int (Int32.ofInt x1)), (2, .int (Int32.ofInt x2))], [], mk z0 w0 (pq x y tx it mt tt ct)) (poI S_56x z0 w0 (E_56x t z0 w0 x y tx it mt tt ct))) := by
    intro N
    induction N with
    | zero =>
      intro x1 x2 
      intros; exfalso; omega
    | succ N ih =>
      have ih0 := ih; clear ih
      intro x1 x2  hx1 hx2 as1 as2 as3 hM
      refine r_ld (pc' := 5) rfl rfl rfl rfl ?_
      refine r_ld (pc' := 6) rfl rfl rfl rfl ?_
      have hb16 := rd_11_5 hz
      refine r_gi (pc' := 9) rfl rfl sh_11 rfl rfl ?_
      refine r_ige (pc' := 12) rfl rfl ⟨by omega, by omega⟩ ⟨by omega, by omega⟩ (fun hc17 => ?_) (fun hc17 => ?_)
      · skip
        refine r_ld (pc' := 42) rfl rfl rfl rfl ?_
        refine r_c0 (pc' := 43) rfl rfl ?_
        refine r_ine (pc' := 46) rfl rfl ⟨by omega, by omega⟩ ⟨by decide, by decide⟩ (fun hc18 => ?_) (fun hc18 => ?_)
        · skip
          refine r_c0 (pc' := 51) rfl rfl ?_
          exact r_rz rfl (by omega) (po_I hst ⟨by decide, by decide⟩ ⟨rfl, rfl, rfl, by omega, by omega, (by first | exact ⟨fun h => by exfalso; omega, fun _ q => by have := q.1 x2.toNat (by omega); omega⟩ | exact ⟨fun h => by exfalso; omega, fun _ q => by have := q.2; rw [show (z0 t 1).toNat = x2.toNat by omega] at this; omega⟩ | exact ⟨fun _ => ⟨fun e he => as2 e (by omega), by rw [show (z0 t 1).toNat = x2.toNat by omega]; omega⟩, fun h => by exfalso; omega⟩)⟩)
        · skip
          refine r_c0 (pc' := 47) rfl rfl ?_
          refine r_go rfl ?_
          exact r_rz rfl (by omega) (po_I hst ⟨by decide, by decide⟩ ⟨rfl, rfl, rfl, by omega, by omega, (by first | exact ⟨fun h => by exfalso; omega, fun _ q => by have := q.1 x2.toNat (by omega); omega⟩ | exact ⟨fun h => by exfalso; omega, fun _ q => by have := q.2; rw [show (z0 t 1).toNat = x2.toNat by omega] at this; omega⟩ | exact ⟨fun _ => ⟨fun e he => as2 e (by omega), by rw [show (z0 t 1).toNat = x2.toNat by omega]; omega⟩, fun h => by exfalso; omega⟩)⟩)
      · skip
        have hge := hn0 x2.toNat (by omega)
        refine r_ld (pc' := 13) rfl rfl rfl rfl ?_
        refine r_gr (b := 15) (pc' := 16) rfl rfl sh_11 rfl pp_11_3 ?_
        refine r_ld (pc' := 17) rfl rfl rfl rfl ?_
        have hb19 := rd_15 hw (i := x2.toNat) (by omega)
        refine r_la (pc' := 18) rfl rfl sh_15 rfl (by omega) (by omega) rfl ?_
        refine r_lc1 (pc' := 19) rfl rfl ?_
        refine r_lle (pc' := 23) rfl rfl rfl ⟨by omega, by omega⟩ ⟨by decide, by decide⟩ (fun hc20 => ?_) (fun hc20 => ?_)
        · skip
          refine r_ld (pc' := 26) rfl rfl rfl rfl ?_
          refine r_ld (pc' := 27) rfl rfl rfl rfl ?_
          refine r_gr (b := 15) (pc' := 30) rfl rfl sh_11 rfl pp_11_3 ?_
          refine r_ld (pc' := 31) rfl rfl rfl rfl ?_
          refine r_la (pc' := 32) rfl rfl sh_15 rfl (by omega) (by omega) rfl ?_
          refine r_l2i (pc' := 33) rfl rfl ?_
          refine w_hxi (fun v21 h22 h23 => ?_)
          refine r_add (pc' := 34) rfl rfl ?_
          refine w_hxi (fun v24 h25 h26 => ?_)
          refine r_st (pc' := 35) (lv' := [(1, _), (0, _), (2, _)]) rfl rfl rfl rfl ?_
          refine r_inc (pc' := 38) (lv' := [(1, _), (0, _)]) rfl rfl rfl rfl rfl ?_
          refine r_go rfl ?_
          exact w_lv (sub_c rfl (sub_c rfl (sub_c rfl sub_n))) rfl (ih0 v24 (x2 + 1) ⟨by omega, by omega⟩ ⟨by omega, by omega⟩ (by first | exact ⟨rfl, by omega⟩ | (refine ⟨?_, by omega⟩; rw [show (x2 + 1).toNat = x2.toNat + 1 by omega, sm_s]; omega)) (by first | (intro e he; exfalso; omega) | (intro e he; by_cases c : e = x2.toNat; (subst c; omega); exact as2 e (by omega))) (by first | omega | assumption) (by omega))
        · skip
          refine r_c0 (pc' := 24) rfl rfl ?_
          exact r_rz rfl (by omega) (po_I hst ⟨by decide, by decide⟩ ⟨rfl, rfl, rfl, by omega, by omega, (by first | exact ⟨fun h => by exfalso; omega, fun _ q => by have := q.1 x2.toNat (by omega); omega⟩ | exact ⟨fun h => by exfalso; omega, fun _ q => by have := q.2; rw [show (z0 t 1).toNat = x2.toNat by omega] at this; omega⟩ | exact ⟨fun _ => ⟨fun e he => as2 e (by omega), by rw [show (z0 t 1).toNat = x2.toNat by omega]; omega⟩, fun h => by exfalso; omega⟩)⟩)
  refine w_m rfl rfl ?_
  refine r_c0 (pc' := 1) rfl rfl ?_
  refine r_st (pc' := 2) (lv' := [(1, _), (0, _)]) rfl rfl rfl rfl ?_
  refine r_c0 (pc' := 3) rfl rfl ?_
  refine r_st (pc' := 4) (lv' := [(2, _), (1, _), (0, _)]) rfl rfl rfl rfl ?_
  exact w_lv (sub_c rfl (sub_c rfl (sub_c rfl sub_n))) rfl ((key ((34 * (18 - 0) + 29 : Int).toNat + 1)) 0 0 ⟨by omega, by omega⟩ ⟨by omega, by omega⟩ (by first | exact ⟨rfl, by omega⟩ | (refine ⟨?_, by omega⟩; rw [show (x2 + 1).toNat = x2.toNat + 1 by omega, sm_s]; omega)) (by first | (intro e he; exfalso; omega) | (intro e he; by_cases c : e = x2.toNat; (subst c; omega); exact as2 e (by omega))) (by first | omega | assumption) (by omega))
/-- Tracer isSingle -/
abbrev S_96x  : mS := []
abbrev E_96x  (z0 w0 : mZ) (x y tx it mt tt ct : Option Nat) : Int → mZ → mZ → mP → Prop := fun v z w p => p = (pq x y tx it mt tt ct) ∧ z0 = z ∧ w0 = w ∧ 0 ≤ v ∧ v ≤ 1 ∧ ((v = 1 → z0 4 0 = 1 ∧ z0 4 1 = 0) ∧ (v = 0 → ¬ (z0 4 0 = 1 ∧ z0 4 1 = 0)))
theorem m_96x {d : Nat} {z0 w0 : mZ} {x y tx it mt tt ct : Option Nat}  (hz : rz z0) (hw : rw_ w0) : wc (d + 1) 96 [.ref 4] (mk z0 w0 (pq x y tx it mt tt ct)) (poI S_96x z0 w0 (E_96x  z0 w0 x y tx it mt tt ct)) := by
  have hst : st_ S_96x z0 w0 z0 w0 := st_rf hz hw
  have hz5 := rd_4_0 hz
  have hz6 := rd_4_1 hz
  refine w_m rfl rfl ?_
  refine r_ld (pc' := 1) rfl rfl rfl rfl ?_
  have hb7 := rd_4_0 hz
  refine r_gi (pc' := 4) rfl rfl sh_4 rfl rfl ?_
  refine r_c0 (pc' := 5) rfl rfl ?_
  refine r_ine (pc' := 8) rfl rfl ⟨by omega, by omega⟩ ⟨by decide, by decide⟩ (fun hc8 => ?_) (fun hc8 => ?_)
  · skip
    refine r_c0 (pc' := 20) rfl rfl ?_
    exact r_rz rfl (by omega) (po_I hst ⟨by decide, by decide⟩ ⟨rfl, rfl, rfl, by omega, by omega, (by first | omega | assumption)⟩)
  · skip
    refine r_ld (pc' := 9) rfl rfl rfl rfl ?_
    have hb9 := rd_4_1 hz
    refine r_gi (pc' := 12) rfl rfl sh_4 rfl rfl ?_
    refine r_zne (pc' := 15) rfl rfl ⟨by omega, by omega⟩ (fun hc10 => ?_) (fun hc10 => ?_)
    · skip
      refine r_c0 (pc' := 20) rfl rfl ?_
      exact r_rz rfl (by omega) (po_I hst ⟨by decide, by decide⟩ ⟨rfl, rfl, rfl, by omega, by omega, (by first | omega | assumption)⟩)
    · skip
      refine r_c0 (pc' := 16) rfl rfl ?_
      refine r_go rfl ?_
      exact r_rz rfl (by omega) (po_I hst ⟨by decide, by decide⟩ ⟨rfl, rfl, rfl, by omega, by omega, (by first | omega | assumption)⟩)
/-- Shortener findNeighbours -/
abbrev S_60x (rk : Nat) : mS := [(17 + 2 * rk, 17 + 2 * rk, 2, 2), (17 + 2 * rk, 17 + 2 * rk, 5, 5), (17 + 2 * rk, 17 + 2 * rk, 4, 4), (17 + 2 * rk, 17 + 2 * rk, 3, 3)]
abbrev E_60x (t : Nat) (rk : Nat) (z0 w0 : mZ) (x y tx it mt tt ct : Option Nat) : mZ → mZ → mP → Prop := fun z w p => p = (pq x y tx it mt tt ct) ∧ (((∃ u v, u < 3 * (z0 t 0).toNat ∧ v < 3 * (z0 t 0).toNat ∧ u ≠ v ∧ CO (vT (z0 12)) (w0 15) u ∧ CO (vT (z0 12)) (w0 15) v) → ENa (z0 t 0).toNat (vT (z0 12)) (w0 15) (z (17 + 2 * rk) 2).toNat (z (17 + 2 * rk) 3).toNat (z (17 + 2 * rk) 4).toNat (z (17 + 2 * rk) 5).toNat))
theorem m_60x {d : Nat} {z0 w0 : mZ} {x y tx it mt tt ct : Option Nat} (t : Nat) (rk : Nat) (hz : rz z0) (hw : rw_ w0) (hrk : rk < 8) (ht : isT t) (hsl : z0 11 4 = 3 * z0 t 0 ∧ z0 11 5 = z0 t 1) : wc (d + 2) 60 [.ref 11, .ref (17 + 2 * rk)] (mk z0 w0 (pq x y tx it mt tt ct)) (poV (S_60x rk) z0 w0 (E_60x t rk z0 w0 x y tx it mt tt ct)) := by
  have hst : st_ (S_60x rk) z0 w0 z0 w0 := st_rf hz hw
  have htb : 159 ≤ t ∧ t ≤ 192 := by have := ht; unfold isT at this; omega
  have hz45 := rd_11_4 hz
  have hz46 := rd_11_5 hz
  have hz47 := rd_T_0 ht hz
  have hz48 := rd_T_1 ht hz
  have hzt0 := rd_T_0 ht hz
  have hzt1 := rd_T_1 ht hz
  have key : ∀ N : Nat, (∀ (x2 x3 : Int) (z w : mZ), 0 ≤ x2 ∧ x2 ≤ 1 → 0 ≤ x3 ∧ x3 ≤ 36 → st_ (S_60x rk) z0 w0 z w → (NBo (z0 t 0) (z0 12) (w0 15) x2 x3 (z (17 + 2 * rk) 2) (z (17 + 2 * rk) 3) (z (17 + 2 * rk) 4) (z (17 + 2 * rk) 5)) → (x3 ≤ z0 11 4) → 70 * (36 - x3) + 65 < (N : Int) → wp_ (d + 1) 60 6 none (4, [(0, .ref 11), (1, .ref (17 + 2 * rk)), (2, .int (Int32.ofInt x2)), (3, .int (Int32.ofInt x3))], [], mk z w (pq x y tx it mt tt ct)) (poV (S_60x rk) z0 w0 (E_60x t rk z0 w0 x y tx it mt tt ct))) := by
    intro N
    induction N with
    | zero =>
      intro x2 x3 z w
      intros; exfalso; omega
    | succ N ih =>
      have ih0 := ih; clear ih
      intro x2 x3 z w  hx2 hx3 hst as1 as2 hM
      refine r_ld (pc' := 5) rfl rfl rfl rfl ?_
      refine r_ld (pc' := 6) rfl rfl rfl rfl ?_
      have hb49 := rd_11_4 hz
      refine r_gi (pc' := 9) rfl rfl sh_11 rfl (hst.2.2.1 _ _ (notS_c (by omega) (notS_c (by omega) (notS_c (by omega) (notS_c (by omega) notS_n))))) ?_
      refine r_ige (pc' := 12) rfl rfl ⟨by omega, by omega⟩ ⟨by omega, by omega⟩ (fun hc50 => ?_) (fun hc50 => ?_)
      · skip
        have hb51 := rd_R_2 (k := rk) (by omega) hst.1
        have hb52 := rd_R_3 (k := rk) (by omega) hst.1
        have hb53 := rd_R_4 (k := rk) (by omega) hst.1
        have hb54 := rd_R_5 (k := rk) (by omega) hst.1
        exact r_ret rfl (po_V hst ⟨rfl, (by exact NBo_e as1 (by omega) (by omega) (by omega))⟩)
      · skip
        refine r_ld (pc' := 13) rfl rfl rfl rfl ?_
        refine r_gr (b := 12) (pc' := 16) rfl rfl sh_11 rfl pp_11_0 ?_
        refine r_ld (pc' := 17) rfl rfl rfl rfl ?_
        refine r_cSI (pc' := 20) rfl rfl rfl rfl rfl (m_143 (d := d) x3 hst.1 hst.2.1 ⟨by omega, by omega⟩) (fun v55 z56 w57 p58 h59 hs60 hE61 => ?_)
        obtain ⟨rfl, rfl, rfl, hE61⟩ := hE61
        have hb17 : v55.toNat = bh x3.toNat := by have := bh_cases x3.toNat; omega
        have hb63 := rd_12 hz (i := v55.toNat) (by omega)
        refine r_ia (pc' := 21) rfl rfl sh_12 rfl (by omega) (by omega) (hst.2.2.1 _ _ (notS_c (by omega) (notS_c (by omega) (notS_c (by omega) (notS_c (by omega) notS_n))))) ?_
        refine r_st (pc' := 23) (lv' := [(4, _), (0, _), (1, _), (2, _), (3, _)]) rfl rfl rfl rfl ?_
        refine r_ld (pc' := 24) rfl rfl rfl rfl ?_
        refine r_gr (b := 12) (pc' := 27) rfl rfl sh_11 rfl pp_11_0 ?_
        refine r_ld (pc' := 28) rfl rfl rfl rfl ?_
        refine r_cSI (pc' := 31) rfl rfl rfl rfl rfl (m_144 (d := d) x3 hst.1 hst.2.1 ⟨by omega, by omega⟩) (fun v64 z65 w66 p67 h68 hs69 hE70 => ?_)
        obtain ⟨rfl, rfl, rfl, hE70⟩ := hE70
        have hb28 : v64.toNat = ah x3.toNat := by have := ah_cases x3.toNat; omega
        have hco : CO (vT (z0 12)) (w0 15) x3.toNat ↔ (w0 15 (z0 12 x3.toNat).toNat = 0 ∧ w0 15 (z0 12 (bh x3.toNat)).toNat = 1 ∧ w0 15 (z0 12 (ah x3.toNat)).toNat = 1) := Iff.rfl
        rw [← hb17, ← hb28] at hco
        have hb72 := rd_12 hz (i := v64.toNat) (by omega)
        refine r_ia (pc' := 32) rfl rfl sh_12 rfl (by omega) (by omega) (hst.2.2.1 _ _ (notS_c (by omega) (notS_c (by omega) (notS_c (by omega) (notS_c (by omega) notS_n))))) ?_
        refine r_st (pc' := 34) (lv' := [(5, _), (4, _), (0, _), (1, _), (2, _), (3, _)]) rfl rfl rfl rfl ?_
        refine r_ld (pc' := 35) rfl rfl rfl rfl ?_
        refine r_gr (b := 15) (pc' := 38) rfl rfl sh_11 rfl pp_11_3 ?_
        refine r_ld (pc' := 39) rfl rfl rfl rfl ?_
        refine r_gr (b := 12) (pc' := 42) rfl rfl sh_11 rfl pp_11_0 ?_
        refine r_ld (pc' := 43) rfl rfl rfl rfl ?_
        have hb73 := rd_12 hz (i := x3.toNat) (by omega)
        refine r_ia (pc' := 44) rfl rfl sh_12 rfl (by omega) (by omega) (hst.2.2.1 _ _ (notS_c (by omega) (notS_c (by omega) (notS_c (by omega) (notS_c (by omega) notS_n))))) ?_
        have hb74 := rd_15 hw (i := (z0 12 x3.toNat).toNat) (by omega)
        refine r_la (pc' := 45) rfl rfl sh_15 rfl (by omega) (by omega) (hst.2.2.2 _ _ (notS_c (by omega) (notS_c (by omega) (notS_c (by omega) (notS_c (by omega) notS_n))))) ?_
        refine r_lc0 (pc' := 46) rfl rfl ?_
        refine r_lne (pc' := 50) rfl rfl rfl ⟨by omega, by omega⟩ ⟨by decide, by decide⟩ (fun hc75 => ?_) (fun hc75 => ?_)
        · skip
          refine r_inc (pc' := 118) (lv' := [(5, _), (4, _), (0, _), (1, _), (2, _)]) rfl rfl rfl rfl rfl ?_
          refine r_go rfl ?_
          have hb76 := rd_R_2 (k := rk) (by omega) hst.1
          have hb77 := rd_R_3 (k := rk) (by omega) hst.1
          have hb78 := rd_R_4 (k := rk) (by omega) hst.1
          have hb79 := rd_R_5 (k := rk) (by omega) hst.1
          exact w_lv (sub_c rfl (sub_c rfl (sub_c rfl (sub_c rfl sub_n)))) rfl (ih0 x2 (x3 + 1) z w ⟨by omega, by omega⟩ ⟨by omega, by omega⟩ hst (by first | exact NBo_0 | exact NBo_n as1 (by omega) (fun q => by have := hco.mp q; omega) | (have hx2 : x2 = 1 := by omega); (subst hx2; simp only []; exact NBo_b as1 (by omega) (hco.mpr ⟨by omega, by omega, by omega⟩) rfl) | (have hx2 : x2 = 0 := by omega); (subst hx2; simp only []; exact NBo_a as1 (by omega) (hco.mpr ⟨by omega, by omega, by omega⟩) rfl (by rw [hb17]) (by rw [hb28]))) (by first | omega | assumption) (by omega))
        · skip
          refine r_ld (pc' := 51) rfl rfl rfl rfl ?_
          refine r_gr (b := 15) (pc' := 54) rfl rfl sh_11 rfl pp_11_3 ?_
          refine r_ld (pc' := 56) rfl rfl rfl rfl ?_
          have hb80 := rd_15 hw (i := (z0 12 v55.toNat).toNat) (by omega)
          refine r_la (pc' := 57) rfl rfl sh_15 rfl (by omega) (by omega) (hst.2.2.2 _ _ (notS_c (by omega) (notS_c (by omega) (notS_c (by omega) (notS_c (by omega) notS_n))))) ?_
          refine r_lc1 (pc' := 58) rfl rfl ?_
          refine r_lne (pc' := 62) rfl rfl rfl ⟨by omega, by omega⟩ ⟨by decide, by decide⟩ (fun hc81 => ?_) (fun hc81 => ?_)
          · skip
            refine r_inc (pc' := 118) (lv' := [(5, _), (4, _), (0, _), (1, _), (2, _)]) rfl rfl rfl rfl rfl ?_
            refine r_go rfl ?_
            have hb82 := rd_R_2 (k := rk) (by omega) hst.1
            have hb83 := rd_R_3 (k := rk) (by omega) hst.1
            have hb84 := rd_R_4 (k := rk) (by omega) hst.1
            have hb85 := rd_R_5 (k := rk) (by omega) hst.1
            exact w_lv (sub_c rfl (sub_c rfl (sub_c rfl (sub_c rfl sub_n)))) rfl (ih0 x2 (x3 + 1) z w ⟨by omega, by omega⟩ ⟨by omega, by omega⟩ hst (by first | exact NBo_0 | exact NBo_n as1 (by omega) (fun q => by have := hco.mp q; omega) | (have hx2 : x2 = 1 := by omega); (subst hx2; simp only []; exact NBo_b as1 (by omega) (hco.mpr ⟨by omega, by omega, by omega⟩) rfl) | (have hx2 : x2 = 0 := by omega); (subst hx2; simp only []; exact NBo_a as1 (by omega) (hco.mpr ⟨by omega, by omega, by omega⟩) rfl (by rw [hb17]) (by rw [hb28]))) (by first | omega | assumption) (by omega))
          · skip
            refine r_ld (pc' := 63) rfl rfl rfl rfl ?_
            refine r_gr (b := 15) (pc' := 66) rfl rfl sh_11 rfl pp_11_3 ?_
            refine r_ld (pc' := 68) rfl rfl rfl rfl ?_
            have hb86 := rd_15 hw (i := (z0 12 v64.toNat).toNat) (by omega)
            refine r_la (pc' := 69) rfl rfl sh_15 rfl (by omega) (by omega) (hst.2.2.2 _ _ (notS_c (by omega) (notS_c (by omega) (notS_c (by omega) (notS_c (by omega) notS_n))))) ?_
            refine r_lc1 (pc' := 70) rfl rfl ?_
            refine r_lne (pc' := 74) rfl rfl rfl ⟨by omega, by omega⟩ ⟨by decide, by decide⟩ (fun hc87 => ?_) (fun hc87 => ?_)
            · skip
              refine r_inc (pc' := 118) (lv' := [(5, _), (4, _), (0, _), (1, _), (2, _)]) rfl rfl rfl rfl rfl ?_
              refine r_go rfl ?_
              have hb88 := rd_R_2 (k := rk) (by omega) hst.1
              have hb89 := rd_R_3 (k := rk) (by omega) hst.1
              have hb90 := rd_R_4 (k := rk) (by omega) hst.1
              have hb91 := rd_R_5 (k := rk) (by omega) hst.1
              exact w_lv (sub_c rfl (sub_c rfl (sub_c rfl (sub_c rfl sub_n)))) rfl (ih0 x2 (x3 + 1) z w ⟨by omega, by omega⟩ ⟨by omega, by omega⟩ hst (by first | exact NBo_0 | exact NBo_n as1 (by omega) (fun q => by have := hco.mp q; omega) | (have hx2 : x2 = 1 := by omega); (subst hx2; simp only []; exact NBo_b as1 (by omega) (hco.mpr ⟨by omega, by omega, by omega⟩) rfl) | (have hx2 : x2 = 0 := by omega); (subst hx2; simp only []; exact NBo_a as1 (by omega) (hco.mpr ⟨by omega, by omega, by omega⟩) rfl (by rw [hb17]) (by rw [hb28]))) (by first | omega | assumption) (by omega))
            · skip
              refine r_ld (pc' := 75) rfl rfl rfl rfl ?_
              refine r_zeq (pc' := 78) rfl rfl ⟨by omega, by omega⟩ (fun hc92 => ?_) (fun hc92 => ?_)
              · skip
                refine r_ld (pc' := 92) rfl rfl rfl rfl ?_
                refine r_ld (pc' := 93) rfl rfl rfl rfl ?_
                refine r_gr (b := 12) (pc' := 96) rfl rfl sh_11 rfl pp_11_0 ?_
                refine r_ld (pc' := 97) rfl rfl rfl rfl ?_
                refine r_ia (pc' := 98) rfl rfl sh_12 rfl (by omega) (by omega) (hst.2.2.1 _ _ (notS_c (by omega) (notS_c (by omega) (notS_c (by omega) (notS_c (by omega) notS_n))))) ?_
                refine r_pi (pc' := 101) rfl rfl (sh_R (k := rk) (by omega)) rfl rfl hst (inS_0 (by omega) (by omega) (by omega) (by omega)) (wr_R_2 (k := rk) (by omega) ⟨by omega, by omega⟩) (fun z93 hq94 hs95 => ?_)
                refine r_ld (pc' := 102) rfl rfl rfl rfl ?_
                refine r_ld (pc' := 104) rfl rfl rfl rfl ?_
                refine r_pi (pc' := 107) rfl rfl (sh_R (k := rk) (by omega)) rfl rfl hs95 (inS_s (inS_0 (by omega) (by omega) (by omega) (by omega))) (wr_R_5 (k := rk) (by omega) ⟨by omega, by omega⟩) (fun z96 hq97 hs98 => ?_)
                refine r_ld (pc' := 108) rfl rfl rfl rfl ?_
                refine r_ld (pc' := 110) rfl rfl rfl rfl ?_
                refine r_pi (pc' := 113) rfl rfl (sh_R (k := rk) (by omega)) rfl rfl hs98 (inS_s (inS_s (inS_0 (by omega) (by omega) (by omega) (by omega)))) (wr_R_4 (k := rk) (by omega) ⟨by omega, by omega⟩) (fun z99 hq100 hs101 => ?_)
                refine r_c0 (pc' := 114) rfl rfl ?_
                refine r_st (pc' := 115) (lv' := [(2, _), (5, _), (4, _), (0, _), (1, _), (3, _)]) rfl rfl rfl rfl ?_
                refine r_inc (pc' := 118) (lv' := [(2, _), (5, _), (4, _), (0, _), (1, _)]) rfl rfl rfl rfl rfl ?_
                refine r_go rfl ?_
                have hf102 : z99 (17 + 2 * rk) 2 = z0 12 x3.toNat := (((congrFun (congrFun hq100 _) _).trans (mu_ne (by omega))).trans (((congrFun (congrFun hq97 _) _).trans (mu_ne (by omega))).trans ((congrFun (congrFun hq94 _) _).trans mu_eq)))
                have hb103 := rd_R_3 (k := rk) (by omega) hst.1
                have hf104 : z99 (17 + 2 * rk) 3 = z (17 + 2 * rk) 3 := (((congrFun (congrFun hq100 _) _).trans (mu_ne (by omega))).trans (((congrFun (congrFun hq97 _) _).trans (mu_ne (by omega))).trans ((congrFun (congrFun hq94 _) _).trans (mu_ne (by omega)))))
                have hf105 : z99 (17 + 2 * rk) 4 = z0 12 v64.toNat := ((congrFun (congrFun hq100 _) _).trans mu_eq)
                have hf106 : z99 (17 + 2 * rk) 5 = z0 12 v55.toNat := (((congrFun (congrFun hq100 _) _).trans (mu_ne (by omega))).trans ((congrFun (congrFun hq97 _) _).trans mu_eq))
                exact w_lv (sub_c rfl (sub_c rfl (sub_c rfl (sub_c rfl sub_n)))) rfl (ih0 1 (x3 + 1) z99 w ⟨by omega, by omega⟩ ⟨by omega, by omega⟩ hs101 (by first | exact NBo_0 | exact NBo_n as1 (by omega) (fun q => by have := hco.mp q; omega) | (have hx2 : x2 = 1 := by omega); (subst hx2; simp only [hf102, hf104, hf105, hf106]; exact NBo_b as1 (by omega) (hco.mpr ⟨by omega, by omega, by omega⟩) rfl) | (have hx2 : x2 = 0 := by omega); (subst hx2; simp only [hf102, hf104, hf105, hf106]; exact NBo_a as1 (by omega) (hco.mpr ⟨by omega, by omega, by omega⟩) rfl (by rw [hb17]) (by rw [hb28]))) (by first | omega | assumption | (simp only [hf102, hf104, hf105, hf106]; assumption)) (by omega))
              · skip
                refine r_ld (pc' := 79) rfl rfl rfl rfl ?_
                refine r_ld (pc' := 80) rfl rfl rfl rfl ?_
                refine r_gr (b := 12) (pc' := 83) rfl rfl sh_11 rfl pp_11_0 ?_
                refine r_ld (pc' := 84) rfl rfl rfl rfl ?_
                refine r_ia (pc' := 85) rfl rfl sh_12 rfl (by omega) (by omega) (hst.2.2.1 _ _ (notS_c (by omega) (notS_c (by omega) (notS_c (by omega) (notS_c (by omega) notS_n))))) ?_
                refine r_pi (pc' := 88) rfl rfl (sh_R (k := rk) (by omega)) rfl rfl hst (inS_s (inS_s (inS_s (inS_0 (by omega) (by omega) (by omega) (by omega))))) (wr_R_3 (k := rk) (by omega) ⟨by omega, by omega⟩) (fun z107 hq108 hs109 => ?_)
                refine r_go rfl ?_
                refine r_inc (pc' := 118) (lv' := [(5, _), (4, _), (0, _), (1, _), (2, _)]) rfl rfl rfl rfl rfl ?_
                refine r_go rfl ?_
                have hb110 := rd_R_2 (k := rk) (by omega) hst.1
                have hf111 : z107 (17 + 2 * rk) 2 = z (17 + 2 * rk) 2 := ((congrFun (congrFun hq108 _) _).trans (mu_ne (by omega)))
                have hf112 : z107 (17 + 2 * rk) 3 = z0 12 x3.toNat := ((congrFun (congrFun hq108 _) _).trans mu_eq)
                have hb113 := rd_R_4 (k := rk) (by omega) hst.1
                have hf114 : z107 (17 + 2 * rk) 4 = z (17 + 2 * rk) 4 := ((congrFun (congrFun hq108 _) _).trans (mu_ne (by omega)))
                have hb115 := rd_R_5 (k := rk) (by omega) hst.1
                have hf116 : z107 (17 + 2 * rk) 5 = z (17 + 2 * rk) 5 := ((congrFun (congrFun hq108 _) _).trans (mu_ne (by omega)))
                exact w_lv (sub_c rfl (sub_c rfl (sub_c rfl (sub_c rfl sub_n)))) rfl (ih0 x2 (x3 + 1) z107 w ⟨by omega, by omega⟩ ⟨by omega, by omega⟩ hs109 (by first | exact NBo_0 | exact NBo_n as1 (by omega) (fun q => by have := hco.mp q; omega) | (have hx2 : x2 = 1 := by omega); (subst hx2; simp only [hf111, hf112, hf114, hf116]; exact NBo_b as1 (by omega) (hco.mpr ⟨by omega, by omega, by omega⟩) rfl) | (have hx2 : x2 = 0 := by omega); (subst hx2; simp only [hf111, hf112, hf114, hf116]; exact NBo_a as1 (by omega) (hco.mpr ⟨by omega, by omega, by omega⟩) rfl (by rw [hb17]) (by rw [hb28]))) (by first | omega | assumption | (simp only [hf111, hf112, hf114, hf116]; assumption)) (by omega))
  refine w_m rfl rfl ?_
  refine r_c0 (pc' := 1) rfl rfl ?_
  refine r_st (pc' := 2) (lv' := [(2, _), (0, _), (1, _)]) rfl rfl rfl rfl ?_
  refine r_c0 (pc' := 3) rfl rfl ?_
  refine r_st (pc' := 4) (lv' := [(3, _), (2, _), (0, _), (1, _)]) rfl rfl rfl rfl ?_
  have hb117 := rd_R_2 (k := rk) (by omega) hz
  have hb118 := rd_R_3 (k := rk) (by omega) hz
  have hb119 := rd_R_4 (k := rk) (by omega) hz
  have hb120 := rd_R_5 (k := rk) (by omega) hz
  exact w_lv (sub_c rfl (sub_c rfl (sub_c rfl (sub_c rfl sub_n)))) rfl ((key ((70 * (36 - 0) + 65 : Int).toNat + 1)) 0 0 z0 w0 ⟨by omega, by omega⟩ ⟨by omega, by omega⟩ hst (by first | exact NBo_0 | exact NBo_n as1 (by omega) (fun q => by have := hco.mp q; omega) | (have hx2 : x2 = 1 := by omega); (subst hx2; simp only []; exact NBo_b as1 (by omega) (hco.mpr ⟨by omega, by omega, by omega⟩) rfl) | (have hx2 : x2 = 0 := by omega); (subst hx2; simp only []; exact NBo_a as1 (by omega) (hco.mpr ⟨by omega, by omega, by omega⟩) rfl (by rw [hb17]) (by rw [hb28]))) (by first | omega | assumption) (by omega))
/-- Tracer load -/
abbrev S_86x  : mS := [(4, 4, 8, 8), (7, 7, 0, 17), (6, 6, 0, 17)]
abbrev E_86x (t : Nat) (n : Nat) (z0 w0 : mZ) (x y tx it mt tt ct : Option Nat) : Int → mZ → mZ → mP → Prop := fun v z w p => p = (pq x y tx it mt (some t) ct) ∧ 0 ≤ v ∧ v ≤ 1 ∧ (((v = 1 → TL z t ∧ ∀ e : Nat, e < 18 → z 7 e = w0 n e)) ∧ (v = 1 → sm (w0 n) 18 ≤ 18000) ∧ (v = 0 → ¬ sm (w0 n) 18 ≤ 18000))
theorem m_86x {d : Nat} {z0 w0 : mZ} {x y tx it mt tt ct : Option Nat} (t : Nat) (n : Nat) (hz : rz z0) (hw : rw_ w0) (ht : isT t) (hwt : WTt z0 t) (hft : FTt z0 t (w0 n)) (hn : lr n) (b15n : 15 ≤ n) (hnb : ∀ e : Nat, e < 18 → 0 ≤ w0 n e ∧ w0 n e ≤ 100000000000000) : wc (d + 2) 86 [.ref 4, .ref t, .ref n] (mk z0 w0 (pq x y tx it mt tt ct)) (poI S_86x z0 w0 (E_86x t n z0 w0 x y tx it mt tt ct)) := by
  have hst : st_ S_86x z0 w0 z0 w0 := st_rf hz hw
  have htb : 159 ≤ t ∧ t ≤ 192 := by have := ht; unfold isT at this; omega
  have key : ∀ N : Nat, (∀ (x5 : Int) (z w : mZ), 0 ≤ x5 ∧ x5 ≤ 18 → st_ S_86x z0 w0 z w → (∀ e : Nat, (e : Int) < x5 → z 7 e = w0 n e ∧ z 6 e = sm (w0 n) e) → (z 4 8 = sm (w0 n) x5.toNat) → (sm (w0 n) 18 ≤ 18000) → 47 * (18 - x5) + 29 < (N : Int) → wp_ (d + 1) 86 6 (some .boolean) (28, [(0, .ref 4), (2, .ref n), (5, .int (Int32.ofInt x5))], [], mk z w (pq x y tx it mt (some t) ct)) (poI S_86x z0 w0 (E_86x t n z0 w0 x y tx it mt tt ct))) := by
    intro N
    induction N with
    | zero =>
      intro x5 z w
      intros; exfalso; omega
    | succ N ih =>
      have ih0 := ih; clear ih
      intro x5 z w  hx5 hst as1 as2 as3 hM
      refine r_ld (pc' := 30) rfl rfl rfl rfl ?_
      refine r_cb (pc' := 32) rfl (by decide) rfl ?_
      refine r_ige (pc' := 35) rfl rfl ⟨by omega, by omega⟩ ⟨by decide, by decide⟩ (fun hc39 => ?_) (fun hc39 => ?_)
      · skip
        refine r_c0 (pc' := 81) rfl rfl ?_
        have hb40 := rd_T_0 ht hz
        have hf41 : z t 0 = z0 t 0 := (hst.2.2.1 _ _ (notS_c (by omega) (notS_c (by omega) (notS_c (by omega) notS_n))))
        have hb42 := rd_4_8 hst.1
        have hF43 : z (t + 1) = z0 (t + 1) := (funext fun _ => hst.2.2.1 _ _ (notS_c (by omega) (notS_c (by omega) (notS_c (by omega) notS_n))))
        exact r_rz rfl (by omega) (po_I hst ⟨by decide, by decide⟩ ⟨rfl, by omega, by omega, (by refine ⟨?_, ?_, ?_⟩; (first | (intro h; exfalso; omega) | (intro _; exact ⟨TL_of hwt hft (by omega) (by simp only [hF43, hf41]) (fun e he => as1 e (by omega)) (by rw [as2, show x5.toNat = 18 by omega]), fun e he => (as1 e (by omega)).1⟩)); (intro h; omega); (intro h; omega))⟩)
      · skip
        have hge := hnb x5.toNat (by omega)
        have hle := sm_le (f := w0 n) (k := x5.toNat + 1) 18 (by omega) (fun j hj => (hnb j hj).1)
        rw [sm_s] at hle
        have hnn := sm_nn (f := w0 n) x5.toNat (fun j hj => (hnb j (by omega)).1)
        refine r_ld (pc' := 36) rfl rfl rfl rfl ?_
        refine r_gr (b := 7) (pc' := 39) rfl rfl sh_4 rfl pp_4_4 ?_
        refine r_ld (pc' := 41) rfl rfl rfl rfl ?_
        refine r_ld (pc' := 42) rfl rfl rfl rfl ?_
        refine r_ld (pc' := 44) rfl rfl rfl rfl ?_
        have hb44 := nb_rd hnb hw (i := x5.toNat) (by omega)
        refine r_la (pc' := 45) rfl rfl hn.1 rfl (by omega) (by omega) (hst.2.2.2 _ _ (notS_c (by omega) (notS_c (by omega) (notS_c (by omega) notS_n)))) ?_
        refine r_l2i (pc' := 46) rfl rfl ?_
        refine w_hxi (fun v45 h46 h47 => ?_)
        refine r_is (pc' := 47) rfl rfl sh_7 rfl (by omega) (by omega) hst (inS_s (inS_0 (by omega) (by omega) (by omega) (by omega))) (wr_7 ⟨by omega, by omega⟩) (fun z48 hq49 hs50 => ?_)
        have hq7 := hq49
        refine r_ld (pc' := 48) rfl rfl rfl rfl ?_
        refine r_gr (b := 6) (pc' := 51) rfl rfl sh_4 rfl pp_4_3 ?_
        refine r_ld (pc' := 53) rfl rfl rfl rfl ?_
        refine r_ld (pc' := 54) rfl rfl rfl rfl ?_
        have hb51 := rd_4_8 hst.1
        refine r_gi (pc' := 57) rfl rfl sh_4 rfl ((congrFun (congrFun hq49 _) _).trans (mu_ne (by omega))) ?_
        refine r_is (pc' := 58) rfl rfl sh_6 rfl (by omega) (by omega) hs50 (inS_s (inS_s (inS_0 (by omega) (by omega) (by omega) (by omega)))) (wr_6 ⟨by omega, by omega⟩) (fun z52 hq53 hs54 => ?_)
        have hq6 := hq53
        refine r_ld (pc' := 59) rfl rfl rfl rfl ?_
        refine r_al (pc' := 60) rfl rfl rfl rfl ?_
        refine r_gi (pc' := 63) rfl rfl sh_4 rfl (((congrFun (congrFun hq53 _) _).trans (mu_ne (by omega))).trans ((congrFun (congrFun hq49 _) _).trans (mu_ne (by omega)))) ?_
        refine r_ld (pc' := 64) rfl rfl rfl rfl ?_
        refine r_gr (b := 7) (pc' := 67) rfl rfl sh_4 rfl pp_4_4 ?_
        refine r_ld (pc' := 69) rfl rfl rfl rfl ?_
        refine r_ia (pc' := 70) rfl rfl sh_7 rfl (by omega) (by omega) (((congrFun (congrFun hq53 _) _).trans (mu_ne (by omega))).trans ((congrFun (congrFun hq49 _) _).trans mu_eq)) ?_
        refine r_add (pc' := 71) rfl rfl ?_
        refine w_hxi (fun v55 h56 h57 => ?_)
        refine r_pi (pc' := 74) rfl rfl sh_4 rfl rfl hs54 (inS_0 (by omega) (by omega) (by omega) (by omega)) (wr_4_8 ⟨by omega, by omega⟩) (fun z58 hq59 hs60 => ?_)
        have hq4 := hq59
        refine r_inc (pc' := 77) (lv' := [(0, _), (2, _)]) rfl rfl rfl rfl rfl ?_
        refine r_go rfl ?_
        have hf61 : z58 4 8 = v55 := ((congrFun (congrFun hq59 _) _).trans mu_eq)
        exact w_lv (sub_c rfl (sub_c rfl (sub_c rfl sub_n))) rfl (ih0 (x5 + 1) z58 w ⟨by omega, by omega⟩ hs60 (by first | (intro e he; exfalso; omega) | (intro e he; by_cases c : e = x5.toNat; (subst c; exact ⟨by rw [hq4, mu_ne (by omega), hq6, mu_ne (by omega), hq7, mu_eq]; omega, by rw [hq4, mu_ne (by omega), hq6, mu_eq]; omega⟩); exact ⟨by rw [hq4, mu_ne (by omega), hq6, mu_ne (by omega), hq7, mu_ne (by omega)]; exact (as1 e (by omega)).1, by rw [hq4, mu_ne (by omega), hq6, mu_ne (by omega), hq7, mu_ne (by omega)]; exact (as1 e (by omega)).2⟩)) (by first | (rw [show (0 : Int).toNat = 0 from rfl]; show _ = (0 : Int); omega) | (rw [show (x5 + 1).toNat = x5.toNat + 1 by omega, sm_s]; omega)) (by omega) (by omega))
  refine w_m rfl rfl ?_
  refine r_ld (pc' := 1) rfl rfl rfl rfl ?_
  refine r_ld (pc' := 2) rfl rfl rfl rfl ?_
  refine r_pr (b := some t) (pc' := 5) rfl rfl sh_4 rfl rfl pq_u5 ?_
  refine r_ld (pc' := 6) rfl rfl rfl rfl ?_
  refine r_c0 (pc' := 7) rfl rfl ?_
  refine r_pi (pc' := 10) rfl rfl sh_4 rfl rfl hst (inS_0 (by omega) (by omega) (by omega) (by omega)) (wr_4_8 ⟨by omega, by omega⟩) (fun z62 hq63 hs64 => ?_)
  refine r_ld (pc' := 11) rfl rfl rfl rfl ?_
  refine r_cSL (pc' := 14) rfl rfl rfl rfl rfl (m_142s (d := d) n hs64.1 hs64.2.1 hn (by first | omega | assumption) (by first | omega | assumption)) (fun v65 z66 w67 p68 h69 hs70 hE71 => ?_)
  obtain ⟨rfl, rfl, rfl, hE71⟩ := hE71
  have htt := hE71
  refine r_st (pc' := 15) (lv' := [(3, _), (0, _), (1, _), (2, _)]) rfl rfl rfl rfl ?_
  refine r_ld (pc' := 16) rfl rfl rfl rfl ?_
  refine r_al (pc' := 19) rfl rfl rfl rfl ?_
  refine r_lle (pc' := 23) rfl rfl rfl ⟨by omega, by omega⟩ ⟨by decide, by decide⟩ (fun hc73 => ?_) (fun hc73 => ?_)
  · skip
    refine r_c0 (pc' := 26) rfl rfl ?_
    refine r_st (pc' := 28) (lv' := [(5, _), (3, _), (0, _), (1, _), (2, _)]) rfl rfl rfl rfl ?_
    have hf74 : z62 4 8 = 0 := ((congrFun (congrFun hq63 _) _).trans mu_eq)
    exact w_lv (sub_c rfl (sub_c rfl (sub_c rfl sub_n))) rfl ((key ((47 * (18 - 0) + 29 : Int).toNat + 1)) 0 z62 w0 ⟨by omega, by omega⟩ hs64 (by first | (intro e he; exfalso; omega) | (intro e he; by_cases c : e = x5.toNat; (subst c; exact ⟨by rw [hq4, mu_ne (by omega), hq6, mu_ne (by omega), hq7, mu_eq]; omega, by rw [hq4, mu_ne (by omega), hq6, mu_eq]; omega⟩); exact ⟨by rw [hq4, mu_ne (by omega), hq6, mu_ne (by omega), hq7, mu_ne (by omega)]; exact (as1 e (by omega)).1, by rw [hq4, mu_ne (by omega), hq6, mu_ne (by omega), hq7, mu_ne (by omega)]; exact (as1 e (by omega)).2⟩)) (by first | (rw [show (0 : Int).toNat = 0 from rfl]; show _ = (0 : Int); omega) | (rw [show (x5 + 1).toNat = x5.toNat + 1 by omega, sm_s]; omega)) (by omega) (by omega))
  · skip
    refine r_c0 (pc' := 24) rfl rfl ?_
    have hb75 := rd_T_0 ht hz
    have hf76 : z62 t 0 = z0 t 0 := ((congrFun (congrFun hq63 _) _).trans (mu_ne (by omega)))
    have hf77 : z62 4 8 = 0 := ((congrFun (congrFun hq63 _) _).trans mu_eq)
    have hF78 : z62 (t + 1) = z0 (t + 1) := ((congrFun hq63 _).trans (mu_fn (by omega)))
    exact r_rz rfl (by omega) (po_I hs64 ⟨by decide, by decide⟩ ⟨rfl, by omega, by omega, (by refine ⟨?_, ?_, ?_⟩; (first | (intro h; exfalso; omega) | (intro _; exact ⟨TL_of hwt hft (by omega) (by simp only [hF78, hf76, hf77]) (fun e he => as1 e (by omega)) (by rw [as2, show x5.toNat = 18 by omega]), fun e he => (as1 e (by omega)).1⟩)); (intro h; omega); (intro h; omega))⟩)
/-- Shortener firstToFlip -/
abbrev S_57x  : mS := [(11, 11, 6, 6), (11, 11, 7, 7), (11, 11, 8, 8), (11, 11, 9, 9), (11, 11, 10, 10)]
abbrev E_57x (t : Nat) (z0 w0 : mZ) (x y tx it mt tt ct : Option Nat) : Int → mZ → mZ → mP → Prop := fun v z w p => p = (pq x y tx it mt tt ct) ∧ (-1) ≤ v ∧ v ≤ 17 ∧ ((v = -1 ∧ ∀ e : Nat, (e : Int) < z0 t 1 → ¬ CDd (z0 t 0).toNat (vT (z0 12)) (w0 15) e) ∨ (0 ≤ v ∧ v < z0 t 1 ∧ z0 13 v.toNat / 3 ≠ z0 14 v.toNat / 3 ∧ LRq z0 z w0 w v.toNat ∧ w 11 10 < w0 15 v.toNat ∧ ∀ e : Nat, (e : Int) < v → ¬ CDd (z0 t 0).toNat (vT (z0 12)) (w0 15) e))
theorem m_57x {d : Nat} {z0 w0 : mZ} {x y tx it mt tt ct : Option Nat} (t : Nat) (hz : rz z0) (hw : rw_ w0) (ht : isT t) (hsd : SD (z0 t 0) (z0 t 1) (z0 12) (z0 13) (z0 14)) (hsl : z0 11 4 = 3 * z0 t 0 ∧ z0 11 5 = z0 t 1) (hn0 : ∀ e : Nat, e < 18 → 0 ≤ w0 15 e ∧ w0 15 e ≤ 1782) : wc (d + 3) 57 [.ref 11] (mk z0 w0 (pq x y tx it mt tt ct)) (poI S_57x z0 w0 (E_57x t z0 w0 x y tx it mt tt ct)) := by
  have hst : st_ S_57x z0 w0 z0 w0 := st_rf hz hw
  have htb : 159 ≤ t ∧ t ≤ 192 := by have := ht; unfold isT at this; omega
  have hz28 := rd_11_4 hz
  have hz29 := rd_11_5 hz
  have hz30 := rd_T_0 ht hz
  have hz31 := rd_T_1 ht hz
  have hzt0 := rd_T_0 ht hz
  have hzt1 := rd_T_1 ht hz
  have key : ∀ N : Nat, (∀ (x1 : Int) (z w : mZ), 0 ≤ x1 ∧ x1 ≤ 18 → st_ S_57x z0 w0 z w → (∀ e : Nat, (e : Int) < x1 → ¬ CDd (z0 t 0).toNat (vT (z0 12)) (w0 15) e) → 36 * (18 - x1) + 33 < (N : Int) → wp_ (d + 2) 57 2 (some .int) (2, [(0, .ref 11), (1, .int (Int32.ofInt x1))], [], mk z w (pq x y tx it mt tt ct)) (poI S_57x z0 w0 (E_57x t z0 w0 x y tx it mt tt ct))) := by
    intro N
    induction N with
    | zero =>
      intro x1 z w
      intros; exfalso; omega
    | succ N ih =>
      have ih0 := ih; clear ih
      intro x1 z w  hx1 hst as9 hM
      have e12 : z 12 = z0 12 := funext fun i => hst.2.2.1 _ _ (notS_c (by omega) (notS_c (by omega) (notS_c (by omega) (notS_c (by omega) (notS_c (by omega) (notS_n))))))
      have e13 : z 13 = z0 13 := funext fun i => hst.2.2.1 _ _ (notS_c (by omega) (notS_c (by omega) (notS_c (by omega) (notS_c (by omega) (notS_c (by omega) (notS_n))))))
      have e14 : z 14 = z0 14 := funext fun i => hst.2.2.1 _ _ (notS_c (by omega) (notS_c (by omega) (notS_c (by omega) (notS_c (by omega) (notS_c (by omega) (notS_n))))))
      have e15 : w 15 = w0 15 := funext fun i => hst.2.2.2 _ _ (notS_c (by omega) (notS_c (by omega) (notS_c (by omega) (notS_c (by omega) (notS_c (by omega) (notS_n))))))
      have gt0 : z t 0 = z0 t 0 := hst.2.2.1 _ _ (notS_c (by omega) (notS_c (by omega) (notS_c (by omega) (notS_c (by omega) (notS_c (by omega) (notS_n))))))
      have gt1 : z t 1 = z0 t 1 := hst.2.2.1 _ _ (notS_c (by omega) (notS_c (by omega) (notS_c (by omega) (notS_c (by omega) (notS_c (by omega) (notS_n))))))
      refine r_ld (pc' := 3) rfl rfl rfl rfl ?_
      refine r_ld (pc' := 4) rfl rfl rfl rfl ?_
      have hb32 := rd_11_5 hz
      refine r_gi (pc' := 7) rfl rfl sh_11 rfl (hst.2.2.1 _ _ (notS_c (by omega) (notS_c (by omega) (notS_c (by omega) (notS_c (by omega) (notS_c (by omega) notS_n)))))) ?_
      refine r_ige (pc' := 10) rfl rfl ⟨by omega, by omega⟩ ⟨by omega, by omega⟩ (fun hc33 => ?_) (fun hc33 => ?_)
      · skip
        refine r_c0 (pc' := 57) rfl rfl ?_
        have hb34 := rd_11_10 hst.2.1
        exact r_ri rfl (po_I hst ⟨by decide, by decide⟩ ⟨rfl, by omega, by omega, (by first | exact Or.inl ⟨by omega, fun e he => as9 e (by omega)⟩ | exact Or.inr ⟨by omega, by omega, by omega, hlr, by omega, fun e he => as9 e (by omega)⟩)⟩)
      · skip
        refine r_ld (pc' := 11) rfl rfl rfl rfl ?_
        refine r_gr (b := 13) (pc' := 14) rfl rfl sh_11 rfl pp_11_1 ?_
        refine r_ld (pc' := 15) rfl rfl rfl rfl ?_
        have hb35 := rd_13 hz (i := x1.toNat) (by omega)
        refine r_ia (pc' := 16) rfl rfl sh_13 rfl (by omega) (by omega) (hst.2.2.1 _ _ (notS_c (by omega) (notS_c (by omega) (notS_c (by omega) (notS_c (by omega) (notS_c (by omega) notS_n)))))) ?_
        refine r_c0 (pc' := 17) rfl rfl ?_
        refine r_dvg (pc' := 18) rfl rfl ⟨by omega, by omega⟩ ⟨by decide, by decide⟩ (by decide) (fun v36 h37 h38 => ?_)
        refine r_ld (pc' := 19) rfl rfl rfl rfl ?_
        refine r_gr (b := 14) (pc' := 22) rfl rfl sh_11 rfl pp_11_2 ?_
        refine r_ld (pc' := 23) rfl rfl rfl rfl ?_
        have hb39 := rd_14 hz (i := x1.toNat) (by omega)
        refine r_ia (pc' := 24) rfl rfl sh_14 rfl (by omega) (by omega) (hst.2.2.1 _ _ (notS_c (by omega) (notS_c (by omega) (notS_c (by omega) (notS_c (by omega) (notS_c (by omega) notS_n)))))) ?_
        refine r_c0 (pc' := 25) rfl rfl ?_
        refine r_dv (pc' := 26) (v := (z0 14 x1.toNat) / 3) rfl rfl ⟨by omega, by omega⟩ ⟨by decide, by decide⟩ (by decide) (tdiv_n (by omega)) ?_
        refine r_ieq (pc' := 29) rfl rfl ⟨by omega, by omega⟩ ⟨by omega, by omega⟩ (fun hc40 => ?_) (fun hc40 => ?_)
        · skip
          refine r_inc (pc' := 53) (lv' := [(0, _)]) rfl rfl rfl rfl rfl ?_
          refine r_go rfl ?_
          exact w_lv (sub_c rfl (sub_c rfl sub_n)) rfl (ih0 (x1 + 1) z w ⟨by omega, by omega⟩ hst (by first | (intro e he; exfalso; omega) | (intro e he; by_cases c : e = x1.toNat; (subst c; first | exact CD_no1 hsd (fun s hs => (rd_12 hz (i := s) (by omega)).1) (by omega) (by have q9 := (hsd x1.toNat (by omega)).1; omega) | exact CD_no2 hsd (fun s hs => (rd_12 hz (i := s) (by omega)).1) (by omega) hlr.1 hlr.2.1 hlr.2.2.1 hlr.2.2.2.1 hlr.2.2.2.2 (by omega)); exact as9 e (by omega))) (by omega))
        · skip
          refine r_ld (pc' := 30) rfl rfl rfl rfl ?_
          refine r_ld (pc' := 31) rfl rfl rfl rfl ?_
          have hb41 := rd_T_0 ht hz
          have hf42 : z t 0 = z0 t 0 := (hst.2.2.1 _ _ (notS_c (by omega) (notS_c (by omega) (notS_c (by omega) (notS_c (by omega) (notS_c (by omega) notS_n))))))
          have hb43 := rd_T_1 ht hz
          have hf44 : z t 1 = z0 t 1 := (hst.2.2.1 _ _ (notS_c (by omega) (notS_c (by omega) (notS_c (by omega) (notS_c (by omega) (notS_c (by omega) notS_n))))))
          have hF45 : z 12 = z0 12 := (funext fun _ => hst.2.2.1 _ _ (notS_c (by omega) (notS_c (by omega) (notS_c (by omega) (notS_c (by omega) (notS_c (by omega) notS_n))))))
          have hF46 : z 13 = z0 13 := (funext fun _ => hst.2.2.1 _ _ (notS_c (by omega) (notS_c (by omega) (notS_c (by omega) (notS_c (by omega) (notS_c (by omega) notS_n))))))
          have hF47 : z 14 = z0 14 := (funext fun _ => hst.2.2.1 _ _ (notS_c (by omega) (notS_c (by omega) (notS_c (by omega) (notS_c (by omega) (notS_c (by omega) notS_n))))))
          refine r_cVV (pc' := 34) rfl rfl rfl rfl rfl sh_11 (m_58v (d := d) t x1 hst.1 hst.2.1 ⟨by omega, by omega⟩ ht (by rw [gt0, gt1, e12, e13, e14]; exact hsd) (by first | omega | assumption | (simp only [hF45, hF46, hF47, hf42, hf44]; assumption)) (by rw [e15]; exact hn0)) (fun z49 w50 p51 hs53 hE54 => ?_)
          have hs55 := st_tr hst hs53 (sub_B rfl)
          obtain ⟨rfl, hE54⟩ := hE54
          have hlr := hE54
          unfold LRq at hlr
          rw [e12, e13, e14, e15] at hlr
          refine r_ld (pc' := 35) rfl rfl rfl rfl ?_
          have hb56 := rd_11_10 hs55.2.1
          refine r_gl (pc' := 38) rfl rfl sh_11 rfl rfl ?_
          refine r_ld (pc' := 39) rfl rfl rfl rfl ?_
          refine r_gr (b := 15) (pc' := 42) rfl rfl sh_11 rfl pp_11_3 ?_
          refine r_ld (pc' := 43) rfl rfl rfl rfl ?_
          have hb57 := rd_15 hw (i := x1.toNat) (by omega)
          refine r_la (pc' := 44) rfl rfl sh_15 rfl (by omega) (by omega) ((hs53.2.2.2 _ _ (notS_c (by omega) (notS_c (by omega) (notS_c (by omega) (notS_c (by omega) (notS_c (by omega) notS_n)))))).trans (hst.2.2.2 _ _ (notS_c (by omega) (notS_c (by omega) (notS_c (by omega) (notS_c (by omega) (notS_c (by omega) notS_n))))))) ?_
          refine r_lge (pc' := 48) rfl rfl rfl ⟨by omega, by omega⟩ ⟨by omega, by omega⟩ (fun hc58 => ?_) (fun hc58 => ?_)
          · skip
            refine r_inc (pc' := 53) (lv' := [(0, _)]) rfl rfl rfl rfl rfl ?_
            refine r_go rfl ?_
            exact w_lv (sub_c rfl (sub_c rfl sub_n)) rfl (ih0 (x1 + 1) z49 w50 ⟨by omega, by omega⟩ hs55 (by first | (intro e he; exfalso; omega) | (intro e he; by_cases c : e = x1.toNat; (subst c; first | exact CD_no1 hsd (fun s hs => (rd_12 hz (i := s) (by omega)).1) (by omega) (by have q9 := (hsd x1.toNat (by omega)).1; omega) | exact CD_no2 hsd (fun s hs => (rd_12 hz (i := s) (by omega)).1) (by omega) hlr.1 hlr.2.1 hlr.2.2.1 hlr.2.2.2.1 hlr.2.2.2.2 (by omega)); exact as9 e (by omega))) (by omega))
          · skip
            refine r_ld (pc' := 49) rfl rfl rfl rfl ?_
            exact r_ri rfl (po_I hs55 ⟨by omega, by omega⟩ ⟨rfl, by omega, by omega, (by first | exact Or.inl ⟨by omega, fun e he => as9 e (by omega)⟩ | exact Or.inr ⟨by omega, by omega, by omega, hlr, by omega, fun e he => as9 e (by omega)⟩)⟩)
  refine w_m rfl rfl ?_
  refine r_c0 (pc' := 1) rfl rfl ?_
  refine r_st (pc' := 2) (lv' := [(1, _), (0, _)]) rfl rfl rfl rfl ?_
  exact w_lv (sub_c rfl (sub_c rfl sub_n)) rfl ((key ((36 * (18 - 0) + 33 : Int).toNat + 1)) 0 z0 w0 ⟨by omega, by omega⟩ hst (by first | (intro e he; exfalso; omega) | (intro e he; by_cases c : e = x1.toNat; (subst c; first | exact CD_no1 hsd (fun s hs => (rd_12 hz (i := s) (by omega)).1) (by omega) (by have q9 := (hsd x1.toNat (by omega)).1; omega) | exact CD_no2 hsd (fun s hs => (rd_12 hz (i := s) (by omega)).1) (by omega) hlr.1 hlr.2.1 hlr.2.2.1 hlr.2.2.2.1 hlr.2.2.2.2 (by omega)); exact as9 e (by omega))) (by omega))

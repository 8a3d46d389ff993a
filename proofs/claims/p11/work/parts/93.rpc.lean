/-! methods, printed by wip/tools/vcg.py -/
/-- LoopGroundModel isFairWord -/
abbrev S_218v  : mS := []
abbrev E_218v (a1 : Int) (z0 w0 : mZ) (x y tx it mt tt ct : Option Nat) : Int → mZ → mZ → mP → Prop := fun v z w p => p = (pq x y tx it mt tt ct) ∧ z0 = z ∧ w0 = w ∧ 0 ≤ v ∧ v ≤ 1 ∧ (v = 1 → 0 ≤ a1 ∧ a1 < z0 225 28 ∧ FWr z0 a1.toNat)
theorem m_218v {d : Nat} {z0 w0 : mZ} {x y tx it mt tt ct : Option Nat} (a1 : Int) (hz : rz z0) (hw : rw_ w0) (ha1 : (-2147483648) ≤ a1 ∧ a1 ≤ 2147483647) (hwd : WDr z0) : wc (d + 2) 218 [.ref 225, .int (Int32.ofInt a1)] (mk z0 w0 (pq x y tx it mt tt ct)) (poI S_218v z0 w0 (E_218v a1 z0 w0 x y tx it mt tt ct)) := by
  have hst : st_ S_218v z0 w0 z0 w0 := st_rf hz hw
  have hz15 := rd_225_28 hz
  have key : ∀ N : Nat, (∀ (x2 x3 : Int) , 0 ≤ x2 ∧ x2 ≤ 1 → 0 ≤ x3 ∧ x3 ≤ 8 → (x2 = 1 → 0 ≤ a1 ∧ a1 < z0 225 28) → (x2 = 1 → ∀ i : Nat, (i : Int) < x3 → z0 254 (z0 237 (8 * a1.toNat + i)).toNat = 1) → (x2 = 1 → x3 = 0 ∨ x3 ≤ z0 239 a1.toNat) → 30 * (8 - x3) + 23 < (N : Int) → wp_ (d + 1) 218 4 (some .boolean) (8, [(0, .ref 225), (1, .int (Int32.ofInt a1)), (2, .int (Int32.ofInt x2)), (3, .int (Int32.ofInt x3))], [], mk z0 w0 (pq x y tx it mt tt ct)) (poI S_218v z0 w0 (E_218v a1 z0 w0 x y tx it mt tt ct))) := by
    intro N
    induction N with
    | zero =>
      intro x2 x3 
      intros; exfalso; omega
    | succ N ih =>
      have ih0 := ih; clear ih
      intro x2 x3  hx2 hx3 as1 as2 as3 hM
      refine r_ld (pc' := 9) rfl rfl rfl rfl ?_
      refine r_zeq (pc' := 12) rfl rfl ⟨by omega, by omega⟩ (fun hc16 => ?_) (fun hc16 => ?_)
      · skip
        refine r_ld (pc' := 46) rfl rfl rfl rfl ?_
        exact r_rz rfl (by omega) (po_I hst ⟨by omega, by omega⟩ ⟨rfl, rfl, rfl, by omega, by omega, (by intro hq; exact ⟨(as1 (by omega)).1, (as1 (by omega)).2, fun i hi => ⟨hwd a1.toNat (by have := as1 (by omega); omega) i hi, as2 (by omega) i (by omega)⟩⟩)⟩)
      · skip
        have hfa := as1 (by omega)
        refine r_ld (pc' := 13) rfl rfl rfl rfl ?_
        refine r_ld (pc' := 14) rfl rfl rfl rfl ?_
        refine r_gr (b := 239) (pc' := 17) rfl rfl sh_225 rfl pp_225_22 ?_
        refine r_ld (pc' := 18) rfl rfl rfl rfl ?_
        have hb17 := rd_239 hz (i := a1.toNat) (by omega)
        refine r_ia (pc' := 19) rfl rfl sh_239 rfl (by omega) (by omega) rfl ?_
        refine r_ige (pc' := 22) rfl rfl ⟨by omega, by omega⟩ ⟨by omega, by omega⟩ (fun hc18 => ?_) (fun hc18 => ?_)
        · skip
          refine r_ld (pc' := 46) rfl rfl rfl rfl ?_
          exact r_rz rfl (by omega) (po_I hst ⟨by omega, by omega⟩ ⟨rfl, rfl, rfl, by omega, by omega, (by intro hq; exact ⟨(as1 (by omega)).1, (as1 (by omega)).2, fun i hi => ⟨hwd a1.toNat (by have := as1 (by omega); omega) i hi, as2 (by omega) i (by omega)⟩⟩)⟩)
        · skip
          refine r_ld (pc' := 23) rfl rfl rfl rfl ?_
          refine r_gr (b := 254) (pc' := 26) rfl rfl sh_225 rfl pp_225_50 ?_
          refine r_ld (pc' := 27) rfl rfl rfl rfl ?_
          refine r_gr (b := 237) (pc' := 30) rfl rfl sh_225 rfl pp_225_20 ?_
          refine r_cb (pc' := 32) rfl (by decide) rfl ?_
          refine r_ld (pc' := 33) rfl rfl rfl rfl ?_
          refine r_mul (pc' := 34) rfl rfl ?_
          refine r_ld (pc' := 35) rfl rfl rfl rfl ?_
          refine r_add (pc' := 36) rfl rfl ?_
          have hb19 := rd_237 hz (i := ((8 * a1) + x3).toNat) (by omega)
          refine r_ia (pc' := 37) rfl rfl sh_237 rfl (by omega) (by omega) rfl ?_
          have hb20 := rd_254 hz (i := (z0 237 ((8 * a1) + x3).toNat).toNat) (by omega)
          refine r_ba (pc' := 38) rfl rfl sh_254 (Or.inr rfl) rfl (by omega) (by omega) rfl ?_
          refine r_st (pc' := 39) (lv' := [(2, _), (0, _), (1, _), (3, _)]) rfl rfl rfl rfl ?_
          refine r_inc (pc' := 42) (lv' := [(2, _), (0, _), (1, _)]) rfl rfl rfl rfl rfl ?_
          refine r_go rfl ?_
          exact w_lv (sub_c rfl (sub_c rfl (sub_c rfl (sub_c rfl sub_n)))) rfl (ih0 (z0 254 (z0 237 ((8 * a1) + x3).toNat).toNat) (x3 + 1) ⟨by omega, by omega⟩ ⟨by omega, by omega⟩ (by first | omega | assumption) (by first | (intro _ i hi; exfalso; omega) | (intro hq i hi; by_cases c : (i : Int) = x3; (rw [show 8 * a1.toNat + i = (8 * a1 + x3).toNat by omega]; omega); exact as2 (by omega) i (by omega))) (by first | omega | assumption) (by omega))
  refine w_m rfl rfl ?_
  refine r_ld (pc' := 1) rfl rfl rfl rfl ?_
  refine r_ld (pc' := 2) rfl rfl rfl rfl ?_
  have hb21 := rd_225_28 hz
  refine r_cVI (pc' := 5) rfl rfl rfl rfl rfl sh_225 (m_174 (d := d) a1 hst.1 hst.2.1 ⟨by omega, by omega⟩) (fun v22 z23 w24 p25 h26 hs27 hE28 => ?_)
  obtain ⟨rfl, rfl, rfl, hE28⟩ := hE28
  refine r_st (pc' := 6) (lv' := [(2, _), (0, _), (1, _)]) rfl rfl rfl rfl ?_
  refine r_c0 (pc' := 7) rfl rfl ?_
  refine r_st (pc' := 8) (lv' := [(3, _), (2, _), (0, _), (1, _)]) rfl rfl rfl rfl ?_
  exact w_lv (sub_c rfl (sub_c rfl (sub_c rfl (sub_c rfl sub_n)))) rfl ((key ((30 * (8 - 0) + 23 : Int).toNat + 1)) v22 0 ⟨by omega, by omega⟩ ⟨by omega, by omega⟩ (by first | omega | assumption) (by first | (intro _ i hi; exfalso; omega) | (intro hq i hi; by_cases c : (i : Int) = x3; (rw [show 8 * a1.toNat + i = (8 * a1 + x3).toNat by omega]; omega); exact as2 (by omega) i (by omega))) (by first | omega | assumption) (by omega))
/-- LoopGroundModel act -/
abbrev S_241v  : mS := [(225, 225, 73, 73), (271, 271, 0, 1097), (225, 225, 74, 74), (270, 270, 0, 17)]
abbrev E_241v  (z0 w0 : mZ) (x y tx it mt tt ct : Option Nat) : Int → mZ → mZ → mP → Prop := fun v z w p => p = (pq x y tx it mt tt ct) ∧ (-9223372036854775808) ≤ v ∧ v ≤ 9223372036854775807 ∧ (RV z w)
theorem m_241v {d : Nat} {z0 w0 : mZ} {x y tx it mt tt ct : Option Nat}  (hz : rz z0) (hw : rw_ w0) (hrv : RV z0 w0) (hg : NBr w0 257) (hgf : FTw z0 (w0 257)) : wc (d + 4) 241 [.ref 225] (mk z0 w0 (pq x y tx it mt tt ct)) (poL S_241v z0 w0 (E_241v  z0 w0 x y tx it mt tt ct)) := by
  have hst : st_ S_241v z0 w0 z0 w0 := st_rf hz hw
  have h73 := rd_225_73 hz
  have h74 := rd_225_74 hz
  have hsum := hrv.2.2.1.1
  have h18 := rE18 hz
  have key : ∀ N : Nat, (∀ (x1 : Int) (z w : mZ), 0 ≤ x1 ∧ x1 ≤ 18 → st_ S_241v z0 w0 z w → z 225 74 = z0 225 74 → (z 225 73 ≤ 59) → (∀ j : Nat, (j : Int) < z 225 73 → FTw z0 (fun e => w 271 (18 * j + e))) → (∀ e : Nat, (e : Int) < x1 → w 271 (18 * (z 225 73).toNat + e) = w0 270 e ∧ w 270 e = w0 257 e) → (∀ e : Nat, x1 ≤ e → w 270 e = w0 270 e) → 46 * (18 - x1) + 37 < (N : Int) → wp_ (d + 3) 241 2 (some .long) (15, [(0, .ref 225), (1, .int (Int32.ofInt x1))], [], mk z w (pq x y tx it mt tt ct)) (poL S_241v z0 w0 (E_241v  z0 w0 x y tx it mt tt ct))) := by
    intro N
    induction N with
    | zero =>
      intro x1 z w
      intros; exfalso; omega
    | succ N ih =>
      have ih0 := ih; clear ih
      intro x1 z w  hx1 hst un_z_225_74 as1 as2 as3 as4 hM
      have h73z := rd_225_73 hst.1
      refine r_ld (pc' := 16) rfl rfl rfl rfl ?_
      refine r_cb (pc' := 18) rfl (by decide) rfl ?_
      refine r_ige (pc' := 21) rfl rfl ⟨by omega, by omega⟩ ⟨by decide, by decide⟩ (fun hc38 => ?_) (fun hc38 => ?_)
      · skip
        refine r_ld (pc' := 60) rfl rfl rfl rfl ?_
        refine r_al (pc' := 61) rfl rfl rfl rfl ?_
        have hb39 := rd_225_73 hst.1
        refine r_gi (pc' := 64) rfl rfl sh_225 rfl rfl ?_
        refine r_c0 (pc' := 65) rfl rfl ?_
        refine r_add (pc' := 66) rfl rfl ?_
        refine r_pi (pc' := 69) rfl rfl sh_225 rfl rfl hst (inS_0 (by omega) (by omega) (by omega) (by omega)) (wr_225_73 ⟨by omega, by omega⟩) (fun z40 hq41 hs42 => ?_)
        refine r_ld (pc' := 70) rfl rfl rfl rfl ?_
        refine r_c0 (pc' := 71) rfl rfl ?_
        refine r_pi (pc' := 74) rfl rfl sh_225 rfl rfl hs42 (inS_s (inS_s (inS_0 (by omega) (by omega) (by omega) (by omega)))) (wr_225_74 ⟨by omega, by omega⟩) (fun z43 hq44 hs45 => ?_)
        refine r_ld (pc' := 75) rfl rfl rfl rfl ?_
        refine r_cVL (pc' := 78) rfl rfl rfl rfl rfl sh_225 (m_239 (d := d)  hs45.1 hs45.2.1 ) (fun v46 z47 w48 p49 h50 hs51 hE52 => ?_)
        obtain ⟨rfl, rfl, rfl, hE52⟩ := hE52
        have hf54 : z43 225 73 = (z 225 73) + 1 := (((congrFun (congrFun hq44 _) _).trans (mu_ne (by omega))).trans ((congrFun (congrFun hq41 _) _).trans mu_eq))
        have hf55 : z43 225 74 = 0 := ((congrFun (congrFun hq44 _) _).trans mu_eq)
        exact r_rl rfl (po_L hs45 ⟨by omega, by omega⟩ ⟨rfl, by omega, by omega, (by exact RV_at hz (fun i h1 h2 => hs45.2.2.1 _ _ (notS_c (by omega) (notS_c (by omega) (notS_c (by omega) (notS_c (by omega) (notS_n)))))) (fun a h1 h2 h3 => funext fun i => hs45.2.2.1 _ _ (notS_c (by omega) (notS_c (by omega) (notS_c (by omega) (notS_c (by omega) (notS_n)))))) (fun a h1 h2 => funext fun i => hs45.2.2.1 _ _ (notS_c (by omega) (notS_c (by omega) (notS_c (by omega) (notS_c (by omega) (notS_n)))))) (funext fun i => hs45.2.2.1 _ _ (notS_c (by omega) (notS_c (by omega) (notS_c (by omega) (notS_c (by omega) (notS_n)))))) (funext fun i => hs45.2.2.2 _ _ (notS_c (by omega) (notS_c (by omega) (notS_c (by omega) (notS_c (by omega) (notS_n)))))) (k := (z 225 73).toNat) (by omega) (by omega) (by omega) (fun j hj => FTw_c (z := z0) (z' := z0) (n := fun e => w 271 (18 * j + e)) rfl rfl h18 (fun e he => rfl) (as2 j (by omega))) (fun e he => as3 e (by omega)) hgf hrv)⟩)
      · skip
        have hgx := hg x1.toNat (by omega)
        refine r_ld (pc' := 22) rfl rfl rfl rfl ?_
        refine r_gr (b := 271) (pc' := 25) rfl rfl sh_225 rfl pp_225_72 ?_
        refine r_cb (pc' := 27) rfl (by decide) rfl ?_
        refine r_ld (pc' := 28) rfl rfl rfl rfl ?_
        have hb56 := rd_225_73 hst.1
        refine r_gi (pc' := 31) rfl rfl sh_225 rfl rfl ?_
        refine r_mul (pc' := 32) rfl rfl ?_
        refine r_ld (pc' := 33) rfl rfl rfl rfl ?_
        refine r_add (pc' := 34) rfl rfl ?_
        refine r_ld (pc' := 35) rfl rfl rfl rfl ?_
        refine r_gr (b := 270) (pc' := 38) rfl rfl sh_225 rfl pp_225_71 ?_
        refine r_ld (pc' := 39) rfl rfl rfl rfl ?_
        have hb57 := rd_270 hst.2.1 (i := x1.toNat) (by omega)
        refine r_la (pc' := 40) rfl rfl sh_270 rfl (by omega) (by omega) rfl ?_
        refine r_ls (pc' := 41) rfl rfl sh_271 rfl (by omega) (by omega) hst (inS_s (inS_0 (by omega) (by omega) (by omega) (by omega))) (wr_271 ⟨by omega, by omega⟩) (fun w58 hq59 hs60 => ?_)
        have hqa := hq59
        refine r_ld (pc' := 42) rfl rfl rfl rfl ?_
        refine r_gr (b := 270) (pc' := 45) rfl rfl sh_225 rfl pp_225_71 ?_
        refine r_ld (pc' := 46) rfl rfl rfl rfl ?_
        refine r_ld (pc' := 47) rfl rfl rfl rfl ?_
        refine r_gr (b := 257) (pc' := 50) rfl rfl sh_225 rfl pp_225_55 ?_
        refine r_ld (pc' := 51) rfl rfl rfl rfl ?_
        have hb61 := rd_257 hw (i := x1.toNat) (by omega)
        refine r_la (pc' := 52) rfl rfl sh_257 rfl (by omega) (by omega) (((congrFun (congrFun hq59 _) _).trans (mu_ne (by omega))).trans (hst.2.2.2 _ _ (notS_c (by omega) (notS_c (by omega) (notS_c (by omega) (notS_c (by omega) notS_n)))))) ?_
        refine r_ls (pc' := 53) rfl rfl sh_270 rfl (by omega) (by omega) hs60 (inS_s (inS_s (inS_s (inS_0 (by omega) (by omega) (by omega) (by omega))))) (wr_270 ⟨by omega, by omega⟩) (fun w62 hq63 hs64 => ?_)
        have hqb := hq63
        have hl2 : ∀ j : Nat, (j : Int) < z 225 73 → FTw z0 (fun e => w62 271 (18 * j + e)) := fun j hj => FTw_c (z := z0) (z' := z0) (n := fun e => w 271 (18 * j + e)) rfl rfl h18 (fun e he => by show w62 271 _ = w 271 _; rw [hqb, mu_ne (by omega), hqa, mu_ne (by omega)]) (as2 j hj)
        have hl3 : ∀ e : Nat, (e : Int) < x1 + 1 → w62 271 (18 * (z 225 73).toNat + e) = w0 270 e ∧ w62 270 e = w0 257 e := by
          intro e he
          by_cases c : e = x1.toNat
          · subst c
            exact ⟨by rw [hqb, mu_ne (by omega), hqa, mu_eqi (by omega)]; exact as4 _ (by omega), by rw [hqb, mu_eq]⟩
          · rw [hqb, mu_ne (by omega), mu_ne (by omega), hqa, mu_ne (by omega), mu_ne (by omega)]; exact as3 e (by omega)
        have hl4 : ∀ e : Nat, x1 + 1 ≤ e → w62 270 e = w0 270 e := by
          intro e he
          rw [hqb, mu_ne (by omega), hqa, mu_ne (by omega)]; exact as4 e (by omega)
        refine r_inc (pc' := 56) (lv' := [(0, _)]) rfl rfl rfl rfl rfl ?_
        refine r_go rfl ?_
        have hb65 := rd_225_74 hz
        exact w_lv (sub_c rfl (sub_c rfl sub_n)) rfl (ih0 (x1 + 1) z w62 ⟨by omega, by omega⟩ hs64 (un_z_225_74) (by omega) (by first | exact hl2 | exact hi2 | exact fun j hj => hrv.2.2.1.2 j (by omega)) (by first | exact hl3 | (intro e he; exfalso; omega)) (by first | exact hl4 | exact fun e _ => hi4 e | exact fun e _ => rfl) (by omega))
  refine w_m rfl rfl ?_
  refine r_ld (pc' := 1) rfl rfl rfl rfl ?_
  have hb66 := rd_225_73 hz
  refine r_gi (pc' := 4) rfl rfl sh_225 rfl rfl ?_
  refine r_cb (pc' := 6) rfl (by decide) rfl ?_
  refine r_ine (pc' := 9) rfl rfl ⟨by omega, by omega⟩ ⟨by decide, by decide⟩ (fun hc67 => ?_) (fun hc67 => ?_)
  · skip
    refine r_c0 (pc' := 14) rfl rfl ?_
    refine r_st (pc' := 15) (lv' := [(1, _), (0, _)]) rfl rfl rfl rfl ?_
    have hb68 := rd_225_74 hz
    exact w_lv (sub_c rfl (sub_c rfl sub_n)) rfl ((key ((46 * (18 - 0) + 37 : Int).toNat + 1)) 0 z0 w0 ⟨by omega, by omega⟩ hst (rfl) (by omega) (by first | exact hl2 | exact hi2 | exact fun j hj => hrv.2.2.1.2 j (by omega)) (by first | exact hl3 | (intro e he; exfalso; omega)) (by first | exact hl4 | exact fun e _ => hi4 e | exact fun e _ => rfl) (by omega))
  · skip
    refine r_ld (pc' := 10) rfl rfl rfl rfl ?_
    refine r_cVV (pc' := 13) rfl rfl rfl rfl rfl sh_225 (m_240v (d := d + 2)  hst.1 hst.2.1 (by first | omega | assumption)) (fun z70 w71 p72 hs74 hE75 => ?_)
    have hs76 := st_tr hst hs74 (sub_B rfl)
    obtain ⟨rfl, hE75⟩ := hE75
    have hso := hE75
    have hi1 : z70 225 73 ≤ 59 := by omega
    have hi2 : ∀ j : Nat, (j : Int) < z70 225 73 → FTw z0 (fun e => w71 271 (18 * j + e)) := AC_s hz hi1 hrv (by omega) hso.2
    have hi4 : ∀ e : Nat, w71 270 e = w0 270 e := fun e => hs74.2.2.2 _ _ (notS_c (by omega) (notS_c (by omega) notS_n))
    refine r_c0 (pc' := 14) rfl rfl ?_
    refine r_st (pc' := 15) (lv' := [(1, _), (0, _)]) rfl rfl rfl rfl ?_
    have hb77 := rd_225_73 hs76.1
    have hb78 := rd_225_74 hz
    exact w_lv (sub_c rfl (sub_c rfl sub_n)) rfl ((key ((46 * (18 - 0) + 37 : Int).toNat + 1)) 0 z70 w71 ⟨by omega, by omega⟩ hs76 ((hs74.2.2.1 _ _ (notS_c (by omega) (notS_c (by omega) notS_n)))) (by omega) (by first | exact hl2 | exact hi2 | exact fun j hj => hrv.2.2.1.2 j (by omega)) (by first | exact hl3 | (intro e he; exfalso; omega)) (by first | exact hl4 | exact fun e _ => hi4 e | exact fun e _ => rfl) (by omega))
/-- LoopGroundModel twist -/
abbrev S_243v  : mS := [(225, 225, 58, 58), (225, 225, 59, 59), (257, 257, 0, 17), (259, 259, 0, 17), (258, 258, 0, 323), (260, 260, 0, 17), (225, 225, 73, 73), (271, 271, 0, 1097), (225, 225, 74, 74), (270, 270, 0, 17)]
abbrev E_243v (a1 : Int) (a2 : Int) (z0 w0 : mZ) (x y tx it mt tt ct : Option Nat) : Int → mZ → mZ → mP → Prop := fun v z w p => p = (pq x y tx it mt tt ct) ∧ (-9223372036854775808) ≤ v ∧ v ≤ 9223372036854775807 ∧ (RV z w)
theorem m_243v {d : Nat} {z0 w0 : mZ} {x y tx it mt tt ct : Option Nat} (a1 : Int) (a2 : Int) (hz : rz z0) (hw : rw_ w0) (ha1 : (-2147483648) ≤ a1 ∧ a1 ≤ 2147483647) (ha2 : (-2147483648) ≤ a2 ∧ a2 ≤ 2147483647) (hrv : RV z0 w0) : wc (d + 6) 243 [.ref 225, .int (Int32.ofInt a1), .int (Int32.ofInt a2)] (mk z0 w0 (pq x y tx it mt tt ct)) (poL S_243v z0 w0 (E_243v a1 a2 z0 w0 x y tx it mt tt ct)) := by
  have hst : st_ S_243v z0 w0 z0 w0 := st_rf hz hw
  have h27 := rd_225_27 hz
  refine w_m rfl rfl ?_
  refine r_ld (pc' := 1) rfl rfl rfl rfl ?_
  refine r_ld (pc' := 2) rfl rfl rfl rfl ?_
  have hb46 := rd_225_27 hz
  refine r_cVI (pc' := 5) rfl rfl rfl rfl rfl sh_225 (m_173 (d := d + 4) a1 hst.1 hst.2.1 ⟨by omega, by omega⟩) (fun v47 z48 w49 p50 h51 hs52 hE53 => ?_)
  obtain ⟨rfl, rfl, rfl, hE53⟩ := hE53
  refine r_zeq (pc' := 8) rfl rfl ⟨by omega, by omega⟩ (fun hc55 => ?_) (fun hc55 => ?_)
  · skip
    refine r_al (pc' := 36) rfl rfl rfl rfl ?_
    exact r_rl rfl (po_L hst ⟨by decide, by decide⟩ ⟨rfl, by omega, by omega, (by exact hrv)⟩)
  · skip
    refine r_ld (pc' := 9) rfl rfl rfl rfl ?_
    refine r_gr (b := 254) (pc' := 12) rfl rfl sh_225 rfl pp_225_50 ?_
    refine r_ld (pc' := 13) rfl rfl rfl rfl ?_
    have hb56 := rd_254 hz (i := a1.toNat) (by omega)
    refine r_ba (pc' := 14) rfl rfl sh_254 (Or.inr rfl) rfl (by omega) (by omega) rfl ?_
    refine r_zeq (pc' := 17) rfl rfl ⟨by omega, by omega⟩ (fun hc57 => ?_) (fun hc57 => ?_)
    · skip
      refine r_al (pc' := 36) rfl rfl rfl rfl ?_
      exact r_rl rfl (po_L hst ⟨by decide, by decide⟩ ⟨rfl, by omega, by omega, (by exact hrv)⟩)
    · skip
      refine r_ld (pc' := 18) rfl rfl rfl rfl ?_
      refine r_zeq (pc' := 21) rfl rfl ⟨by omega, by omega⟩ (fun hc58 => ?_) (fun hc58 => ?_)
      · skip
        refine r_al (pc' := 36) rfl rfl rfl rfl ?_
        exact r_rl rfl (po_L hst ⟨by decide, by decide⟩ ⟨rfl, by omega, by omega, (by exact hrv)⟩)
      · skip
        refine r_ld (pc' := 22) rfl rfl rfl rfl ?_
        refine r_cb (pc' := 24) rfl (by decide) rfl ?_
        refine r_ilt (pc' := 27) rfl rfl ⟨by omega, by omega⟩ ⟨by decide, by decide⟩ (fun hc59 => ?_) (fun hc59 => ?_)
        · skip
          refine r_al (pc' := 36) rfl rfl rfl rfl ?_
          exact r_rl rfl (po_L hst ⟨by decide, by decide⟩ ⟨rfl, by omega, by omega, (by exact hrv)⟩)
        · skip
          refine r_ld (pc' := 28) rfl rfl rfl rfl ?_
          refine r_cb (pc' := 30) rfl (by decide) rfl ?_
          refine r_ile (pc' := 33) rfl rfl ⟨by omega, by omega⟩ ⟨by decide, by decide⟩ (fun hc60 => ?_) (fun hc60 => ?_)
          · skip
            refine r_ld (pc' := 38) rfl rfl rfl rfl ?_
            refine r_c0 (pc' := 39) rfl rfl ?_
            refine r_cVV (pc' := 42) rfl rfl rfl rfl rfl sh_225 (m_212n (d := d + 3) ((-1)) hst.1 hst.2.1 ⟨by omega, by omega⟩) (fun z62 w63 p64 hs66 hE67 => ?_)
            have hs68 := st_tr hst hs66 (sub_B rfl)
            obtain ⟨rfl, hE67⟩ := hE67
            have hbg := hE67
            have hza := hs68.1
            have hRa : RW z62 := RW_c ((hs66.2.2.1 _ _ (notS_c (by omega) (notS_c (by omega) (notS_c (by omega) notS_n))))) (funext fun i => (hs66.2.2.1 _ _ (notS_c (by omega) (notS_c (by omega) (notS_c (by omega) notS_n))))) (funext fun i => (hs66.2.2.1 _ _ (notS_c (by omega) (notS_c (by omega) (notS_c (by omega) notS_n))))) (funext fun i => (hs66.2.2.1 _ _ (notS_c (by omega) (notS_c (by omega) (notS_c (by omega) notS_n))))) hrv.1.1
            refine r_ld (pc' := 43) rfl rfl rfl rfl ?_
            refine r_ld (pc' := 44) rfl rfl rfl rfl ?_
            refine r_ld (pc' := 45) rfl rfl rfl rfl ?_
            have hb69 := rd_225_58 hs68.1
            have hb70 := rd_225_26 hz
            have hf71 : z62 225 26 = z0 225 26 := (hs66.2.2.1 _ _ (notS_c (by omega) (notS_c (by omega) (notS_c (by omega) notS_n))))
            have hF72 : z62 235 = z0 235 := (funext fun _ => hs66.2.2.1 _ _ (notS_c (by omega) (notS_c (by omega) (notS_c (by omega) notS_n))))
            refine r_cVV (pc' := 48) rfl rfl rfl rfl rfl sh_225 (m_210v (d := d) a1 a2 hs68.1 hs68.2.1 ⟨by omega, by omega⟩ ⟨by omega, by omega⟩ (by exact NB_b (w := w0) (E := rE z0) (f := w0 270) (fun j hj => rd_270 hw (i := j) hj) hbg.1) (by exact hbg.2.1) (by exact FTw_w (f := w0 270) hrv.1.1 ((hs66.2.2.1 _ _ (notS_c (by omega) (notS_c (by omega) (notS_c (by omega) notS_n))))) (funext fun i => (hs66.2.2.1 _ _ (notS_c (by omega) (notS_c (by omega) (notS_c (by omega) notS_n))))) hrv.2.1 hbg.1) (by exact GRq_c ((hs66.2.2.1 _ _ (notS_c (by omega) (notS_c (by omega) (notS_c (by omega) notS_n))))) (funext fun i => (hs66.2.2.1 _ _ (notS_c (by omega) (notS_c (by omega) (notS_c (by omega) notS_n))))) (fun a h1 h2 => funext fun i => (hs66.2.2.1 _ _ (notS_c (by omega) (notS_c (by omega) (notS_c (by omega) notS_n))))) (hrv.1.2.2.2 a1.toNat (by omega))) (by rw [show z62 254 a1.toNat = z0 254 a1.toNat from (hs66.2.2.1 _ _ (notS_c (by omega) (notS_c (by omega) (notS_c (by omega) notS_n))))]; omega)) (fun z74 w75 p76 hs78 hE79 => ?_)
            have hs80 := st_tr hs68 hs78 (sub_B rfl)
            obtain ⟨rfl, hE79⟩ := hE79
            have htw := hE79
            refine r_ld (pc' := 49) rfl rfl rfl rfl ?_
            have hb81 := rd_225_58 hs80.1
            refine r_gi (pc' := 52) rfl rfl sh_225 rfl rfl ?_
            refine r_zeq (pc' := 55) rfl rfl ⟨by omega, by omega⟩ (fun hc82 => ?_) (fun hc82 => ?_)
            · skip
              refine r_ld (pc' := 62) rfl rfl rfl rfl ?_
              refine r_cVL (pc' := 65) rfl rfl rfl rfl rfl sh_225 (m_241v (d := d + 1)  hs80.1 hs80.2.1 (by exact RV_c hz (fun i h1 h2 => ((hs78.2.2.1 _ _ (notS_c (by omega) (notS_c (by omega) (notS_c (by omega) (notS_c (by omega) (notS_c (by omega) notS_n)))))).trans (hs66.2.2.1 _ _ (notS_c (by omega) (notS_c (by omega) (notS_c (by omega) notS_n)))))) (fun a h1 h2 h3 => funext fun i => ((hs78.2.2.1 _ _ (notS_c (by omega) (notS_c (by omega) (notS_c (by omega) (notS_c (by omega) (notS_c (by omega) notS_n)))))).trans (hs66.2.2.1 _ _ (notS_c (by omega) (notS_c (by omega) (notS_c (by omega) notS_n)))))) (fun a h1 h2 => funext fun i => ((hs78.2.2.1 _ _ (notS_c (by omega) (notS_c (by omega) (notS_c (by omega) (notS_c (by omega) (notS_c (by omega) notS_n)))))).trans (hs66.2.2.1 _ _ (notS_c (by omega) (notS_c (by omega) (notS_c (by omega) notS_n)))))) (((hs78.2.2.1 _ _ (notS_c (by omega) (notS_c (by omega) (notS_c (by omega) (notS_c (by omega) (notS_c (by omega) notS_n)))))).trans (hs66.2.2.1 _ _ (notS_c (by omega) (notS_c (by omega) (notS_c (by omega) notS_n)))))) (((hs78.2.2.1 _ _ (notS_c (by omega) (notS_c (by omega) (notS_c (by omega) (notS_c (by omega) (notS_c (by omega) notS_n)))))).trans (hs66.2.2.1 _ _ (notS_c (by omega) (notS_c (by omega) (notS_c (by omega) notS_n)))))) (funext fun i => ((hs78.2.2.1 _ _ (notS_c (by omega) (notS_c (by omega) (notS_c (by omega) (notS_c (by omega) (notS_c (by omega) notS_n)))))).trans (hs66.2.2.1 _ _ (notS_c (by omega) (notS_c (by omega) (notS_c (by omega) notS_n)))))) (fun a h => funext fun i => ((hs78.2.2.2 _ _ (notS_c (by omega) (notS_c (by omega) (notS_c (by omega) (notS_c (by omega) (notS_c (by omega) notS_n)))))).trans (hs66.2.2.2 _ _ (notS_c (by omega) (notS_c (by omega) (notS_c (by omega) notS_n)))))) hrv) (by exact (htw (by omega)).2.1) (by exact FTw_t hza hRa ((hs78.2.2.1 _ _ (notS_c (by omega) (notS_c (by omega) (notS_c (by omega) (notS_c (by omega) (notS_c (by omega) notS_n))))))) (funext fun i => (hs78.2.2.1 _ _ (notS_c (by omega) (notS_c (by omega) (notS_c (by omega) (notS_c (by omega) (notS_c (by omega) notS_n))))))) (htw (by omega)).1)) (fun v83 z84 w85 p86 h87 hs88 hE89 => ?_)
              have hs90 := st_tr hs80 hs88 (sub_B rfl)
              obtain ⟨rfl, hE89⟩ := hE89
              have hac := hE89.2.2
              exact r_rl rfl (po_L hs90 ⟨by omega, by omega⟩ ⟨rfl, by omega, by omega, (by first | exact hac | exact RV_c hz (fun i h1 h2 => ((hs88.2.2.1 _ _ (notS_c (by omega) (notS_c (by omega) (notS_c (by omega) (notS_c (by omega) notS_n))))).trans ((hs78.2.2.1 _ _ (notS_c (by omega) (notS_c (by omega) (notS_c (by omega) (notS_c (by omega) (notS_c (by omega) notS_n)))))).trans (hs66.2.2.1 _ _ (notS_c (by omega) (notS_c (by omega) (notS_c (by omega) notS_n))))))) (fun a h1 h2 h3 => funext fun i => ((hs88.2.2.1 _ _ (notS_c (by omega) (notS_c (by omega) (notS_c (by omega) (notS_c (by omega) notS_n))))).trans ((hs78.2.2.1 _ _ (notS_c (by omega) (notS_c (by omega) (notS_c (by omega) (notS_c (by omega) (notS_c (by omega) notS_n)))))).trans (hs66.2.2.1 _ _ (notS_c (by omega) (notS_c (by omega) (notS_c (by omega) notS_n))))))) (fun a h1 h2 => funext fun i => ((hs88.2.2.1 _ _ (notS_c (by omega) (notS_c (by omega) (notS_c (by omega) (notS_c (by omega) notS_n))))).trans ((hs78.2.2.1 _ _ (notS_c (by omega) (notS_c (by omega) (notS_c (by omega) (notS_c (by omega) (notS_c (by omega) notS_n)))))).trans (hs66.2.2.1 _ _ (notS_c (by omega) (notS_c (by omega) (notS_c (by omega) notS_n))))))) (((hs88.2.2.1 _ _ (notS_c (by omega) (notS_c (by omega) (notS_c (by omega) (notS_c (by omega) notS_n))))).trans ((hs78.2.2.1 _ _ (notS_c (by omega) (notS_c (by omega) (notS_c (by omega) (notS_c (by omega) (notS_c (by omega) notS_n)))))).trans (hs66.2.2.1 _ _ (notS_c (by omega) (notS_c (by omega) (notS_c (by omega) notS_n))))))) (((hs88.2.2.1 _ _ (notS_c (by omega) (notS_c (by omega) (notS_c (by omega) (notS_c (by omega) notS_n))))).trans ((hs78.2.2.1 _ _ (notS_c (by omega) (notS_c (by omega) (notS_c (by omega) (notS_c (by omega) (notS_c (by omega) notS_n)))))).trans (hs66.2.2.1 _ _ (notS_c (by omega) (notS_c (by omega) (notS_c (by omega) notS_n))))))) (funext fun i => ((hs88.2.2.1 _ _ (notS_c (by omega) (notS_c (by omega) (notS_c (by omega) (notS_c (by omega) notS_n))))).trans ((hs78.2.2.1 _ _ (notS_c (by omega) (notS_c (by omega) (notS_c (by omega) (notS_c (by omega) (notS_c (by omega) notS_n)))))).trans (hs66.2.2.1 _ _ (notS_c (by omega) (notS_c (by omega) (notS_c (by omega) notS_n))))))) (fun a h => funext fun i => ((hs88.2.2.2 _ _ (notS_c (by omega) (notS_c (by omega) (notS_c (by omega) (notS_c (by omega) notS_n))))).trans ((hs78.2.2.2 _ _ (notS_c (by omega) (notS_c (by omega) (notS_c (by omega) (notS_c (by omega) (notS_c (by omega) notS_n)))))).trans (hs66.2.2.2 _ _ (notS_c (by omega) (notS_c (by omega) (notS_c (by omega) notS_n))))))) hrv)⟩)
            · skip
              refine r_al (pc' := 58) rfl rfl rfl rfl ?_
              refine r_go rfl ?_
              exact r_rl rfl (po_L hs80 ⟨by decide, by decide⟩ ⟨rfl, by omega, by omega, (by first | exact hac | exact RV_c hz (fun i h1 h2 => ((hs78.2.2.1 _ _ (notS_c (by omega) (notS_c (by omega) (notS_c (by omega) (notS_c (by omega) (notS_c (by omega) notS_n)))))).trans (hs66.2.2.1 _ _ (notS_c (by omega) (notS_c (by omega) (notS_c (by omega) notS_n)))))) (fun a h1 h2 h3 => funext fun i => ((hs78.2.2.1 _ _ (notS_c (by omega) (notS_c (by omega) (notS_c (by omega) (notS_c (by omega) (notS_c (by omega) notS_n)))))).trans (hs66.2.2.1 _ _ (notS_c (by omega) (notS_c (by omega) (notS_c (by omega) notS_n)))))) (fun a h1 h2 => funext fun i => ((hs78.2.2.1 _ _ (notS_c (by omega) (notS_c (by omega) (notS_c (by omega) (notS_c (by omega) (notS_c (by omega) notS_n)))))).trans (hs66.2.2.1 _ _ (notS_c (by omega) (notS_c (by omega) (notS_c (by omega) notS_n)))))) (((hs78.2.2.1 _ _ (notS_c (by omega) (notS_c (by omega) (notS_c (by omega) (notS_c (by omega) (notS_c (by omega) notS_n)))))).trans (hs66.2.2.1 _ _ (notS_c (by omega) (notS_c (by omega) (notS_c (by omega) notS_n)))))) (((hs78.2.2.1 _ _ (notS_c (by omega) (notS_c (by omega) (notS_c (by omega) (notS_c (by omega) (notS_c (by omega) notS_n)))))).trans (hs66.2.2.1 _ _ (notS_c (by omega) (notS_c (by omega) (notS_c (by omega) notS_n)))))) (funext fun i => ((hs78.2.2.1 _ _ (notS_c (by omega) (notS_c (by omega) (notS_c (by omega) (notS_c (by omega) (notS_c (by omega) notS_n)))))).trans (hs66.2.2.1 _ _ (notS_c (by omega) (notS_c (by omega) (notS_c (by omega) notS_n)))))) (fun a h => funext fun i => ((hs78.2.2.2 _ _ (notS_c (by omega) (notS_c (by omega) (notS_c (by omega) (notS_c (by omega) (notS_c (by omega) notS_n)))))).trans (hs66.2.2.2 _ _ (notS_c (by omega) (notS_c (by omega) (notS_c (by omega) notS_n)))))) hrv)⟩)
          · skip
            refine r_al (pc' := 36) rfl rfl rfl rfl ?_
            exact r_rl rfl (po_L hst ⟨by decide, by decide⟩ ⟨rfl, by omega, by omega, (by exact hrv)⟩)
/-- LoopGroundModel go -/
abbrev S_244v  : mS := [(225, 225, 58, 58), (225, 225, 59, 59), (257, 257, 0, 17), (259, 259, 0, 17), (258, 258, 0, 323), (260, 260, 0, 17), (225, 225, 73, 73), (271, 271, 0, 1097), (225, 225, 74, 74), (270, 270, 0, 17)]
abbrev E_244v (a1 : Int) (z0 w0 : mZ) (x y tx it mt tt ct : Option Nat) : Int → mZ → mZ → mP → Prop := fun v z w p => p = (pq x y tx it mt tt ct) ∧ (-9223372036854775808) ≤ v ∧ v ≤ 9223372036854775807 ∧ (RV z w)
theorem m_244v {d : Nat} {z0 w0 : mZ} {x y tx it mt tt ct : Option Nat} (a1 : Int) (hz : rz z0) (hw : rw_ w0) (ha1 : (-2147483648) ≤ a1 ∧ a1 ≤ 2147483647) (hrv : RV z0 w0) : wc (d + 7) 244 [.ref 225, .int (Int32.ofInt a1)] (mk z0 w0 (pq x y tx it mt tt ct)) (poL S_244v z0 w0 (E_244v a1 z0 w0 x y tx it mt tt ct)) := by
  have hst : st_ S_244v z0 w0 z0 w0 := st_rf hz hw
  have h27 := rd_225_27 hz
  have h28 := rd_225_28 hz
  refine w_m rfl rfl ?_
  refine r_ld (pc' := 1) rfl rfl rfl rfl ?_
  refine r_ld (pc' := 2) rfl rfl rfl rfl ?_
  have hb41 := rd_225_28 hz
  refine r_cVI (pc' := 5) rfl rfl rfl rfl rfl sh_225 (m_218v (d := d + 4) a1 hst.1 hst.2.1 ⟨by omega, by omega⟩ (by exact hrv.1.2.2.1)) (fun v42 z43 w44 p45 h46 hs47 hE48 => ?_)
  obtain ⟨rfl, rfl, rfl, hE48⟩ := hE48
  have hfw := hE48.2.2
  refine r_zne (pc' := 8) rfl rfl ⟨by omega, by omega⟩ (fun hc50 => ?_) (fun hc50 => ?_)
  · skip
    refine r_ld (pc' := 13) rfl rfl rfl rfl ?_
    refine r_c0 (pc' := 14) rfl rfl ?_
    refine r_cVV (pc' := 17) rfl rfl rfl rfl rfl sh_225 (m_212n (d := d + 4) ((-1)) hst.1 hst.2.1 ⟨by omega, by omega⟩) (fun z52 w53 p54 hs56 hE57 => ?_)
    have hs58 := st_tr hst hs56 (sub_B rfl)
    obtain ⟨rfl, hE57⟩ := hE57
    have hbg := hE57
    have hza := hs58.1
    have hRa : RW z52 := RW_c ((hs56.2.2.1 _ _ (notS_c (by omega) (notS_c (by omega) (notS_c (by omega) notS_n))))) (funext fun i => (hs56.2.2.1 _ _ (notS_c (by omega) (notS_c (by omega) (notS_c (by omega) notS_n))))) (funext fun i => (hs56.2.2.1 _ _ (notS_c (by omega) (notS_c (by omega) (notS_c (by omega) notS_n))))) (funext fun i => (hs56.2.2.1 _ _ (notS_c (by omega) (notS_c (by omega) (notS_c (by omega) notS_n))))) hrv.1.1
    refine r_ld (pc' := 18) rfl rfl rfl rfl ?_
    refine r_ld (pc' := 19) rfl rfl rfl rfl ?_
    have hb59 := rd_225_58 hs58.1
    have hb60 := rd_225_26 hz
    have hf61 : z52 225 26 = z0 225 26 := (hs56.2.2.1 _ _ (notS_c (by omega) (notS_c (by omega) (notS_c (by omega) notS_n))))
    have hF62 : z52 235 = z0 235 := (funext fun _ => hs56.2.2.1 _ _ (notS_c (by omega) (notS_c (by omega) (notS_c (by omega) notS_n))))
    refine r_cVV (pc' := 22) rfl rfl rfl rfl rfl sh_225 (m_211v (d := d) a1 hs58.1 hs58.2.1 ⟨by omega, by omega⟩ (by exact NB_b (w := w0) (E := rE z0) (f := w0 270) (fun j hj => rd_270 hw (i := j) hj) hbg.1) (by exact hbg.2.1) (by exact FTw_w (f := w0 270) hrv.1.1 ((hs56.2.2.1 _ _ (notS_c (by omega) (notS_c (by omega) (notS_c (by omega) notS_n))))) (funext fun i => (hs56.2.2.1 _ _ (notS_c (by omega) (notS_c (by omega) (notS_c (by omega) notS_n))))) hrv.2.1 hbg.1) (by exact fun l hl => GRq_c ((hs56.2.2.1 _ _ (notS_c (by omega) (notS_c (by omega) (notS_c (by omega) notS_n))))) (funext fun i => (hs56.2.2.1 _ _ (notS_c (by omega) (notS_c (by omega) (notS_c (by omega) notS_n))))) (fun a h1 h2 => funext fun i => (hs56.2.2.1 _ _ (notS_c (by omega) (notS_c (by omega) (notS_c (by omega) notS_n))))) (hrv.1.2.2.2 l (by rw [← show z52 225 27 = z0 225 27 from (hs56.2.2.1 _ _ (notS_c (by omega) (notS_c (by omega) (notS_c (by omega) notS_n))))]; exact hl))) (by exact FWr_c ((hs56.2.2.1 _ _ (notS_c (by omega) (notS_c (by omega) (notS_c (by omega) notS_n))))) (funext fun i => (hs56.2.2.1 _ _ (notS_c (by omega) (notS_c (by omega) (notS_c (by omega) notS_n))))) (funext fun i => (hs56.2.2.1 _ _ (notS_c (by omega) (notS_c (by omega) (notS_c (by omega) notS_n))))) (funext fun i => (hs56.2.2.1 _ _ (notS_c (by omega) (notS_c (by omega) (notS_c (by omega) notS_n))))) (hfw (by omega)).2.2)) (fun z64 w65 p66 hs68 hE69 => ?_)
    have hs70 := st_tr hs58 hs68 (sub_B rfl)
    obtain ⟨rfl, hE69⟩ := hE69
    have htw := hE69
    refine r_ld (pc' := 23) rfl rfl rfl rfl ?_
    have hb71 := rd_225_58 hs70.1
    refine r_gi (pc' := 26) rfl rfl sh_225 rfl rfl ?_
    refine r_zeq (pc' := 29) rfl rfl ⟨by omega, by omega⟩ (fun hc72 => ?_) (fun hc72 => ?_)
    · skip
      refine r_ld (pc' := 36) rfl rfl rfl rfl ?_
      refine r_cVL (pc' := 39) rfl rfl rfl rfl rfl sh_225 (m_241v (d := d + 2)  hs70.1 hs70.2.1 (by exact RV_c hz (fun i h1 h2 => ((hs68.2.2.1 _ _ (notS_c (by omega) (notS_c (by omega) (notS_c (by omega) (notS_c (by omega) (notS_c (by omega) notS_n)))))).trans (hs56.2.2.1 _ _ (notS_c (by omega) (notS_c (by omega) (notS_c (by omega) notS_n)))))) (fun a h1 h2 h3 => funext fun i => ((hs68.2.2.1 _ _ (notS_c (by omega) (notS_c (by omega) (notS_c (by omega) (notS_c (by omega) (notS_c (by omega) notS_n)))))).trans (hs56.2.2.1 _ _ (notS_c (by omega) (notS_c (by omega) (notS_c (by omega) notS_n)))))) (fun a h1 h2 => funext fun i => ((hs68.2.2.1 _ _ (notS_c (by omega) (notS_c (by omega) (notS_c (by omega) (notS_c (by omega) (notS_c (by omega) notS_n)))))).trans (hs56.2.2.1 _ _ (notS_c (by omega) (notS_c (by omega) (notS_c (by omega) notS_n)))))) (((hs68.2.2.1 _ _ (notS_c (by omega) (notS_c (by omega) (notS_c (by omega) (notS_c (by omega) (notS_c (by omega) notS_n)))))).trans (hs56.2.2.1 _ _ (notS_c (by omega) (notS_c (by omega) (notS_c (by omega) notS_n)))))) (((hs68.2.2.1 _ _ (notS_c (by omega) (notS_c (by omega) (notS_c (by omega) (notS_c (by omega) (notS_c (by omega) notS_n)))))).trans (hs56.2.2.1 _ _ (notS_c (by omega) (notS_c (by omega) (notS_c (by omega) notS_n)))))) (funext fun i => ((hs68.2.2.1 _ _ (notS_c (by omega) (notS_c (by omega) (notS_c (by omega) (notS_c (by omega) (notS_c (by omega) notS_n)))))).trans (hs56.2.2.1 _ _ (notS_c (by omega) (notS_c (by omega) (notS_c (by omega) notS_n)))))) (fun a h => funext fun i => ((hs68.2.2.2 _ _ (notS_c (by omega) (notS_c (by omega) (notS_c (by omega) (notS_c (by omega) (notS_c (by omega) notS_n)))))).trans (hs56.2.2.2 _ _ (notS_c (by omega) (notS_c (by omega) (notS_c (by omega) notS_n)))))) hrv) (by exact (htw (by omega)).2.1) (by exact FTw_t hza hRa ((hs68.2.2.1 _ _ (notS_c (by omega) (notS_c (by omega) (notS_c (by omega) (notS_c (by omega) (notS_c (by omega) notS_n))))))) (funext fun i => (hs68.2.2.1 _ _ (notS_c (by omega) (notS_c (by omega) (notS_c (by omega) (notS_c (by omega) (notS_c (by omega) notS_n))))))) (htw (by omega)).1)) (fun v73 z74 w75 p76 h77 hs78 hE79 => ?_)
      have hs80 := st_tr hs70 hs78 (sub_B rfl)
      obtain ⟨rfl, hE79⟩ := hE79
      have hac := hE79.2.2
      exact r_rl rfl (po_L hs80 ⟨by omega, by omega⟩ ⟨rfl, by omega, by omega, (by first | exact hac | exact RV_c hz (fun i h1 h2 => ((hs78.2.2.1 _ _ (notS_c (by omega) (notS_c (by omega) (notS_c (by omega) (notS_c (by omega) notS_n))))).trans ((hs68.2.2.1 _ _ (notS_c (by omega) (notS_c (by omega) (notS_c (by omega) (notS_c (by omega) (notS_c (by omega) notS_n)))))).trans (hs56.2.2.1 _ _ (notS_c (by omega) (notS_c (by omega) (notS_c (by omega) notS_n))))))) (fun a h1 h2 h3 => funext fun i => ((hs78.2.2.1 _ _ (notS_c (by omega) (notS_c (by omega) (notS_c (by omega) (notS_c (by omega) notS_n))))).trans ((hs68.2.2.1 _ _ (notS_c (by omega) (notS_c (by omega) (notS_c (by omega) (notS_c (by omega) (notS_c (by omega) notS_n)))))).trans (hs56.2.2.1 _ _ (notS_c (by omega) (notS_c (by omega) (notS_c (by omega) notS_n))))))) (fun a h1 h2 => funext fun i => ((hs78.2.2.1 _ _ (notS_c (by omega) (notS_c (by omega) (notS_c (by omega) (notS_c (by omega) notS_n))))).trans ((hs68.2.2.1 _ _ (notS_c (by omega) (notS_c (by omega) (notS_c (by omega) (notS_c (by omega) (notS_c (by omega) notS_n)))))).trans (hs56.2.2.1 _ _ (notS_c (by omega) (notS_c (by omega) (notS_c (by omega) notS_n))))))) (((hs78.2.2.1 _ _ (notS_c (by omega) (notS_c (by omega) (notS_c (by omega) (notS_c (by omega) notS_n))))).trans ((hs68.2.2.1 _ _ (notS_c (by omega) (notS_c (by omega) (notS_c (by omega) (notS_c (by omega) (notS_c (by omega) notS_n)))))).trans (hs56.2.2.1 _ _ (notS_c (by omega) (notS_c (by omega) (notS_c (by omega) notS_n))))))) (((hs78.2.2.1 _ _ (notS_c (by omega) (notS_c (by omega) (notS_c (by omega) (notS_c (by omega) notS_n))))).trans ((hs68.2.2.1 _ _ (notS_c (by omega) (notS_c (by omega) (notS_c (by omega) (notS_c (by omega) (notS_c (by omega) notS_n)))))).trans (hs56.2.2.1 _ _ (notS_c (by omega) (notS_c (by omega) (notS_c (by omega) notS_n))))))) (funext fun i => ((hs78.2.2.1 _ _ (notS_c (by omega) (notS_c (by omega) (notS_c (by omega) (notS_c (by omega) notS_n))))).trans ((hs68.2.2.1 _ _ (notS_c (by omega) (notS_c (by omega) (notS_c (by omega) (notS_c (by omega) (notS_c (by omega) notS_n)))))).trans (hs56.2.2.1 _ _ (notS_c (by omega) (notS_c (by omega) (notS_c (by omega) notS_n))))))) (fun a h => funext fun i => ((hs78.2.2.2 _ _ (notS_c (by omega) (notS_c (by omega) (notS_c (by omega) (notS_c (by omega) notS_n))))).trans ((hs68.2.2.2 _ _ (notS_c (by omega) (notS_c (by omega) (notS_c (by omega) (notS_c (by omega) (notS_c (by omega) notS_n)))))).trans (hs56.2.2.2 _ _ (notS_c (by omega) (notS_c (by omega) (notS_c (by omega) notS_n))))))) hrv)⟩)
    · skip
      refine r_al (pc' := 32) rfl rfl rfl rfl ?_
      refine r_go rfl ?_
      exact r_rl rfl (po_L hs70 ⟨by decide, by decide⟩ ⟨rfl, by omega, by omega, (by first | exact hac | exact RV_c hz (fun i h1 h2 => ((hs68.2.2.1 _ _ (notS_c (by omega) (notS_c (by omega) (notS_c (by omega) (notS_c (by omega) (notS_c (by omega) notS_n)))))).trans (hs56.2.2.1 _ _ (notS_c (by omega) (notS_c (by omega) (notS_c (by omega) notS_n)))))) (fun a h1 h2 h3 => funext fun i => ((hs68.2.2.1 _ _ (notS_c (by omega) (notS_c (by omega) (notS_c (by omega) (notS_c (by omega) (notS_c (by omega) notS_n)))))).trans (hs56.2.2.1 _ _ (notS_c (by omega) (notS_c (by omega) (notS_c (by omega) notS_n)))))) (fun a h1 h2 => funext fun i => ((hs68.2.2.1 _ _ (notS_c (by omega) (notS_c (by omega) (notS_c (by omega) (notS_c (by omega) (notS_c (by omega) notS_n)))))).trans (hs56.2.2.1 _ _ (notS_c (by omega) (notS_c (by omega) (notS_c (by omega) notS_n)))))) (((hs68.2.2.1 _ _ (notS_c (by omega) (notS_c (by omega) (notS_c (by omega) (notS_c (by omega) (notS_c (by omega) notS_n)))))).trans (hs56.2.2.1 _ _ (notS_c (by omega) (notS_c (by omega) (notS_c (by omega) notS_n)))))) (((hs68.2.2.1 _ _ (notS_c (by omega) (notS_c (by omega) (notS_c (by omega) (notS_c (by omega) (notS_c (by omega) notS_n)))))).trans (hs56.2.2.1 _ _ (notS_c (by omega) (notS_c (by omega) (notS_c (by omega) notS_n)))))) (funext fun i => ((hs68.2.2.1 _ _ (notS_c (by omega) (notS_c (by omega) (notS_c (by omega) (notS_c (by omega) (notS_c (by omega) notS_n)))))).trans (hs56.2.2.1 _ _ (notS_c (by omega) (notS_c (by omega) (notS_c (by omega) notS_n)))))) (fun a h => funext fun i => ((hs68.2.2.2 _ _ (notS_c (by omega) (notS_c (by omega) (notS_c (by omega) (notS_c (by omega) (notS_c (by omega) notS_n)))))).trans (hs56.2.2.2 _ _ (notS_c (by omega) (notS_c (by omega) (notS_c (by omega) notS_n)))))) hrv)⟩)
  · skip
    refine r_al (pc' := 11) rfl rfl rfl rfl ?_
    exact r_rl rfl (po_L hst ⟨by decide, by decide⟩ ⟨rfl, by omega, by omega, (by exact hrv)⟩)

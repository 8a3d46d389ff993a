/-! methods, printed by wip/tools/vcg.py -/
/-- LoopGroundModel turnOnce -/
abbrev S_209v  : mS := [(260, 260, 0, 17), (259, 259, 0, 17), (258, 258, 0, 323), (257, 257, 0, 17), (225, 225, 58, 58)]
abbrev E_209v (a1 : Int) (a2 : Int) (a3 : Int) (z0 w0 : mZ) (x y tx it mt tt ct : Option Nat) : mZ → mZ → mP → Prop := fun z w p => p = (pq x y tx it mt tt ct) ∧ (w 257 = tw (z0 251 a1.toNat).toNat (z0 252 a1.toNat).toNat a3.toNat a2.toNat (w0 257) ∧ (z 225 58 = 0 → z0 225 58 = 0 ∧ w 257 a2.toNat ≤ 100000000000000))
theorem m_209v {d : Nat} {z0 w0 : mZ} {x y tx it mt tt ct : Option Nat} (a1 : Int) (a2 : Int) (a3 : Int) (hz : rz z0) (hw : rw_ w0) (ha1 : 0 ≤ a1 ∧ a1 ≤ 7) (ha2 : 0 ≤ a2 ∧ a2 ≤ 17) (ha3 : 0 ≤ a3 ∧ a3 ≤ 17) (hnb : NBr w0 257) (hne : a2 ≠ a3) : wc (d + 3) 209 [.ref 225, .int (Int32.ofInt a1), .int (Int32.ofInt a2), .int (Int32.ofInt a3)] (mk z0 w0 (pq x y tx it mt tt ct)) (poV S_209v z0 w0 (E_209v a1 a2 a3 z0 w0 x y tx it mt tt ct)) := by
  have hst : st_ S_209v z0 w0 z0 w0 := st_rf hz hw
  have hz33 := rd_225_58 hz
  have hna := hnb a2.toNat (by omega)
  have key : ∀ N : Nat, (∀ (x4 : Int) (z w : mZ), 0 ≤ x4 ∧ x4 ≤ 18 → st_ S_209v z0 w0 z w → z 225 58 = z0 225 58 → (∀ j, w 257 j = w0 257 j) → 69 * (18 - x4) + 1446 < (N : Int) → wp_ (d + 2) 209 7 none (3, [(0, .ref 225), (1, .int (Int32.ofInt a1)), (2, .int (Int32.ofInt a2)), (3, .int (Int32.ofInt a3)), (4, .int (Int32.ofInt x4))], [], mk z w (pq x y tx it mt tt ct)) (poV S_209v z0 w0 (E_209v a1 a2 a3 z0 w0 x y tx it mt tt ct))) ∧ (∀ (z w : mZ), st_ S_209v z0 w0 z w → z 225 58 = z0 225 58 → (∀ j, w 257 j = w0 257 j) → 1426 < (N : Int) → wp_ (d + 2) 209 7 none (42, [(0, .ref 225), (1, .int (Int32.ofInt a1)), (2, .int (Int32.ofInt a2)), (3, .int (Int32.ofInt a3))], [], mk z w (pq x y tx it mt tt ct)) (poV S_209v z0 w0 (E_209v a1 a2 a3 z0 w0 x y tx it mt tt ct))) ∧ (∀ (x6 : Int) (z w : mZ), 0 ≤ x6 ∧ x6 ≤ 18 → st_ S_209v z0 w0 z w → (w 257 = tw (z0 251 a1.toNat).toNat (z0 252 a1.toNat).toNat a3.toNat a2.toNat (w0 257)) → (z 225 58 = 0 → z0 225 58 = 0 ∧ w 257 a2.toNat ≤ 100000000000000) → 69 * (18 - x6) + 20 < (N : Int) → wp_ (d + 2) 209 7 none (81, [(0, .ref 225), (3, .int (Int32.ofInt a3)), (6, .int (Int32.ofInt x6))], [], mk z w (pq x y tx it mt tt ct)) (poV S_209v z0 w0 (E_209v a1 a2 a3 z0 w0 x y tx it mt tt ct))) := by
    intro N
    induction N with
    | zero =>
      refine ⟨?_, ?_, ?_⟩
      · intro x4 z w
        intros; exfalso; omega
      · intro  z w
        intros; exfalso; omega
      · intro x6 z w
        intros; exfalso; omega
    | succ N ih =>
      obtain ⟨ih0, ih1, ih2⟩ := ih
      refine ⟨?_, ?_, ?_⟩
      · intro x4 z w  hx4 hst un_z_225_58 as1 hM
        refine r_ld (pc' := 5) rfl rfl rfl rfl ?_
        refine r_cb (pc' := 7) rfl (by decide) rfl ?_
        refine r_ige (pc' := 10) rfl rfl ⟨by omega, by omega⟩ ⟨by decide, by decide⟩ (fun hc34 => ?_) (fun hc34 => ?_)
        · skip
          have hb35 := rd_225_58 hz
          exact w_lv (sub_c rfl (sub_c rfl (sub_c rfl (sub_c rfl sub_n)))) rfl (ih1 z w hst (un_z_225_58) (by first | exact fun j => rfl | exact as1 | exact fun j => (rfl).trans (as1 j)) (by omega))
        · skip
          refine r_ld (pc' := 11) rfl rfl rfl rfl ?_
          have hb36 := rd_225_59 hz
          refine r_gi (pc' := 14) rfl rfl sh_225 rfl (hst.2.2.1 _ _ (notS_c (by omega) (notS_c (by omega) (notS_c (by omega) (notS_c (by omega) (notS_c (by omega) notS_n)))))) ?_
          refine r_zeq (pc' := 17) rfl rfl ⟨by omega, by omega⟩ (fun hc37 => ?_) (fun hc37 => ?_)
          · skip
            have hb38 := rd_225_58 hz
            exact w_lv (sub_c rfl (sub_c rfl (sub_c rfl (sub_c rfl sub_n)))) rfl (ih1 z w hst (un_z_225_58) (by first | exact fun j => rfl | exact as1 | exact fun j => (rfl).trans (as1 j)) (by omega))
          · skip
            refine r_ld (pc' := 18) rfl rfl rfl rfl ?_
            refine r_gr (b := 260) (pc' := 21) rfl rfl sh_225 rfl pp_225_60 ?_
            refine r_ld (pc' := 23) rfl rfl rfl rfl ?_
            refine r_ld (pc' := 24) rfl rfl rfl rfl ?_
            refine r_gr (b := 258) (pc' := 27) rfl rfl sh_225 rfl pp_225_56 ?_
            refine r_cb (pc' := 29) rfl (by decide) rfl ?_
            refine r_ld (pc' := 30) rfl rfl rfl rfl ?_
            refine r_mul (pc' := 31) rfl rfl ?_
            refine r_ld (pc' := 33) rfl rfl rfl rfl ?_
            refine r_add (pc' := 34) rfl rfl ?_
            have hb39 := rd_258 hst.2.1 (i := ((18 * a2) + x4).toNat) (by omega)
            refine r_la (pc' := 35) rfl rfl sh_258 rfl (by omega) (by omega) rfl ?_
            refine r_ls (pc' := 36) rfl rfl sh_260 rfl (by omega) (by omega) hst (inS_0 (by omega) (by omega) (by omega) (by omega)) (wr_260 ⟨by omega, by omega⟩) (fun w40 hq41 hs42 => ?_)
            refine r_inc (pc' := 39) (lv' := [(0, _), (1, _), (2, _), (3, _)]) rfl rfl rfl rfl rfl ?_
            refine r_go rfl ?_
            have hb43 := rd_225_58 hz
            exact w_lv (sub_c rfl (sub_c rfl (sub_c rfl (sub_c rfl (sub_c rfl sub_n))))) rfl (ih0 (x4 + 1) z w40 ⟨by omega, by omega⟩ hs42 (un_z_225_58) (by first | exact fun j => rfl | exact as1 | exact fun j => (((congrFun (congrFun hq41 _) _).trans (mu_ne (by omega)))).trans (as1 j)) (by omega))
      · intro  z w  hst un_z_225_58 as1 hM
        refine r_ld (pc' := 43) rfl rfl rfl rfl ?_
        refine r_gr (b := 257) (pc' := 46) rfl rfl sh_225 rfl pp_225_55 ?_
        refine r_ld (pc' := 47) rfl rfl rfl rfl ?_
        have hb44 := rd_257 hst.2.1 (i := a2.toNat) (by omega)
        refine r_la (pc' := 48) rfl rfl sh_257 rfl (by omega) (by omega) rfl ?_
        refine r_st (pc' := 50) (lv' := [(4, _), (0, _), (1, _), (2, _), (3, _)]) rfl rfl rfl rfl ?_
        refine r_ld (pc' := 51) rfl rfl rfl rfl ?_
        refine r_ld (pc' := 52) rfl rfl rfl rfl ?_
        refine r_ld (pc' := 53) rfl rfl rfl rfl ?_
        refine r_gr (b := 251) (pc' := 56) rfl rfl sh_225 rfl pp_225_47 ?_
        refine r_ld (pc' := 57) rfl rfl rfl rfl ?_
        have hb45 := rd_251 hz (i := a1.toNat) (by omega)
        refine r_ia (pc' := 58) rfl rfl sh_251 rfl (by omega) (by omega) (hst.2.2.1 _ _ (notS_c (by omega) (notS_c (by omega) (notS_c (by omega) (notS_c (by omega) (notS_c (by omega) notS_n)))))) ?_
        refine r_ld (pc' := 59) rfl rfl rfl rfl ?_
        refine r_gr (b := 252) (pc' := 62) rfl rfl sh_225 rfl pp_225_48 ?_
        refine r_ld (pc' := 63) rfl rfl rfl rfl ?_
        have hb46 := rd_252 hz (i := a1.toNat) (by omega)
        refine r_ia (pc' := 64) rfl rfl sh_252 rfl (by omega) (by omega) (hst.2.2.1 _ _ (notS_c (by omega) (notS_c (by omega) (notS_c (by omega) (notS_c (by omega) (notS_c (by omega) notS_n)))))) ?_
        refine r_ld (pc' := 65) rfl rfl rfl rfl ?_
        refine r_ld (pc' := 66) rfl rfl rfl rfl ?_
        refine r_ld (pc' := 67) rfl rfl rfl rfl ?_
        have e251 : z 251 = z0 251 := funext fun i => hst.2.2.1 _ _ (notS_c (by omega) (notS_c (by omega) (notS_c (by omega) (notS_c (by omega) (notS_c (by omega) (notS_n))))))
        have e252 : z 252 = z0 252 := funext fun i => hst.2.2.1 _ _ (notS_c (by omega) (notS_c (by omega) (notS_c (by omega) (notS_c (by omega) (notS_c (by omega) (notS_n))))))
        have ew : w 257 = w0 257 := funext fun j => as1 j
        have hb47 := rd_225_58 hz
        have hf48 : z 225 58 = z0 225 58 := un_z_225_58
        refine r_cVV (pc' := 70) rfl rfl rfl rfl rfl sh_225 (m_205v (d := d) a2 (z0 251 a1.toNat) (z0 252 a1.toNat) a2 a2 a3 hst.1 hst.2.1 ⟨by omega, by omega⟩ ⟨by omega, by omega⟩ ⟨by omega, by omega⟩ ⟨by omega, by omega⟩ ⟨by omega, by omega⟩ ⟨by omega, by omega⟩ (by exact fun e he => by rw [as1 e]; exact hnb e he)) (fun z50 w51 p52 hs54 hE55 => ?_)
        have hs56 := st_tr hst hs54 (sub_B rfl)
        obtain ⟨rfl, hE55⟩ := hE55
        have hgr := hE55
        rw [ew] at hgr
        refine r_ld (pc' := 71) rfl rfl rfl rfl ?_
        refine r_gr (b := 257) (pc' := 74) rfl rfl sh_225 rfl pp_225_55 ?_
        refine r_ld (pc' := 75) rfl rfl rfl rfl ?_
        refine r_ld (pc' := 77) rfl rfl rfl rfl ?_
        refine r_ls (pc' := 78) rfl rfl sh_257 rfl (by omega) (by omega) hs56 (inS_s (inS_s (inS_s (inS_0 (by omega) (by omega) (by omega) (by omega))))) (wr_257 ⟨by omega, by omega⟩) (fun w57 hq58 hs59 => ?_)
        have hqw := hq58
        have htw : w57 257 = tw (z0 251 a1.toNat).toNat (z0 252 a1.toNat).toNat a3.toNat a2.toNat (w0 257) := by refine tw_of2 (n := w0 257) (by omega) hgr.1 ?_; rw [hqw, mu_sf, as1]
        refine r_c0 (pc' := 79) rfl rfl ?_
        refine r_st (pc' := 81) (lv' := [(6, _), (4, _), (0, _), (1, _), (2, _), (3, _)]) rfl rfl rfl rfl ?_
        have hb60 := rd_225_58 hs56.1
        exact w_lv (sub_c rfl (sub_c rfl (sub_c rfl sub_n))) rfl (ih2 0 z50 w57 ⟨by omega, by omega⟩ hs59 (by first | exact htw | (rw [show w57 257 = w 257 from funext fun j => (((congrFun (congrFun hq58 _) _).trans (mu_ne (by omega))).trans (hs54.2.2.2 _ _ (notS_c (by omega) (notS_c (by omega) (notS_c (by omega) (notS_c (by omega) notS_n))))))]; exact as1)) (by first | (intro hs; have q := hgr.2 hs; exact ⟨by omega, by rw [hqw, mu_ne (by omega)]; exact q.2⟩) | exact as2 | (intro hs; rw [show w57 257 a2.toNat = w 257 a2.toNat from (((congrFun (congrFun hq58 _) _).trans (mu_ne (by omega))).trans (hs54.2.2.2 _ _ (notS_c (by omega) (notS_c (by omega) (notS_c (by omega) (notS_c (by omega) notS_n))))))]; exact as2 (by omega))) (by omega))
      · intro x6 z w  hx6 hst as1 as2 hM
        refine r_ld (pc' := 83) rfl rfl rfl rfl ?_
        refine r_cb (pc' := 85) rfl (by decide) rfl ?_
        refine r_ige (pc' := 88) rfl rfl ⟨by omega, by omega⟩ ⟨by decide, by decide⟩ (fun hc61 => ?_) (fun hc61 => ?_)
        · skip
          have hb62 := rd_225_58 hst.1
          exact r_ret rfl (po_V hst ⟨rfl, (by exact ⟨as1, as2⟩)⟩)
        · skip
          refine r_ld (pc' := 89) rfl rfl rfl rfl ?_
          have hb63 := rd_225_59 hz
          refine r_gi (pc' := 92) rfl rfl sh_225 rfl (hst.2.2.1 _ _ (notS_c (by omega) (notS_c (by omega) (notS_c (by omega) (notS_c (by omega) (notS_c (by omega) notS_n)))))) ?_
          refine r_zeq (pc' := 95) rfl rfl ⟨by omega, by omega⟩ (fun hc64 => ?_) (fun hc64 => ?_)
          · skip
            have hb65 := rd_225_58 hst.1
            exact r_ret rfl (po_V hst ⟨rfl, (by exact ⟨as1, as2⟩)⟩)
          · skip
            refine r_ld (pc' := 96) rfl rfl rfl rfl ?_
            refine r_gr (b := 258) (pc' := 99) rfl rfl sh_225 rfl pp_225_56 ?_
            refine r_cb (pc' := 101) rfl (by decide) rfl ?_
            refine r_ld (pc' := 102) rfl rfl rfl rfl ?_
            refine r_mul (pc' := 103) rfl rfl ?_
            refine r_ld (pc' := 105) rfl rfl rfl rfl ?_
            refine r_add (pc' := 106) rfl rfl ?_
            refine r_ld (pc' := 107) rfl rfl rfl rfl ?_
            refine r_gr (b := 260) (pc' := 110) rfl rfl sh_225 rfl pp_225_60 ?_
            refine r_ld (pc' := 112) rfl rfl rfl rfl ?_
            have hb66 := rd_260 hst.2.1 (i := x6.toNat) (by omega)
            refine r_la (pc' := 113) rfl rfl sh_260 rfl (by omega) (by omega) rfl ?_
            refine r_ls (pc' := 114) rfl rfl sh_258 rfl (by omega) (by omega) hst (inS_s (inS_s (inS_0 (by omega) (by omega) (by omega) (by omega)))) (wr_258 ⟨by omega, by omega⟩) (fun w67 hq68 hs69 => ?_)
            refine r_inc (pc' := 117) (lv' := [(0, _), (3, _)]) rfl rfl rfl rfl rfl ?_
            refine r_go rfl ?_
            have hb70 := rd_225_58 hst.1
            exact w_lv (sub_c rfl (sub_c rfl (sub_c rfl sub_n))) rfl (ih2 (x6 + 1) z w67 ⟨by omega, by omega⟩ hs69 (by first | exact htw | (rw [show w67 257 = w 257 from funext fun j => ((congrFun (congrFun hq68 _) _).trans (mu_ne (by omega)))]; exact as1)) (by first | (intro hs; have q := hgr.2 hs; exact ⟨by omega, by rw [hqw, mu_ne (by omega)]; exact q.2⟩) | exact as2 | (intro hs; rw [show w67 257 a2.toNat = w 257 a2.toNat from ((congrFun (congrFun hq68 _) _).trans (mu_ne (by omega)))]; exact as2 (by omega))) (by omega))
  refine w_m rfl rfl ?_
  refine r_c0 (pc' := 1) rfl rfl ?_
  refine r_st (pc' := 3) (lv' := [(4, _), (0, _), (1, _), (2, _), (3, _)]) rfl rfl rfl rfl ?_
  have hb71 := rd_225_58 hz
  exact w_lv (sub_c rfl (sub_c rfl (sub_c rfl (sub_c rfl (sub_c rfl sub_n))))) rfl ((key ((69 * (18 - 0) + 1446 : Int).toNat + 1)).1 0 z0 w0 ⟨by omega, by omega⟩ hst (rfl) (by first | exact fun j => rfl | exact as1 | exact fun j => (rfl).trans (as1 j)) (by omega))

/-! methods, printed by wip/tools/vcg.py -/
/-- LoopGroundModel layFlips -/
abbrev S_200  : mS := [(248, 248, 0, 7), (254, 254, 0, 7), (244, 244, 0, 18), (243, 243, 0, 17), (225, 225, 36, 36), (225, 225, 37, 37), (245, 245, 0, 17999), (225, 225, 38, 38), (225, 225, 39, 39), (225, 225, 40, 40), (253, 253, 0, 7), (255, 255, 0, 35), (256, 256, 0, 17), (250, 250, 0, 7), (249, 249, 0, 7), (252, 252, 0, 7), (251, 251, 0, 7), (225, 225, 53, 53), (225, 225, 54, 54), (247, 247, 0, 71279)]
abbrev E_200 (a1 : Int) (z0 w0 : mZ) (x y tx it mt tt ct : Option Nat) : mZ → mZ → mP → Prop := fun z w p => p = (pq x y tx it mt tt ct) ∧ (GRq z0 z a1.toNat ∧ OTH z0 z a1.toNat)
theorem m_200 {d : Nat} {z0 w0 : mZ} {x y tx it mt tt ct : Option Nat} (a1 : Int) (hz : rz z0) (hw : rw_ w0) (ha1 : 0 ≤ a1 ∧ a1 ≤ 7) (hrw : RW z0) (hft : FT (z0 225 26).toNat (vT (z0 235)) (tr (rE z0) (lnR z0 a1.toNat))) (h99 : ∀ e : Nat, (e : Int) < rE z0 → lnR z0 a1.toNat e ≤ 99) : wc (d + 7) 200 [.ref 225, .int (Int32.ofInt a1)] (mk z0 w0 (pq x y tx it mt tt ct)) (poV S_200 z0 w0 (E_200 a1 z0 w0 x y tx it mt tt ct)) := by
  have hst : st_ S_200 z0 w0 z0 w0 := st_rf hz hw
  have hz77 := rd_225_26 hz
  have hm26 := rd_225_26 hz
  have hrE : rE z0 = 3 * z0 225 26 / 2 := rfl
  have key : ∀ N : Nat, (∀ (x2 : Int) (z w : mZ), 0 ≤ x2 ∧ x2 ≤ 36 → st_ S_200 z0 w0 z w → z 225 53 = z0 225 53 → z 225 54 = z0 225 54 → (CN (z0 225 26).toNat (vT (z0 235)) (oF (z0 235) (z0 241)) (tr (rE z0) (lnR z0 a1.toNat)) ∧ ∃ e : Nat, (e : Int) < rE z0 ∧ 0 < (tr (rE z0) (lnR z0 a1.toNat)) e) → (∀ s : Nat, (s : Int) < x2 → z 255 s = z0 235 s) → (z 248 a1.toNat = 0 ∧ z 254 a1.toNat = 0) → (OTH z0 z a1.toNat) → 80 * (36 - x2) + 21654 < (N : Int) → wp_ (d + 6) 200 3 none (37, [(0, .ref 225), (1, .int (Int32.ofInt a1)), (2, .int (Int32.ofInt x2))], [], mk z w (pq x y tx it mt tt ct)) (poV S_200 z0 w0 (E_200 a1 z0 w0 x y tx it mt tt ct))) ∧ (∀ (x2 : Int) (z w : mZ), 0 ≤ x2 ∧ x2 ≤ 18 → st_ S_200 z0 w0 z w → z 225 53 = z0 225 53 → z 225 54 = z0 225 54 → (CN (z0 225 26).toNat (vT (z0 235)) (oF (z0 235) (z0 241)) (tr (rE z0) (lnR z0 a1.toNat)) ∧ ∃ e : Nat, (e : Int) < rE z0 ∧ 0 < (tr (rE z0) (lnR z0 a1.toNat)) e) → (∀ s : Nat, (s : Int) < 36 → z 255 s = z0 235 s) → (∀ e : Nat, (e : Int) < x2 → z 256 e = z0 236 (18 * a1.toNat + e)) → (z 248 a1.toNat = 0 ∧ z 254 a1.toNat = 0) → (OTH z0 z a1.toNat) → 80 * (18 - x2) + 20039 < (N : Int) → wp_ (d + 6) 200 3 none (63, [(0, .ref 225), (1, .int (Int32.ofInt a1)), (2, .int (Int32.ofInt x2))], [], mk z w (pq x y tx it mt tt ct)) (poV S_200 z0 w0 (E_200 a1 z0 w0 x y tx it mt tt ct))) ∧ (∀ (z w : mZ), st_ S_200 z0 w0 z w → (SHI (z0 225 26) (rE z0) (z0 235) (z 255) (tr (rE z0) (z 256)) (cfQ z a1.toNat) (z 248 a1.toNat)) → (z 254 a1.toNat = 0) → (∀ i j, i < (z 248 a1.toNat).toNat → j < 5 → ((cfQ z a1.toNat i j : Nat) : Int) < rE z0) → (OTH z0 z a1.toNat) → (((1783 - z 248 a1.toNat).toNat : Nat) : Int) < (N : Int) → wp_ (d + 6) 200 3 none (92, [(0, .ref 225), (1, .int (Int32.ofInt a1))], [], mk z w (pq x y tx it mt tt ct)) (poV S_200 z0 w0 (E_200 a1 z0 w0 x y tx it mt tt ct))) := by
    intro N
    induction N with
    | zero =>
      refine ⟨?_, ?_, ?_⟩
      · intro x2 z w
        intros; exfalso; omega
      · intro x2 z w
        intros; exfalso; omega
      · intro  z w
        intros; exfalso; omega
    | succ N ih =>
      obtain ⟨ih0, ih1, ih2⟩ := ih
      refine ⟨?_, ?_, ?_⟩
      · intro x2 z w  hx2 hst un_z_225_53 un_z_225_54 asC as1 asF asO hM
        refine r_ld (pc' := 38) rfl rfl rfl rfl ?_
        refine r_cb (pc' := 40) rfl (by decide) rfl ?_
        refine r_ige (pc' := 43) rfl rfl ⟨by omega, by omega⟩ ⟨by decide, by decide⟩ (fun hc78 => ?_) (fun hc78 => ?_)
        · skip
          refine r_c0 (pc' := 62) rfl rfl ?_
          refine r_st (pc' := 63) (lv' := [(2, _), (0, _), (1, _)]) rfl rfl rfl rfl ?_
          have hb79 := rd_225_53 hz
          have hb80 := rd_225_54 hz
          exact w_lv (sub_c rfl (sub_c rfl (sub_c rfl sub_n))) rfl (ih1 0 z w ⟨by omega, by omega⟩ hst (un_z_225_53) (un_z_225_54) (by exact asC) (by first | exact as1 | exact fun s hs => as1 s (by omega) | exact fun s hs => (rfl).trans (as1 s hs)) (by first | (intro e he; exfalso; omega) | (intro e he; rw [hqs]; by_cases c : e = x2.toNat; (subst c; rw [mu_eq, show (18 * a1 + x2).toNat = 18 * a1.toNat + x2.toNat by omega]); (rw [mu_ne (by omega)]; exact as2 e (by omega)))) (by first | exact asF | exact ⟨(rfl).trans asF.1, (rfl).trans asF.2⟩) (by first | exact asO | exact OTH_c (OTH_0 z0 a1.toNat) (fun a j h1 h2 h3 h4 => rfl) | exact OTH_c asO (fun a j h1 h2 h3 h4 => rfl)) (by omega))
        · skip
          refine r_ld (pc' := 44) rfl rfl rfl rfl ?_
          refine r_gr (b := 255) (pc' := 47) rfl rfl sh_225 rfl pp_225_51 ?_
          refine r_ld (pc' := 48) rfl rfl rfl rfl ?_
          refine r_ld (pc' := 49) rfl rfl rfl rfl ?_
          refine r_gr (b := 235) (pc' := 52) rfl rfl sh_225 rfl pp_225_18 ?_
          refine r_ld (pc' := 53) rfl rfl rfl rfl ?_
          have hb81 := rd_235 hz (i := x2.toNat) (by omega)
          refine r_ia (pc' := 54) rfl rfl sh_235 rfl (by omega) (by omega) (hst.2.2.1 _ _ (notS_c (by omega) (notS_c (by omega) (notS_c (by omega) (notS_c (by omega) (notS_c (by omega) (notS_c (by omega) (notS_c (by omega) (notS_c (by omega) (notS_c (by omega) (notS_c (by omega) (notS_c (by omega) (notS_c (by omega) (notS_c (by omega) (notS_c (by omega) (notS_c (by omega) (notS_c (by omega) (notS_c (by omega) (notS_c (by omega) (notS_c (by omega) (notS_c (by omega) notS_n))))))))))))))))))))) ?_
          refine r_is (pc' := 55) rfl rfl sh_255 rfl (by omega) (by omega) hst (inS_s (inS_s (inS_s (inS_s (inS_s (inS_s (inS_s (inS_s (inS_s (inS_s (inS_s (inS_0 (by omega) (by omega) (by omega) (by omega))))))))))))) (wr_255 ⟨by omega, by omega⟩) (fun z82 hq83 hs84 => ?_)
          have hqw := hq83
          refine r_inc (pc' := 58) (lv' := [(0, _), (1, _)]) rfl rfl rfl rfl rfl ?_
          refine r_go rfl ?_
          have hb85 := rd_225_53 hz
          have hb86 := rd_225_54 hz
          exact w_lv (sub_c rfl (sub_c rfl (sub_c rfl sub_n))) rfl (ih0 (x2 + 1) z82 w ⟨by omega, by omega⟩ hs84 ((((congrFun (congrFun hq83 _) _).trans (mu_ne (by omega))).trans un_z_225_53)) ((((congrFun (congrFun hq83 _) _).trans (mu_ne (by omega))).trans un_z_225_54)) (by first | exact asC | exact hcn3) (by first | (intro s hs; exfalso; omega) | (intro s hs; rw [hqw]; by_cases c : s = x2.toNat; (subst c; exact mu_eq); (rw [mu_ne (by omega)]; exact as1 s (by omega)))) (by first | exact asF | exact ⟨(((congrFun (congrFun hq83 _) _).trans (mu_ne (by omega)))).trans asF.1, (((congrFun (congrFun hq83 _) _).trans (mu_ne (by omega)))).trans asF.2⟩ | exact ⟨(NOMARK).trans ((congrFun (congrFun hqa _) _).trans mu_eq), (NOMARK).trans ((congrFun (congrFun hqb _) _).trans mu_eq)⟩) (by first | exact asO | exact OTH_c (OTH_0 z0 a1.toNat) (fun a j h1 h2 h3 h4 => ((congrFun (congrFun hq83 _) _).trans (mu_ne (by omega)))) | exact OTH_c asO (fun a j h1 h2 h3 h4 => ((congrFun (congrFun hq83 _) _).trans (mu_ne (by omega))))) (by omega))
      · intro x2 z w  hx2 hst un_z_225_53 un_z_225_54 asC as1 as2 asF asO hM
        refine r_ld (pc' := 64) rfl rfl rfl rfl ?_
        refine r_cb (pc' := 66) rfl (by decide) rfl ?_
        refine r_ige (pc' := 69) rfl rfl ⟨by omega, by omega⟩ ⟨by decide, by decide⟩ (fun hc87 => ?_) (fun hc87 => ?_)
        · skip
          exact w_lv (sub_c rfl (sub_c rfl sub_n)) rfl (ih2 z w hst (by first | exact hds.1 | (have hqe : tr (rE z0) (z 256) = tr (rE z0) (lnR z0 a1.toNat) := by (funext e; by_cases c : (e : Int) < rE z0; (rw [tr_l c, tr_l c]; exact as2 e (by omega)); (rw [tr_g (by omega), tr_g (by omega)]))); rw [asF.1, hqe]; exact SHI_0 hrw hft asC.1 asC.2 (sm_99 (fun j hj => by by_cases c : (j : Int) < rE z0; (rw [tr_l c]; exact h99 j c); (rw [tr_g (by omega)]; omega))) (fun s hs => as1 s (by omega))) (by first | exact asF.2 | exact (rfl).trans as2) (by first | (intro i j hi hj; exfalso; omega) | exact as3n) (by first | exact asO | exact asOn) (by omega))
        · skip
          refine r_ld (pc' := 70) rfl rfl rfl rfl ?_
          refine r_gr (b := 256) (pc' := 73) rfl rfl sh_225 rfl pp_225_52 ?_
          refine r_ld (pc' := 74) rfl rfl rfl rfl ?_
          refine r_ld (pc' := 75) rfl rfl rfl rfl ?_
          refine r_gr (b := 236) (pc' := 78) rfl rfl sh_225 rfl pp_225_19 ?_
          refine r_cb (pc' := 80) rfl (by decide) rfl ?_
          refine r_ld (pc' := 81) rfl rfl rfl rfl ?_
          refine r_mul (pc' := 82) rfl rfl ?_
          refine r_ld (pc' := 83) rfl rfl rfl rfl ?_
          refine r_add (pc' := 84) rfl rfl ?_
          have hb88 := rd_236 hz (i := ((18 * a1) + x2).toNat) (by omega)
          refine r_ia (pc' := 85) rfl rfl sh_236 rfl (by omega) (by omega) (hst.2.2.1 _ _ (notS_c (by omega) (notS_c (by omega) (notS_c (by omega) (notS_c (by omega) (notS_c (by omega) (notS_c (by omega) (notS_c (by omega) (notS_c (by omega) (notS_c (by omega) (notS_c (by omega) (notS_c (by omega) (notS_c (by omega) (notS_c (by omega) (notS_c (by omega) (notS_c (by omega) (notS_c (by omega) (notS_c (by omega) (notS_c (by omega) (notS_c (by omega) (notS_c (by omega) notS_n))))))))))))))))))))) ?_
          refine r_is (pc' := 86) rfl rfl sh_256 rfl (by omega) (by omega) hst (inS_s (inS_s (inS_s (inS_s (inS_s (inS_s (inS_s (inS_s (inS_s (inS_s (inS_s (inS_s (inS_0 (by omega) (by omega) (by omega) (by omega)))))))))))))) (wr_256 ⟨by omega, by omega⟩) (fun z89 hq90 hs91 => ?_)
          have hqs := hq90
          refine r_inc (pc' := 89) (lv' := [(0, _), (1, _)]) rfl rfl rfl rfl rfl ?_
          refine r_go rfl ?_
          have hb92 := rd_225_53 hz
          have hb93 := rd_225_54 hz
          exact w_lv (sub_c rfl (sub_c rfl (sub_c rfl sub_n))) rfl (ih1 (x2 + 1) z89 w ⟨by omega, by omega⟩ hs91 ((((congrFun (congrFun hq90 _) _).trans (mu_ne (by omega))).trans un_z_225_53)) ((((congrFun (congrFun hq90 _) _).trans (mu_ne (by omega))).trans un_z_225_54)) (by exact asC) (by first | exact as1 | exact fun s hs => as1 s (by omega) | exact fun s hs => (((congrFun (congrFun hq90 _) _).trans (mu_ne (by omega)))).trans (as1 s hs)) (by first | (intro e he; exfalso; omega) | (intro e he; rw [hqs]; by_cases c : e = x2.toNat; (subst c; rw [mu_eq, show (18 * a1 + x2).toNat = 18 * a1.toNat + x2.toNat by omega]); (rw [mu_ne (by omega)]; exact as2 e (by omega)))) (by first | exact asF | exact ⟨(((congrFun (congrFun hq90 _) _).trans (mu_ne (by omega)))).trans asF.1, (((congrFun (congrFun hq90 _) _).trans (mu_ne (by omega)))).trans asF.2⟩) (by first | exact asO | exact OTH_c (OTH_0 z0 a1.toNat) (fun a j h1 h2 h3 h4 => ((congrFun (congrFun hq90 _) _).trans (mu_ne (by omega)))) | exact OTH_c asO (fun a j h1 h2 h3 h4 => ((congrFun (congrFun hq90 _) _).trans (mu_ne (by omega))))) (by omega))
      · intro  z w  hst as1 as2 as3 asO hM
        have e26 : z 225 26 = z0 225 26 := hst.2.2.1 _ _ (notS_c (by omega) (notS_c (by omega) (notS_c (by omega) (notS_c (by omega) (notS_c (by omega) (notS_c (by omega) (notS_c (by omega) (notS_c (by omega) (notS_c (by omega) (notS_c (by omega) (notS_c (by omega) (notS_c (by omega) (notS_c (by omega) (notS_c (by omega) (notS_c (by omega) (notS_c (by omega) (notS_c (by omega) (notS_c (by omega) (notS_c (by omega) (notS_c (by omega) (notS_n)))))))))))))))))))))
        have h248 := rd_248 hst.1 (i := a1.toNat) (by omega)
        have hns : nS z = tr (rE z0) (z 256) := by unfold nS rE; rw [e26]
        have hmx : z 248 a1.toNat ≤ 1781 := by apply Classical.byContradiction; intro q; exact SHI_max as1 (by omega)
        refine r_ld (pc' := 93) rfl rfl rfl rfl ?_
        refine r_cVI (pc' := 96) rfl rfl rfl rfl rfl sh_225 (m_197v (d := d + 4)  hst.1 hst.2.1 ) (fun v94 z95 w96 p97 h98 hs99 hE100 => ?_)
        obtain ⟨rfl, rfl, rfl, hE100⟩ := hE100
        have his := hE100.2.2
        rw [hns, show rE z = rE z0 by unfold rE; rw [e26]] at his
        refine r_zne (pc' := 99) rfl rfl ⟨by omega, by omega⟩ (fun hc102 => ?_) (fun hc102 => ?_)
        · skip
          refine r_ld (pc' := 119) rfl rfl rfl rfl ?_
          refine r_gr (b := 254) (pc' := 122) rfl rfl sh_225 rfl pp_225_50 ?_
          refine r_ld (pc' := 123) rfl rfl rfl rfl ?_
          refine r_c0 (pc' := 124) rfl rfl ?_
          have g26 : z 225 26 = z0 225 26 := hst.2.2.1 _ _ (notS_c (by omega) (notS_c (by omega) (notS_c (by omega) (notS_c (by omega) (notS_c (by omega) (notS_c (by omega) (notS_c (by omega) (notS_c (by omega) (notS_c (by omega) (notS_c (by omega) (notS_c (by omega) (notS_c (by omega) (notS_c (by omega) (notS_c (by omega) (notS_c (by omega) (notS_c (by omega) (notS_c (by omega) (notS_c (by omega) (notS_c (by omega) (notS_c (by omega) (notS_n)))))))))))))))))))))
          refine r_zs (pc' := 125) rfl rfl sh_254 rfl (by omega) (by omega) (by omega) hst (inS_s (inS_0 (by omega) (by omega) (by omega) (by omega))) (wr_254 ⟨by omega, by omega⟩) (fun z103 hq104 hs105 => ?_)
          have hqg := hq104
          refine r_ld (pc' := 126) rfl rfl rfl rfl ?_
          refine r_ld (pc' := 127) rfl rfl rfl rfl ?_
          have m26 : z103 225 26 = z0 225 26 := hs105.2.2.1 _ _ (notS_c (by omega) (notS_c (by omega) (notS_c (by omega) (notS_c (by omega) (notS_c (by omega) (notS_c (by omega) (notS_c (by omega) (notS_c (by omega) (notS_c (by omega) (notS_c (by omega) (notS_c (by omega) (notS_c (by omega) (notS_c (by omega) (notS_c (by omega) (notS_c (by omega) (notS_c (by omega) (notS_c (by omega) (notS_c (by omega) (notS_c (by omega) (notS_c (by omega) (notS_n)))))))))))))))))))))
          have m255 : z103 255 = z 255 := funext fun i => ((congrFun (congrFun hq104 _) _).trans (mu_ne (by omega)))
          have m256 : z103 256 = z 256 := funext fun i => ((congrFun (congrFun hq104 _) _).trans (mu_ne (by omega)))
          have mns : nS z103 = tr (rE z0) (z 256) := by unfold nS rE; rw [m26, m256]
          have n249 : ∀ j, z103 249 j = z 249 j := fun j => ((congrFun (congrFun hq104 _) _).trans (mu_ne (by omega)))
          have n250 : ∀ j, z103 250 j = z 250 j := fun j => ((congrFun (congrFun hq104 _) _).trans (mu_ne (by omega)))
          have n251 : ∀ j, z103 251 j = z 251 j := fun j => ((congrFun (congrFun hq104 _) _).trans (mu_ne (by omega)))
          have n252 : ∀ j, z103 252 j = z 252 j := fun j => ((congrFun (congrFun hq104 _) _).trans (mu_ne (by omega)))
          have hb106 := rd_225_26 hz
          have hf107 : z103 225 26 = z0 225 26 := (((congrFun (congrFun hq104 _) _).trans (mu_ne (by omega))).trans (hst.2.2.1 _ _ (notS_c (by omega) (notS_c (by omega) (notS_c (by omega) (notS_c (by omega) (notS_c (by omega) (notS_c (by omega) (notS_c (by omega) (notS_c (by omega) (notS_c (by omega) (notS_c (by omega) (notS_c (by omega) (notS_c (by omega) (notS_c (by omega) (notS_c (by omega) (notS_c (by omega) (notS_c (by omega) (notS_c (by omega) (notS_c (by omega) (notS_c (by omega) (notS_c (by omega) notS_n))))))))))))))))))))))
          have hF108 : z103 255 = z 255 := ((congrFun hq104 _).trans (mu_fn (by omega)))
          refine r_cVV (pc' := 130) rfl rfl rfl rfl rfl sh_225 (m_201 (d := d + 4) a1 hs105.1 hs105.2.1 ⟨by omega, by omega⟩ (by rw [show rE z103 = rE z0 by unfold rE; rw [m26], m26, m255]; exact as1.1) (by rw [mns, show rE z103 = rE z0 by unfold rE; rw [m26]]; exact (his (by omega)).1)) (fun z110 w111 p112 hs114 hE115 => ?_)
          have hs116 := st_tr hs105 hs114 (sub_B rfl)
          obtain ⟨rfl, hE115⟩ := hE115
          have hls := hE115
          have p248 : z110 248 a1.toNat = z 248 a1.toNat := ((hs114.2.2.1 _ _ (notS_c (by omega) (notS_c (by omega) (notS_c (by omega) (notS_c (by omega) notS_n))))).trans ((congrFun (congrFun hq104 _) _).trans (mu_ne (by omega))))
          have p247 : z110 247 = z 247 := funext fun i => ((hs114.2.2.1 _ _ (notS_c (by omega) (notS_c (by omega) (notS_c (by omega) (notS_c (by omega) notS_n))))).trans ((congrFun (congrFun hq104 _) _).trans (mu_ne (by omega))))
          have hcq2 : cfQ z110 a1.toNat = cfQ z a1.toNat := by funext i j; unfold cfQ; rw [p247]
          have hss := his (by omega)
          have h2c := SHI_two as1 hss.1 hss.2
          obtain ⟨u, v, w1, w2, w3, w4, w5, w6, w7, w8, w9⟩ := hls.1 (by rw [m26, m255, mns]; exact h2c)
          rw [m26] at w1 w2
          rw [m255, mns] at w4 w5
          rw [m255] at w6 w7 w8 w9
          have hgr := GR_sym (SHI_gr as1 hss.1 hss.2 w2 w1 (fun q => w3 q.symm) w5 w4)
          have hbd : ∀ s : Nat, s < 3 * (z0 225 26).toNat → z 255 s < rE z0 := fun s hs => (as1.1.2.2.2.1 s (by omega)).2
          have hfin : GRq z0 z110 a1.toNat := fun _ => by rw [p248, hcq2, w6, w7, w8, w9]; exact ⟨hgr, as3, hbd u w1, hbd v w2, hbd _ (ah_lt w2), hbd _ (bh_lt w2)⟩
          have hoth : OTH z0 z110 a1.toNat := ⟨fun j hj => by obtain ⟨h1, h2, h3, h4, h5, h6⟩ := asO.1 j hj; obtain ⟨l1, l2, l3, l4⟩ := hls.2 j hj; exact ⟨(((hs114.2.2.1 _ _ (notS_c (by omega) (notS_c (by omega) (notS_c (by omega) (notS_c (by omega) notS_n))))).trans ((congrFun (congrFun hq104 _) _).trans (mu_ne (by omega))))).trans h1, l1.trans ((n249 j).trans h2), l2.trans ((n250 j).trans h3), l3.trans ((n251 j).trans h4), l4.trans ((n252 j).trans h5), (((hs114.2.2.1 _ _ (notS_c (by omega) (notS_c (by omega) (notS_c (by omega) (notS_c (by omega) notS_n))))).trans ((congrFun (congrFun hq104 _) _).trans (mu_ne (by omega))))).trans h6⟩, fun i hi => (congrFun p247 i).trans (asO.2 i hi)⟩
          exact r_ret rfl (po_V hs116 ⟨rfl, (by exact ⟨hfin, hoth⟩)⟩)
        · skip
          refine r_ld (pc' := 100) rfl rfl rfl rfl ?_
          have hb117 := rd_225_26 hz
          have hf118 : z 225 26 = z0 225 26 := (hst.2.2.1 _ _ (notS_c (by omega) (notS_c (by omega) (notS_c (by omega) (notS_c (by omega) (notS_c (by omega) (notS_c (by omega) (notS_c (by omega) (notS_c (by omega) (notS_c (by omega) (notS_c (by omega) (notS_c (by omega) (notS_c (by omega) (notS_c (by omega) (notS_c (by omega) (notS_c (by omega) (notS_c (by omega) (notS_c (by omega) (notS_c (by omega) (notS_c (by omega) (notS_c (by omega) notS_n)))))))))))))))))))))
          refine r_cVI (pc' := 103) rfl rfl rfl rfl rfl sh_225 (m_199v (d := d + 3)  hst.1 hst.2.1 (by rw [show rE z = rE z0 by unfold rE; rw [e26], e26]; exact as1.1)) (fun v119 z120 w121 p122 h123 hs124 hE125 => ?_)
          have hs126 := st_tr hst hs124 (sub_B rfl)
          obtain ⟨rfl, hE125⟩ := hE125
          have hsb1 := hE125.1
          have hsb2 := hE125.2.1
          have hsr := hE125.2.2
          rw [show rE z = rE z0 by unfold rE; rw [e26], e26] at hsr
          clear hE125
          refine r_st (pc' := 104) (lv' := [(2, _), (0, _), (1, _)]) rfl rfl rfl rfl ?_
          refine r_ld (pc' := 105) rfl rfl rfl rfl ?_
          refine r_zge (pc' := 108) rfl rfl ⟨by omega, by omega⟩ (fun hc127 => ?_) (fun hc127 => ?_)
          · skip
            refine r_ld (pc' := 110) rfl rfl rfl rfl ?_
            refine r_ld (pc' := 111) rfl rfl rfl rfl ?_
            refine r_ld (pc' := 112) rfl rfl rfl rfl ?_
            have c26 : z120 225 26 = z0 225 26 := hs126.2.2.1 _ _ (notS_c (by omega) (notS_c (by omega) (notS_c (by omega) (notS_c (by omega) (notS_c (by omega) (notS_c (by omega) (notS_c (by omega) (notS_c (by omega) (notS_c (by omega) (notS_c (by omega) (notS_c (by omega) (notS_c (by omega) (notS_c (by omega) (notS_c (by omega) (notS_c (by omega) (notS_c (by omega) (notS_c (by omega) (notS_c (by omega) (notS_c (by omega) (notS_c (by omega) (notS_n)))))))))))))))))))))
            have c247 : z120 247 = z 247 := funext fun i => (hs124.2.2.1 _ _ (notS_c (by omega) (notS_c (by omega) notS_n)))
            have c248 : z120 248 = z 248 := funext fun i => (hs124.2.2.1 _ _ (notS_c (by omega) (notS_c (by omega) notS_n)))
            have c255 : z120 255 = z 255 := funext fun i => (hs124.2.2.1 _ _ (notS_c (by omega) (notS_c (by omega) notS_n)))
            have c256 : z120 256 = z 256 := funext fun i => (hs124.2.2.1 _ _ (notS_c (by omega) (notS_c (by omega) notS_n)))
            obtain ⟨k0, k1, s1, s2, k2, k3, k4⟩ := hsr.resolve_left (by omega)
            clear hsr
            have hcq : cfQ z120 a1.toNat = cfQ z a1.toNat := by funext i j; unfold cfQ; rw [c247]
            have hfnn := FQ_nn as1.1 (by omega) (by omega) as1.2.1 k2
            have hq26 : z120 255 = z 255 := c255
            have hf128 : z120 225 26 = z0 225 26 := ((hs124.2.2.1 _ _ (notS_c (by omega) (notS_c (by omega) notS_n))).trans (hst.2.2.1 _ _ (notS_c (by omega) (notS_c (by omega) (notS_c (by omega) (notS_c (by omega) (notS_c (by omega) (notS_c (by omega) (notS_c (by omega) (notS_c (by omega) (notS_c (by omega) (notS_c (by omega) (notS_c (by omega) (notS_c (by omega) (notS_c (by omega) (notS_c (by omega) (notS_c (by omega) (notS_c (by omega) (notS_c (by omega) (notS_c (by omega) (notS_c (by omega) (notS_c (by omega) notS_n))))))))))))))))))))))
            have hF129 : z120 255 = z 255 := (funext fun _ => hs124.2.2.1 _ _ (notS_c (by omega) (notS_c (by omega) notS_n)))
            refine r_cVV (pc' := 115) rfl rfl rfl rfl rfl sh_225 (m_198 (d := d + 3) a1 v119 hs126.1 hs126.2.1 ⟨by omega, by omega⟩ ⟨by omega, by omega⟩ (by rw [show rE z120 = rE z0 by unfold rE; rw [c26], c26, c255]; exact as1.1) (by rw [show rE z120 = rE z0 by unfold rE; rw [c26]]; omega) (by refine ⟨s1, s2, by rw [c26, c255]; exact k2, k3, ?_, ?_⟩; (unfold FQ; rw [c255, c256]; exact hfnn); (unfold FQ; rw [c255, c256]; exact k4)) (by rw [c248]; exact hmx)) (fun z131 w132 p133 hs135 hE136 => ?_)
            have hs137 := st_tr hs126 hs135 (sub_B rfl)
            obtain ⟨rfl, hE136⟩ := hE136
            obtain ⟨t1, t2, hsq2, hdf, hdl⟩ := hE136
            have hzq : SHI (z0 225 26) (rE z0) (z0 235) (z120 255) (tr (rE z0) (z120 256)) (cfQ z120 a1.toNat) (z120 248 a1.toNat) := by rw [c255, c256, c248, hcq]; exact as1
            have hds := DF_s (by omega) (by omega) (by omega) (by omega) c26 (by rw [← c26]; exact hsq2) hzq hdf hdl hs137.1
            have e248 : z131 248 a1.toNat = z 248 a1.toNat + 1 := by rw [hdf.2.2.1, c248]
            have as3n : ∀ i j, i < (z131 248 a1.toNat).toNat → j < 5 → ((cfQ z131 a1.toNat i j : Nat) : Int) < rE z0 := by
              intro i j hi hj
              by_cases c : i < (z 248 a1.toNat).toNat
              · rw [hds.2.2 i j (by rw [c248]; exact c) hj, hcq]; exact as3 i j c hj
              · have hi2 : i = (z120 248 a1.toNat).toNat := by rw [c248]; omega
                rw [hi2]; exact hds.2.1 j hj
            have asOn : OTH z0 z131 a1.toNat := ⟨fun j hj => by obtain ⟨h1, h2, h3, h4, h5, h6⟩ := asO.1 j hj; exact ⟨(hdf.2.2.2.1 j hj).trans ((congrFun c248 j).trans h1), (((hs135.2.2.1 _ _ (notS_c (by omega) (notS_c (by omega) (notS_c (by omega) (notS_c (by omega) (notS_c (by omega) (notS_c (by omega) notS_n))))))).trans (hs124.2.2.1 _ _ (notS_c (by omega) (notS_c (by omega) notS_n))))).trans h2, (((hs135.2.2.1 _ _ (notS_c (by omega) (notS_c (by omega) (notS_c (by omega) (notS_c (by omega) (notS_c (by omega) (notS_c (by omega) notS_n))))))).trans (hs124.2.2.1 _ _ (notS_c (by omega) (notS_c (by omega) notS_n))))).trans h3, (((hs135.2.2.1 _ _ (notS_c (by omega) (notS_c (by omega) (notS_c (by omega) (notS_c (by omega) (notS_c (by omega) (notS_c (by omega) notS_n))))))).trans (hs124.2.2.1 _ _ (notS_c (by omega) (notS_c (by omega) notS_n))))).trans h4, (((hs135.2.2.1 _ _ (notS_c (by omega) (notS_c (by omega) (notS_c (by omega) (notS_c (by omega) (notS_c (by omega) (notS_c (by omega) notS_n))))))).trans (hs124.2.2.1 _ _ (notS_c (by omega) (notS_c (by omega) notS_n))))).trans h5, (((hs135.2.2.1 _ _ (notS_c (by omega) (notS_c (by omega) (notS_c (by omega) (notS_c (by omega) (notS_c (by omega) (notS_c (by omega) notS_n))))))).trans (hs124.2.2.1 _ _ (notS_c (by omega) (notS_c (by omega) notS_n))))).trans h6⟩, fun i hi => (hdf.2.2.2.2.2.2.2.2.2 i (by rw [c248]; omega)).trans ((congrFun c247 i).trans (asO.2 i hi))⟩
            refine r_go rfl ?_
            exact w_lv (sub_c rfl (sub_c rfl sub_n)) rfl (ih2 z131 w132 hs137 (by first | exact hds.1 | (have hqe : tr (rE z0) (z 256) = tr (rE z0) (lnR z0 a1.toNat) := by (funext e; by_cases c : (e : Int) < rE z0; (rw [tr_l c, tr_l c]; exact as2 e (by omega)); (rw [tr_g (by omega), tr_g (by omega)]))); rw [asF.1, hqe]; exact SHI_0 hrw hft asC.1 asC.2 (sm_99 (fun j hj => by by_cases c : (j : Int) < rE z0; (rw [tr_l c]; exact h99 j c); (rw [tr_g (by omega)]; omega))) (fun s hs => as1 s (by omega))) (by first | exact asF.2 | exact (((hs135.2.2.1 _ _ (notS_c (by omega) (notS_c (by omega) (notS_c (by omega) (notS_c (by omega) (notS_c (by omega) (notS_c (by omega) notS_n))))))).trans (hs124.2.2.1 _ _ (notS_c (by omega) (notS_c (by omega) notS_n))))).trans as2) (by first | (intro i j hi hj; exfalso; omega) | exact as3n) (by first | exact asO | exact asOn) (by omega))
          · skip
            exact r_ret rfl (po_V hs126 ⟨rfl, (by refine ⟨fun q => ?_, OTH_c asO (fun a j h1 h2 h3 h4 => (hs124.2.2.1 _ _ (notS_c (by omega) (notS_c (by omega) notS_n))))⟩; (have e9 : z120 254 a1.toNat = z 254 a1.toNat := (hs124.2.2.1 _ _ (notS_c (by omega) (notS_c (by omega) notS_n)))); omega)⟩)
  refine w_m rfl rfl ?_
  refine r_ld (pc' := 1) rfl rfl rfl rfl ?_
  refine r_gr (b := 248) (pc' := 4) rfl rfl sh_225 rfl pp_225_44 ?_
  refine r_ld (pc' := 5) rfl rfl rfl rfl ?_
  refine r_c0 (pc' := 6) rfl rfl ?_
  refine r_is (pc' := 7) rfl rfl sh_248 rfl (by omega) (by omega) hst (inS_0 (by omega) (by omega) (by omega) (by omega)) (wr_248 ⟨by omega, by omega⟩) (fun z138 hq139 hs140 => ?_)
  have hqa := hq139
  refine r_ld (pc' := 8) rfl rfl rfl rfl ?_
  refine r_gr (b := 254) (pc' := 11) rfl rfl sh_225 rfl pp_225_50 ?_
  refine r_ld (pc' := 12) rfl rfl rfl rfl ?_
  refine r_c0 (pc' := 13) rfl rfl ?_
  refine r_zs (pc' := 14) rfl rfl sh_254 rfl (by omega) (by omega) (by omega) hs140 (inS_s (inS_0 (by omega) (by omega) (by omega) (by omega))) (wr_254 ⟨by omega, by omega⟩) (fun z141 hq142 hs143 => ?_)
  have hqb := hq142
  refine r_ld (pc' := 15) rfl rfl rfl rfl ?_
  refine r_gr (b := 253) (pc' := 18) rfl rfl sh_225 rfl pp_225_49 ?_
  refine r_ld (pc' := 19) rfl rfl rfl rfl ?_
  refine r_ld (pc' := 20) rfl rfl rfl rfl ?_
  refine r_ld (pc' := 21) rfl rfl rfl rfl ?_
  have q235 : z141 235 = z0 235 := funext fun i => hs143.2.2.1 _ _ (notS_c (by omega) (notS_c (by omega) (notS_c (by omega) (notS_c (by omega) (notS_c (by omega) (notS_c (by omega) (notS_c (by omega) (notS_c (by omega) (notS_c (by omega) (notS_c (by omega) (notS_c (by omega) (notS_c (by omega) (notS_c (by omega) (notS_c (by omega) (notS_c (by omega) (notS_c (by omega) (notS_c (by omega) (notS_c (by omega) (notS_c (by omega) (notS_c (by omega) (notS_n)))))))))))))))))))))
  have q236 : z141 236 = z0 236 := funext fun i => hs143.2.2.1 _ _ (notS_c (by omega) (notS_c (by omega) (notS_c (by omega) (notS_c (by omega) (notS_c (by omega) (notS_c (by omega) (notS_c (by omega) (notS_c (by omega) (notS_c (by omega) (notS_c (by omega) (notS_c (by omega) (notS_c (by omega) (notS_c (by omega) (notS_c (by omega) (notS_c (by omega) (notS_c (by omega) (notS_c (by omega) (notS_c (by omega) (notS_c (by omega) (notS_c (by omega) (notS_n)))))))))))))))))))))
  have q240 : z141 240 = z0 240 := funext fun i => hs143.2.2.1 _ _ (notS_c (by omega) (notS_c (by omega) (notS_c (by omega) (notS_c (by omega) (notS_c (by omega) (notS_c (by omega) (notS_c (by omega) (notS_c (by omega) (notS_c (by omega) (notS_c (by omega) (notS_c (by omega) (notS_c (by omega) (notS_c (by omega) (notS_c (by omega) (notS_c (by omega) (notS_c (by omega) (notS_c (by omega) (notS_c (by omega) (notS_c (by omega) (notS_c (by omega) (notS_n)))))))))))))))))))))
  have q241 : z141 241 = z0 241 := funext fun i => hs143.2.2.1 _ _ (notS_c (by omega) (notS_c (by omega) (notS_c (by omega) (notS_c (by omega) (notS_c (by omega) (notS_c (by omega) (notS_c (by omega) (notS_c (by omega) (notS_c (by omega) (notS_c (by omega) (notS_c (by omega) (notS_c (by omega) (notS_c (by omega) (notS_c (by omega) (notS_c (by omega) (notS_c (by omega) (notS_c (by omega) (notS_c (by omega) (notS_c (by omega) (notS_c (by omega) (notS_n)))))))))))))))))))))
  have q26 : z141 225 26 = z0 225 26 := hs143.2.2.1 _ _ (notS_c (by omega) (notS_c (by omega) (notS_c (by omega) (notS_c (by omega) (notS_c (by omega) (notS_c (by omega) (notS_c (by omega) (notS_c (by omega) (notS_c (by omega) (notS_c (by omega) (notS_c (by omega) (notS_c (by omega) (notS_c (by omega) (notS_c (by omega) (notS_c (by omega) (notS_c (by omega) (notS_c (by omega) (notS_c (by omega) (notS_c (by omega) (notS_c (by omega) (notS_n)))))))))))))))))))))
  
  have hb144 := rd_225_26 hz
  have hf145 : z141 225 26 = z0 225 26 := (((congrFun (congrFun hq142 _) _).trans (mu_ne (by omega))).trans ((congrFun (congrFun hq139 _) _).trans (mu_ne (by omega))))
  have hF146 : z141 235 = z0 235 := (((congrFun hq142 _).trans (mu_fn (by omega))).trans ((congrFun hq139 _).trans (mu_fn (by omega))))
  have hF147 : z141 241 = z0 241 := (((congrFun hq142 _).trans (mu_fn (by omega))).trans ((congrFun hq139 _).trans (mu_fn (by omega))))
  refine r_cVI (pc' := 24) rfl rfl rfl rfl rfl sh_225 (m_190t (d := d) a1 hs143.1 hs143.2.1 ⟨by omega, by omega⟩ (by exact RW_f hs143 (notS_c (by omega) (notS_c (by omega) (notS_c (by omega) (notS_c (by omega) (notS_c (by omega) (notS_c (by omega) (notS_c (by omega) (notS_c (by omega) (notS_c (by omega) (notS_c (by omega) (notS_c (by omega) (notS_c (by omega) (notS_c (by omega) (notS_c (by omega) (notS_c (by omega) (notS_c (by omega) (notS_c (by omega) (notS_c (by omega) (notS_c (by omega) (notS_c (by omega) (notS_n))))))))))))))))))))) (fun i => (notS_c (by omega) (notS_c (by omega) (notS_c (by omega) (notS_c (by omega) (notS_c (by omega) (notS_c (by omega) (notS_c (by omega) (notS_c (by omega) (notS_c (by omega) (notS_c (by omega) (notS_c (by omega) (notS_c (by omega) (notS_c (by omega) (notS_c (by omega) (notS_c (by omega) (notS_c (by omega) (notS_c (by omega) (notS_c (by omega) (notS_c (by omega) (notS_c (by omega) (notS_n)))))))))))))))))))))) (fun i => (notS_c (by omega) (notS_c (by omega) (notS_c (by omega) (notS_c (by omega) (notS_c (by omega) (notS_c (by omega) (notS_c (by omega) (notS_c (by omega) (notS_c (by omega) (notS_c (by omega) (notS_c (by omega) (notS_c (by omega) (notS_c (by omega) (notS_c (by omega) (notS_c (by omega) (notS_c (by omega) (notS_c (by omega) (notS_c (by omega) (notS_c (by omega) (notS_c (by omega) (notS_n)))))))))))))))))))))) (fun i => (notS_c (by omega) (notS_c (by omega) (notS_c (by omega) (notS_c (by omega) (notS_c (by omega) (notS_c (by omega) (notS_c (by omega) (notS_c (by omega) (notS_c (by omega) (notS_c (by omega) (notS_c (by omega) (notS_c (by omega) (notS_c (by omega) (notS_c (by omega) (notS_c (by omega) (notS_c (by omega) (notS_c (by omega) (notS_c (by omega) (notS_c (by omega) (notS_c (by omega) (notS_n)))))))))))))))))))))) hrw) (by unfold lnR; rw [show rE z141 = rE z0 by unfold rE; rw [q26], q26, q235, q236]; exact hft)) (fun v148 z149 w150 p151 h152 hs153 hE154 => ?_)
  have hs155 := st_tr hs143 hs153 (sub_B rfl)
  obtain ⟨rfl, hE154⟩ := hE154
  have hcn := hE154.2.2
  unfold lnR at hcn
  rw [show rE z141 = rE z0 by unfold rE; rw [q26], q26, q235, q236, q241] at hcn
  have hcn2 : v148 = 1 → (CN (z0 225 26).toNat (vT (z0 235)) (oF (z0 235) (z0 241)) (tr (rE z0) (lnR z0 a1.toNat)) ∧ ∃ e : Nat, (e : Int) < rE z0 ∧ 0 < (tr (rE z0) (lnR z0 a1.toNat)) e) := hcn
  refine r_zs (pc' := 25) rfl rfl sh_253 rfl (by omega) (by omega) (by omega) hs155 (inS_s (inS_s (inS_s (inS_s (inS_s (inS_s (inS_s (inS_s (inS_s (inS_s (inS_0 (by omega) (by omega) (by omega) (by omega)))))))))))) (wr_253 ⟨by omega, by omega⟩) (fun z156 hq157 hs158 => ?_)
  refine r_ld (pc' := 26) rfl rfl rfl rfl ?_
  refine r_gr (b := 253) (pc' := 29) rfl rfl sh_225 rfl pp_225_49 ?_
  refine r_ld (pc' := 30) rfl rfl rfl rfl ?_
  refine r_ba (pc' := 31) rfl rfl sh_253 (Or.inr rfl) rfl (by omega) (by omega) ((congrFun (congrFun hq157 _) _).trans mu_eq) ?_
  refine r_zne (pc' := 34) rfl rfl ⟨by omega, by omega⟩ (fun hc159 => ?_) (fun hc159 => ?_)
  · skip
    have hcn3 := hcn2 (by omega)
    refine r_c0 (pc' := 36) rfl rfl ?_
    refine r_st (pc' := 37) (lv' := [(2, _), (0, _), (1, _)]) rfl rfl rfl rfl ?_
    have hb160 := rd_225_53 hz
    have hb161 := rd_225_54 hz
    exact w_lv (sub_c rfl (sub_c rfl (sub_c rfl sub_n))) rfl ((key ((80 * (36 - 0) + 21654 : Int).toNat + 1)).1 0 z156 w150 ⟨by omega, by omega⟩ hs158 ((((congrFun (congrFun hq157 _) _).trans (mu_ne (by omega))).trans ((hs153.2.2.1 _ _ (notS_c (by omega) (notS_c (by omega) (notS_c (by omega) (notS_c (by omega) (notS_c (by omega) (notS_c (by omega) (notS_c (by omega) (notS_c (by omega) notS_n))))))))).trans (((congrFun (congrFun hq142 _) _).trans (mu_ne (by omega))).trans ((congrFun (congrFun hq139 _) _).trans (mu_ne (by omega))))))) ((((congrFun (congrFun hq157 _) _).trans (mu_ne (by omega))).trans ((hs153.2.2.1 _ _ (notS_c (by omega) (notS_c (by omega) (notS_c (by omega) (notS_c (by omega) (notS_c (by omega) (notS_c (by omega) (notS_c (by omega) (notS_c (by omega) notS_n))))))))).trans (((congrFun (congrFun hq142 _) _).trans (mu_ne (by omega))).trans ((congrFun (congrFun hq139 _) _).trans (mu_ne (by omega))))))) (by first | exact asC | exact hcn3) (by first | (intro s hs; exfalso; omega) | (intro s hs; rw [hqw]; by_cases c : s = x2.toNat; (subst c; exact mu_eq); (rw [mu_ne (by omega)]; exact as1 s (by omega)))) (by first | exact asF | exact ⟨((((congrFun (congrFun hq157 _) _).trans (mu_ne (by omega))).trans ((hs153.2.2.1 _ _ (notS_c (by omega) (notS_c (by omega) (notS_c (by omega) (notS_c (by omega) (notS_c (by omega) (notS_c (by omega) (notS_c (by omega) (notS_c (by omega) notS_n))))))))).trans (((congrFun (congrFun hq142 _) _).trans (mu_ne (by omega))).trans ((congrFun (congrFun hq139 _) _).trans (mu_ne (by omega))))))).trans asF.1, ((((congrFun (congrFun hq157 _) _).trans (mu_ne (by omega))).trans ((hs153.2.2.1 _ _ (notS_c (by omega) (notS_c (by omega) (notS_c (by omega) (notS_c (by omega) (notS_c (by omega) (notS_c (by omega) (notS_c (by omega) (notS_c (by omega) notS_n))))))))).trans (((congrFun (congrFun hq142 _) _).trans (mu_ne (by omega))).trans ((congrFun (congrFun hq139 _) _).trans (mu_ne (by omega))))))).trans asF.2⟩ | exact ⟨((((congrFun (congrFun hq157 _) _).trans (mu_ne (by omega))).trans ((hs153.2.2.1 _ _ (notS_c (by omega) (notS_c (by omega) (notS_c (by omega) (notS_c (by omega) (notS_c (by omega) (notS_c (by omega) (notS_c (by omega) (notS_c (by omega) notS_n))))))))).trans ((congrFun (congrFun hq142 _) _).trans (mu_ne (by omega)))))).trans ((congrFun (congrFun hqa _) _).trans mu_eq), ((((congrFun (congrFun hq157 _) _).trans (mu_ne (by omega))).trans (hs153.2.2.1 _ _ (notS_c (by omega) (notS_c (by omega) (notS_c (by omega) (notS_c (by omega) (notS_c (by omega) (notS_c (by omega) (notS_c (by omega) (notS_c (by omega) notS_n))))))))))).trans ((congrFun (congrFun hqb _) _).trans mu_eq)⟩) (by first | exact asO | exact OTH_c (OTH_0 z0 a1.toNat) (fun a j h1 h2 h3 h4 => (((congrFun (congrFun hq157 _) _).trans (mu_ne (by omega))).trans ((hs153.2.2.1 _ _ (notS_c (by omega) (notS_c (by omega) (notS_c (by omega) (notS_c (by omega) (notS_c (by omega) (notS_c (by omega) (notS_c (by omega) (notS_c (by omega) notS_n))))))))).trans (((congrFun (congrFun hq142 _) _).trans (mu_ne (by omega))).trans ((congrFun (congrFun hq139 _) _).trans (mu_ne (by omega))))))) | exact OTH_c asO (fun a j h1 h2 h3 h4 => (((congrFun (congrFun hq157 _) _).trans (mu_ne (by omega))).trans ((hs153.2.2.1 _ _ (notS_c (by omega) (notS_c (by omega) (notS_c (by omega) (notS_c (by omega) (notS_c (by omega) (notS_c (by omega) (notS_c (by omega) (notS_c (by omega) notS_n))))))))).trans (((congrFun (congrFun hq142 _) _).trans (mu_ne (by omega))).trans ((congrFun (congrFun hq139 _) _).trans (mu_ne (by omega)))))))) (by omega))
  · skip
    exact r_ret rfl (po_V hs158 ⟨rfl, (by refine ⟨fun q => ?_, OTH_c (OTH_0 z0 a1.toNat) (fun a j h1 h2 h3 h4 => (((congrFun (congrFun hq157 _) _).trans (mu_ne (by omega))).trans ((hs153.2.2.1 _ _ (notS_c (by omega) (notS_c (by omega) (notS_c (by omega) (notS_c (by omega) (notS_c (by omega) (notS_c (by omega) (notS_c (by omega) (notS_c (by omega) notS_n))))))))).trans (((congrFun (congrFun hq142 _) _).trans (mu_ne (by omega))).trans ((congrFun (congrFun hq139 _) _).trans (mu_ne (by omega)))))))⟩; (have e9 : z156 254 a1.toNat = 0 := ((((congrFun (congrFun hq157 _) _).trans (mu_ne (by omega))).trans (hs153.2.2.1 _ _ (notS_c (by omega) (notS_c (by omega) (notS_c (by omega) (notS_c (by omega) (notS_c (by omega) (notS_c (by omega) (notS_c (by omega) (notS_c (by omega) notS_n))))))))))).trans ((congrFun (congrFun hqb _) _).trans mu_eq)); omega)⟩)

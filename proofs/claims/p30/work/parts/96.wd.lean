section
/-! methods, printed by wip/tools/vcg.py -/
/-- LoopGroundModel goThrough -/
abbrev S_184f  : mS := [(225, 225, 39, 39), (225, 225, 38, 38), (225, 225, 40, 40)]
abbrev E_184f  (z0 w0 : mZ) (x y tx it mt tt ct : Option Nat) : mZ → mZ → mP → Prop := fun z w p => p = (pq x y tx it mt tt ct) ∧ (cu z = gg (z0 235) (nR z0) (cu z0) ∧ ((z 225 40 = 1 ∧ hcx (z0 235) (nR z0) (cu z0)) ∨ (z 225 40 = 0 ∧ ¬ hcx (z0 235) (nR z0) (cu z0))))
theorem m_184f {d : Nat} {z0 w0 : mZ} {x y tx it mt tt ct : Option Nat}  (hz : rz z0) (hw : rw_ w0) (hrw : RW z0) (hrf : FT (z0 225 26).toNat (vT (z0 235)) (nR z0)) (hvd : vdR z0 (cu z0)) : wc (d + 3) 184 [.ref 225] (mk z0 w0 (pq x y tx it mt tt ct)) (poV S_184f z0 w0 (E_184f  z0 w0 x y tx it mt tt ct)) := by
  have hst : st_ S_184f z0 w0 z0 w0 := st_rf hz hw
  have hz71 := rd_225_26 hz
  have hm26 := rd_225_26 hz
  have hs38 := rd_225_38 hz
  have hv1 : (((z0 225 38).toNat : Nat) : Int) < 3 * z0 225 26 := hvd.1
  have hv2 : 0 ≤ z0 225 39 := hvd.2.1
  have hv3 : z0 225 39 < nR z0 (vT (z0 235) (z0 225 38).toNat) := hvd.2.2
  rw [nR_T hrw (by omega)] at hv3
  have hv4 := rd_235 hz (i := (z0 225 38).toNat) (by omega)
  have hv5 := rd_243 hz (i := (z0 235 (z0 225 38).toNat).toNat) (by omega)
  refine w_m rfl rfl ?_
  refine r_ld (pc' := 1) rfl rfl rfl rfl ?_
  have hb72 := rd_225_38 hz
  refine r_gi (pc' := 4) rfl rfl sh_225 rfl rfl ?_
  refine r_c0 (pc' := 5) rfl rfl ?_
  refine r_cSI (pc' := 8) rfl rfl rfl rfl rfl (m_177v (d := d + 1) (z0 225 38) 2 hst.1 hst.2.1 ⟨by omega, by omega⟩ ⟨by omega, by omega⟩) (fun v73 z74 w75 p76 h77 hs78 hE79 => ?_)
  obtain ⟨rfl, rfl, rfl, hE79⟩ := hE79
  have hta := (hE79.2.2).2 rfl
  refine r_st (pc' := 9) (lv' := [(1, _), (0, _)]) rfl rfl rfl rfl ?_
  refine r_ld (pc' := 10) rfl rfl rfl rfl ?_
  refine r_ld (pc' := 11) rfl rfl rfl rfl ?_
  refine r_cVI (pc' := 14) rfl rfl rfl rfl rfl sh_225 (m_183v (d := d) v73 hst.1 hst.2.1 ⟨by omega, by omega⟩) (fun v81 z82 w83 p84 h85 hs86 hE87 => ?_)
  obtain ⟨rfl, rfl, rfl, hE87⟩ := hE87
  have hgt := GT_ hrw hrf hvd hta hE87.2.2
  have hgh := GTh hrw hrf hvd hta hE87.2.2
  refine r_st (pc' := 15) (lv' := [(2, _), (1, _), (0, _)]) rfl rfl rfl rfl ?_
  refine r_ld (pc' := 16) rfl rfl rfl rfl ?_
  have hb89 := rd_225_39 hz
  refine r_gi (pc' := 19) rfl rfl sh_225 rfl rfl ?_
  refine r_ld (pc' := 20) rfl rfl rfl rfl ?_
  refine r_ige (pc' := 23) rfl rfl ⟨by omega, by omega⟩ ⟨by omega, by omega⟩ (fun hc90 => ?_) (fun hc90 => ?_)
  · skip
    refine r_ld (pc' := 53) rfl rfl rfl rfl ?_
    refine r_ld (pc' := 54) rfl rfl rfl rfl ?_
    refine r_ld (pc' := 55) rfl rfl rfl rfl ?_
    refine r_gi (pc' := 58) rfl rfl sh_225 rfl rfl ?_
    refine r_cVI (pc' := 61) rfl rfl rfl rfl rfl sh_225 (m_182v (d := d + 1) (z0 225 38) hst.1 hst.2.1 ⟨by omega, by omega⟩) (fun v91 z92 w93 p94 h95 hs96 hE97 => ?_)
    obtain ⟨rfl, rfl, rfl, hE97⟩ := hE97
    have hon := hE97.2.2
    refine r_c0 (pc' := 62) rfl rfl ?_
    refine r_sub (pc' := 63) rfl rfl ?_
    refine r_ld (pc' := 64) rfl rfl rfl rfl ?_
    refine r_gi (pc' := 67) rfl rfl sh_225 rfl rfl ?_
    refine r_sub (pc' := 68) rfl rfl ?_
    refine r_pi (pc' := 71) rfl rfl sh_225 rfl rfl hst (inS_0 (by omega) (by omega) (by omega) (by omega)) (wr_225_39 ⟨by omega, by omega⟩) (fun z99 hq100 hs101 => ?_)
    refine r_ld (pc' := 72) rfl rfl rfl rfl ?_
    refine r_ld (pc' := 73) rfl rfl rfl rfl ?_
    refine r_gi (pc' := 76) rfl rfl sh_225 rfl ((congrFun (congrFun hq100 _) _).trans (mu_ne (by omega))) ?_
    refine r_c0 (pc' := 77) rfl rfl ?_
    refine r_cSI (pc' := 80) rfl rfl rfl rfl rfl (m_177v (d := d + 1) (z0 225 38) 1 hs101.1 hs101.2.1 ⟨by omega, by omega⟩ ⟨by omega, by omega⟩) (fun v102 z103 w104 p105 h106 hs107 hE108 => ?_)
    obtain ⟨rfl, rfl, rfl, hE108⟩ := hE108
    have htb := (hE108.2.2).1 rfl
    refine r_pi (pc' := 83) rfl rfl sh_225 rfl rfl hs101 (inS_s (inS_0 (by omega) (by omega) (by omega) (by omega))) (wr_225_38 ⟨by omega, by omega⟩) (fun z110 hq111 hs112 => ?_)
    refine r_ld (pc' := 84) rfl rfl rfl rfl ?_
    refine r_c0 (pc' := 85) rfl rfl ?_
    refine r_pi (pc' := 88) rfl rfl sh_225 rfl rfl hs112 (inS_s (inS_s (inS_0 (by omega) (by omega) (by omega) (by omega)))) (wr_225_40 ⟨by omega, by omega⟩) (fun z113 hq114 hs115 => ?_)
    have hf116 : z113 225 40 = 0 := ((congrFun (congrFun hq114 _) _).trans mu_eq)
    have hf117 : z113 225 38 = v102 := (((congrFun (congrFun hq114 _) _).trans (mu_ne (by omega))).trans ((congrFun (congrFun hq111 _) _).trans mu_eq))
    have hf118 : z113 225 39 = (v91 - 1) - (z0 225 39) := (((congrFun (congrFun hq114 _) _).trans (mu_ne (by omega))).trans (((congrFun (congrFun hq111 _) _).trans (mu_ne (by omega))).trans ((congrFun (congrFun hq100 _) _).trans mu_eq)))
    exact r_ret rfl (po_V hs115 ⟨rfl, (by first | exact ⟨hgt.1 _ _ (by omega) (by omega) (by omega), Or.inl ⟨by omega, hgh.mpr (by omega)⟩⟩ | exact ⟨hgt.2 _ _ (by omega) (by omega) (by omega), Or.inr ⟨by omega, fun q => absurd (hgh.mp q) (by omega)⟩⟩)⟩)
  · skip
    refine r_ld (pc' := 24) rfl rfl rfl rfl ?_
    refine r_ld (pc' := 25) rfl rfl rfl rfl ?_
    refine r_ld (pc' := 26) rfl rfl rfl rfl ?_
    refine r_cVI (pc' := 29) rfl rfl rfl rfl rfl sh_225 (m_182v (d := d + 1) v73 hst.1 hst.2.1 ⟨by omega, by omega⟩) (fun v119 z120 w121 p122 h123 hs124 hE125 => ?_)
    obtain ⟨rfl, rfl, rfl, hE125⟩ := hE125
    have hon := hE125.2.2
    refine r_c0 (pc' := 30) rfl rfl ?_
    refine r_sub (pc' := 31) rfl rfl ?_
    refine r_ld (pc' := 32) rfl rfl rfl rfl ?_
    refine r_gi (pc' := 35) rfl rfl sh_225 rfl rfl ?_
    refine r_sub (pc' := 36) rfl rfl ?_
    refine w_hxi (fun v127 h128 h129 => ?_)
    refine r_pi (pc' := 39) rfl rfl sh_225 rfl rfl hst (inS_0 (by omega) (by omega) (by omega) (by omega)) (wr_225_39 ⟨by omega, by omega⟩) (fun z130 hq131 hs132 => ?_)
    refine r_ld (pc' := 40) rfl rfl rfl rfl ?_
    refine r_ld (pc' := 41) rfl rfl rfl rfl ?_
    refine r_pi (pc' := 44) rfl rfl sh_225 rfl rfl hs132 (inS_s (inS_0 (by omega) (by omega) (by omega) (by omega))) (wr_225_38 ⟨by omega, by omega⟩) (fun z133 hq134 hs135 => ?_)
    refine r_ld (pc' := 45) rfl rfl rfl rfl ?_
    refine r_c0 (pc' := 46) rfl rfl ?_
    refine r_pi (pc' := 49) rfl rfl sh_225 rfl rfl hs135 (inS_s (inS_s (inS_0 (by omega) (by omega) (by omega) (by omega)))) (wr_225_40 ⟨by omega, by omega⟩) (fun z136 hq137 hs138 => ?_)
    refine r_go rfl ?_
    have hf139 : z136 225 40 = 1 := ((congrFun (congrFun hq137 _) _).trans mu_eq)
    have hf140 : z136 225 38 = v73 := (((congrFun (congrFun hq137 _) _).trans (mu_ne (by omega))).trans ((congrFun (congrFun hq134 _) _).trans mu_eq))
    have hf141 : z136 225 39 = v127 := (((congrFun (congrFun hq137 _) _).trans (mu_ne (by omega))).trans (((congrFun (congrFun hq134 _) _).trans (mu_ne (by omega))).trans ((congrFun (congrFun hq131 _) _).trans mu_eq)))
    exact r_ret rfl (po_V hs138 ⟨rfl, (by first | exact ⟨hgt.1 _ _ (by omega) (by omega) (by omega), Or.inl ⟨by omega, hgh.mpr (by omega)⟩⟩ | exact ⟨hgt.2 _ _ (by omega) (by omega) (by omega), Or.inr ⟨by omega, fun q => absurd (hgh.mp q) (by omega)⟩⟩)⟩)
/-- LoopGroundModel isRing -/
abbrev S_188f  : mS := [(225, 225, 38, 38), (225, 225, 39, 39), (245, 245, 0, 17999), (225, 225, 40, 40)]
abbrev E_188f (a1 : Int) (a2 : Int) (z0 w0 : mZ) (x y tx it mt tt ct : Option Nat) : Int → mZ → mZ → mP → Prop := fun v z w p => p = (pq x y tx it mt tt ct) ∧ 0 ≤ v ∧ v ≤ 1 ∧ ((∀ k : Nat, WP z k ↔ WP z0 k ∨ VX (z0 235) (z0 240) (z0 241) (nR z0) ((z0 241 a1.toNat).toNat, a2) k) ∧ (v = 1 → RGx (z0 235) (z0 240) (nR z0) ((z0 241 a1.toNat).toNat, a2)) ∧ (v = 0 → ¬ RGx (z0 235) (z0 240) (nR z0) ((z0 241 a1.toNat).toNat, a2)))
set_option maxHeartbeats 8000000 in
theorem m_188f {d : Nat} {z0 w0 : mZ} {x y tx it mt tt ct : Option Nat} (a1 : Int) (a2 : Int) (hz : rz z0) (hw : rw_ w0) (ha1 : 0 ≤ a1 ∧ a1 ≤ 17) (ha2 : 0 ≤ a2 ∧ a2 ≤ 17999) (hrw : RW z0) (hrl : RLd z0) (he : a1 < rE z0) (hk : a2 < z0 243 a1.toNat) (hcv : CLV (z0 225 26) (z0 235) (z0 240) (z0 241) (nR z0) (fun g => WP z0 g.toNat)) (hnw : z0 245 (sm (nR z0) a1.toNat + a2).toNat = 0) : wc (d + 4) 188 [.ref 225, .int (Int32.ofInt a1), .int (Int32.ofInt a2)] (mk z0 w0 (pq x y tx it mt tt ct)) (poI S_188f z0 w0 (E_188f a1 a2 z0 w0 x y tx it mt tt ct)) := by
  have hst : st_ S_188f z0 w0 z0 w0 := st_rf hz hw
  have hz66 := rd_225_26 hz
  have hm26 := rd_225_26 hz
  have hfl := WT.fL hrw a1.toNat (by omega)
  have hv0 : vdR z0 ((z0 241 a1.toNat).toNat, a2) := VR_0 hrw (e := a1.toNat) (by omega) rfl (by omega) (by omega)
  have hn0 : nu (z0 235) (z0 241) (nR z0) ((z0 241 a1.toNat).toNat, a2) = sm (nR z0) a1.toNat + a2 := nu_st (show WT _ _ _ _ _ from hrw) (by omega)
  have hnx : ¬ WP z0 (nu (z0 235) (z0 241) (nR z0) ((z0 241 a1.toNat).toNat, a2)).toNat := by rw [hn0]; unfold WP; omega
  have hnb9 := nu_b (show WT _ _ _ _ _ from hrw) hrl.1 hv0
  have key : ∀ N : Nat, (∀ (x3 x4 : Int) (z w : mZ), 0 ≤ x3 ∧ x3 ≤ 1 → 0 ≤ x4 ∧ x4 ≤ 1 → st_ S_188f z0 w0 z w → (vdR z0 (cu z)) → (∃ K, CK (z0 235) (z0 240) (z0 241) (nR z0) ((z0 241 a1.toNat).toNat, a2) (WP z0) (WP z) K (cu z) ∧ CH (z0 235) (z0 240) (nR z0) ((z0 241 a1.toNat).toNat, a2) K (1 - x3) (1 - x4)) → ((0 ≤ x3 ∧ x3 ≤ 1) ∧ (0 ≤ x4 ∧ x4 ≤ 1)) → 10 * ngv z + 5 < (N : Int) → wp_ (d + 3) 188 5 (some .boolean) (20, [(0, .ref 225), (3, .int (Int32.ofInt x3)), (4, .int (Int32.ofInt x4))], [], mk z w (pq x y tx it mt tt ct)) (poI S_188f z0 w0 (E_188f a1 a2 z0 w0 x y tx it mt tt ct))) ∧ (∀ (x4 : Int) (z w : mZ), 0 ≤ x4 ∧ x4 ≤ 1 → st_ S_188f z0 w0 z w → (vdR z0 (cu z)) → (∃ K, CK (z0 235) (z0 240) (z0 241) (nR z0) ((z0 241 a1.toNat).toNat, a2) (WP z0) (WP z) (K + 1) (cu z) ∧ (∃ j, j < (K + 1) ∧ ¬ hdx (z0 235) (z0 240) (nR z0) (tk (z0 235) (z0 240) (nR z0) ((z0 241 a1.toNat).toNat, a2) j)) ∧ (1 - x4 = 1 ↔ (∃ j, j < K ∧ hdx (z0 235) (z0 240) (nR z0) (tk (z0 235) (z0 240) (nR z0) ((z0 241 a1.toNat).toNat, a2) j))) ∧ ((z 225 40 = 1 ∧ hdx (z0 235) (z0 240) (nR z0) (tk (z0 235) (z0 240) (nR z0) ((z0 241 a1.toNat).toNat, a2) K)) ∨ (z 225 40 = 0 ∧ ¬ hdx (z0 235) (z0 240) (nR z0) (tk (z0 235) (z0 240) (nR z0) ((z0 241 a1.toNat).toNat, a2) K)))) → ((0 ≤ x4 ∧ x4 ≤ 1)) → 10 * ngv z + 9 < (N : Int) → wp_ (d + 3) 188 5 (some .boolean) (66, [(0, .ref 225), (4, .int (Int32.ofInt x4))], [], mk z w (pq x y tx it mt tt ct)) (poI S_188f z0 w0 (E_188f a1 a2 z0 w0 x y tx it mt tt ct))) := by
    intro N
    induction N with
    | zero =>
      refine ⟨?_, ?_⟩
      · intro x3 x4 z w
        have hzb := ngv_b z
        intros; exfalso; omega
      · intro x4 z w
        have hzb := ngv_b z
        intros; exfalso; omega
    | succ N ih =>
      obtain ⟨ih0, ih1⟩ := ih
      refine ⟨?_, ?_⟩
      · intro x3 x4 z w  hx3 hx4 hst as1 as2 as0 hM
        have e235 : z 235 = z0 235 := funext fun i => hst.2.2.1 _ _ (notS_c (by omega) (notS_c (by omega) (notS_c (by omega) (notS_c (by omega) (notS_n)))))
        have e240 : z 240 = z0 240 := funext fun i => hst.2.2.1 _ _ (notS_c (by omega) (notS_c (by omega) (notS_c (by omega) (notS_c (by omega) (notS_n)))))
        have e241 : z 241 = z0 241 := funext fun i => hst.2.2.1 _ _ (notS_c (by omega) (notS_c (by omega) (notS_c (by omega) (notS_c (by omega) (notS_n)))))
        have e243 : z 243 = z0 243 := funext fun i => hst.2.2.1 _ _ (notS_c (by omega) (notS_c (by omega) (notS_c (by omega) (notS_c (by omega) (notS_n)))))
        have e26 : z 225 26 = z0 225 26 := hst.2.2.1 _ _ (notS_c (by omega) (notS_c (by omega) (notS_c (by omega) (notS_c (by omega) (notS_n)))))
        have eR := nR_f e26 e243
        have hnb0 := ngv_b z
        obtain ⟨KK, hck, hch⟩ := as2
        refine r_ld (pc' := 21) rfl rfl rfl rfl ?_
        refine r_gr (b := 245) (pc' := 24) rfl rfl sh_225 rfl pp_225_35 ?_
        refine r_ld (pc' := 25) rfl rfl rfl rfl ?_
        have hb67 := rd_225_38 hst.1
        have hb68 := rd_225_39 hst.1
        have hF69 : z 235 = z0 235 := (funext fun _ => hst.2.2.1 _ _ (notS_c (by omega) (notS_c (by omega) (notS_c (by omega) (notS_c (by omega) notS_n)))))
        have hF70 : z 241 = z0 241 := (funext fun _ => hst.2.2.1 _ _ (notS_c (by omega) (notS_c (by omega) (notS_c (by omega) (notS_c (by omega) notS_n)))))
        refine r_cVI (pc' := 28) rfl rfl rfl rfl rfl sh_225 (m_186v (d := d + 2)  hst.1 hst.2.1 (by exact RW_f hst (notS_c (by omega) (notS_c (by omega) (notS_c (by omega) (notS_c (by omega) (notS_n))))) (fun i => (notS_c (by omega) (notS_c (by omega) (notS_c (by omega) (notS_c (by omega) (notS_n)))))) (fun i => (notS_c (by omega) (notS_c (by omega) (notS_c (by omega) (notS_c (by omega) (notS_n)))))) (fun i => (notS_c (by omega) (notS_c (by omega) (notS_c (by omega) (notS_c (by omega) (notS_n)))))) hrw) (by exact RL_f hst (notS_c (by omega) (notS_c (by omega) (notS_c (by omega) (notS_c (by omega) (notS_n))))) (fun i => (notS_c (by omega) (notS_c (by omega) (notS_c (by omega) (notS_c (by omega) (notS_n)))))) (fun i => (notS_c (by omega) (notS_c (by omega) (notS_c (by omega) (notS_c (by omega) (notS_n)))))) (fun i => (notS_c (by omega) (notS_c (by omega) (notS_c (by omega) (notS_c (by omega) (notS_n)))))) hrl) (by exact vdR_c e26 e235 e243 as1)) (fun v71 z72 w73 p74 h75 hs76 hE77 => ?_)
        obtain ⟨rfl, rfl, rfl, hE77⟩ := hE77
        have hn25 := hE77.2.2.1
        rw [e235, e241, eR] at hn25
        have hb79 := rd_245 hst.1 (i := v71.toNat) (by omega)
        refine r_ba (pc' := 29) rfl rfl sh_245 (Or.inr rfl) rfl (by omega) (by omega) rfl ?_
        refine r_zne (pc' := 32) rfl rfl ⟨by omega, by omega⟩ (fun hc80 => ?_) (fun hc80 => ?_)
        · skip
          refine r_ld (pc' := 91) rfl rfl rfl rfl ?_
          refine r_zne (pc' := 94) rfl rfl ⟨by omega, by omega⟩ (fun hc81 => ?_) (fun hc81 => ?_)
          · skip
            refine r_c0 (pc' := 100) rfl rfl ?_
            refine r_go rfl ?_
            exact r_rz rfl (by omega) (po_I hst ⟨by decide, by decide⟩ ⟨rfl, by omega, by omega, (by have hw9 : WP z (nu (z0 235) (z0 241) (nR z0) (cu z)).toNat := (by unfold WP; rw [← hn25]; omega); have he := CK_w (show WT _ _ _ _ _ from hrw) hrl.1 hv0 hck hcv hnx hw9; have hce := CK_e hck he.1 he.2; have r1 := RG_e he.1 hce.1 hch; have r2 := CH_1 he.1 hch; exact ⟨fun k => (WP_e (funext fun i => rfl) k).trans (hce.2 k), fun h => r1.mpr (by omega), fun h q => absurd (r1.mp q) (by omega)⟩)⟩)
          · skip
            refine r_ld (pc' := 96) rfl rfl rfl rfl ?_
            refine r_zeq (pc' := 99) rfl rfl ⟨by omega, by omega⟩ (fun hc82 => ?_) (fun hc82 => ?_)
            · skip
              refine r_c0 (pc' := 104) rfl rfl ?_
              exact r_rz rfl (by omega) (po_I hst ⟨by decide, by decide⟩ ⟨rfl, by omega, by omega, (by have hw9 : WP z (nu (z0 235) (z0 241) (nR z0) (cu z)).toNat := (by unfold WP; rw [← hn25]; omega); have he := CK_w (show WT _ _ _ _ _ from hrw) hrl.1 hv0 hck hcv hnx hw9; have hce := CK_e hck he.1 he.2; have r1 := RG_e he.1 hce.1 hch; have r2 := CH_1 he.1 hch; exact ⟨fun k => (WP_e (funext fun i => rfl) k).trans (hce.2 k), fun h => r1.mpr (by omega), fun h q => absurd (r1.mp q) (by omega)⟩)⟩)
            · skip
              refine r_c0 (pc' := 100) rfl rfl ?_
              refine r_go rfl ?_
              exact r_rz rfl (by omega) (po_I hst ⟨by decide, by decide⟩ ⟨rfl, by omega, by omega, (by have hw9 : WP z (nu (z0 235) (z0 241) (nR z0) (cu z)).toNat := (by unfold WP; rw [← hn25]; omega); have he := CK_w (show WT _ _ _ _ _ from hrw) hrl.1 hv0 hck hcv hnx hw9; have hce := CK_e hck he.1 he.2; have r1 := RG_e he.1 hce.1 hch; have r2 := CH_1 he.1 hch; exact ⟨fun k => (WP_e (funext fun i => rfl) k).trans (hce.2 k), fun h => r1.mpr (by omega), fun h q => absurd (r1.mp q) (by omega)⟩)⟩)
        · skip
          refine r_ld (pc' := 33) rfl rfl rfl rfl ?_
          refine r_gr (b := 245) (pc' := 36) rfl rfl sh_225 rfl pp_225_35 ?_
          refine r_ld (pc' := 37) rfl rfl rfl rfl ?_
          have hF83 : z 235 = z0 235 := (funext fun _ => hst.2.2.1 _ _ (notS_c (by omega) (notS_c (by omega) (notS_c (by omega) (notS_c (by omega) notS_n)))))
          have hF84 : z 241 = z0 241 := (funext fun _ => hst.2.2.1 _ _ (notS_c (by omega) (notS_c (by omega) (notS_c (by omega) (notS_c (by omega) notS_n)))))
          refine r_cVI (pc' := 40) rfl rfl rfl rfl rfl sh_225 (m_186v (d := d + 2)  hst.1 hst.2.1 (by exact RW_f hst (notS_c (by omega) (notS_c (by omega) (notS_c (by omega) (notS_c (by omega) (notS_n))))) (fun i => (notS_c (by omega) (notS_c (by omega) (notS_c (by omega) (notS_c (by omega) (notS_n)))))) (fun i => (notS_c (by omega) (notS_c (by omega) (notS_c (by omega) (notS_c (by omega) (notS_n)))))) (fun i => (notS_c (by omega) (notS_c (by omega) (notS_c (by omega) (notS_c (by omega) (notS_n)))))) hrw) (by exact RL_f hst (notS_c (by omega) (notS_c (by omega) (notS_c (by omega) (notS_c (by omega) (notS_n))))) (fun i => (notS_c (by omega) (notS_c (by omega) (notS_c (by omega) (notS_c (by omega) (notS_n)))))) (fun i => (notS_c (by omega) (notS_c (by omega) (notS_c (by omega) (notS_c (by omega) (notS_n)))))) (fun i => (notS_c (by omega) (notS_c (by omega) (notS_c (by omega) (notS_c (by omega) (notS_n)))))) hrl) (by exact vdR_c e26 e235 e243 as1)) (fun v85 z86 w87 p88 h89 hs90 hE91 => ?_)
          obtain ⟨rfl, rfl, rfl, hE91⟩ := hE91
          have hn37 := hE91.2.2.1
          rw [e235, e241, eR] at hn37
          refine r_c0 (pc' := 41) rfl rfl ?_
          refine r_zs (pc' := 42) rfl rfl sh_245 rfl (by omega) (by omega) (by omega) hst (inS_s (inS_s (inS_0 (by omega) (by omega) (by omega) (by omega)))) (wr_245 ⟨by omega, by omega⟩) (fun z93 hq94 hs95 => ?_)
          have hqm := hq94
          have hng := ngv_w hqm (by rw [show v85.toNat = v71.toNat by omega]; omega) (by omega)
          refine r_ld (pc' := 43) rfl rfl rfl rfl ?_
          have q235 : z93 235 = z0 235 := funext fun i => hs95.2.2.1 _ _ (notS_c (by omega) (notS_c (by omega) (notS_c (by omega) (notS_c (by omega) (notS_n)))))
          have q240 : z93 240 = z0 240 := funext fun i => hs95.2.2.1 _ _ (notS_c (by omega) (notS_c (by omega) (notS_c (by omega) (notS_c (by omega) (notS_n)))))
          have q241 : z93 241 = z0 241 := funext fun i => hs95.2.2.1 _ _ (notS_c (by omega) (notS_c (by omega) (notS_c (by omega) (notS_c (by omega) (notS_n)))))
          have q243 : z93 243 = z0 243 := funext fun i => hs95.2.2.1 _ _ (notS_c (by omega) (notS_c (by omega) (notS_c (by omega) (notS_c (by omega) (notS_n)))))
          have q26 : z93 225 26 = z0 225 26 := hs95.2.2.1 _ _ (notS_c (by omega) (notS_c (by omega) (notS_c (by omega) (notS_c (by omega) (notS_n)))))
          have qR := nR_f q26 q243
          have c38 : z93 225 38 = z 225 38 := ((congrFun (congrFun hq94 _) _).trans (mu_ne (by omega)))
          have c39 : z93 225 39 = z 225 39 := ((congrFun (congrFun hq94 _) _).trans (mu_ne (by omega)))
          have hF96 : z93 235 = z0 235 := (((congrFun hq94 _).trans (mu_fn (by omega))).trans (funext fun _ => hst.2.2.1 _ _ (notS_c (by omega) (notS_c (by omega) (notS_c (by omega) (notS_c (by omega) notS_n))))))
          have hF97 : z93 240 = z0 240 := (((congrFun hq94 _).trans (mu_fn (by omega))).trans (funext fun _ => hst.2.2.1 _ _ (notS_c (by omega) (notS_c (by omega) (notS_c (by omega) (notS_c (by omega) notS_n))))))
          refine r_cVV (pc' := 46) rfl rfl rfl rfl rfl sh_225 (m_185v (d := d + 1)  hs95.1 hs95.2.1 (by exact RW_f hs95 (notS_c (by omega) (notS_c (by omega) (notS_c (by omega) (notS_c (by omega) (notS_n))))) (fun i => (notS_c (by omega) (notS_c (by omega) (notS_c (by omega) (notS_c (by omega) (notS_n)))))) (fun i => (notS_c (by omega) (notS_c (by omega) (notS_c (by omega) (notS_c (by omega) (notS_n)))))) (fun i => (notS_c (by omega) (notS_c (by omega) (notS_c (by omega) (notS_c (by omega) (notS_n)))))) hrw) (by unfold cu; rw [c38, c39]; exact vdR_c q26 q235 q243 as1)) (fun z99 w100 p101 hs103 hE104 => ?_)
          have hs105 := st_tr hs95 hs103 (sub_B rfl)
          obtain ⟨rfl, hE104⟩ := hE104
          have hgo := hE104
          rw [q235, q240, qR] at hgo
          unfold cu at hgo
          rw [c38, c39] at hgo
          have hv1 : vdR z0 (cu z99) := by unfold cu; rw [hgo]; exact (vv_v hrw as1).1
          refine r_ld (pc' := 47) rfl rfl rfl rfl ?_
          have r235 : z99 235 = z0 235 := funext fun i => hs105.2.2.1 _ _ (notS_c (by omega) (notS_c (by omega) (notS_c (by omega) (notS_c (by omega) (notS_n)))))
          have r240 : z99 240 = z0 240 := funext fun i => hs105.2.2.1 _ _ (notS_c (by omega) (notS_c (by omega) (notS_c (by omega) (notS_c (by omega) (notS_n)))))
          have r241 : z99 241 = z0 241 := funext fun i => hs105.2.2.1 _ _ (notS_c (by omega) (notS_c (by omega) (notS_c (by omega) (notS_c (by omega) (notS_n)))))
          have r243 : z99 243 = z0 243 := funext fun i => hs105.2.2.1 _ _ (notS_c (by omega) (notS_c (by omega) (notS_c (by omega) (notS_c (by omega) (notS_n)))))
          have r26 : z99 225 26 = z0 225 26 := hs105.2.2.1 _ _ (notS_c (by omega) (notS_c (by omega) (notS_c (by omega) (notS_c (by omega) (notS_n)))))
          have rR := nR_f r26 r243
          have hb106 := rd_225_26 hz
          have hf107 : z99 225 26 = z0 225 26 := ((hs103.2.2.1 _ _ (notS_c (by omega) (notS_c (by omega) notS_n))).trans (((congrFun (congrFun hq94 _) _).trans (mu_ne (by omega))).trans (hst.2.2.1 _ _ (notS_c (by omega) (notS_c (by omega) (notS_c (by omega) (notS_c (by omega) notS_n)))))))
          have hF108 : z99 235 = z0 235 := ((funext fun _ => hs103.2.2.1 _ _ (notS_c (by omega) (notS_c (by omega) notS_n))).trans (((congrFun hq94 _).trans (mu_fn (by omega))).trans (funext fun _ => hst.2.2.1 _ _ (notS_c (by omega) (notS_c (by omega) (notS_c (by omega) (notS_c (by omega) notS_n)))))))
          refine r_cVV (pc' := 50) rfl rfl rfl rfl rfl sh_225 (m_184f (d := d)  hs105.1 hs105.2.1 (by exact RW_f hs105 (notS_c (by omega) (notS_c (by omega) (notS_c (by omega) (notS_c (by omega) (notS_n))))) (fun i => (notS_c (by omega) (notS_c (by omega) (notS_c (by omega) (notS_c (by omega) (notS_n)))))) (fun i => (notS_c (by omega) (notS_c (by omega) (notS_c (by omega) (notS_c (by omega) (notS_n)))))) (fun i => (notS_c (by omega) (notS_c (by omega) (notS_c (by omega) (notS_c (by omega) (notS_n)))))) hrw) (by rw [rR, r26, r235]; exact hrl.1) (by exact vdR_c r26 r235 r243 hv1)) (fun z110 w111 p112 hs114 hE115 => ?_)
          have hs116 := st_tr hs105 hs114 (sub_B rfl)
          obtain ⟨rfl, hE115⟩ := hE115
          have hgt := hE115.1
          rw [r235, rR] at hgt
          unfold cu at hgt
          rw [hgo] at hgt
          have hgx : cu z110 = gg (z0 235) (nR z0) (vv (z0 235) (z0 240) (nR z0) (cu z)) := hgt
          have hhd := hE115.2
          unfold cu at hhd
          rw [r235, rR, hgo] at hhd
          have hJ := gv_K hrw hrl.1 as1 hgt
          have h245 : z110 245 = z93 245 := funext fun i => ((hs114.2.2.1 _ _ (notS_c (by omega) (notS_c (by omega) (notS_c (by omega) notS_n)))).trans (hs103.2.2.1 _ _ (notS_c (by omega) (notS_c (by omega) notS_n))))
          have hng2 := ngv_c h245
          have hnW : ¬ WP z (nu (z0 235) (z0 241) (nR z0) (cu z)).toNat := by unfold WP; rw [← hn25]; omega
          have hck2 : CK (z0 235) (z0 240) (z0 241) (nR z0) ((z0 241 a1.toNat).toNat, a2) (WP z0) (WP z110) (KK + 1) (cu z110) := CK_s hck (CK_nb hck hnb9.1 hnW) hn37 (by omega) (fun k => (WP_e h245 k).trans (WP_i hqm k)) hgx rfl
          have hhk : (z110 225 40 = 1 ∧ hdx (z0 235) (z0 240) (nR z0) (tk (z0 235) (z0 240) (nR z0) ((z0 241 a1.toNat).toNat, a2) KK)) ∨ (z110 225 40 = 0 ∧ ¬ hdx (z0 235) (z0 240) (nR z0) (tk (z0 235) (z0 240) (nR z0) ((z0 241 a1.toNat).toNat, a2) KK)) := by rw [← hck.1]; exact hhd
          refine r_ld (pc' := 51) rfl rfl rfl rfl ?_
          refine r_zeq (pc' := 54) rfl rfl ⟨by omega, by omega⟩ (fun hc117 => ?_) (fun hc117 => ?_)
          · skip
            have hb118 := rd_225_40 hs116.1
            have hb119 := rd_225_38 hs116.1
            have hb120 := rd_225_39 hs116.1
            have hjb := ngv_b z110
            exact w_lv (sub_c rfl (sub_c rfl sub_n)) rfl (ih1 x4 z110 w111 ⟨by omega, by omega⟩ hs116 (by first | exact hJ.1 | exact as1 | exact hv0 | (unfold cu; simp only []; exact hv0)) (by refine ⟨KK, hck2, ?_, hch.2, hhk⟩; first | exact (ex_s rfl).mpr (Or.inl (hch.1.mp (by omega))) | exact ⟨KK, by omega, (hhk.resolve_left (fun c => absurd c.1 (by omega))).2⟩) (by first | omega | assumption) (by omega))
          · skip
            refine r_ld (pc' := 55) rfl rfl rfl rfl ?_
            have hb121 := rd_225_40 hs116.1
            refine r_gi (pc' := 58) rfl rfl sh_225 rfl rfl ?_
            refine r_c0 (pc' := 59) rfl rfl ?_
            refine r_ine (pc' := 62) rfl rfl ⟨by omega, by omega⟩ ⟨by decide, by decide⟩ (fun hc122 => ?_) (fun hc122 => ?_)
            · skip
              have hb123 := rd_225_38 hs116.1
              have hb124 := rd_225_39 hs116.1
              have hjb := ngv_b z110
              exact w_lv (sub_c rfl (sub_c rfl sub_n)) rfl (ih1 x4 z110 w111 ⟨by omega, by omega⟩ hs116 (by first | exact hJ.1 | exact as1 | exact hv0 | (unfold cu; simp only []; exact hv0)) (by refine ⟨KK, hck2, ?_, hch.2, hhk⟩; first | exact (ex_s rfl).mpr (Or.inl (hch.1.mp (by omega))) | exact ⟨KK, by omega, (hhk.resolve_left (fun c => absurd c.1 (by omega))).2⟩) (by first | omega | assumption) (by omega))
            · skip
              refine r_c0 (pc' := 63) rfl rfl ?_
              refine r_go rfl ?_
              refine r_st (pc' := 68) (lv' := [(3, _), (0, _), (4, _)]) rfl rfl rfl rfl ?_
              refine r_ld (pc' := 70) rfl rfl rfl rfl ?_
              refine r_zeq (pc' := 73) rfl rfl ⟨by omega, by omega⟩ (fun hc125 => ?_) (fun hc125 => ?_)
              · skip
                refine r_c0 (pc' := 85) rfl rfl ?_
                refine r_st (pc' := 87) (lv' := [(4, _), (3, _), (0, _)]) rfl rfl rfl rfl ?_
                refine r_go rfl ?_
                have hb126 := rd_225_38 hs116.1
                have hb127 := rd_225_39 hs116.1
                have hjb := ngv_b z110
                exact w_lv (sub_c rfl (sub_c rfl (sub_c rfl sub_n))) rfl (ih0 1 0 z110 w111 ⟨by omega, by omega⟩ ⟨by omega, by omega⟩ hs116 (by first | exact hJ.1 | exact as1 | exact hv0 | (unfold cu; simp only []; exact hv0)) (by first | exact ⟨0, CK_0 rfl (by unfold cu; simp only []) (fun k => WP_e (funext fun i => ((hs114.2.2.1 _ _ (notS_c (by omega) (notS_c (by omega) (notS_c (by omega) notS_n)))).trans ((hs103.2.2.1 _ _ (notS_c (by omega) (notS_c (by omega) notS_n))).trans (((congrFun (congrFun hq94 _) _).trans (mu_ne (by omega))).trans (hst.2.2.1 _ _ (notS_c (by omega) (notS_c (by omega) (notS_c (by omega) (notS_c (by omega) notS_n))))))))) k), CH_0 rfl (by omega) (by omega)⟩ | exact ⟨KK + 1, hck2, ⟨fun q => absurd q (by omega), fun q => (by rcases (ex_s rfl).mp q with r | r; (have := hch.1.mpr r; omega); exact absurd (hhk.resolve_right (fun c => absurd c.1 (by omega))).2 r)⟩, ⟨fun q => absurd q (by omega), fun q => (by rcases (ex_s rfl).mp q with r | r; (have := hch.2.mpr r; omega); exact absurd r (hhk.resolve_left (fun c => absurd c.1 (by omega))).2)⟩⟩ | exact ⟨KK + 1, hck2, ⟨fun q => absurd q (by omega), fun q => (by rcases (ex_s rfl).mp q with r | r; (have := hch.1.mpr r; omega); exact absurd (hhk.resolve_right (fun c => absurd c.1 (by omega))).2 r)⟩, ⟨fun _ => (by first | exact (ex_s rfl).mpr (Or.inl (hch.2.mp (by omega))) | exact ⟨KK, by omega, (hhk.resolve_right (fun c => absurd c.1 (by omega))).2⟩), fun _ => by omega⟩⟩ | exact ⟨KK + 1, hck, ⟨fun _ => hon, fun _ => by omega⟩, ⟨fun q => absurd q (by omega), fun q => (by rcases (ex_s rfl).mp q with r | r; (have := hof.mpr r; omega); exact absurd r (hhd.resolve_left (fun c => absurd c.1 (by omega))).2)⟩⟩ | exact ⟨KK + 1, hck, ⟨fun _ => hon, fun _ => by omega⟩, ⟨fun _ => (by first | exact (ex_s rfl).mpr (Or.inl (hof.mp (by omega))) | exact ⟨KK, by omega, (hhd.resolve_right (fun c => absurd c.1 (by omega))).2⟩), fun _ => by omega⟩⟩) (by first | omega | assumption) (by omega))
              · skip
                refine r_ld (pc' := 74) rfl rfl rfl rfl ?_
                refine r_gi (pc' := 77) rfl rfl sh_225 rfl rfl ?_
                refine r_zne (pc' := 80) rfl rfl ⟨by omega, by omega⟩ (fun hc128 => ?_) (fun hc128 => ?_)
                · skip
                  refine r_c0 (pc' := 85) rfl rfl ?_
                  refine r_st (pc' := 87) (lv' := [(4, _), (3, _), (0, _)]) rfl rfl rfl rfl ?_
                  refine r_go rfl ?_
                  have hb129 := rd_225_38 hs116.1
                  have hb130 := rd_225_39 hs116.1
                  have hjb := ngv_b z110
                  exact w_lv (sub_c rfl (sub_c rfl (sub_c rfl sub_n))) rfl (ih0 1 0 z110 w111 ⟨by omega, by omega⟩ ⟨by omega, by omega⟩ hs116 (by first | exact hJ.1 | exact as1 | exact hv0 | (unfold cu; simp only []; exact hv0)) (by first | exact ⟨0, CK_0 rfl (by unfold cu; simp only []) (fun k => WP_e (funext fun i => ((hs114.2.2.1 _ _ (notS_c (by omega) (notS_c (by omega) (notS_c (by omega) notS_n)))).trans ((hs103.2.2.1 _ _ (notS_c (by omega) (notS_c (by omega) notS_n))).trans (((congrFun (congrFun hq94 _) _).trans (mu_ne (by omega))).trans (hst.2.2.1 _ _ (notS_c (by omega) (notS_c (by omega) (notS_c (by omega) (notS_c (by omega) notS_n))))))))) k), CH_0 rfl (by omega) (by omega)⟩ | exact ⟨KK + 1, hck2, ⟨fun q => absurd q (by omega), fun q => (by rcases (ex_s rfl).mp q with r | r; (have := hch.1.mpr r; omega); exact absurd (hhk.resolve_right (fun c => absurd c.1 (by omega))).2 r)⟩, ⟨fun q => absurd q (by omega), fun q => (by rcases (ex_s rfl).mp q with r | r; (have := hch.2.mpr r; omega); exact absurd r (hhk.resolve_left (fun c => absurd c.1 (by omega))).2)⟩⟩ | exact ⟨KK + 1, hck2, ⟨fun q => absurd q (by omega), fun q => (by rcases (ex_s rfl).mp q with r | r; (have := hch.1.mpr r; omega); exact absurd (hhk.resolve_right (fun c => absurd c.1 (by omega))).2 r)⟩, ⟨fun _ => (by first | exact (ex_s rfl).mpr (Or.inl (hch.2.mp (by omega))) | exact ⟨KK, by omega, (hhk.resolve_right (fun c => absurd c.1 (by omega))).2⟩), fun _ => by omega⟩⟩ | exact ⟨KK + 1, hck, ⟨fun _ => hon, fun _ => by omega⟩, ⟨fun q => absurd q (by omega), fun q => (by rcases (ex_s rfl).mp q with r | r; (have := hof.mpr r; omega); exact absurd r (hhd.resolve_left (fun c => absurd c.1 (by omega))).2)⟩⟩ | exact ⟨KK + 1, hck, ⟨fun _ => hon, fun _ => by omega⟩, ⟨fun _ => (by first | exact (ex_s rfl).mpr (Or.inl (hof.mp (by omega))) | exact ⟨KK, by omega, (hhd.resolve_right (fun c => absurd c.1 (by omega))).2⟩), fun _ => by omega⟩⟩) (by first | omega | assumption) (by omega))
                · exfalso; omega
      · intro x4 z w  hx4 hst as1 as2 as0 hM
        obtain ⟨KK, hck, hon, hof, hhd⟩ := as2
        refine r_c0 (pc' := 67) rfl rfl ?_
        refine r_st (pc' := 68) (lv' := [(3, _), (0, _), (4, _)]) rfl rfl rfl rfl ?_
        refine r_ld (pc' := 70) rfl rfl rfl rfl ?_
        refine r_zeq (pc' := 73) rfl rfl ⟨by omega, by omega⟩ (fun hc131 => ?_) (fun hc131 => ?_)
        · skip
          refine r_c0 (pc' := 85) rfl rfl ?_
          refine r_st (pc' := 87) (lv' := [(4, _), (3, _), (0, _)]) rfl rfl rfl rfl ?_
          refine r_go rfl ?_
          have hb132 := rd_225_38 hst.1
          have hb133 := rd_225_39 hst.1
          have hb134 := rd_225_40 hst.1
          have hjb := ngv_b z
          exact w_lv (sub_c rfl (sub_c rfl (sub_c rfl sub_n))) rfl (ih0 0 0 z w ⟨by omega, by omega⟩ ⟨by omega, by omega⟩ hst (by first | exact hJ.1 | exact as1 | exact hv0 | (unfold cu; simp only []; exact hv0)) (by first | exact ⟨0, CK_0 rfl (by unfold cu; simp only []) (fun k => WP_e (funext fun i => (hst.2.2.1 _ _ (notS_c (by omega) (notS_c (by omega) (notS_c (by omega) (notS_c (by omega) notS_n)))))) k), CH_0 rfl (by omega) (by omega)⟩ | exact ⟨KK + 1, hck2, ⟨fun q => absurd q (by omega), fun q => (by rcases (ex_s rfl).mp q with r | r; (have := hch.1.mpr r; omega); exact absurd (hhk.resolve_right (fun c => absurd c.1 (by omega))).2 r)⟩, ⟨fun q => absurd q (by omega), fun q => (by rcases (ex_s rfl).mp q with r | r; (have := hch.2.mpr r; omega); exact absurd r (hhk.resolve_left (fun c => absurd c.1 (by omega))).2)⟩⟩ | exact ⟨KK + 1, hck2, ⟨fun q => absurd q (by omega), fun q => (by rcases (ex_s rfl).mp q with r | r; (have := hch.1.mpr r; omega); exact absurd (hhk.resolve_right (fun c => absurd c.1 (by omega))).2 r)⟩, ⟨fun _ => (by first | exact (ex_s rfl).mpr (Or.inl (hch.2.mp (by omega))) | exact ⟨KK, by omega, (hhk.resolve_right (fun c => absurd c.1 (by omega))).2⟩), fun _ => by omega⟩⟩ | exact ⟨KK + 1, hck, ⟨fun _ => hon, fun _ => by omega⟩, ⟨fun q => absurd q (by omega), fun q => (by rcases (ex_s rfl).mp q with r | r; (have := hof.mpr r; omega); exact absurd r (hhd.resolve_left (fun c => absurd c.1 (by omega))).2)⟩⟩ | exact ⟨KK + 1, hck, ⟨fun _ => hon, fun _ => by omega⟩, ⟨fun _ => (by first | exact (ex_s rfl).mpr (Or.inl (hof.mp (by omega))) | exact ⟨KK, by omega, (hhd.resolve_right (fun c => absurd c.1 (by omega))).2⟩), fun _ => by omega⟩⟩) (by first | omega | assumption) (by omega))
        · skip
          refine r_ld (pc' := 74) rfl rfl rfl rfl ?_
          have hb135 := rd_225_40 hst.1
          refine r_gi (pc' := 77) rfl rfl sh_225 rfl rfl ?_
          refine r_zne (pc' := 80) rfl rfl ⟨by omega, by omega⟩ (fun hc136 => ?_) (fun hc136 => ?_)
          · skip
            refine r_c0 (pc' := 85) rfl rfl ?_
            refine r_st (pc' := 87) (lv' := [(4, _), (3, _), (0, _)]) rfl rfl rfl rfl ?_
            refine r_go rfl ?_
            have hb137 := rd_225_38 hst.1
            have hb138 := rd_225_39 hst.1
            have hjb := ngv_b z
            exact w_lv (sub_c rfl (sub_c rfl (sub_c rfl sub_n))) rfl (ih0 0 0 z w ⟨by omega, by omega⟩ ⟨by omega, by omega⟩ hst (by first | exact hJ.1 | exact as1 | exact hv0 | (unfold cu; simp only []; exact hv0)) (by first | exact ⟨0, CK_0 rfl (by unfold cu; simp only []) (fun k => WP_e (funext fun i => (hst.2.2.1 _ _ (notS_c (by omega) (notS_c (by omega) (notS_c (by omega) (notS_c (by omega) notS_n)))))) k), CH_0 rfl (by omega) (by omega)⟩ | exact ⟨KK + 1, hck2, ⟨fun q => absurd q (by omega), fun q => (by rcases (ex_s rfl).mp q with r | r; (have := hch.1.mpr r; omega); exact absurd (hhk.resolve_right (fun c => absurd c.1 (by omega))).2 r)⟩, ⟨fun q => absurd q (by omega), fun q => (by rcases (ex_s rfl).mp q with r | r; (have := hch.2.mpr r; omega); exact absurd r (hhk.resolve_left (fun c => absurd c.1 (by omega))).2)⟩⟩ | exact ⟨KK + 1, hck2, ⟨fun q => absurd q (by omega), fun q => (by rcases (ex_s rfl).mp q with r | r; (have := hch.1.mpr r; omega); exact absurd (hhk.resolve_right (fun c => absurd c.1 (by omega))).2 r)⟩, ⟨fun _ => (by first | exact (ex_s rfl).mpr (Or.inl (hch.2.mp (by omega))) | exact ⟨KK, by omega, (hhk.resolve_right (fun c => absurd c.1 (by omega))).2⟩), fun _ => by omega⟩⟩ | exact ⟨KK + 1, hck, ⟨fun _ => hon, fun _ => by omega⟩, ⟨fun q => absurd q (by omega), fun q => (by rcases (ex_s rfl).mp q with r | r; (have := hof.mpr r; omega); exact absurd r (hhd.resolve_left (fun c => absurd c.1 (by omega))).2)⟩⟩ | exact ⟨KK + 1, hck, ⟨fun _ => hon, fun _ => by omega⟩, ⟨fun _ => (by first | exact (ex_s rfl).mpr (Or.inl (hof.mp (by omega))) | exact ⟨KK, by omega, (hhd.resolve_right (fun c => absurd c.1 (by omega))).2⟩), fun _ => by omega⟩⟩) (by first | omega | assumption) (by omega))
          · skip
            refine r_c0 (pc' := 81) rfl rfl ?_
            refine r_go rfl ?_
            refine r_st (pc' := 87) (lv' := [(4, _), (3, _), (0, _)]) rfl rfl rfl rfl ?_
            refine r_go rfl ?_
            have hb139 := rd_225_38 hst.1
            have hb140 := rd_225_39 hst.1
            have hjb := ngv_b z
            exact w_lv (sub_c rfl (sub_c rfl (sub_c rfl sub_n))) rfl (ih0 0 1 z w ⟨by omega, by omega⟩ ⟨by omega, by omega⟩ hst (by first | exact hJ.1 | exact as1 | exact hv0 | (unfold cu; simp only []; exact hv0)) (by first | exact ⟨0, CK_0 rfl (by unfold cu; simp only []) (fun k => WP_e (funext fun i => (hst.2.2.1 _ _ (notS_c (by omega) (notS_c (by omega) (notS_c (by omega) (notS_c (by omega) notS_n)))))) k), CH_0 rfl (by omega) (by omega)⟩ | exact ⟨KK + 1, hck2, ⟨fun q => absurd q (by omega), fun q => (by rcases (ex_s rfl).mp q with r | r; (have := hch.1.mpr r; omega); exact absurd (hhk.resolve_right (fun c => absurd c.1 (by omega))).2 r)⟩, ⟨fun q => absurd q (by omega), fun q => (by rcases (ex_s rfl).mp q with r | r; (have := hch.2.mpr r; omega); exact absurd r (hhk.resolve_left (fun c => absurd c.1 (by omega))).2)⟩⟩ | exact ⟨KK + 1, hck2, ⟨fun q => absurd q (by omega), fun q => (by rcases (ex_s rfl).mp q with r | r; (have := hch.1.mpr r; omega); exact absurd (hhk.resolve_right (fun c => absurd c.1 (by omega))).2 r)⟩, ⟨fun _ => (by first | exact (ex_s rfl).mpr (Or.inl (hch.2.mp (by omega))) | exact ⟨KK, by omega, (hhk.resolve_right (fun c => absurd c.1 (by omega))).2⟩), fun _ => by omega⟩⟩ | exact ⟨KK + 1, hck, ⟨fun _ => hon, fun _ => by omega⟩, ⟨fun q => absurd q (by omega), fun q => (by rcases (ex_s rfl).mp q with r | r; (have := hof.mpr r; omega); exact absurd r (hhd.resolve_left (fun c => absurd c.1 (by omega))).2)⟩⟩ | exact ⟨KK + 1, hck, ⟨fun _ => hon, fun _ => by omega⟩, ⟨fun _ => (by first | exact (ex_s rfl).mpr (Or.inl (hof.mp (by omega))) | exact ⟨KK, by omega, (hhd.resolve_right (fun c => absurd c.1 (by omega))).2⟩), fun _ => by omega⟩⟩) (by first | omega | assumption) (by omega))
  refine w_m rfl rfl ?_
  refine r_ld (pc' := 1) rfl rfl rfl rfl ?_
  refine r_ld (pc' := 2) rfl rfl rfl rfl ?_
  refine r_gr (b := 241) (pc' := 5) rfl rfl sh_225 rfl pp_225_30 ?_
  refine r_ld (pc' := 6) rfl rfl rfl rfl ?_
  have hb141 := rd_241 hz (i := a1.toNat) (by omega)
  refine r_ia (pc' := 7) rfl rfl sh_241 rfl (by omega) (by omega) rfl ?_
  refine r_pi (pc' := 10) rfl rfl sh_225 rfl rfl hst (inS_0 (by omega) (by omega) (by omega) (by omega)) (wr_225_38 ⟨by omega, by omega⟩) (fun z142 hq143 hs144 => ?_)
  refine r_ld (pc' := 11) rfl rfl rfl rfl ?_
  refine r_ld (pc' := 12) rfl rfl rfl rfl ?_
  refine r_pi (pc' := 15) rfl rfl sh_225 rfl rfl hs144 (inS_s (inS_0 (by omega) (by omega) (by omega) (by omega))) (wr_225_39 ⟨by omega, by omega⟩) (fun z145 hq146 hs147 => ?_)
  refine r_c0 (pc' := 16) rfl rfl ?_
  refine r_st (pc' := 17) (lv' := [(3, _), (0, _), (1, _), (2, _)]) rfl rfl rfl rfl ?_
  refine r_c0 (pc' := 18) rfl rfl ?_
  refine r_st (pc' := 20) (lv' := [(4, _), (3, _), (0, _), (1, _), (2, _)]) rfl rfl rfl rfl ?_
  have hf148 : z145 225 38 = z0 241 a1.toNat := (((congrFun (congrFun hq146 _) _).trans (mu_ne (by omega))).trans ((congrFun (congrFun hq143 _) _).trans mu_eq))
  have hf149 : z145 225 39 = a2 := ((congrFun (congrFun hq146 _) _).trans mu_eq)
  have hb150 := rd_225_40 hz
  have hf151 : z145 225 40 = z0 225 40 := (((congrFun (congrFun hq146 _) _).trans (mu_ne (by omega))).trans ((congrFun (congrFun hq143 _) _).trans (mu_ne (by omega))))
  have hjb := ngv_b z145
  exact w_lv (sub_c rfl (sub_c rfl (sub_c rfl sub_n))) rfl ((key ((10 * ngv z145 + 5 : Int).toNat + 1)).1 1 1 z145 w0 ⟨by omega, by omega⟩ ⟨by omega, by omega⟩ hs147 (by first | exact hJ.1 | exact as1 | exact hv0 | (unfold cu; simp only [hf148, hf149, hf151]; exact hv0)) (by first | exact ⟨0, CK_0 rfl (by unfold cu; simp only [hf148, hf149, hf151]) (fun k => WP_e (funext fun i => (((congrFun (congrFun hq146 _) _).trans (mu_ne (by omega))).trans ((congrFun (congrFun hq143 _) _).trans (mu_ne (by omega))))) k), CH_0 rfl (by omega) (by omega)⟩ | exact ⟨KK + 1, hck2, ⟨fun q => absurd q (by omega), fun q => (by rcases (ex_s rfl).mp q with r | r; (have := hch.1.mpr r; omega); exact absurd (hhk.resolve_right (fun c => absurd c.1 (by omega))).2 r)⟩, ⟨fun q => absurd q (by omega), fun q => (by rcases (ex_s rfl).mp q with r | r; (have := hch.2.mpr r; omega); exact absurd r (hhk.resolve_left (fun c => absurd c.1 (by omega))).2)⟩⟩ | exact ⟨KK + 1, hck2, ⟨fun q => absurd q (by omega), fun q => (by rcases (ex_s rfl).mp q with r | r; (have := hch.1.mpr r; omega); exact absurd (hhk.resolve_right (fun c => absurd c.1 (by omega))).2 r)⟩, ⟨fun _ => (by first | exact (ex_s rfl).mpr (Or.inl (hch.2.mp (by omega))) | exact ⟨KK, by omega, (hhk.resolve_right (fun c => absurd c.1 (by omega))).2⟩), fun _ => by omega⟩⟩ | exact ⟨KK + 1, hck, ⟨fun _ => hon, fun _ => by omega⟩, ⟨fun q => absurd q (by omega), fun q => (by rcases (ex_s rfl).mp q with r | r; (have := hof.mpr r; omega); exact absurd r (hhd.resolve_left (fun c => absurd c.1 (by omega))).2)⟩⟩ | exact ⟨KK + 1, hck, ⟨fun _ => hon, fun _ => by omega⟩, ⟨fun _ => (by first | exact (ex_s rfl).mpr (Or.inl (hof.mp (by omega))) | exact ⟨KK, by omega, (hhd.resolve_right (fun c => absurd c.1 (by omega))).2⟩), fun _ => by omega⟩⟩) (by first | omega | assumption | (simp only [hf148, hf149, hf151]; assumption)) (by omega))
/-- LoopGroundModel countLoops -/
abbrev S_187ft  : mS := [(244, 244, 0, 18), (243, 243, 0, 17), (225, 225, 36, 36), (225, 225, 37, 37), (245, 245, 0, 17999), (225, 225, 38, 38), (225, 225, 39, 39), (225, 225, 40, 40)]
abbrev E_187ft (a1 : Int) (z0 w0 : mZ) (x y tx it mt tt ct : Option Nat) : mZ → mZ → mP → Prop := fun z w p => p = (pq x y tx it mt tt ct) ∧ (z 225 36 = (lpe (z0 235) (z0 240) (z0 241) (tr (rE z0) (lnR z0 a1.toNat)) (rE z0).toNat).2.1 ∧ z 225 37 = (lpe (z0 235) (z0 240) (z0 241) (tr (rE z0) (lnR z0 a1.toNat)) (rE z0).toNat).2.2)
theorem m_187ft {d : Nat} {z0 w0 : mZ} {x y tx it mt tt ct : Option Nat} (a1 : Int) (hz : rz z0) (hw : rw_ w0) (ha1 : 0 ≤ a1 ∧ a1 ≤ 7) (hrw : RW z0) (hft : FT (z0 225 26).toNat (vT (z0 235)) (tr (rE z0) (lnR z0 a1.toNat))) (hsm : sm (tr (rE z0) (lnR z0 a1.toNat)) 18 ≤ 18000) : wc (d + 5) 187 [.ref 225, .int (Int32.ofInt a1)] (mk z0 w0 (pq x y tx it mt tt ct)) (poV S_187ft z0 w0 (E_187ft a1 z0 w0 x y tx it mt tt ct)) := by
  have hst : st_ S_187ft z0 w0 z0 w0 := st_rf hz hw
  have hz79 := rd_225_26 hz
  have hm26 := rd_225_26 hz
  have hrE : rE z0 = 3 * z0 225 26 / 2 := rfl
  have key : ∀ N : Nat, (∀ (x2 : Int) (z w : mZ), 0 ≤ x2 ∧ x2 ≤ 18000 → st_ S_187ft z0 w0 z w → z 225 38 = z0 225 38 → z 225 39 = z0 225 39 → z 225 40 = z0 225 40 → ((∀ e : Nat, (e : Int) < rE z0 → z 243 e = (lnR z0 a1.toNat) e) ∧ ∀ e : Nat, (e : Int) ≤ rE z0 → z 244 e = sm (tr (rE z0) (lnR z0 a1.toNat)) e) → (z 225 36 = 0 ∧ z 225 37 = 0) → (∀ j : Nat, (j : Int) < x2 → z 245 j = 0) → 74 * (18000 - x2) + 26644502 < (N : Int) → wp_ (d + 4) 187 4 none (17, [(0, .ref 225), (2, .int (Int32.ofInt x2))], [], mk z w (pq x y tx it mt tt ct)) (poV S_187ft z0 w0 (E_187ft a1 z0 w0 x y tx it mt tt ct))) ∧ (∀ (x2 : Int) (z w : mZ), 0 ≤ x2 ∧ x2 ≤ 18 → st_ S_187ft z0 w0 z w → ((∀ e : Nat, (e : Int) < rE z0 → z 243 e = (lnR z0 a1.toNat) e) ∧ ∀ e : Nat, (e : Int) ≤ rE z0 → z 244 e = sm (tr (rE z0) (lnR z0 a1.toNat)) e) → (LPS (tr (rE z0) (lnR z0 a1.toNat)) (lpe (z0 235) (z0 240) (z0 241) (tr (rE z0) (lnR z0 a1.toNat)) x2.toNat) (WP z) (z 225 36) (z 225 37)) → (x2 ≤ rE z0) → 1332222 * (18 - x2) + 1332194 < (N : Int) → wp_ (d + 4) 187 4 none (45, [(0, .ref 225), (2, .int (Int32.ofInt x2))], [], mk z w (pq x y tx it mt tt ct)) (poV S_187ft z0 w0 (E_187ft a1 z0 w0 x y tx it mt tt ct))) ∧ (∀ (x2 x3 : Int) (z w : mZ), 0 ≤ x2 ∧ x2 ≤ 17 → 0 ≤ x3 ∧ x3 ≤ 18000 → st_ S_187ft z0 w0 z w → ((∀ e : Nat, (e : Int) < rE z0 → z 243 e = (lnR z0 a1.toNat) e) ∧ ∀ e : Nat, (e : Int) ≤ rE z0 → z 244 e = sm (tr (rE z0) (lnR z0 a1.toNat)) e) → (LPS (tr (rE z0) (lnR z0 a1.toNat)) (lpi (z0 235) (z0 240) (z0 241) (tr (rE z0) (lnR z0 a1.toNat)) x2.toNat x3.toNat (lpe (z0 235) (z0 240) (z0 241) (tr (rE z0) (lnR z0 a1.toNat)) x2.toNat)) (WP z) (z 225 36) (z 225 37)) → (x2 < rE z0) → (x3 ≤ (tr (rE z0) (lnR z0 a1.toNat)) x2.toNat) → 1332222 * (18 - x2) + 74 * (18000 - x3) + 40 < (N : Int) → wp_ (d + 4) 187 4 none (55, [(0, .ref 225), (2, .int (Int32.ofInt x2)), (3, .int (Int32.ofInt x3))], [], mk z w (pq x y tx it mt tt ct)) (poV S_187ft z0 w0 (E_187ft a1 z0 w0 x y tx it mt tt ct))) := by
    intro N
    induction N with
    | zero =>
      refine ⟨?_, ?_, ?_⟩
      · intro x2 z w
        intros; exfalso; omega
      · intro x2 z w
        intros; exfalso; omega
      · intro x2 x3 z w
        intros; exfalso; omega
    | succ N ih =>
      obtain ⟨ih0, ih1, ih2⟩ := ih
      refine ⟨?_, ?_, ?_⟩
      · intro x2 z w  hx2 hst un_z_225_38 un_z_225_39 un_z_225_40 as0 as1 as2 hM
        have hE18 : 0 ≤ rE z0 ∧ rE z0 ≤ 18 := by omega
        refine r_ld (pc' := 18) rfl rfl rfl rfl ?_
        refine r_ld (pc' := 19) rfl rfl rfl rfl ?_
        refine r_gr (b := 244) (pc' := 22) rfl rfl sh_225 rfl pp_225_34 ?_
        refine r_ld (pc' := 23) rfl rfl rfl rfl ?_
        have hb80 := rd_225_26 hz
        have hf81 : z 225 26 = z0 225 26 := (hst.2.2.1 _ _ (notS_c (by omega) (notS_c (by omega) (notS_c (by omega) (notS_c (by omega) (notS_c (by omega) (notS_c (by omega) (notS_c (by omega) (notS_c (by omega) notS_n)))))))))
        refine r_cVI (pc' := 26) rfl rfl rfl rfl rfl sh_225 (m_161 (d := d + 3)  hst.1 hst.2.1 ) (fun v82 z83 w84 p85 h86 hs87 hE88 => ?_)
        obtain ⟨rfl, rfl, rfl, hE88⟩ := hE88
        have hb23 : z 244 v82.toNat = sm (tr (rE z0) (lnR z0 a1.toNat)) 18 := by rw [show v82.toNat = (rE z0).toNat by omega, as0.2 _ (by omega), ← sm_tr (by omega) (by omega)]
        have hb90 := rd_244 hst.1 (i := v82.toNat) (by omega)
        refine r_ia (pc' := 27) rfl rfl sh_244 rfl (by omega) (by omega) rfl ?_
        refine r_ige (pc' := 30) rfl rfl ⟨by omega, by omega⟩ ⟨by omega, by omega⟩ (fun hc91 => ?_) (fun hc91 => ?_)
        · skip
          refine r_c0 (pc' := 44) rfl rfl ?_
          refine r_st (pc' := 45) (lv' := [(2, _), (0, _)]) rfl rfl rfl rfl ?_
          have hb92 := rd_225_36 hst.1
          have hb93 := rd_225_37 hst.1
          exact w_lv (sub_c rfl (sub_c rfl sub_n)) rfl (ih1 0 z w ⟨by omega, by omega⟩ hst (by first | exact as0 | exact hlr | (simp only []; exact as0) | (simp only []; exact hlr)) (by first | exact LP_e as1 (by rw [hx]; omega) (by omega) | exact LP_0 (fun k hk q => q (as2 k (by omega))) (by omega) (by omega)) (by first | omega | assumption) (by omega))
        · skip
          refine r_ld (pc' := 31) rfl rfl rfl rfl ?_
          refine r_gr (b := 245) (pc' := 34) rfl rfl sh_225 rfl pp_225_35 ?_
          refine r_ld (pc' := 35) rfl rfl rfl rfl ?_
          refine r_c0 (pc' := 36) rfl rfl ?_
          refine r_zs (pc' := 37) rfl rfl sh_245 rfl (by omega) (by omega) (by omega) hst (inS_s (inS_s (inS_s (inS_s (inS_0 (by omega) (by omega) (by omega) (by omega)))))) (wr_245 ⟨by omega, by omega⟩) (fun z94 hq95 hs96 => ?_)
          have hqz := hq95
          refine r_inc (pc' := 40) (lv' := [(0, _)]) rfl rfl rfl rfl rfl ?_
          refine r_go rfl ?_
          have hb97 := rd_225_36 hst.1
          have hf98 : z94 225 36 = z 225 36 := ((congrFun (congrFun hq95 _) _).trans (mu_ne (by omega)))
          have hb99 := rd_225_37 hst.1
          have hf100 : z94 225 37 = z 225 37 := ((congrFun (congrFun hq95 _) _).trans (mu_ne (by omega)))
          have hF101 : z94 243 = z 243 := ((congrFun hq95 _).trans (mu_fn (by omega)))
          have hF102 : z94 244 = z 244 := ((congrFun hq95 _).trans (mu_fn (by omega)))
          have hb103 := rd_225_38 hz
          have hb104 := rd_225_39 hz
          have hb105 := rd_225_40 hz
          exact w_lv (sub_c rfl (sub_c rfl sub_n)) rfl (ih0 (x2 + 1) z94 w ⟨by omega, by omega⟩ hs96 ((((congrFun (congrFun hq95 _) _).trans (mu_ne (by omega))).trans un_z_225_38)) ((((congrFun (congrFun hq95 _) _).trans (mu_ne (by omega))).trans un_z_225_39)) ((((congrFun (congrFun hq95 _) _).trans (mu_ne (by omega))).trans un_z_225_40)) (by first | exact as0 | exact hlr | (simp only [hF101, hF102, hf98, hf100]; exact as0) | (simp only [hF101, hF102, hf98, hf100]; exact hlr)) (by first | omega | assumption | (simp only [hF101, hF102, hf98, hf100]; assumption)) (by first | (intro j hj; exfalso; omega) | (intro j hj; rw [hqz]; by_cases c : j = x2.toNat; (subst c; exact mu_eq); (rw [mu_ne (by omega)]; exact as2 j (by omega)))) (by omega))
      · intro x2 z w  hx2 hst as0 as1 as2 hM
        refine r_ld (pc' := 46) rfl rfl rfl rfl ?_
        refine r_ld (pc' := 47) rfl rfl rfl rfl ?_
        have hb106 := rd_225_26 hz
        have hf107 : z 225 26 = z0 225 26 := (hst.2.2.1 _ _ (notS_c (by omega) (notS_c (by omega) (notS_c (by omega) (notS_c (by omega) (notS_c (by omega) (notS_c (by omega) (notS_c (by omega) (notS_c (by omega) notS_n)))))))))
        refine r_cVI (pc' := 50) rfl rfl rfl rfl rfl sh_225 (m_161 (d := d + 3)  hst.1 hst.2.1 ) (fun v108 z109 w110 p111 h112 hs113 hE114 => ?_)
        obtain ⟨rfl, rfl, rfl, hE114⟩ := hE114
        refine r_ige (pc' := 53) rfl rfl ⟨by omega, by omega⟩ ⟨by omega, by omega⟩ (fun hc116 => ?_) (fun hc116 => ?_)
        · skip
          have hb117 := rd_225_36 hst.1
          have hb118 := rd_225_37 hst.1
          exact r_ret rfl (po_V hst ⟨rfl, (by have e9 : x2.toNat = (rE z0).toNat := (by omega); rw [e9] at as1; exact as1.2)⟩)
        · skip
          refine r_c0 (pc' := 54) rfl rfl ?_
          refine r_st (pc' := 55) (lv' := [(3, _), (0, _), (2, _)]) rfl rfl rfl rfl ?_
          have hb119 := rd_225_36 hst.1
          have hb120 := rd_225_37 hst.1
          exact w_lv (sub_c rfl (sub_c rfl (sub_c rfl sub_n))) rfl (ih2 x2 0 z w ⟨by omega, by omega⟩ ⟨by omega, by omega⟩ hst (by first | exact as0 | exact hlr | (simp only []; exact as0) | (simp only []; exact hlr)) (by first | exact as1 | exact LP_y as1 hsb2 (by unfold WP; rw [← hx3c, ← hx4]; omega) (by omega) | exact LP_n as1 hsb2 (by unfold WP; rw [← hx3c, ← hx4]; omega) (by omega) (fun k hk => (WP_e (funext fun i => NOMARK) k).trans ((hri.1 k).trans (or_congr_left (by unfold WP; rw [gw k])))) (by omega) (by first | exact Or.inl ⟨by omega, hri.2.1 (by omega)⟩ | exact Or.inr ⟨by omega, hri.2.2 (by omega)⟩)) (by first | omega | assumption) (by first | (rw [hx]; omega) | (have hn9 := hft.1 x2.toNat (by omega); omega)) (by omega))
      · intro x2 x3 z w  hx2 hx3 hst as0 as1 as3 as4 hM
        have hx : (tr (rE z0) (lnR z0 a1.toNat)) x2.toNat = z 243 x2.toNat := by rw [tr_l (by omega), as0.1 x2.toNat (by omega)]
        have hx4 : z 244 x2.toNat = sm (tr (rE z0) (lnR z0 a1.toNat)) x2.toNat := as0.2 x2.toNat (by omega)
        have hx3c : x3 = ((x3.toNat : Nat) : Int) := by omega
        have hlr := LP_r hft.1 (by omega) as1
        refine r_ld (pc' := 56) rfl rfl rfl rfl ?_
        refine r_ld (pc' := 57) rfl rfl rfl rfl ?_
        refine r_gr (b := 243) (pc' := 60) rfl rfl sh_225 rfl pp_225_33 ?_
        refine r_ld (pc' := 61) rfl rfl rfl rfl ?_
        have hb121 := rd_243 hst.1 (i := x2.toNat) (by omega)
        refine r_ia (pc' := 62) rfl rfl sh_243 rfl (by omega) (by omega) rfl ?_
        refine r_ige (pc' := 65) rfl rfl ⟨by omega, by omega⟩ ⟨by omega, by omega⟩ (fun hc122 => ?_) (fun hc122 => ?_)
        · skip
          refine r_inc (pc' := 126) (lv' := [(0, _), (3, _)]) rfl rfl rfl rfl rfl ?_
          refine r_go rfl ?_
          have hb123 := rd_225_36 hst.1
          have hb124 := rd_225_37 hst.1
          exact w_lv (sub_c rfl (sub_c rfl sub_n)) rfl (ih1 (x2 + 1) z w ⟨by omega, by omega⟩ hst (by first | exact as0 | exact hlr | (simp only []; exact as0) | (simp only []; exact hlr)) (by first | exact LP_e as1 (by rw [hx]; omega) (by omega) | exact LP_0 (fun k hk q => q (as2 k (by omega))) (by omega) (by omega)) (by first | omega | assumption) (by omega))
        · skip
          have hsb := sm_b hft.1 (e := x2.toNat) (i := x3) (by omega) (by omega) (by rw [hx]; omega)
          have hsb2 : 0 ≤ sm (tr (rE z0) (lnR z0 a1.toNat)) x2.toNat + ((x3.toNat : Nat) : Int) ∧ sm (tr (rE z0) (lnR z0 a1.toNat)) x2.toNat + ((x3.toNat : Nat) : Int) < sm (tr (rE z0) (lnR z0 a1.toNat)) 18 := by rw [← hx3c]; exact hsb
          refine r_ld (pc' := 66) rfl rfl rfl rfl ?_
          refine r_gr (b := 245) (pc' := 69) rfl rfl sh_225 rfl pp_225_35 ?_
          refine r_ld (pc' := 70) rfl rfl rfl rfl ?_
          refine r_gr (b := 244) (pc' := 73) rfl rfl sh_225 rfl pp_225_34 ?_
          refine r_ld (pc' := 74) rfl rfl rfl rfl ?_
          have hb125 := rd_244 hst.1 (i := x2.toNat) (by omega)
          refine r_ia (pc' := 75) rfl rfl sh_244 rfl (by omega) (by omega) rfl ?_
          refine r_ld (pc' := 76) rfl rfl rfl rfl ?_
          refine r_add (pc' := 77) rfl rfl ?_
          have hb126 := rd_245 hst.1 (i := ((z 244 x2.toNat) + x3).toNat) (by omega)
          refine r_ba (pc' := 78) rfl rfl sh_245 (Or.inr rfl) rfl (by omega) (by omega) rfl ?_
          refine r_zeq (pc' := 81) rfl rfl ⟨by omega, by omega⟩ (fun hc127 => ?_) (fun hc127 => ?_)
          · skip
            refine r_ld (pc' := 85) rfl rfl rfl rfl ?_
            refine r_al (pc' := 86) rfl rfl rfl rfl ?_
            have hb128 := rd_225_36 hst.1
            refine r_gi (pc' := 89) rfl rfl sh_225 rfl rfl ?_
            refine r_c0 (pc' := 90) rfl rfl ?_
            refine r_add (pc' := 91) rfl rfl ?_
            refine w_hxi (fun v129 h130 h131 => ?_)
            refine r_pi (pc' := 94) rfl rfl sh_225 rfl rfl hst (inS_s (inS_s (inS_0 (by omega) (by omega) (by omega) (by omega)))) (wr_225_36 ⟨by omega, by omega⟩) (fun z132 hq133 hs134 => ?_)
            refine r_ld (pc' := 95) rfl rfl rfl rfl ?_
            refine r_al (pc' := 96) rfl rfl rfl rfl ?_
            have hb135 := rd_225_37 hst.1
            refine r_gi (pc' := 99) rfl rfl sh_225 rfl ((congrFun (congrFun hq133 _) _).trans (mu_ne (by omega))) ?_
            refine r_ld (pc' := 100) rfl rfl rfl rfl ?_
            refine r_ld (pc' := 101) rfl rfl rfl rfl ?_
            refine r_ld (pc' := 102) rfl rfl rfl rfl ?_
            have q235 : z132 235 = z0 235 := funext fun i => hs134.2.2.1 _ _ (notS_c (by omega) (notS_c (by omega) (notS_c (by omega) (notS_c (by omega) (notS_c (by omega) (notS_c (by omega) (notS_c (by omega) (notS_c (by omega) (notS_n)))))))))
            have q240 : z132 240 = z0 240 := funext fun i => hs134.2.2.1 _ _ (notS_c (by omega) (notS_c (by omega) (notS_c (by omega) (notS_c (by omega) (notS_c (by omega) (notS_c (by omega) (notS_c (by omega) (notS_c (by omega) (notS_n)))))))))
            have q241 : z132 241 = z0 241 := funext fun i => hs134.2.2.1 _ _ (notS_c (by omega) (notS_c (by omega) (notS_c (by omega) (notS_c (by omega) (notS_c (by omega) (notS_c (by omega) (notS_c (by omega) (notS_c (by omega) (notS_n)))))))))
            have q26 : z132 225 26 = z0 225 26 := hs134.2.2.1 _ _ (notS_c (by omega) (notS_c (by omega) (notS_c (by omega) (notS_c (by omega) (notS_c (by omega) (notS_c (by omega) (notS_c (by omega) (notS_c (by omega) (notS_n)))))))))
            have c243 : z132 243 = z 243 := funext fun i => ((congrFun (congrFun hq133 _) _).trans (mu_ne (by omega)))
            have c244 : z132 244 = z 244 := funext fun i => ((congrFun (congrFun hq133 _) _).trans (mu_ne (by omega)))
            have hr := RL_of q26 q235 hft hsm (fun e he => by rw [c243]; exact as0.1 e he) (fun e he => by rw [c244]; exact as0.2 e he)
            have gw : ∀ k, z132 245 k = z 245 k := fun k => ((congrFun (congrFun hq133 _) _).trans (mu_ne (by omega)))
            have hclv : CLV (z0 225 26) (z0 235) (z0 240) (z0 241) (tr (rE z0) (lnR z0 a1.toNat)) (fun g => WP z132 g.toNat) := by
              have q9 := CLV_P (show WT _ _ _ _ _ from hrw) hft as1 (lpi_cl (show WT _ _ _ _ _ from hrw) hft (by omega) (lpe_cl (show WT _ _ _ _ _ from hrw) hft x2.toNat (by omega)) x3.toNat (by omega))
              intro y vy q k
              exact fun c => q9 y vy (show WP z _ from fun c2 => q ((gw _).trans c2)) k ((gw _).symm.trans c)
            have hb136 := rd_225_26 hz
            have hf137 : z132 225 26 = z0 225 26 := (((congrFun (congrFun hq133 _) _).trans (mu_ne (by omega))).trans (hst.2.2.1 _ _ (notS_c (by omega) (notS_c (by omega) (notS_c (by omega) (notS_c (by omega) (notS_c (by omega) (notS_c (by omega) (notS_c (by omega) (notS_c (by omega) notS_n))))))))))
            have hF138 : z132 235 = z0 235 := (((congrFun hq133 _).trans (mu_fn (by omega))).trans (funext fun _ => hst.2.2.1 _ _ (notS_c (by omega) (notS_c (by omega) (notS_c (by omega) (notS_c (by omega) (notS_c (by omega) (notS_c (by omega) (notS_c (by omega) (notS_c (by omega) notS_n))))))))))
            have hF139 : z132 240 = z0 240 := (((congrFun hq133 _).trans (mu_fn (by omega))).trans (funext fun _ => hst.2.2.1 _ _ (notS_c (by omega) (notS_c (by omega) (notS_c (by omega) (notS_c (by omega) (notS_c (by omega) (notS_c (by omega) (notS_c (by omega) (notS_c (by omega) notS_n))))))))))
            have hF140 : z132 241 = z0 241 := (((congrFun hq133 _).trans (mu_fn (by omega))).trans (funext fun _ => hst.2.2.1 _ _ (notS_c (by omega) (notS_c (by omega) (notS_c (by omega) (notS_c (by omega) (notS_c (by omega) (notS_c (by omega) (notS_c (by omega) (notS_c (by omega) notS_n))))))))))
            refine r_cVI (pc' := 105) rfl rfl rfl rfl rfl sh_225 (m_188f (d := d) x2 x3 hs134.1 hs134.2.1 ⟨by omega, by omega⟩ ⟨by omega, by omega⟩ (by exact RW_f hs134 (notS_c (by omega) (notS_c (by omega) (notS_c (by omega) (notS_c (by omega) (notS_c (by omega) (notS_c (by omega) (notS_c (by omega) (notS_c (by omega) (notS_n))))))))) (fun i => (notS_c (by omega) (notS_c (by omega) (notS_c (by omega) (notS_c (by omega) (notS_c (by omega) (notS_c (by omega) (notS_c (by omega) (notS_c (by omega) (notS_n)))))))))) (fun i => (notS_c (by omega) (notS_c (by omega) (notS_c (by omega) (notS_c (by omega) (notS_c (by omega) (notS_c (by omega) (notS_c (by omega) (notS_c (by omega) (notS_n)))))))))) (fun i => (notS_c (by omega) (notS_c (by omega) (notS_c (by omega) (notS_c (by omega) (notS_c (by omega) (notS_c (by omega) (notS_c (by omega) (notS_c (by omega) (notS_n)))))))))) hrw) (by exact hr.1) (by show x2 < 3 * z132 225 26 / 2; rw [q26]; exact as3) (by rw [c243]; omega) (by rw [q26, q235, q240, q241, hr.2]; exact hclv) (by rw [hr.2, gw, ← hx4]; omega)) (fun v141 z142 w143 p144 h145 hs146 hE147 => ?_)
            have hs148 := st_tr hs134 hs146 (sub_B rfl)
            obtain ⟨rfl, hE147⟩ := hE147
            have hri := hE147.2.2
            rw [q235, q240, q241, hr.2, hx3c] at hri
            refine r_zeq (pc' := 108) rfl rfl ⟨by omega, by omega⟩ (fun hc149 => ?_) (fun hc149 => ?_)
            · skip
              refine r_c0 (pc' := 113) rfl rfl ?_
              refine r_add (pc' := 114) rfl rfl ?_
              refine r_pi (pc' := 117) rfl rfl sh_225 rfl rfl hs148 (inS_s (inS_s (inS_s (inS_0 (by omega) (by omega) (by omega) (by omega))))) (wr_225_37 ⟨by omega, by omega⟩) (fun z150 hq151 hs152 => ?_)
              refine r_inc (pc' := 120) (lv' := [(0, _), (2, _)]) rfl rfl rfl rfl rfl ?_
              refine r_go rfl ?_
              have hf153 : z150 225 36 = v129 := (((congrFun (congrFun hq151 _) _).trans (mu_ne (by omega))).trans ((hs146.2.2.1 _ _ (notS_c (by omega) (notS_c (by omega) (notS_c (by omega) (notS_c (by omega) notS_n))))).trans ((congrFun (congrFun hq133 _) _).trans mu_eq)))
              have hf154 : z150 225 37 = (z 225 37) + 0 := ((congrFun (congrFun hq151 _) _).trans mu_eq)
              have hF155 : z150 243 = z 243 := (((congrFun hq151 _).trans (mu_fn (by omega))).trans ((funext fun _ => hs146.2.2.1 _ _ (notS_c (by omega) (notS_c (by omega) (notS_c (by omega) (notS_c (by omega) notS_n))))).trans ((congrFun hq133 _).trans (mu_fn (by omega)))))
              have hF156 : z150 244 = z 244 := (((congrFun hq151 _).trans (mu_fn (by omega))).trans ((funext fun _ => hs146.2.2.1 _ _ (notS_c (by omega) (notS_c (by omega) (notS_c (by omega) (notS_c (by omega) notS_n))))).trans ((congrFun hq133 _).trans (mu_fn (by omega)))))
              exact w_lv (sub_c rfl (sub_c rfl (sub_c rfl sub_n))) rfl (ih2 x2 (x3 + 1) z150 w143 ⟨by omega, by omega⟩ ⟨by omega, by omega⟩ hs152 (by first | exact as0 | exact hlr | (simp only [hF155, hF156, hf153, hf154]; exact as0) | (simp only [hF155, hF156, hf153, hf154]; exact hlr)) (by first | exact as1 | exact LP_y as1 hsb2 (by unfold WP; rw [← hx3c, ← hx4]; omega) (by omega) | exact LP_n as1 hsb2 (by unfold WP; rw [← hx3c, ← hx4]; omega) (by omega) (fun k hk => (WP_e (funext fun i => ((congrFun (congrFun hq151 _) _).trans (mu_ne (by omega)))) k).trans ((hri.1 k).trans (or_congr_left (by unfold WP; rw [gw k])))) (by omega) (by first | exact Or.inl ⟨by omega, hri.2.1 (by omega)⟩ | exact Or.inr ⟨by omega, hri.2.2 (by omega)⟩)) (by first | omega | assumption | (simp only [hF155, hF156, hf153, hf154]; assumption)) (by first | (rw [hx]; omega) | (have hn9 := hft.1 x2.toNat (by omega); omega)) (by omega))
            · skip
              refine r_c0 (pc' := 109) rfl rfl ?_
              refine r_go rfl ?_
              refine r_add (pc' := 114) rfl rfl ?_
              refine w_hxi (fun v157 h158 h159 => ?_)
              refine r_pi (pc' := 117) rfl rfl sh_225 rfl rfl hs148 (inS_s (inS_s (inS_s (inS_0 (by omega) (by omega) (by omega) (by omega))))) (wr_225_37 ⟨by omega, by omega⟩) (fun z160 hq161 hs162 => ?_)
              refine r_inc (pc' := 120) (lv' := [(0, _), (2, _)]) rfl rfl rfl rfl rfl ?_
              refine r_go rfl ?_
              have hf163 : z160 225 36 = v129 := (((congrFun (congrFun hq161 _) _).trans (mu_ne (by omega))).trans ((hs146.2.2.1 _ _ (notS_c (by omega) (notS_c (by omega) (notS_c (by omega) (notS_c (by omega) notS_n))))).trans ((congrFun (congrFun hq133 _) _).trans mu_eq)))
              have hf164 : z160 225 37 = v157 := ((congrFun (congrFun hq161 _) _).trans mu_eq)
              have hF165 : z160 243 = z 243 := (((congrFun hq161 _).trans (mu_fn (by omega))).trans ((funext fun _ => hs146.2.2.1 _ _ (notS_c (by omega) (notS_c (by omega) (notS_c (by omega) (notS_c (by omega) notS_n))))).trans ((congrFun hq133 _).trans (mu_fn (by omega)))))
              have hF166 : z160 244 = z 244 := (((congrFun hq161 _).trans (mu_fn (by omega))).trans ((funext fun _ => hs146.2.2.1 _ _ (notS_c (by omega) (notS_c (by omega) (notS_c (by omega) (notS_c (by omega) notS_n))))).trans ((congrFun hq133 _).trans (mu_fn (by omega)))))
              exact w_lv (sub_c rfl (sub_c rfl (sub_c rfl sub_n))) rfl (ih2 x2 (x3 + 1) z160 w143 ⟨by omega, by omega⟩ ⟨by omega, by omega⟩ hs162 (by first | exact as0 | exact hlr | (simp only [hF165, hF166, hf163, hf164]; exact as0) | (simp only [hF165, hF166, hf163, hf164]; exact hlr)) (by first | exact as1 | exact LP_y as1 hsb2 (by unfold WP; rw [← hx3c, ← hx4]; omega) (by omega) | exact LP_n as1 hsb2 (by unfold WP; rw [← hx3c, ← hx4]; omega) (by omega) (fun k hk => (WP_e (funext fun i => ((congrFun (congrFun hq161 _) _).trans (mu_ne (by omega)))) k).trans ((hri.1 k).trans (or_congr_left (by unfold WP; rw [gw k])))) (by omega) (by first | exact Or.inl ⟨by omega, hri.2.1 (by omega)⟩ | exact Or.inr ⟨by omega, hri.2.2 (by omega)⟩)) (by first | omega | assumption | (simp only [hF165, hF166, hf163, hf164]; assumption)) (by first | (rw [hx]; omega) | (have hn9 := hft.1 x2.toNat (by omega); omega)) (by omega))
          · skip
            refine r_go rfl ?_
            refine r_inc (pc' := 120) (lv' := [(0, _), (2, _)]) rfl rfl rfl rfl rfl ?_
            refine r_go rfl ?_
            have hb167 := rd_225_36 hst.1
            have hb168 := rd_225_37 hst.1
            exact w_lv (sub_c rfl (sub_c rfl (sub_c rfl sub_n))) rfl (ih2 x2 (x3 + 1) z w ⟨by omega, by omega⟩ ⟨by omega, by omega⟩ hst (by first | exact as0 | exact hlr | (simp only []; exact as0) | (simp only []; exact hlr)) (by first | exact as1 | exact LP_y as1 hsb2 (by unfold WP; rw [← hx3c, ← hx4]; omega) (by omega) | exact LP_n as1 hsb2 (by unfold WP; rw [← hx3c, ← hx4]; omega) (by omega) (fun k hk => (WP_e (funext fun i => NOMARK) k).trans ((hri.1 k).trans (or_congr_left (by unfold WP; rw [gw k])))) (by omega) (by first | exact Or.inl ⟨by omega, hri.2.1 (by omega)⟩ | exact Or.inr ⟨by omega, hri.2.2 (by omega)⟩)) (by first | omega | assumption) (by first | (rw [hx]; omega) | (have hn9 := hft.1 x2.toNat (by omega); omega)) (by omega))
  refine w_m rfl rfl ?_
  refine r_ld (pc' := 1) rfl rfl rfl rfl ?_
  refine r_ld (pc' := 2) rfl rfl rfl rfl ?_
  refine r_cVV (pc' := 5) rfl rfl rfl rfl rfl sh_225 (m_180t (d := d + 2) a1 hst.1 hst.2.1 ⟨by omega, by omega⟩ (by exact hsm)) (fun z170 w171 p172 hs174 hE175 => ?_)
  have hs176 := st_tr hst hs174 (sub_B rfl)
  obtain ⟨rfl, hE175⟩ := hE175
  have hlr := hE175
  refine r_ld (pc' := 6) rfl rfl rfl rfl ?_
  refine r_c0 (pc' := 7) rfl rfl ?_
  refine r_pi (pc' := 10) rfl rfl sh_225 rfl rfl hs176 (inS_s (inS_s (inS_0 (by omega) (by omega) (by omega) (by omega)))) (wr_225_36 ⟨by omega, by omega⟩) (fun z177 hq178 hs179 => ?_)
  refine r_ld (pc' := 11) rfl rfl rfl rfl ?_
  refine r_c0 (pc' := 12) rfl rfl ?_
  refine r_pi (pc' := 15) rfl rfl sh_225 rfl rfl hs179 (inS_s (inS_s (inS_s (inS_0 (by omega) (by omega) (by omega) (by omega))))) (wr_225_37 ⟨by omega, by omega⟩) (fun z180 hq181 hs182 => ?_)
  refine r_c0 (pc' := 16) rfl rfl ?_
  refine r_st (pc' := 17) (lv' := [(2, _), (0, _), (1, _)]) rfl rfl rfl rfl ?_
  have hf183 : z180 225 36 = 0 := (((congrFun (congrFun hq181 _) _).trans (mu_ne (by omega))).trans ((congrFun (congrFun hq178 _) _).trans mu_eq))
  have hf184 : z180 225 37 = 0 := ((congrFun (congrFun hq181 _) _).trans mu_eq)
  have hF185 : z180 243 = z170 243 := (((congrFun hq181 _).trans (mu_fn (by omega))).trans ((congrFun hq178 _).trans (mu_fn (by omega))))
  have hF186 : z180 244 = z170 244 := (((congrFun hq181 _).trans (mu_fn (by omega))).trans ((congrFun hq178 _).trans (mu_fn (by omega))))
  have hb187 := rd_225_38 hz
  have hb188 := rd_225_39 hz
  have hb189 := rd_225_40 hz
  exact w_lv (sub_c rfl (sub_c rfl sub_n)) rfl ((key ((74 * (18000 - 0) + 26644502 : Int).toNat + 1)).1 0 z180 w171 ⟨by omega, by omega⟩ hs182 ((((congrFun (congrFun hq181 _) _).trans (mu_ne (by omega))).trans (((congrFun (congrFun hq178 _) _).trans (mu_ne (by omega))).trans (hs174.2.2.1 _ _ (notS_c (by omega) (notS_c (by omega) notS_n)))))) ((((congrFun (congrFun hq181 _) _).trans (mu_ne (by omega))).trans (((congrFun (congrFun hq178 _) _).trans (mu_ne (by omega))).trans (hs174.2.2.1 _ _ (notS_c (by omega) (notS_c (by omega) notS_n)))))) ((((congrFun (congrFun hq181 _) _).trans (mu_ne (by omega))).trans (((congrFun (congrFun hq178 _) _).trans (mu_ne (by omega))).trans (hs174.2.2.1 _ _ (notS_c (by omega) (notS_c (by omega) notS_n)))))) (by first | exact as0 | exact hlr | (simp only [hF185, hF186, hf183, hf184]; exact as0) | (simp only [hF185, hF186, hf183, hf184]; exact hlr)) (by first | omega | assumption | (simp only [hF185, hF186, hf183, hf184]; assumption)) (by first | (intro j hj; exfalso; omega) | (intro j hj; rw [hqz]; by_cases c : j = x2.toNat; (subst c; exact mu_eq); (rw [mu_ne (by omega)]; exact as2 j (by omega)))) (by omega))
/-- LoopGroundModel isSingle -/
abbrev S_190ft  : mS := [(244, 244, 0, 18), (243, 243, 0, 17), (225, 225, 36, 36), (225, 225, 37, 37), (245, 245, 0, 17999), (225, 225, 38, 38), (225, 225, 39, 39), (225, 225, 40, 40)]
abbrev E_190ft (a1 : Int) (z0 w0 : mZ) (x y tx it mt tt ct : Option Nat) : Int → mZ → mZ → mP → Prop := fun v z w p => p = (pq x y tx it mt tt ct) ∧ 0 ≤ v ∧ v ≤ 1 ∧ ((v = 1 → sm (tr (rE z0) (lnR z0 a1.toNat)) 18 ≤ 18000 ∧ (lpe (z0 235) (z0 240) (z0 241) (tr (rE z0) (lnR z0 a1.toNat)) (rE z0).toNat).2.1 = 1 ∧ (lpe (z0 235) (z0 240) (z0 241) (tr (rE z0) (lnR z0 a1.toNat)) (rE z0).toNat).2.2 = 0) ∧ (v = 0 → ¬ (sm (tr (rE z0) (lnR z0 a1.toNat)) 18 ≤ 18000 ∧ (lpe (z0 235) (z0 240) (z0 241) (tr (rE z0) (lnR z0 a1.toNat)) (rE z0).toNat).2.1 = 1 ∧ (lpe (z0 235) (z0 240) (z0 241) (tr (rE z0) (lnR z0 a1.toNat)) (rE z0).toNat).2.2 = 0)))
theorem m_190ft {d : Nat} {z0 w0 : mZ} {x y tx it mt tt ct : Option Nat} (a1 : Int) (hz : rz z0) (hw : rw_ w0) (ha1 : 0 ≤ a1 ∧ a1 ≤ 7) (hrw : RW z0) (hft : FT (z0 225 26).toNat (vT (z0 235)) (tr (rE z0) (lnR z0 a1.toNat))) : wc (d + 6) 190 [.ref 225, .int (Int32.ofInt a1)] (mk z0 w0 (pq x y tx it mt tt ct)) (poI S_190ft z0 w0 (E_190ft a1 z0 w0 x y tx it mt tt ct)) := by
  have hst : st_ S_190ft z0 w0 z0 w0 := st_rf hz hw
  have hz31 := rd_225_26 hz
  have hm26 := rd_225_26 hz
  have hrE : rE z0 = 3 * z0 225 26 / 2 := rfl
  refine w_m rfl rfl ?_
  refine r_ld (pc' := 1) rfl rfl rfl rfl ?_
  refine r_ld (pc' := 2) rfl rfl rfl rfl ?_
  refine r_cVL (pc' := 5) rfl rfl rfl rfl rfl sh_225 (m_181t (d := d + 3) a1 hst.1 hst.2.1 ⟨by omega, by omega⟩) (fun v32 z33 w34 p35 h36 hs37 hE38 => ?_)
  obtain ⟨rfl, rfl, rfl, hE38⟩ := hE38
  have hsv := hE38.2.2
  refine r_cSI (pc' := 8) rfl rfl rfl rfl rfl (m_189v (d := d + 4) v32 hst.1 hst.2.1 ⟨by omega, by omega⟩) (fun v40 z41 w42 p43 h44 hs45 hE46 => ?_)
  obtain ⟨rfl, rfl, rfl, hE46⟩ := hE46
  have hiv := hE46.2.2
  refine r_zne (pc' := 11) rfl rfl ⟨by omega, by omega⟩ (fun hc48 => ?_) (fun hc48 => ?_)
  · skip
    refine r_ld (pc' := 14) rfl rfl rfl rfl ?_
    refine r_ld (pc' := 15) rfl rfl rfl rfl ?_
    have hb49 := rd_225_26 hz
    refine r_cVV (pc' := 18) rfl rfl rfl rfl rfl sh_225 (m_187ft (d := d) a1 hst.1 hst.2.1 ⟨by omega, by omega⟩ (by exact hrw) (by exact hft) (by rw [← hsv]; exact hiv.1 (by omega))) (fun z51 w52 p53 hs55 hE56 => ?_)
    have hs57 := st_tr hst hs55 (sub_B rfl)
    obtain ⟨rfl, hE56⟩ := hE56
    have hcn := hE56
    refine r_ld (pc' := 19) rfl rfl rfl rfl ?_
    have hb58 := rd_225_36 hs57.1
    refine r_gi (pc' := 22) rfl rfl sh_225 rfl rfl ?_
    refine r_c0 (pc' := 23) rfl rfl ?_
    refine r_ine (pc' := 26) rfl rfl ⟨by omega, by omega⟩ ⟨by decide, by decide⟩ (fun hc59 => ?_) (fun hc59 => ?_)
    · skip
      refine r_c0 (pc' := 38) rfl rfl ?_
      exact r_rz rfl (by omega) (po_I hs57 ⟨by decide, by decide⟩ ⟨rfl, by omega, by omega, (by rw [hsv] at hiv; first | exact ⟨fun h => by exfalso; omega, fun h q => by have := hiv.2 (by omega); omega⟩ | (rw [← hcn.1, ← hcn.2]; exact ⟨fun h => ⟨hiv.1 (by omega), by omega, by omega⟩, fun h q => by omega⟩))⟩)
    · skip
      refine r_ld (pc' := 27) rfl rfl rfl rfl ?_
      have hb60 := rd_225_37 hs57.1
      refine r_gi (pc' := 30) rfl rfl sh_225 rfl rfl ?_
      refine r_zne (pc' := 33) rfl rfl ⟨by omega, by omega⟩ (fun hc61 => ?_) (fun hc61 => ?_)
      · skip
        refine r_c0 (pc' := 38) rfl rfl ?_
        exact r_rz rfl (by omega) (po_I hs57 ⟨by decide, by decide⟩ ⟨rfl, by omega, by omega, (by rw [hsv] at hiv; first | exact ⟨fun h => by exfalso; omega, fun h q => by have := hiv.2 (by omega); omega⟩ | (rw [← hcn.1, ← hcn.2]; exact ⟨fun h => ⟨hiv.1 (by omega), by omega, by omega⟩, fun h q => by omega⟩))⟩)
      · skip
        refine r_c0 (pc' := 34) rfl rfl ?_
        refine r_go rfl ?_
        exact r_rz rfl (by omega) (po_I hs57 ⟨by decide, by decide⟩ ⟨rfl, by omega, by omega, (by rw [hsv] at hiv; first | exact ⟨fun h => by exfalso; omega, fun h q => by have := hiv.2 (by omega); omega⟩ | (rw [← hcn.1, ← hcn.2]; exact ⟨fun h => ⟨hiv.1 (by omega), by omega, by omega⟩, fun h q => by omega⟩))⟩)
  · skip
    refine r_c0 (pc' := 12) rfl rfl ?_
    exact r_rz rfl (by omega) (po_I hst ⟨by decide, by decide⟩ ⟨rfl, by omega, by omega, (by rw [hsv] at hiv; first | exact ⟨fun h => by exfalso; omega, fun h q => by have := hiv.2 (by omega); omega⟩ | (rw [← hcn.1, ← hcn.2]; exact ⟨fun h => ⟨hiv.1 (by omega), by omega, by omega⟩, fun h q => by omega⟩))⟩)
end
section
/-! counting loops: all that is known of one call, together -/
abbrev S_93g  : mS := [(4, 4, 0, 0), (4, 4, 1, 1), (5, 5, 0, 281), (4, 4, 9, 9), (4, 4, 10, 10), (4, 4, 11, 11), (4, 4, 12, 12), (4, 4, 13, 13)]
abbrev E_93g (t : Nat) (z0 w0 : mZ) (x y tx it mt ct : Option Nat) : mZ → mZ → mP → Prop := fun z w p => p = (pq x y tx it mt (some t) ct) ∧ ((z 4 0 = (lpe (z0 (t + 1)) (z0 (t + 2)) (z0 (t + 5)) (z0 7) (z0 t 1).toNat).2.1 ∧ z 4 1 = (lpe (z0 (t + 1)) (z0 (t + 2)) (z0 (t + 5)) (z0 7) (z0 t 1).toNat).2.2) ∧ (z 4 0 = 1 → CN (z0 t 0).toNat (vT (z0 (t + 1))) (oF (z0 (t + 1)) (z0 (t + 5))) (z0 7) ∧ ∃ e : Nat, (e : Int) < z0 t 1 ∧ 0 < z0 7 e))
theorem m_93g {d : Nat} {z0 w0 : mZ} {x y tx it mt ct : Option Nat} (t : Nat) (hz : rz z0) (hw : rw_ w0) (ht : isT t) (hwt : WTt z0 t) (htl : TL z0 t) : wc (d + 4) 93 [.ref 4] (mk z0 w0 (pq x y tx it mt (some t) ct)) (poV S_93g z0 w0 (E_93g t z0 w0 x y tx it mt ct)) := by
  refine wc_mono (wc_2V (X := fun z _ _ => z 4 0 = 1 → CN (z0 t 0).toNat (vT (z0 (t + 1))) (oF (z0 (t + 1)) (z0 (t + 5))) (z0 7) ∧ ∃ e : Nat, (e : Int) < z0 t 1 ∧ 0 < z0 7 e) (m_93f t hz hw ht hwt htl) (m_93 t hz hw ht hwt htl) ?_) ?_
  · intro z w p z' w' p' r1 r2 e h q
    have a0 : z 4 0 = z' 4 0 := mk_fo e sh_4 rfl (by have q := rd_4_0 r1; exact ⟨by omega, by omega⟩) (by have q := rd_4_0 r2; exact ⟨by omega, by omega⟩)
    exact h.2 (by rw [← a0]; exact q)
  · rintro R ⟨z, w, p, e, hs, hE, hX⟩
    exact ⟨z, w, p, e, hs, hE.1, hE.2, hX⟩
abbrev S_190gt  : mS := [(244, 244, 0, 18), (243, 243, 0, 17), (225, 225, 36, 36), (225, 225, 37, 37), (245, 245, 0, 17999), (225, 225, 38, 38), (225, 225, 39, 39), (225, 225, 40, 40)]
abbrev E_190gt (a1 : Int) (z0 w0 : mZ) (x y tx it mt tt ct : Option Nat) : Int → mZ → mZ → mP → Prop := fun v z w p => p = (pq x y tx it mt tt ct) ∧ 0 ≤ v ∧ v ≤ 1 ∧ (((v = 1 → sm (tr (rE z0) (lnR z0 a1.toNat)) 18 ≤ 18000 ∧ (lpe (z0 235) (z0 240) (z0 241) (tr (rE z0) (lnR z0 a1.toNat)) (rE z0).toNat).2.1 = 1 ∧ (lpe (z0 235) (z0 240) (z0 241) (tr (rE z0) (lnR z0 a1.toNat)) (rE z0).toNat).2.2 = 0) ∧ (v = 0 → ¬ (sm (tr (rE z0) (lnR z0 a1.toNat)) 18 ≤ 18000 ∧ (lpe (z0 235) (z0 240) (z0 241) (tr (rE z0) (lnR z0 a1.toNat)) (rE z0).toNat).2.1 = 1 ∧ (lpe (z0 235) (z0 240) (z0 241) (tr (rE z0) (lnR z0 a1.toNat)) (rE z0).toNat).2.2 = 0))) ∧ ((v = 1 → CN (z0 225 26).toNat (vT (z0 235)) (oF (z0 235) (z0 241)) (tr (rE z0) (lnR z0 a1.toNat)) ∧ ∃ e : Nat, (e : Int) < rE z0 ∧ 0 < (tr (rE z0) (lnR z0 a1.toNat)) e)))
theorem m_190gt {d : Nat} {z0 w0 : mZ} {x y tx it mt tt ct : Option Nat} (a1 : Int) (hz : rz z0) (hw : rw_ w0) (ha1 : 0 ≤ a1 ∧ a1 ≤ 7) (hrw : RW z0) (hft : FT (z0 225 26).toNat (vT (z0 235)) (tr (rE z0) (lnR z0 a1.toNat))) : wc (d + 6) 190 [.ref 225, .int (Int32.ofInt a1)] (mk z0 w0 (pq x y tx it mt tt ct)) (poI S_190gt z0 w0 (E_190gt a1 z0 w0 x y tx it mt tt ct)) := by
  refine wc_mono (wc_2I (X := fun v _ _ _ => v = 1 → CN (z0 225 26).toNat (vT (z0 235)) (oF (z0 235) (z0 241)) (tr (rE z0) (lnR z0 a1.toNat)) ∧ ∃ e : Nat, (e : Int) < rE z0 ∧ 0 < (tr (rE z0) (lnR z0 a1.toNat)) e) (m_190ft a1 hz hw ha1 hrw hft) (m_190t a1 hz hw ha1 hrw hft) ?_) ?_
  · intro v z w p z' w' p' r1 r2 e h
    exact h.2.2.2
  · rintro R ⟨v, z, w, p, e, hv, hs, hE, hX⟩
    exact ⟨v, z, w, p, e, hv, hs, hE.1, hE.2.1, hE.2.2.1, hE.2.2.2, hX⟩
end
section
/-! rings: labels of corners; a flip keeps whether a line is the ring of some labels -/
def LAB (m : Nat) (T : Nat → Nat) (L : Nat → Int) : Prop := ∀ s r, s < 3 * m → r < 3 * m → s ≠ r → T s = T r → L r = L (ah s) ∧ L (ah r) = L s
def RNG (m : Nat) (T : Nat → Nat) (n : Nat → Int) : Prop := ∃ L : Nat → Int, (∀ s, L s = 0 ∨ L s = 1) ∧ LAB m T L ∧ ∀ s, s < 3 * m → n (T s) = L (ah s) + L s
section
variable {m : Nat} {T T' : Nat → Nat} {e x y z w s1 s2 r1 r2 : Nat}
theorem FLP.lbl (h : FLP m T T' e x y z w s1 s2 r1 r2) (L' : Nat → Int) : ∃ L : Nat → Int, L s1 = L' (bh r2) ∧ L (bh s1) = L' r1 ∧ L (ah s1) = L' (bh r1) ∧ L s2 = L' (bh r1) ∧ L (bh s2) = L' r2 ∧ L (ah s2) = L' (bh r2) ∧ ∀ s, s / 3 ≠ s1 / 3 → s / 3 ≠ s2 / 3 → L s = L' s := by
  have a1 := ah_ne s1; have a2 := bh_ne s1; have a3 := ab_ne s1
  have b1 := ah_ne s2; have b2 := bh_ne s2; have b3 := ab_ne s2
  have c1 := ah_div s1; have c2 := bh_div s1; have c3 := ah_div s2; have c4 := bh_div s2
  have ne := h.ne
  refine ⟨fun t => if t = s1 then L' (bh r2) else if t = bh s1 then L' r1 else if t = ah s1 then L' (bh r1) else if t = s2 then L' (bh r1) else if t = bh s2 then L' r2 else if t = ah s2 then L' (bh r2) else L' t, ?_, ?_, ?_, ?_, ?_, ?_, ?_⟩
  · show (if _ then _ else _) = _; rw [if_pos rfl]
  · show (if _ then _ else _) = _; rw [if_neg (by omega), if_pos rfl]
  · show (if _ then _ else _) = _; rw [if_neg (by omega), if_neg (by omega), if_pos rfl]
  · show (if _ then _ else _) = _; rw [if_neg (by omega), if_neg (by omega), if_neg (by omega), if_pos rfl]
  · show (if _ then _ else _) = _; rw [if_neg (by omega), if_neg (by omega), if_neg (by omega), if_neg (by omega), if_pos rfl]
  · show (if _ then _ else _) = _; rw [if_neg (by omega), if_neg (by omega), if_neg (by omega), if_neg (by omega), if_neg (by omega), if_pos rfl]
  · intro s d1 d2
    show (if _ then _ else _) = _
    rw [if_neg (by omega), if_neg (by omega), if_neg (by omega), if_neg (by omega), if_neg (by omega), if_neg (by omega)]
theorem FLP.rng (h : FLP m T T' e x y z w s1 s2 r1 r2) {n : Nat → Int} (g : RNG m T' (fl e x y z w n)) : RNG m T n := by
  obtain ⟨L', l01, lab, num⟩ := g
  obtain ⟨L, k1, k2, k3, k4, k5, k6, k7⟩ := h.lbl L'
  obtain ⟨g1, g2, g3, g4, g5, g6, g7⟩ := h.sgs
  have q1 := h.q1; have q2 := h.q2; have ne := h.ne
  have rne : r1 ≠ r2 := by omega
  obtain ⟨p1, p2⟩ := lab r1 r2 h.L1 h.L2 rne (h.f1.trans h.f2.symm)
  have nonE : ∀ t, t < 3 * m → T t ≠ e → ∃ t', t' < 3 * m ∧ sg s1 s2 r1 r2 t' = t ∧ L t = L' t' ∧ L (ah t) = L' (ah t') := by
    intro t ht hne
    by_cases d1 : t / 3 = s1 / 3
    · rcases sl_eq d1 with rfl | rfl | rfl
      · exact absurd h.e1 hne
      · exact ⟨ah r2, ah_lt h.L2, g6, by rw [k2, p2], by rw [ah_bh, k1, ah_ah]⟩
      · exact ⟨bh r1, bh_lt h.L1, g2, k3, by rw [ah_ah, k2, ah_bh]⟩
    · by_cases d2 : t / 3 = s2 / 3
      · rcases sl_eq d2 with rfl | rfl | rfl
        · exact absurd h.e2 hne
        · exact ⟨ah r1, ah_lt h.L1, g3, by rw [k5, p1], by rw [ah_bh, k4, ah_ah]⟩
        · exact ⟨bh r2, bh_lt h.L2, g5, k6, by rw [ah_ah, k5, ah_bh]⟩
      · have := ah_div t
        exact ⟨t, ht, g7 t d1 d2, k7 t d1 d2, k7 (ah t) (by omega) (by omega)⟩
  refine ⟨L, ?_, ?_, ?_⟩
  · intro s
    by_cases d1 : s / 3 = s1 / 3
    · rcases sl_eq d1 with rfl | rfl | rfl
      · rw [k1]; exact l01 _
      · rw [k2]; exact l01 _
      · rw [k3]; exact l01 _
    · by_cases d2 : s / 3 = s2 / 3
      · rcases sl_eq d2 with rfl | rfl | rfl
        · rw [k4]; exact l01 _
        · rw [k5]; exact l01 _
        · rw [k6]; exact l01 _
      · rw [k7 s d1 d2]; exact l01 _
  · intro s r hs hr hsr q
    by_cases c : T s = e
    · have cr : T r = e := by rw [← q]; exact c
      rcases h.eo s hs c with rfl | rfl <;> rcases h.eo r hr cr with rfl | rfl
      · exact absurd rfl hsr
      · exact ⟨k4.trans k3.symm, k6.trans k1.symm⟩
      · exact ⟨k1.trans k6.symm, k3.trans k4.symm⟩
      · exact absurd rfl hsr
    · obtain ⟨s', a1, a2, a3, a4⟩ := nonE s hs c
      obtain ⟨r', b1, b2, b3, b4⟩ := nonE r hr (by rw [← q]; exact c)
      have hne : s' ≠ r' := fun k => hsr (by rw [← a2, ← b2, k])
      obtain ⟨o1, o2⟩ := lab s' r' a1 b1 hne (by rw [h.sgT s', h.sgT r', a2, b2]; exact q)
      exact ⟨by rw [b3, a4]; exact o1, by rw [b4, a3]; exact o2⟩
  · intro s hs
    by_cases c : T s = e
    · have ne1 := num r1 h.L1
      have nx := num (ah r2) (ah_lt h.L2)
      have nz := num (ah r1) (ah_lt h.L1)
      have ny := num (bh r1) (bh_lt h.L1)
      have nw := num (bh r2) (bh_lt h.L2)
      rw [h.f1, fl_e] at ne1
      rw [h.gx, fl_ne h.nx, ah_ah] at nx
      rw [h.gz, fl_ne h.nz, ah_ah] at nz
      rw [h.gy, fl_ne h.ny, ah_bh] at ny
      rw [h.gw, fl_ne h.nw, ah_bh] at nw
      rw [c]
      rcases h.eo s hs c with rfl | rfl
      · rw [k3, k1]; omega
      · rw [k6, k4]; omega
    · obtain ⟨s', a1, a2, a3, a4⟩ := nonE s hs c
      have k := num s' a1
      rw [h.sgT s', a2, fl_ne c] at k
      rw [a3, a4]; exact k
end
/-- numbers of one edge each: a ring where two pieces lie unlike round it -/
theorem rng_bad {m : Nat} {T : Nat → Nat} {n : Nat → Int} (we : WE m T) {u v : Nat} (hu : u < 3 * m) (hv : v < 3 * m) (uv : u / 3 ≠ v / 3) (q1 : T (bh v) = T (ah u)) (q2 : T (ah v) = T (bh u)) (ef : T (ah u) ≠ T (bh u)) (ne : n (T (ah u)) = 1) (nf : n (T (bh u)) = 1) (no : ∀ s, s < 3 * m → T s ≠ T (ah u) → T s ≠ T (bh u) → n (T s) = 0) : RNG m T n := by
  have a1 := ah_ne u; have a2 := bh_ne u; have a3 := ab_ne u
  have b1 := ah_ne v; have b2 := bh_ne v; have b3 := ab_ne v
  have c1 := ah_div u; have c2 := bh_div u; have c3 := ah_div v; have c4 := bh_div v
  have se : ∀ s, s < 3 * m → T s = T (ah u) → s = ah u ∨ s = bh v := by
    intro s hs q
    obtain ⟨p, _, _, _, po⟩ := we (ah u) (ah_lt hu)
    have := po (bh v) (bh_lt hv) q1
    have := po s hs q
    omega
  have sf : ∀ s, s < 3 * m → T s = T (bh u) → s = bh u ∨ s = ah v := by
    intro s hs q
    obtain ⟨p, _, _, _, po⟩ := we (bh u) (bh_lt hu)
    have := po (ah v) (ah_lt hv) q2
    have := po s hs q
    omega
  obtain ⟨L, o01, l1, l2, l0⟩ : ∃ L : Nat → Int, (∀ s, L s = 0 ∨ L s = 1) ∧ L (bh u) = 1 ∧ L (bh v) = 1 ∧ ∀ s, s ≠ bh u → s ≠ bh v → L s = 0 := by
    refine ⟨fun s => if s = bh u ∨ s = bh v then 1 else 0, ?_, ?_, ?_, ?_⟩
    · intro s
      show (if _ then _ else _) = _ ∨ (if _ then _ else _) = _
      by_cases c : s = bh u ∨ s = bh v
      · rw [if_pos c]; exact Or.inr rfl
      · rw [if_neg c]; exact Or.inl rfl
    · show (if _ then _ else _) = _; rw [if_pos (Or.inl rfl)]
    · show (if _ then _ else _) = _; rw [if_pos (Or.inr rfl)]
    · intro s h1 h2
      show (if _ then _ else _) = _
      rw [if_neg (fun q => q.elim h1 h2)]
  have zu := l0 u (by omega) (by omega)
  have zau := l0 (ah u) (by omega) (by omega)
  have zv := l0 v (by omega) (by omega)
  have zav := l0 (ah v) (by omega) (by omega)
  have oth : ∀ s, T s ≠ T (ah u) → T s ≠ T (bh u) → L s = 0 ∧ L (ah s) = 0 := by
    intro s h1 h2
    refine ⟨l0 s (fun q => h2 (by rw [q])) (fun q => h1 (by rw [q]; exact q1)), l0 (ah s) (fun q => h1 ?_) (fun q => h2 ?_)⟩
    · rw [← bh_ah s, q, bh_bh]
    · rw [← bh_ah s, q, bh_bh]; exact q2
  refine ⟨L, o01, ?_, ?_⟩
  · intro s r hs hr hsr q
    by_cases c : T s = T (ah u)
    · rcases se s hs c with rfl | rfl <;> rcases se r hr (q.symm.trans c) with rfl | rfl
      · exact absurd rfl hsr
      · exact ⟨by rw [ah_ah, l1, l2], by rw [ah_bh, zau, zv]⟩
      · exact ⟨by rw [ah_bh, zau, zv], by rw [ah_ah, l1, l2]⟩
      · exact absurd rfl hsr
    · by_cases d : T s = T (bh u)
      · rcases sf s hs d with rfl | rfl <;> rcases sf r hr (q.symm.trans d) with rfl | rfl
        · exact absurd rfl hsr
        · exact ⟨by rw [ah_bh, zav, zu], by rw [ah_ah, l1, l2]⟩
        · exact ⟨by rw [ah_ah, l1, l2], by rw [ah_bh, zav, zu]⟩
        · exact absurd rfl hsr
      · obtain ⟨x1, x2⟩ := oth s c d
        obtain ⟨y1, y2⟩ := oth r (fun k => c (q.trans k)) (fun k => d (q.trans k))
        exact ⟨by rw [y1, x2], by rw [y2, x1]⟩
  · intro s hs
    by_cases c : T s = T (ah u)
    · rw [c, ne]
      rcases se s hs c with rfl | rfl
      · rw [ah_ah]; omega
      · rw [ah_bh]; omega
    · by_cases d : T s = T (bh u)
      · rw [d, nf]
        rcases sf s hs d with rfl | rfl
        · rw [ah_bh]; omega
        · rw [ah_ah]; omega
      · obtain ⟨x1, x2⟩ := oth s c d
        have a := no s hs c d
        omega
/-! a ring is a ring when gone along -/
section
variable {m E : Int} {T o fs n : Nat → Int} {L : Nat → Int}
def PAl (m : Int) (L : Nat → Int) (u : Nat × Int) : Prop := (u.1 : Int) < 3 * m ∧ u.2 = 0 ∧ L (ah u.1) = 1
def PBl (m : Int) (L : Nat → Int) (u : Nat × Int) : Prop := (u.1 : Int) < 3 * m ∧ u.2 = L (ah u.1) ∧ L u.1 = 1
theorem rl_n (num : ∀ s, s < 3 * m.toNat → n (vT T s) = L (ah s) + L s) {s : Nat} (hs : (s : Int) < 3 * m) : n (vT T s) = L (ah s) + L s ∧ n (vT T (ah s)) = L (bh s) + L (ah s) ∧ n (vT T (bh s)) = L s + L (bh s) := by
  have h1 := num s (by omega)
  have h2 := num (ah s) (ah_lt (by omega))
  have h3 := num (bh s) (bh_lt (by omega))
  rw [ah_ah] at h2
  rw [ah_bh] at h3
  exact ⟨h1, h2, h3⟩
theorem rl_h (l01 : ∀ s, L s = 0 ∨ L s = 1) (num : ∀ s, s < 3 * m.toNat → n (vT T s) = L (ah s) + L s) {u : Nat × Int} (hs : (u.1 : Int) < 3 * m) : hcx T n u ↔ u.2 < L (ah u.1) := by
  obtain ⟨h1, h2, h3⟩ := rl_n num hs
  unfold hcx
  rw [h1, h2, h3]
  have := l01 (ah u.1); have := l01 u.1; have := l01 (bh u.1)
  constructor <;> intro q <;> omega
theorem rl_o (h : WT m E T o fs) (lab : LAB m.toNat (vT T) L) {s : Nat} (hs : (s : Int) < 3 * m) : (((o s).toNat : Nat) : Int) < 3 * m ∧ L (o s).toNat = L (ah s) ∧ L (ah (o s).toNat) = L s := by
  have a := h.oL s hs
  have b := h.on s hs
  have c := h.oT s hs
  have l := lab s (o s).toNat (by omega) (by omega) (by omega) (by show (T s).toNat = (T (o s).toNat).toNat; rw [c])
  exact ⟨by omega, l.1, l.2⟩
theorem rl_A (h : WT m E T o fs) (l01 : ∀ s, L s = 0 ∨ L s = 1) (lab : LAB m.toNat (vT T) L) (num : ∀ s, s < 3 * m.toNat → n (vT T s) = L (ah s) + L s) {u : Nat × Int} (a : PAl m L u) : PAl m L (vv T o n (gg T n u)) ∧ hcx T n u := by
  obtain ⟨a1, a2, a3⟩ := a
  have hc : hcx T n u := (rl_h l01 num a1).mpr (by rw [a2, a3]; decide)
  have hg : gg T n u = (ah u.1, n (vT T (ah u.1)) - 1 - u.2) := if_pos hc
  have al : ((ah u.1 : Nat) : Int) < 3 * m := by have := ah_lt (m := m.toNat) (s := u.1) (by omega); omega
  obtain ⟨o1, o2, o3⟩ := rl_o h lab al
  refine ⟨?_, hc⟩
  rw [hg]
  exact ⟨o1, by show n (vT T (ah u.1)) - 1 - (n (vT T (ah u.1)) - 1 - u.2) = 0; omega, o3.trans a3⟩
theorem rl_B (h : WT m E T o fs) (l01 : ∀ s, L s = 0 ∨ L s = 1) (lab : LAB m.toNat (vT T) L) (num : ∀ s, s < 3 * m.toNat → n (vT T s) = L (ah s) + L s) {u : Nat × Int} (a : PBl m L u) : PBl m L (vv T o n (gg T n u)) ∧ ¬ hcx T n u := by
  obtain ⟨a1, a2, a3⟩ := a
  have hc : ¬ hcx T n u := fun q => by have := (rl_h l01 num a1).mp q; omega
  have hg : gg T n u = (bh u.1, n (vT T u.1) - 1 - u.2) := if_neg hc
  have bl : ((bh u.1 : Nat) : Int) < 3 * m := by have := bh_lt (m := m.toNat) (s := u.1) (by omega); omega
  obtain ⟨o1, o2, o3⟩ := rl_o h lab bl
  obtain ⟨n1, n2, n3⟩ := rl_n num a1
  refine ⟨?_, hc⟩
  rw [hg]
  refine ⟨o1, ?_, ?_⟩
  · show n (vT T (bh u.1)) - 1 - (n (vT T u.1) - 1 - u.2) = L (ah (o (bh u.1)).toNat)
    rw [o3, n3, n1, a2, a3]; omega
  · show L (o (bh u.1)).toNat = 1
    rw [o2, ah_bh]; exact a3
theorem rng_RG (h : WT m E T o fs) (g : RNG m.toNat (vT T) n) {x : Nat × Int} (v : vd m T n x) : RGx T o n x := by
  obtain ⟨L, l01, lab, num⟩ := g
  have v0 := (vv_v h v).1
  have ab : PAl m L (vv T o n x) ∨ PBl m L (vv T o n x) := by
    obtain ⟨n1, n2, n3⟩ := rl_n num v0.1
    obtain ⟨w1, w2, w3⟩ := v0
    rw [n1] at w3
    have k1 := l01 (ah (vv T o n x).1); have k2 := l01 (vv T o n x).1
    by_cases c : (vv T o n x).2 < L (ah (vv T o n x).1)
    · exact Or.inl ⟨w1, by omega, by omega⟩
    · exact Or.inr ⟨w1, by omega, by omega⟩
  unfold RGx
  rcases ab with a | b
  · have all : ∀ k, PAl m L (vv T o n (tk T o n x k)) := by
      intro k
      induction k with
      | zero => exact a
      | succ k ih => exact (rl_A h l01 lab num ih).1
    rintro ⟨_, k, q⟩
    exact q (rl_A h l01 lab num (all k)).2
  · have all : ∀ k, PBl m L (vv T o n (tk T o n x k)) := by
      intro k
      induction k with
      | zero => exact b
      | succ k ih => exact (rl_B h l01 lab num ih).1
    rintro ⟨⟨k, q⟩, _⟩
    exact (rl_B h l01 lab num (all k)).2 q
theorem lpi_r (h : WT m E T o fs) (r : ∀ x, vd m T n x → RGx T o n x) {e : Nat} (he : (e : Int) < E) {s : LSt} (c : s.2.1 = s.2.2) : ∀ i : Nat, (i : Int) ≤ n e → (lpi T o fs n e i s).2.1 = (lpi T o fs n e i s).2.2
  | 0, _ => c
  | i + 1, hi => by
    have k := lpi_r h r he c i (by omega)
    by_cases q : (lpi T o fs n e i s).1 (sm n e + i)
    · rw [lpi_y q]; exact k
    · rw [lpi_n q]
      show (lpi T o fs n e i s).2.1 + 1 = (lpi T o fs n e i s).2.2 + ifp (RGx T o n ((fs e).toNat, (i : Int))) 1 0
      rw [ifp_t (r _ (vd_st h he (by omega) (by omega))), k]
theorem lpe_r (h : WT m E T o fs) (f : FT m.toNat (vT T) n) (r : ∀ x, vd m T n x → RGx T o n x) : ∀ e : Nat, (e : Int) ≤ E → (lpe T o fs n e).2.1 = (lpe T o fs n e).2.2
  | 0, _ => rfl
  | e + 1, he => by
    have m1 := h.hm
    have m2 := h.hE
    have n0 := f.1 e (by omega)
    exact lpi_r h r (by omega) (lpe_r h f r e (by omega)) (n e).toNat (by omega)
/-- one loop, no ring: not the ring of labels -/
theorem sg_nr (h : WT m E T o fs) (f : FT m.toNat (vT T) n) (h1 : (lpe T o fs n E.toNat).2.1 = 1) (h2 : (lpe T o fs n E.toNat).2.2 = 0) : ¬ RNG m.toNat (vT T) n := by
  intro g
  have m0 := h.m0
  have m2 := h.hE
  have := lpe_r h f (fun x v => rng_RG h g v) E.toNat (by omega)
  omega
end
end

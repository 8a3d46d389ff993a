/-! methods, printed by wip/tools/vcg.py -/
/-- Shortener shorten -/
abbrev S_54x (rk : Nat) : mS := [(11, 11, 6, 6), (11, 11, 7, 7), (11, 11, 8, 8), (11, 11, 9, 9), (11, 11, 10, 10), (18 + 2 * rk, 18 + 2 * rk, 0, 1781), (17 + 2 * rk, 17 + 2 * rk, 1, 1), (15, 15, 0, 17), (12, 12, 0, 35), (13, 13, 0, 17), (14, 14, 0, 17), (17 + 2 * rk, 17 + 2 * rk, 0, 0), (17 + 2 * rk, 17 + 2 * rk, 2, 2), (17 + 2 * rk, 17 + 2 * rk, 5, 5), (17 + 2 * rk, 17 + 2 * rk, 4, 4), (17 + 2 * rk, 17 + 2 * rk, 3, 3)]
abbrev E_54x (t : Nat) (rk : Nat) (z0 w0 : mZ) (x y tx it mt tt ct : Option Nat) : mZ → mZ → mP → Prop := fun z w p => p = (pq x y tx it mt tt ct) ∧ (GRt z0 z t rk ∧ RDX (z0 t 0) (z0 t 1) (vT (z0 12)) (w0 15) (z (17 + 2 * rk) 0) (rdc z rk))
set_option maxHeartbeats 8000000 in
theorem m_54x {d : Nat} {z0 w0 : mZ} {x y tx it mt tt ct : Option Nat} (t : Nat) (rk : Nat) (hz : rz z0) (hw : rw_ w0) (hrk : rk < 8) (ht : isT t) (hsl : z0 11 4 = 3 * z0 t 0 ∧ z0 11 5 = z0 t 1) (hsh : SHI (z0 t 0) (z0 t 1) (z0 (t + 1)) (z0 12) (w0 15) (cfR (z0 (18 + 2 * rk))) 0) (hsd : SD (z0 t 0) (z0 t 1) (z0 12) (z0 13) (z0 14)) (hrc : z0 (17 + 2 * rk) 1 = 0) (hnr : ¬ RNG (z0 t 0).toNat (vT (z0 12)) (w0 15)) : wc (d + 4) 54 [.ref 11, .ref (17 + 2 * rk)] (mk z0 w0 (pq x y tx it mt tt ct)) (poV (S_54x rk) z0 w0 (E_54x t rk z0 w0 x y tx it mt tt ct)) := by
  have hst : st_ (S_54x rk) z0 w0 z0 w0 := st_rf hz hw
  have htb : 159 ≤ t ∧ t ≤ 192 := by have := ht; unfold isT at this; omega
  have hz109 := rd_11_4 hz
  have hz110 := rd_11_5 hz
  have hz111 := rd_T_0 ht hz
  have hz112 := rd_T_1 ht hz
  have hzt0 := rd_T_0 ht hz
  have hzt1 := rd_T_1 ht hz
  have key : ∀ N : Nat, (∀ (x2 : Int) (z w : mZ), 0 ≤ x2 ∧ x2 ≤ 1782 → st_ (S_54x rk) z0 w0 z w → (SHI (z0 t 0) (z0 t 1) (z0 (t + 1)) (z 12) (w 15) (cfR (z (18 + 2 * rk))) x2) → (SD (z0 t 0) (z0 t 1) (z 12) (z 13) (z 14)) → (z (17 + 2 * rk) 1 = x2) → (CHN (z0 t 0).toNat (z0 t 1) (vT (z0 12)) (w0 15) (cfR (z (18 + 2 * rk))) x2.toNat (vT (z 12)) (w 15)) → (¬ RNG (z0 t 0).toNat (vT (z 12)) (w 15)) → 62 * (1782 - x2) + 59 < (N : Int) → wp_ (d + 3) 54 4 none (2, [(0, .ref 11), (1, .ref (17 + 2 * rk)), (2, .int (Int32.ofInt x2))], [], mk z w (pq x y tx it mt tt ct)) (poV (S_54x rk) z0 w0 (E_54x t rk z0 w0 x y tx it mt tt ct))) ∧ (∀ (z w : mZ), st_ (S_54x rk) z0 w0 z w → (SHI (z0 t 0) (z0 t 1) (z0 (t + 1)) (z 12) (w 15) (cfR (z (18 + 2 * rk))) (z (17 + 2 * rk) 1)) → ((∀ e : Nat, (e : Int) < z0 t 1 → w 15 e ≤ 1) ∧ sm (w 15) (z0 t 1).toNat = 2) → (CHN (z0 t 0).toNat (z0 t 1) (vT (z0 12)) (w0 15) (cfR (z (18 + 2 * rk))) (z (17 + 2 * rk) 1).toNat (vT (z 12)) (w 15)) → (¬ RNG (z0 t 0).toNat (vT (z 12)) (w 15)) → 6 < (N : Int) → wp_ (d + 3) 54 4 none (94, [(0, .ref 11), (1, .ref (17 + 2 * rk))], [], mk z w (pq x y tx it mt tt ct)) (poV (S_54x rk) z0 w0 (E_54x t rk z0 w0 x y tx it mt tt ct))) := by
    intro N
    induction N with
    | zero =>
      refine ⟨?_, ?_⟩
      · intro x2 z w
        intros; exfalso; omega
      · intro  z w
        intros; exfalso; omega
    | succ N ih =>
      obtain ⟨ih0, ih1⟩ := ih
      refine ⟨?_, ?_⟩
      · intro x2 z w  hx2 hst as1 as2 as3 as6 as7 hM
        have gt0 : z t 0 = z0 t 0 := hst.2.2.1 _ _ (notS_c (by omega) (notS_c (by omega) (notS_c (by omega) (notS_c (by omega) (notS_c (by omega) (notS_c (by omega) (notS_c (by omega) (notS_c (by omega) (notS_c (by omega) (notS_c (by omega) (notS_c (by omega) (notS_c (by omega) (notS_c (by omega) (notS_c (by omega) (notS_c (by omega) (notS_c (by omega) (notS_n)))))))))))))))))
        have gt1 : z t 1 = z0 t 1 := hst.2.2.1 _ _ (notS_c (by omega) (notS_c (by omega) (notS_c (by omega) (notS_c (by omega) (notS_c (by omega) (notS_c (by omega) (notS_c (by omega) (notS_c (by omega) (notS_c (by omega) (notS_c (by omega) (notS_c (by omega) (notS_c (by omega) (notS_c (by omega) (notS_c (by omega) (notS_c (by omega) (notS_c (by omega) (notS_n)))))))))))))))))
        have g114 : z 11 4 = z0 11 4 := hst.2.2.1 _ _ (notS_c (by omega) (notS_c (by omega) (notS_c (by omega) (notS_c (by omega) (notS_c (by omega) (notS_c (by omega) (notS_c (by omega) (notS_c (by omega) (notS_c (by omega) (notS_c (by omega) (notS_c (by omega) (notS_c (by omega) (notS_c (by omega) (notS_c (by omega) (notS_c (by omega) (notS_c (by omega) (notS_n)))))))))))))))))
        have g115 : z 11 5 = z0 11 5 := hst.2.2.1 _ _ (notS_c (by omega) (notS_c (by omega) (notS_c (by omega) (notS_c (by omega) (notS_c (by omega) (notS_c (by omega) (notS_c (by omega) (notS_c (by omega) (notS_c (by omega) (notS_c (by omega) (notS_c (by omega) (notS_c (by omega) (notS_c (by omega) (notS_c (by omega) (notS_c (by omega) (notS_c (by omega) (notS_n)))))))))))))))))
        have hnb := SHI_b as1
        refine r_ld (pc' := 3) rfl rfl rfl rfl ?_
        refine r_cs (pc' := 6) rfl (by decide) rfl ?_
        refine r_ige (pc' := 9) rfl rfl ⟨by omega, by omega⟩ ⟨by decide, by decide⟩ (fun hc113 => ?_) (fun hc113 => ?_)
        · skip
          have hb114 := rd_R_1 (k := rk) (by omega) hst.1
          exact w_lv (sub_c rfl (sub_c rfl sub_n)) rfl (ih1 z w hst (by first | exact (SHI_max as1 (by omega)).elim | (rw [as3]; exact as1)) (by first | exact his.1 (by omega) | exact (SHI_max as1 (by omega)).elim) (by first | exact (SHI_max as1 (by omega)).elim | (rw [as3]; exact as6)) (by exact as7) (by omega))
        · skip
          refine r_ld (pc' := 10) rfl rfl rfl rfl ?_
          have hb115 := rd_11_4 hz
          have hf116 : z 11 4 = z0 11 4 := (hst.2.2.1 _ _ (notS_c (by omega) (notS_c (by omega) (notS_c (by omega) (notS_c (by omega) (notS_c (by omega) (notS_c (by omega) (notS_c (by omega) (notS_c (by omega) (notS_c (by omega) (notS_c (by omega) (notS_c (by omega) (notS_c (by omega) (notS_c (by omega) (notS_c (by omega) (notS_c (by omega) (notS_c (by omega) notS_n)))))))))))))))))
          have hb117 := rd_T_0 ht hz
          have hf118 : z t 0 = z0 t 0 := (hst.2.2.1 _ _ (notS_c (by omega) (notS_c (by omega) (notS_c (by omega) (notS_c (by omega) (notS_c (by omega) (notS_c (by omega) (notS_c (by omega) (notS_c (by omega) (notS_c (by omega) (notS_c (by omega) (notS_c (by omega) (notS_c (by omega) (notS_c (by omega) (notS_c (by omega) (notS_c (by omega) (notS_c (by omega) notS_n)))))))))))))))))
          have hb119 := rd_11_5 hz
          have hf120 : z 11 5 = z0 11 5 := (hst.2.2.1 _ _ (notS_c (by omega) (notS_c (by omega) (notS_c (by omega) (notS_c (by omega) (notS_c (by omega) (notS_c (by omega) (notS_c (by omega) (notS_c (by omega) (notS_c (by omega) (notS_c (by omega) (notS_c (by omega) (notS_c (by omega) (notS_c (by omega) (notS_c (by omega) (notS_c (by omega) (notS_c (by omega) notS_n)))))))))))))))))
          have hb121 := rd_T_1 ht hz
          have hf122 : z t 1 = z0 t 1 := (hst.2.2.1 _ _ (notS_c (by omega) (notS_c (by omega) (notS_c (by omega) (notS_c (by omega) (notS_c (by omega) (notS_c (by omega) (notS_c (by omega) (notS_c (by omega) (notS_c (by omega) (notS_c (by omega) (notS_c (by omega) (notS_c (by omega) (notS_c (by omega) (notS_c (by omega) (notS_c (by omega) (notS_c (by omega) notS_n)))))))))))))))))
          refine r_cVI (pc' := 13) rfl rfl rfl rfl rfl sh_11 (m_56x (d := d + 2) t hst.1 hst.2.1 ht (by first | omega | assumption | (simp only [hf116, hf118, hf120, hf122]; assumption)) (by exact hnb)) (fun v123 z124 w125 p126 h127 hs128 hE129 => ?_)
          obtain ⟨rfl, rfl, rfl, hE129⟩ := hE129
          have his := hE129.2.2
          rw [gt1] at his
          refine r_zne (pc' := 16) rfl rfl ⟨by omega, by omega⟩ (fun hc131 => ?_) (fun hc131 => ?_)
          · skip
            have hb132 := rd_R_1 (k := rk) (by omega) hst.1
            exact w_lv (sub_c rfl (sub_c rfl sub_n)) rfl (ih1 z w hst (by first | exact (SHI_max as1 (by omega)).elim | (rw [as3]; exact as1)) (by first | exact his.1 (by omega) | exact (SHI_max as1 (by omega)).elim) (by first | exact (SHI_max as1 (by omega)).elim | (rw [as3]; exact as6)) (by exact as7) (by omega))
          · skip
            refine r_ld (pc' := 17) rfl rfl rfl rfl ?_
            have hf133 : z t 0 = z0 t 0 := (hst.2.2.1 _ _ (notS_c (by omega) (notS_c (by omega) (notS_c (by omega) (notS_c (by omega) (notS_c (by omega) (notS_c (by omega) (notS_c (by omega) (notS_c (by omega) (notS_c (by omega) (notS_c (by omega) (notS_c (by omega) (notS_c (by omega) (notS_c (by omega) (notS_c (by omega) (notS_c (by omega) (notS_c (by omega) notS_n)))))))))))))))))
            have hf134 : z t 1 = z0 t 1 := (hst.2.2.1 _ _ (notS_c (by omega) (notS_c (by omega) (notS_c (by omega) (notS_c (by omega) (notS_c (by omega) (notS_c (by omega) (notS_c (by omega) (notS_c (by omega) (notS_c (by omega) (notS_c (by omega) (notS_c (by omega) (notS_c (by omega) (notS_c (by omega) (notS_c (by omega) (notS_c (by omega) (notS_c (by omega) notS_n)))))))))))))))))
            have hf135 : z 11 4 = z0 11 4 := (hst.2.2.1 _ _ (notS_c (by omega) (notS_c (by omega) (notS_c (by omega) (notS_c (by omega) (notS_c (by omega) (notS_c (by omega) (notS_c (by omega) (notS_c (by omega) (notS_c (by omega) (notS_c (by omega) (notS_c (by omega) (notS_c (by omega) (notS_c (by omega) (notS_c (by omega) (notS_c (by omega) (notS_c (by omega) notS_n)))))))))))))))))
            have hf136 : z 11 5 = z0 11 5 := (hst.2.2.1 _ _ (notS_c (by omega) (notS_c (by omega) (notS_c (by omega) (notS_c (by omega) (notS_c (by omega) (notS_c (by omega) (notS_c (by omega) (notS_c (by omega) (notS_c (by omega) (notS_c (by omega) (notS_c (by omega) (notS_c (by omega) (notS_c (by omega) (notS_c (by omega) (notS_c (by omega) (notS_c (by omega) notS_n)))))))))))))))))
            refine r_cVI (pc' := 20) rfl rfl rfl rfl rfl sh_11 (m_57x (d := d) t hst.1 hst.2.1 ht (by rw [gt0, gt1]; exact as2) (by first | omega | assumption | (simp only [hf133, hf134, hf135, hf136]; assumption)) (by exact hnb)) (fun v137 z138 w139 p140 h141 hs142 hE143 => ?_)
            have hs144 := st_tr hst hs142 (subS_c (fun _ _ _ _ _ _ => inS_0 (by omega) (by omega) (by omega) (by omega)) (subS_c (fun _ _ _ _ _ _ => inS_s (inS_0 (by omega) (by omega) (by omega) (by omega))) (subS_c (fun _ _ _ _ _ _ => inS_s (inS_s (inS_0 (by omega) (by omega) (by omega) (by omega)))) (subS_c (fun _ _ _ _ _ _ => inS_s (inS_s (inS_s (inS_0 (by omega) (by omega) (by omega) (by omega))))) (subS_c (fun _ _ _ _ _ _ => inS_s (inS_s (inS_s (inS_s (inS_0 (by omega) (by omega) (by omega) (by omega)))))) subS_n)))))
            obtain ⟨rfl, hE143⟩ := hE143
            have hff := hE143.2.2
            rw [gt1, gt0] at hff
            refine r_st (pc' := 21) (lv' := [(3, _), (0, _), (1, _), (2, _)]) rfl rfl rfl rfl ?_
            refine r_ld (pc' := 22) rfl rfl rfl rfl ?_
            refine r_c0 (pc' := 23) rfl rfl ?_
            refine r_ine (pc' := 26) rfl rfl ⟨by omega, by omega⟩ ⟨by decide, by decide⟩ (fun hc145 => ?_) (fun hc145 => ?_)
            · skip
              obtain ⟨f0, f1, f2, f3, f4, f5⟩ := hff.resolve_left (fun q => absurd q.1 (by omega))
              have hff0 : ∀ i, z138 (18 + 2 * rk) i = z (18 + 2 * rk) i := fun i => (hs142.2.2.1 _ _ (notS_c (by omega) (notS_c (by omega) (notS_c (by omega) (notS_c (by omega) (notS_c (by omega) notS_n))))))
              have hz6 := rd_11_6 hs144.1
              have hz7 := rd_11_7 hs144.1
              have hz8 := rd_11_8 hs144.1
              have hz9 := rd_11_9 hs144.1
              refine r_ld (pc' := 33) rfl rfl rfl rfl ?_
              refine r_gr (b := 18 + 2 * rk) (pc' := 36) rfl rfl (sh_R (k := rk) (by omega)) rfl (pp_R (k := rk) (by omega)) ?_
              refine r_ld (pc' := 37) rfl rfl rfl rfl ?_
              have hb146 := rd_R_1 (k := rk) (by omega) hst.1
              refine r_gi (pc' := 40) rfl rfl (sh_R (k := rk) (by omega)) rfl (hs142.2.2.1 _ _ (notS_c (by omega) (notS_c (by omega) (notS_c (by omega) (notS_c (by omega) (notS_c (by omega) notS_n)))))) ?_
              refine r_ld (pc' := 41) rfl rfl rfl rfl ?_
              refine r_ld (pc' := 42) rfl rfl rfl rfl ?_
              have hb147 := rd_11_6 hs144.1
              refine r_gi (pc' := 45) rfl rfl sh_11 rfl rfl ?_
              refine r_c0 (pc' := 46) rfl rfl ?_
              refine r_shl (s := 5) (pc' := 47) rfl rfl (by decide) ?_
              refine r_or 5 (pc' := 48) rfl rfl (by omega) (by omega) (by omega) (by omega) (by omega) ?_
              refine r_ld (pc' := 49) rfl rfl rfl rfl ?_
              have hb148 := rd_11_7 hs144.1
              refine r_gi (pc' := 52) rfl rfl sh_11 rfl rfl ?_
              refine r_cb (pc' := 54) rfl (by decide) rfl ?_
              refine r_shl (s := 10) (pc' := 55) rfl rfl (by decide) ?_
              refine r_or 10 (pc' := 56) rfl rfl (by omega) (by omega) (by omega) (by omega) (by omega) ?_
              refine r_ld (pc' := 57) rfl rfl rfl rfl ?_
              have hb149 := rd_11_8 hs144.1
              refine r_gi (pc' := 60) rfl rfl sh_11 rfl rfl ?_
              refine r_cb (pc' := 62) rfl (by decide) rfl ?_
              refine r_shl (s := 15) (pc' := 63) rfl rfl (by decide) ?_
              refine r_or 15 (pc' := 64) rfl rfl (by omega) (by omega) (by omega) (by omega) (by omega) ?_
              refine r_ld (pc' := 65) rfl rfl rfl rfl ?_
              have hb150 := rd_11_9 hs144.1
              refine r_gi (pc' := 68) rfl rfl sh_11 rfl rfl ?_
              refine r_cb (pc' := 70) rfl (by decide) rfl ?_
              refine r_shl (s := 20) (pc' := 71) rfl rfl (by decide) ?_
              refine r_or 20 (pc' := 72) rfl rfl (by omega) (by omega) (by omega) (by omega) (by omega) ?_
              refine r_is (pc' := 73) rfl rfl (sh_RF (k := rk) (by omega)) rfl (by omega) (by omega) hs144 (inS_s (inS_s (inS_s (inS_s (inS_s (inS_0 (by omega) (by omega) (by omega) (by omega))))))) (wr_RF (k := rk) (by omega) (by unfold ok_f; omega)) (fun z151 hq152 hs153 => ?_)
              have hq72 := hq152
              refine r_ld (pc' := 74) rfl rfl rfl rfl ?_
              refine r_al (pc' := 75) rfl rfl rfl rfl ?_
              refine r_gi (pc' := 78) rfl rfl (sh_R (k := rk) (by omega)) rfl (((congrFun (congrFun hq152 _) _).trans (mu_ne (by omega))).trans (hs142.2.2.1 _ _ (notS_c (by omega) (notS_c (by omega) (notS_c (by omega) (notS_c (by omega) (notS_c (by omega) notS_n))))))) ?_
              refine r_c0 (pc' := 79) rfl rfl ?_
              refine r_add (pc' := 80) rfl rfl ?_
              refine r_pi (pc' := 83) rfl rfl (sh_R (k := rk) (by omega)) rfl rfl hs153 (inS_s (inS_s (inS_s (inS_s (inS_s (inS_s (inS_0 (by omega) (by omega) (by omega) (by omega)))))))) (wr_R_1 (k := rk) (by omega) ⟨by omega, by omega⟩) (fun z154 hq155 hs156 => ?_)
              refine r_ld (pc' := 84) rfl rfl rfl rfl ?_
              refine r_ld (pc' := 85) rfl rfl rfl rfl ?_
              have c12 : z154 12 = z 12 := funext fun i => (((congrFun (congrFun hq155 _) _).trans (mu_ne (by omega))).trans (((congrFun (congrFun hq152 _) _).trans (mu_ne (by omega))).trans (hs142.2.2.1 _ _ (notS_c (by omega) (notS_c (by omega) (notS_c (by omega) (notS_c (by omega) (notS_c (by omega) notS_n))))))))
              have c13 : z154 13 = z 13 := funext fun i => (((congrFun (congrFun hq155 _) _).trans (mu_ne (by omega))).trans (((congrFun (congrFun hq152 _) _).trans (mu_ne (by omega))).trans (hs142.2.2.1 _ _ (notS_c (by omega) (notS_c (by omega) (notS_c (by omega) (notS_c (by omega) (notS_c (by omega) notS_n))))))))
              have c14 : z154 14 = z 14 := funext fun i => (((congrFun (congrFun hq155 _) _).trans (mu_ne (by omega))).trans (((congrFun (congrFun hq152 _) _).trans (mu_ne (by omega))).trans (hs142.2.2.1 _ _ (notS_c (by omega) (notS_c (by omega) (notS_c (by omega) (notS_c (by omega) (notS_c (by omega) notS_n))))))))
              have c15 : w139 15 = w 15 := funext fun i => (hs142.2.2.2 _ _ (notS_c (by omega) (notS_c (by omega) (notS_c (by omega) (notS_c (by omega) (notS_c (by omega) notS_n))))))
              have c16 : z154 11 6 = z138 11 6 := (((congrFun (congrFun hq155 _) _).trans (mu_ne (by omega))).trans ((congrFun (congrFun hq152 _) _).trans (mu_ne (by omega))))
              have c17 : z154 11 7 = z138 11 7 := (((congrFun (congrFun hq155 _) _).trans (mu_ne (by omega))).trans ((congrFun (congrFun hq152 _) _).trans (mu_ne (by omega))))
              have c18 : z154 11 8 = z138 11 8 := (((congrFun (congrFun hq155 _) _).trans (mu_ne (by omega))).trans ((congrFun (congrFun hq152 _) _).trans (mu_ne (by omega))))
              have c19 : z154 11 9 = z138 11 9 := (((congrFun (congrFun hq155 _) _).trans (mu_ne (by omega))).trans ((congrFun (congrFun hq152 _) _).trans (mu_ne (by omega))))
              have c110 : w139 11 10 = w139 11 10 := rfl
              have ct0 : z154 t 0 = z0 t 0 := hs156.2.2.1 _ _ (notS_c (by omega) (notS_c (by omega) (notS_c (by omega) (notS_c (by omega) (notS_c (by omega) (notS_c (by omega) (notS_c (by omega) (notS_c (by omega) (notS_c (by omega) (notS_c (by omega) (notS_c (by omega) (notS_c (by omega) (notS_c (by omega) (notS_c (by omega) (notS_c (by omega) (notS_c (by omega) (notS_n)))))))))))))))))
              have ct1 : z154 t 1 = z0 t 1 := hs156.2.2.1 _ _ (notS_c (by omega) (notS_c (by omega) (notS_c (by omega) (notS_c (by omega) (notS_c (by omega) (notS_c (by omega) (notS_c (by omega) (notS_c (by omega) (notS_c (by omega) (notS_c (by omega) (notS_c (by omega) (notS_c (by omega) (notS_c (by omega) (notS_c (by omega) (notS_c (by omega) (notS_c (by omega) (notS_n)))))))))))))))))
              have hlr0 : LRq z154 z154 w139 w139 v137.toNat := by unfold LRq at f3 ⊢; rw [c12, c13, c14, c15, c16, c17, c18, c19, c110]; exact f3
              have hf157 : z154 t 0 = z0 t 0 := (((congrFun (congrFun hq155 _) _).trans (mu_ne (by omega))).trans (((congrFun (congrFun hq152 _) _).trans (mu_ne (by omega))).trans ((hs142.2.2.1 _ _ (notS_c (by omega) (notS_c (by omega) (notS_c (by omega) (notS_c (by omega) (notS_c (by omega) notS_n)))))).trans (hst.2.2.1 _ _ (notS_c (by omega) (notS_c (by omega) (notS_c (by omega) (notS_c (by omega) (notS_c (by omega) (notS_c (by omega) (notS_c (by omega) (notS_c (by omega) (notS_c (by omega) (notS_c (by omega) (notS_c (by omega) (notS_c (by omega) (notS_c (by omega) (notS_c (by omega) (notS_c (by omega) (notS_c (by omega) notS_n))))))))))))))))))))
              have hf158 : z154 t 1 = z0 t 1 := (((congrFun (congrFun hq155 _) _).trans (mu_ne (by omega))).trans (((congrFun (congrFun hq152 _) _).trans (mu_ne (by omega))).trans ((hs142.2.2.1 _ _ (notS_c (by omega) (notS_c (by omega) (notS_c (by omega) (notS_c (by omega) (notS_c (by omega) notS_n)))))).trans (hst.2.2.1 _ _ (notS_c (by omega) (notS_c (by omega) (notS_c (by omega) (notS_c (by omega) (notS_c (by omega) (notS_c (by omega) (notS_c (by omega) (notS_c (by omega) (notS_c (by omega) (notS_c (by omega) (notS_c (by omega) (notS_c (by omega) (notS_c (by omega) (notS_c (by omega) (notS_c (by omega) (notS_c (by omega) notS_n))))))))))))))))))))
              have hf159 : z154 11 4 = z0 11 4 := (((congrFun (congrFun hq155 _) _).trans (mu_ne (by omega))).trans (((congrFun (congrFun hq152 _) _).trans (mu_ne (by omega))).trans ((hs142.2.2.1 _ _ (notS_c (by omega) (notS_c (by omega) (notS_c (by omega) (notS_c (by omega) (notS_c (by omega) notS_n)))))).trans (hst.2.2.1 _ _ (notS_c (by omega) (notS_c (by omega) (notS_c (by omega) (notS_c (by omega) (notS_c (by omega) (notS_c (by omega) (notS_c (by omega) (notS_c (by omega) (notS_c (by omega) (notS_c (by omega) (notS_c (by omega) (notS_c (by omega) (notS_c (by omega) (notS_c (by omega) (notS_c (by omega) (notS_c (by omega) notS_n))))))))))))))))))))
              have hf160 : z154 11 5 = z0 11 5 := (((congrFun (congrFun hq155 _) _).trans (mu_ne (by omega))).trans (((congrFun (congrFun hq152 _) _).trans (mu_ne (by omega))).trans ((hs142.2.2.1 _ _ (notS_c (by omega) (notS_c (by omega) (notS_c (by omega) (notS_c (by omega) (notS_c (by omega) notS_n)))))).trans (hst.2.2.1 _ _ (notS_c (by omega) (notS_c (by omega) (notS_c (by omega) (notS_c (by omega) (notS_c (by omega) (notS_c (by omega) (notS_c (by omega) (notS_c (by omega) (notS_c (by omega) (notS_c (by omega) (notS_c (by omega) (notS_c (by omega) (notS_c (by omega) (notS_c (by omega) (notS_c (by omega) (notS_c (by omega) notS_n))))))))))))))))))))
              have hf161 : z154 11 6 = z138 11 6 := (((congrFun (congrFun hq155 _) _).trans (mu_ne (by omega))).trans ((congrFun (congrFun hq152 _) _).trans (mu_ne (by omega))))
              have hf162 : z154 11 7 = z138 11 7 := (((congrFun (congrFun hq155 _) _).trans (mu_ne (by omega))).trans ((congrFun (congrFun hq152 _) _).trans (mu_ne (by omega))))
              have hf163 : z154 11 8 = z138 11 8 := (((congrFun (congrFun hq155 _) _).trans (mu_ne (by omega))).trans ((congrFun (congrFun hq152 _) _).trans (mu_ne (by omega))))
              have hf164 : z154 11 9 = z138 11 9 := (((congrFun (congrFun hq155 _) _).trans (mu_ne (by omega))).trans ((congrFun (congrFun hq152 _) _).trans (mu_ne (by omega))))
              have hF165 : z154 12 = z 12 := (((congrFun hq155 _).trans (mu_fn (by omega))).trans (((congrFun hq152 _).trans (mu_fn (by omega))).trans (funext fun _ => hs142.2.2.1 _ _ (notS_c (by omega) (notS_c (by omega) (notS_c (by omega) (notS_c (by omega) (notS_c (by omega) notS_n))))))))
              have hF166 : z154 13 = z 13 := (((congrFun hq155 _).trans (mu_fn (by omega))).trans (((congrFun hq152 _).trans (mu_fn (by omega))).trans (funext fun _ => hs142.2.2.1 _ _ (notS_c (by omega) (notS_c (by omega) (notS_c (by omega) (notS_c (by omega) (notS_c (by omega) notS_n))))))))
              have hF167 : z154 14 = z 14 := (((congrFun hq155 _).trans (mu_fn (by omega))).trans (((congrFun hq152 _).trans (mu_fn (by omega))).trans (funext fun _ => hs142.2.2.1 _ _ (notS_c (by omega) (notS_c (by omega) (notS_c (by omega) (notS_c (by omega) (notS_c (by omega) notS_n))))))))
              have hF168 : w139 15 = w 15 := (funext fun _ => hs142.2.2.2 _ _ (notS_c (by omega) (notS_c (by omega) (notS_c (by omega) (notS_c (by omega) (notS_c (by omega) notS_n))))))
              refine r_cVV (pc' := 88) rfl rfl rfl rfl rfl sh_11 (m_59v (d := d + 1) t v137 hs156.1 hs156.2.1 ⟨by omega, by omega⟩ ht (by rw [ct0, ct1, c12]; exact as1.1) (by first | omega | assumption | (simp only [hF165, hF166, hF167, hF168, hf157, hf158, hf159, hf160, hf161, hf162, hf163, hf164]; assumption)) (by rw [ct0, ct1, c12, c13, c14]; exact as2) (by first | omega | assumption | (simp only [hF165, hF166, hF167, hF168, hf157, hf158, hf159, hf160, hf161, hf162, hf163, hf164]; assumption)) (by rw [c13, c14]; exact f2) (by exact hlr0)) (fun z170 w171 p172 hs174 hE175 => ?_)
              have hs176 := st_tr hs156 hs174 (subS_c (fun _ _ _ _ _ _ => inS_s (inS_s (inS_s (inS_s (inS_s (inS_s (inS_s (inS_0 (by omega) (by omega) (by omega) (by omega))))))))) (subS_c (fun _ _ _ _ _ _ => inS_s (inS_s (inS_s (inS_s (inS_s (inS_s (inS_s (inS_s (inS_0 (by omega) (by omega) (by omega) (by omega)))))))))) (subS_c (fun _ _ _ _ _ _ => inS_s (inS_s (inS_s (inS_s (inS_s (inS_s (inS_s (inS_s (inS_s (inS_0 (by omega) (by omega) (by omega) (by omega))))))))))) (subS_c (fun _ _ _ _ _ _ => inS_s (inS_s (inS_s (inS_s (inS_s (inS_s (inS_s (inS_s (inS_s (inS_s (inS_0 (by omega) (by omega) (by omega) (by omega)))))))))))) subS_n))))
              obtain ⟨rfl, hE175⟩ := hE175
              have hte := hE175
              rw [ct0, ct1, c12, c13, c14, c15, c16, c17, c18, c19] at hte
              have hrow : z170 (18 + 2 * rk) = z151 (18 + 2 * rk) := funext fun i => ((hs174.2.2.1 _ _ (notS_c (by omega) (notS_c (by omega) (notS_c (by omega) (notS_c (by omega) notS_n))))).trans ((congrFun (congrFun hq155 _) _).trans (mu_ne (by omega))))
              have hcf:= cf_dec (f := z170 (18 + 2 * rk)) (i := x2.toNat) (e := v137) (x := z138 11 6) (y := z138 11 7) (z := z138 11 8) (w := z138 11 9) (by rw [hrow, hq72, ← as3]; exact mu_eq) (by omega) (by omega) (by omega) (by omega) (by omega)
              have hs9 : SHI (z0 t 0) (z0 t 1) (z0 (t + 1)) (z170 12) (w171 15) (cfR (z170 (18 + 2 * rk))) (x2 + 1) := (SHI_s as1 hte.1 (fun s hs => by have := rd_12 hs176.1 (i := s) (by omega); omega) hte.2.1 (by rw [hte.2.1, fl_e]; have := f3.2.2.2.2; omega) hcf.1 hcf.2.1 hcf.2.2.1 hcf.2.2.2.1 hcf.2.2.2.2 (fun i j hi hj => by unfold cfR; rw [hrow, hq72, mu_ne (by omega), hff0])).2
              have st9 : STP (z0 t 0).toNat (vT (z 12)) (w 15) v137.toNat (z138 11 6).toNat (z138 11 7).toNat (z138 11 8).toNat (z138 11 9).toNat (vT (z170 12)) (w171 15) := STP_i (as2 _ (lt_n f0 f1)).1 (as2 _ (lt_n f0 f1)).2.1 f2 hte.1 hte.2.1 (lt_m f3.2.2.2.2 f4 (by rw [hte.2.1, fl_e])) (fun e0 he0 => f5 e0 (lt_i he0))
              have hq9 : (x2 + 1).toNat = x2.toNat + 1 := by omega
              have hn9 := his.2 (by omega)
              have hf9 : ∀ i j, i < x2.toNat → j < 5 → cfR (z170 (18 + 2 * rk)) i j = cfR (z (18 + 2 * rk)) i j := fun i j hi hj => by unfold cfR; rw [hrow, hq72, mu_ne (by omega), hff0]
              have hc9 : CHN (z0 t 0).toNat (z0 t 1) (vT (z0 12)) (w0 15) (cfR (z170 (18 + 2 * rk))) (x2 + 1).toNat (vT (z170 12)) (w171 15) := CHN_s as6 hn9 st9 hf9 hcf.1 hcf.2.1 hcf.2.2.1 hcf.2.2.2.1 hcf.2.2.2.2 hq9
              have hr9 : ¬ RNG (z0 t 0).toNat (vT (z170 12)) (w171 15) := fun q9 => by rw [hte.2.1] at q9; exact as7 (FLP.rng hte.1 q9)
              have hd9 := hte.2.2.1
              clear hcf hrow
              refine r_inc (pc' := 91) (lv' := [(3, _), (0, _), (1, _)]) rfl rfl rfl rfl rfl ?_
              refine r_go rfl ?_
              have hf177 : z170 (17 + 2 * rk) 1 = (z (17 + 2 * rk) 1) + 1 := ((hs174.2.2.1 _ _ (notS_c (by omega) (notS_c (by omega) (notS_c (by omega) (notS_c (by omega) notS_n))))).trans ((congrFun (congrFun hq155 _) _).trans mu_eq))
              have hF178 : z170 (18 + 2 * rk) = z151 (18 + 2 * rk) := ((funext fun _ => hs174.2.2.1 _ _ (notS_c (by omega) (notS_c (by omega) (notS_c (by omega) (notS_c (by omega) notS_n))))).trans ((congrFun hq155 _).trans (mu_fn (by omega))))
              exact w_lv (sub_c rfl (sub_c rfl (sub_c rfl sub_n))) rfl (ih0 (x2 + 1) z170 w171 ⟨by omega, by omega⟩ hs176 (by first | exact hs9 | exact hsh) (by first | exact hd9 | exact hsd) (by first | omega | assumption | (simp only [hF178, hf177]; assumption)) (by first | exact hc9 | exact CHN_0 rfl) (by first | exact hr9 | exact hnr) (by omega))
            · skip
              refine r_ld (pc' := 27) rfl rfl rfl rfl ?_
              refine r_c0 (pc' := 28) rfl rfl ?_
              refine r_pi (pc' := 31) rfl rfl (sh_R (k := rk) (by omega)) rfl rfl hs144 (inS_s (inS_s (inS_s (inS_s (inS_s (inS_s (inS_s (inS_s (inS_s (inS_s (inS_s (inS_0 (by omega) (by omega) (by omega) (by omega))))))))))))) (wr_R_0 (k := rk) (by omega) ⟨by omega, by omega⟩) (fun z179 hq180 hs181 => ?_)
              have hf182 : z179 (17 + 2 * rk) 0 = 1 := ((congrFun (congrFun hq180 _) _).trans mu_eq)
              have hb183 := rd_R_1 (k := rk) (by omega) hst.1
              have hf184 : z179 (17 + 2 * rk) 1 = z (17 + 2 * rk) 1 := (((congrFun (congrFun hq180 _) _).trans (mu_ne (by omega))).trans (hs142.2.2.1 _ _ (notS_c (by omega) (notS_c (by omega) (notS_c (by omega) (notS_c (by omega) (notS_c (by omega) notS_n)))))))
              have hb185 := rd_R_2 (k := rk) (by omega) hst.1
              have hf186 : z179 (17 + 2 * rk) 2 = z (17 + 2 * rk) 2 := (((congrFun (congrFun hq180 _) _).trans (mu_ne (by omega))).trans (hs142.2.2.1 _ _ (notS_c (by omega) (notS_c (by omega) (notS_c (by omega) (notS_c (by omega) (notS_c (by omega) notS_n)))))))
              have hb187 := rd_R_3 (k := rk) (by omega) hst.1
              have hf188 : z179 (17 + 2 * rk) 3 = z (17 + 2 * rk) 3 := (((congrFun (congrFun hq180 _) _).trans (mu_ne (by omega))).trans (hs142.2.2.1 _ _ (notS_c (by omega) (notS_c (by omega) (notS_c (by omega) (notS_c (by omega) (notS_c (by omega) notS_n)))))))
              have hb189 := rd_R_4 (k := rk) (by omega) hst.1
              have hf190 : z179 (17 + 2 * rk) 4 = z (17 + 2 * rk) 4 := (((congrFun (congrFun hq180 _) _).trans (mu_ne (by omega))).trans (hs142.2.2.1 _ _ (notS_c (by omega) (notS_c (by omega) (notS_c (by omega) (notS_c (by omega) (notS_c (by omega) notS_n)))))))
              have hb191 := rd_R_5 (k := rk) (by omega) hst.1
              have hf192 : z179 (17 + 2 * rk) 5 = z (17 + 2 * rk) 5 := (((congrFun (congrFun hq180 _) _).trans (mu_ne (by omega))).trans (hs142.2.2.1 _ _ (notS_c (by omega) (notS_c (by omega) (notS_c (by omega) (notS_c (by omega) (notS_c (by omega) notS_n)))))))
              have hF193 : z179 (18 + 2 * rk) = z (18 + 2 * rk) := (((congrFun hq180 _).trans (mu_fn (by omega))).trans (funext fun _ => hs142.2.2.1 _ _ (notS_c (by omega) (notS_c (by omega) (notS_c (by omega) (notS_c (by omega) (notS_c (by omega) notS_n)))))))
              exact r_ret rfl (po_V hs181 ⟨rfl, (by refine ⟨?_, ?_⟩; (unfold GRt; simp only [hF193, hf182, hf184, hf186, hf188, hf190, hf192]; first | (intro h; exfalso; omega) | (intro _; rw [k6, k7, k8, k9]; exact hgr)); (obtain ⟨_, f6⟩ := hff.resolve_right (fun q => absurd q.1 (by omega)); exact Or.inl ⟨by omega, _, _, _, _, as6, his.2 (by omega), fun e c => by by_cases c9 : (e : Int) < z0 t 1; exact f6 e c9 c; exact CD_ge as1.1 (by omega) c⟩))⟩)
      · intro  z w  hst as1 as2 as6 as7 hM
        have gt0 : z t 0 = z0 t 0 := hst.2.2.1 _ _ (notS_c (by omega) (notS_c (by omega) (notS_c (by omega) (notS_c (by omega) (notS_c (by omega) (notS_c (by omega) (notS_c (by omega) (notS_c (by omega) (notS_c (by omega) (notS_c (by omega) (notS_c (by omega) (notS_c (by omega) (notS_c (by omega) (notS_c (by omega) (notS_c (by omega) (notS_c (by omega) (notS_n)))))))))))))))))
        have gt1 : z t 1 = z0 t 1 := hst.2.2.1 _ _ (notS_c (by omega) (notS_c (by omega) (notS_c (by omega) (notS_c (by omega) (notS_c (by omega) (notS_c (by omega) (notS_c (by omega) (notS_c (by omega) (notS_c (by omega) (notS_c (by omega) (notS_c (by omega) (notS_c (by omega) (notS_c (by omega) (notS_c (by omega) (notS_c (by omega) (notS_c (by omega) (notS_n)))))))))))))))))
        have g114 : z 11 4 = z0 11 4 := hst.2.2.1 _ _ (notS_c (by omega) (notS_c (by omega) (notS_c (by omega) (notS_c (by omega) (notS_c (by omega) (notS_c (by omega) (notS_c (by omega) (notS_c (by omega) (notS_c (by omega) (notS_c (by omega) (notS_c (by omega) (notS_c (by omega) (notS_c (by omega) (notS_c (by omega) (notS_c (by omega) (notS_c (by omega) (notS_n)))))))))))))))))
        have g115 : z 11 5 = z0 11 5 := hst.2.2.1 _ _ (notS_c (by omega) (notS_c (by omega) (notS_c (by omega) (notS_c (by omega) (notS_c (by omega) (notS_c (by omega) (notS_c (by omega) (notS_c (by omega) (notS_c (by omega) (notS_c (by omega) (notS_c (by omega) (notS_c (by omega) (notS_c (by omega) (notS_c (by omega) (notS_c (by omega) (notS_c (by omega) (notS_n)))))))))))))))))
        have h2co := SHI_two as1 as2.1 as2.2
        refine r_ld (pc' := 95) rfl rfl rfl rfl ?_
        refine r_ld (pc' := 96) rfl rfl rfl rfl ?_
        have hb194 := rd_11_4 hz
        have hf195 : z 11 4 = z0 11 4 := (hst.2.2.1 _ _ (notS_c (by omega) (notS_c (by omega) (notS_c (by omega) (notS_c (by omega) (notS_c (by omega) (notS_c (by omega) (notS_c (by omega) (notS_c (by omega) (notS_c (by omega) (notS_c (by omega) (notS_c (by omega) (notS_c (by omega) (notS_c (by omega) (notS_c (by omega) (notS_c (by omega) (notS_c (by omega) notS_n)))))))))))))))))
        have hb196 := rd_T_0 ht hz
        have hf197 : z t 0 = z0 t 0 := (hst.2.2.1 _ _ (notS_c (by omega) (notS_c (by omega) (notS_c (by omega) (notS_c (by omega) (notS_c (by omega) (notS_c (by omega) (notS_c (by omega) (notS_c (by omega) (notS_c (by omega) (notS_c (by omega) (notS_c (by omega) (notS_c (by omega) (notS_c (by omega) (notS_c (by omega) (notS_c (by omega) (notS_c (by omega) notS_n)))))))))))))))))
        have hb198 := rd_11_5 hz
        have hf199 : z 11 5 = z0 11 5 := (hst.2.2.1 _ _ (notS_c (by omega) (notS_c (by omega) (notS_c (by omega) (notS_c (by omega) (notS_c (by omega) (notS_c (by omega) (notS_c (by omega) (notS_c (by omega) (notS_c (by omega) (notS_c (by omega) (notS_c (by omega) (notS_c (by omega) (notS_c (by omega) (notS_c (by omega) (notS_c (by omega) (notS_c (by omega) notS_n)))))))))))))))))
        have hb200 := rd_T_1 ht hz
        have hf201 : z t 1 = z0 t 1 := (hst.2.2.1 _ _ (notS_c (by omega) (notS_c (by omega) (notS_c (by omega) (notS_c (by omega) (notS_c (by omega) (notS_c (by omega) (notS_c (by omega) (notS_c (by omega) (notS_c (by omega) (notS_c (by omega) (notS_c (by omega) (notS_c (by omega) (notS_c (by omega) (notS_c (by omega) (notS_c (by omega) (notS_c (by omega) notS_n)))))))))))))))))
        refine r_cVV (pc' := 99) rfl rfl rfl rfl rfl sh_11 (m_60x (d := d + 1) t rk hst.1 hst.2.1 (by first | omega | assumption | (simp only [hf195, hf197, hf199, hf201]; assumption)) ht (by first | omega | assumption | (simp only [hf195, hf197, hf199, hf201]; assumption))) (fun z203 w204 p205 hs207 hE208 => ?_)
        have hs209 := st_tr hst hs207 (subS_c (fun _ _ _ _ _ _ => inS_s (inS_s (inS_s (inS_s (inS_s (inS_s (inS_s (inS_s (inS_s (inS_s (inS_s (inS_s (inS_0 (by omega) (by omega) (by omega) (by omega)))))))))))))) (subS_c (fun _ _ _ _ _ _ => inS_s (inS_s (inS_s (inS_s (inS_s (inS_s (inS_s (inS_s (inS_s (inS_s (inS_s (inS_s (inS_s (inS_0 (by omega) (by omega) (by omega) (by omega))))))))))))))) (subS_c (fun _ _ _ _ _ _ => inS_s (inS_s (inS_s (inS_s (inS_s (inS_s (inS_s (inS_s (inS_s (inS_s (inS_s (inS_s (inS_s (inS_s (inS_0 (by omega) (by omega) (by omega) (by omega)))))))))))))))) (subS_c (fun _ _ _ _ _ _ => inS_s (inS_s (inS_s (inS_s (inS_s (inS_s (inS_s (inS_s (inS_s (inS_s (inS_s (inS_s (inS_s (inS_s (inS_s (inS_0 (by omega) (by omega) (by omega) (by omega))))))))))))))))) subS_n))))
        obtain ⟨rfl, hE208⟩ := hE208
        have hnn := hE208
        rw [gt0] at hnn
        have hen := hnn h2co
        have hen2 := hen
        obtain ⟨u, v, k3, k2, k4, k5, k6, k7, k8, k9⟩ := hen2
        have hgr := SHI_gr as1 as2.1 as2.2 (u := u) (v := v) (by omega) k2 (by omega) k4 k5
        refine r_ld (pc' := 100) rfl rfl rfl rfl ?_
        refine r_c0 (pc' := 101) rfl rfl ?_
        refine r_pi (pc' := 104) rfl rfl (sh_R (k := rk) (by omega)) rfl rfl hs209 (inS_s (inS_s (inS_s (inS_s (inS_s (inS_s (inS_s (inS_s (inS_s (inS_s (inS_s (inS_0 (by omega) (by omega) (by omega) (by omega))))))))))))) (wr_R_0 (k := rk) (by omega) ⟨by omega, by omega⟩) (fun z210 hq211 hs212 => ?_)
        have hf213 : z210 (17 + 2 * rk) 0 = 2 := ((congrFun (congrFun hq211 _) _).trans mu_eq)
        have hb214 := rd_R_1 (k := rk) (by omega) hst.1
        have hf215 : z210 (17 + 2 * rk) 1 = z (17 + 2 * rk) 1 := (((congrFun (congrFun hq211 _) _).trans (mu_ne (by omega))).trans (hs207.2.2.1 _ _ (notS_c (by omega) (notS_c (by omega) (notS_c (by omega) (notS_c (by omega) notS_n))))))
        have hb216 := rd_R_2 (k := rk) (by omega) hs209.1
        have hf217 : z210 (17 + 2 * rk) 2 = z203 (17 + 2 * rk) 2 := ((congrFun (congrFun hq211 _) _).trans (mu_ne (by omega)))
        have hb218 := rd_R_3 (k := rk) (by omega) hs209.1
        have hf219 : z210 (17 + 2 * rk) 3 = z203 (17 + 2 * rk) 3 := ((congrFun (congrFun hq211 _) _).trans (mu_ne (by omega)))
        have hb220 := rd_R_4 (k := rk) (by omega) hs209.1
        have hf221 : z210 (17 + 2 * rk) 4 = z203 (17 + 2 * rk) 4 := ((congrFun (congrFun hq211 _) _).trans (mu_ne (by omega)))
        have hb222 := rd_R_5 (k := rk) (by omega) hs209.1
        have hf223 : z210 (17 + 2 * rk) 5 = z203 (17 + 2 * rk) 5 := ((congrFun (congrFun hq211 _) _).trans (mu_ne (by omega)))
        have hF224 : z210 (18 + 2 * rk) = z (18 + 2 * rk) := (((congrFun hq211 _).trans (mu_fn (by omega))).trans (funext fun _ => hs207.2.2.1 _ _ (notS_c (by omega) (notS_c (by omega) (notS_c (by omega) (notS_c (by omega) notS_n))))))
        exact r_ret rfl (po_V hs212 ⟨rfl, (by refine ⟨?_, ?_⟩; (unfold GRt; simp only [hF224, hf213, hf215, hf217, hf219, hf221, hf223]; first | (intro h; exfalso; omega) | (intro _; rw [k6, k7, k8, k9]; exact hgr)); (have rr : rdc z210 rk = (cfR (z (18 + 2 * rk)), (z (17 + 2 * rk) 1).toNat, (z203 (17 + 2 * rk) 2).toNat, (z203 (17 + 2 * rk) 3).toNat, (z203 (17 + 2 * rk) 4).toNat, (z203 (17 + 2 * rk) 5).toNat) := (by unfold rdc; simp only [hF224, hf213, hf215, hf217, hf219, hf221, hf223]); rw [rr]; exact Or.inr ⟨by omega, vT (z 12), w 15, as6, as2, hen, SHI_e2 as1 as2 as7⟩))⟩)
  refine w_m rfl rfl ?_
  refine r_c0 (pc' := 1) rfl rfl ?_
  refine r_st (pc' := 2) (lv' := [(2, _), (0, _), (1, _)]) rfl rfl rfl rfl ?_
  have hb225 := rd_R_1 (k := rk) (by omega) hz
  exact w_lv (sub_c rfl (sub_c rfl (sub_c rfl sub_n))) rfl ((key ((62 * (1782 - 0) + 59 : Int).toNat + 1)).1 0 z0 w0 ⟨by omega, by omega⟩ hst (by first | exact hs9 | exact hsh) (by first | exact hd9 | exact hsd) (by first | omega | assumption) (by first | exact hc9 | exact CHN_0 rfl) (by first | exact hr9 | exact hnr) (by omega))

/-! methods, printed by wip/tools/vcg.py -/
/-- Reader readTwist -/
abbrev S_40x (t : Nat) : mS := [(3, 3, 6, 6), (3, 3, 8, 8), (3, 3, 7, 7), (3, 3, 9, 9), (3, 3, 10, 10), (3, 3, 0, 0), (3, 3, 1, 1), (t + 20, t + 25, 0, 7), (t + 27, t + 32, 0, 7)]
abbrev E_40x (t : Nat) (h : Int → Int) (g7 : Int) (a1 : Int) (a2 : Int) (z0 w0 : mZ) (x y mt tt ct : Option Nat) : Int → mZ → mZ → mP → Prop := fun v z w p => p = (pq x y (some 2) (some t) mt tt ct) ∧ 0 ≤ v ∧ v ≤ 1 ∧ ((v = 1 → (∃ k, CA h z w t k ∧ sq h k 0 = 10 ∧ sq h k 6 = a2 + 1 ∧ g7 = tkW5 h (sq h k 7) ∧ wdq h (sq h k 7)) ∧ z 3 0 = z0 3 0 ∧ z t 4 = z0 t 4 ∧ a2 ≤ 7 ∧ z 3 1 = z0 3 1 ∧ z0 3 8 < z 3 8) ∧ (v = 0 → CF h z))
set_option maxHeartbeats 8000000 in
theorem m_40x {d : Nat} {z0 w0 : mZ} {x y mt tt ct : Option Nat} (t : Nat) (h : Int → Int) (g7 : Int) (a1 : Int) (a2 : Int) (hz : rz z0) (hw : rw_ w0) (ha1 : 0 ≤ a1 ∧ a1 ≤ 5) (ha2 : 0 ≤ a2 ∧ a2 ≤ 8) (ht : isT t) (hh : tc z0 = h) (hca : ∃ k, CA h z0 w0 t k ∧ sq h k 0 = 10 ∧ sq h k 6 = a2 ∧ (tkK h (tp h k) ≠ 3 ∨ a2 ≤ 0) ∧ g7 = tkW5 h (sq h k 7) ∧ wdq h (sq h k 7)) (hwd : a1 = z0 t 4) : wc (d + 4) 40 [.ref 3, .int (Int32.ofInt a1), .int (Int32.ofInt a2)] (mk z0 w0 (pq x y (some 2) (some t) mt tt ct)) (poI (S_40x t) z0 w0 (E_40x t h g7 a1 a2 z0 w0 x y mt tt ct)) := by
  have hst : st_ (S_40x t) z0 w0 z0 w0 := st_rf hz hw
  have htb : 159 ≤ t ∧ t ≤ 192 := by have := ht; unfold isT at this; omega
  have hz166 := rd_3_0 hz
  have hz167 := rd_3_1 hz
  have hz168 := rd_3_7 hz
  have hz169 := rd_3_8 hz
  have hz170 := rd_T_3 ht hz
  have hz171 := rd_T_4 ht hz
  unfold CA TKc at hca
  obtain ⟨k, ⟨⟨e8, e0, e7, eN, eW, eE, e3⟩, hMC⟩, hm, h6, h3k, hg7⟩ := hca
  have hz3 := rd_T_3 ht hz
  have hMA := hMC.1.1
  have key : ∀ N : Nat, (∀ (z w : mZ), st_ (S_40x t) z0 w0 z w → w 3 10 = w0 3 10 → z 3 0 = z0 3 0 → z 3 1 = z0 3 1 → z 3 6 = z0 3 6 → z 3 7 = z0 3 7 → z 3 8 = z0 3 8 → z 3 9 = z0 3 9 → (z0 3 7 ≠ 1 ∨ 8 ≤ a2) → 2 < (N : Int) → wp_ (d + 3) 40 6 (some .boolean) (14, [(0, .ref 3)], [], mk z w (pq x y (some 2) (some t) mt tt ct)) (poI (S_40x t) z0 w0 (E_40x t h g7 a1 a2 z0 w0 x y mt tt ct))) ∧ (∀ (x3 x4 x5 : Int) (z w : mZ), 0 ≤ x3 ∧ x3 ≤ 7 → 0 ≤ x4 ∧ x4 ≤ 1600 → 0 ≤ x5 ∧ x5 ≤ 1 → 0 ≤ a2 ∧ a2 ≤ 7 → 1 ≤ z0 3 7 ∧ z0 3 7 ≤ 1 → st_ (S_40x t) z0 w0 z w → z 3 0 = z0 3 0 → z 3 1 = z0 3 1 → (∃ k, CA h z w t k ∧ ((x5 = 0 ∧ sq h k 0 = 11 ∧ x4 = tp h k ∧ tkK h (tp h k) ≠ 4) ∨ (x5 = 1 ∧ sq h k 0 = 12 ∧ x4 = sq h k 9)) ∧ sq h k 6 = a2 ∧ sq h k 8 = x3 ∧ g7 = tkW5 h (sq h k 7) ∧ wdq h (sq h k 7)) → (a2 ≤ 7 ∧ z 3 0 = z0 3 0 ∧ z t 4 = z0 t 4 ∧ z t 3 = z0 t 3 ∧ z 3 1 = z0 3 1 ∧ z0 3 8 < z 3 8) → 49 < (N : Int) → wp_ (d + 3) 40 6 (some .boolean) (81, [(0, .ref 3), (1, .int (Int32.ofInt a1)), (2, .int (Int32.ofInt a2)), (3, .int (Int32.ofInt x3)), (4, .int (Int32.ofInt x4)), (5, .int (Int32.ofInt x5))], [], mk z w (pq x y (some 2) (some t) mt tt ct)) (poI (S_40x t) z0 w0 (E_40x t h g7 a1 a2 z0 w0 x y mt tt ct))) ∧ (∀ (x4 : Int) (z w : mZ), 0 ≤ x4 ∧ x4 ≤ 1600 → 0 ≤ a2 ∧ a2 ≤ 7 → 1 ≤ z0 3 7 ∧ z0 3 7 ≤ 1 → st_ (S_40x t) z0 w0 z w → z 3 0 = z0 3 0 → z 3 1 = z0 3 1 → (∃ k, ((sq h k 0 = 11 ∧ x4 = tp h k) ∨ (sq h k 0 = 12 ∧ x4 = sq h k 9)) ∧ tkK h (tp h k) = 2 ∧ (tkN h (tp h k) = 0 ∨ 9 < tkN h (tp h k))) → 8 < (N : Int) → wp_ (d + 3) 40 6 (some .boolean) (110, [(0, .ref 3), (4, .int (Int32.ofInt x4))], [], mk z w (pq x y (some 2) (some t) mt tt ct)) (poI (S_40x t) z0 w0 (E_40x t h g7 a1 a2 z0 w0 x y mt tt ct))) := by
    intro N
    induction N with
    | zero =>
      refine ⟨?_, ?_, ?_⟩
      · intro  z w
        intros; exfalso; omega
      · intro x3 x4 x5 z w
        intros; exfalso; omega
      · intro x4 z w
        intros; exfalso; omega
    | succ N ih =>
      obtain ⟨ih0, ih1, ih2⟩ := ih
      refine ⟨?_, ?_, ?_⟩
      · intro  z w  hst un_w_3_10 un_z_3_0 un_z_3_1 un_z_3_6 un_z_3_7 un_z_3_8 un_z_3_9 as1 hM
        refine r_ld (pc' := 15) rfl rfl rfl rfl ?_
        have hb172 := rd_3_7 hz
        have hf173 : z 3 7 = z0 3 7 := un_z_3_7
        have hb174 := rd_3_8 hz
        have hf175 : z 3 8 = z0 3 8 := un_z_3_8
        refine r_cVI (pc' := 18) rfl rfl rfl rfl rfl sh_3 (m_34x (d := d + 1)  hst.1 hst.2.1 ) (fun v176 z177 w178 p179 h180 hs181 hE182 => ?_)
        have hs183 := st_tr hst hs181 (subS_c (fun _ _ _ _ _ _ => inS_s (inS_s (inS_s (inS_s (inS_s (inS_0 (by omega) (by omega) (by omega) (by omega))))))) (subS_c (fun _ _ _ _ _ _ => inS_s (inS_s (inS_s (inS_s (inS_s (inS_s (inS_0 (by omega) (by omega) (by omega) (by omega)))))))) subS_n))
        obtain ⟨rfl, hE182⟩ := hE182
        have hrf := hE182
        have hb184 := rd_3_0 hs183.1
        have hb185 := rd_T_4 ht hz
        have hf186 : z177 t 4 = z0 t 4 := ((hs181.2.2.1 _ _ (notS_c (by omega) (notS_c (by omega) notS_n))).trans (hst.2.2.1 _ _ (notS_c (by omega) (notS_c (by omega) (notS_c (by omega) (notS_c (by omega) (notS_c (by omega) (notS_c (by omega) (notS_c (by omega) (notS_c (by omega) (notS_c (by omega) notS_n)))))))))))
        have hb187 := rd_3_1 hs183.1
        have hf188 : z177 3 8 = z0 3 8 := ((hs181.2.2.1 _ _ (notS_c (by omega) (notS_c (by omega) notS_n))).trans un_z_3_8)
        have hb189 := rd_T_3 ht hz
        have hf190 : z177 t 3 = z0 t 3 := ((hs181.2.2.1 _ _ (notS_c (by omega) (notS_c (by omega) notS_n))).trans (hst.2.2.1 _ _ (notS_c (by omega) (notS_c (by omega) (notS_c (by omega) (notS_c (by omega) (notS_c (by omega) (notS_c (by omega) (notS_c (by omega) (notS_c (by omega) (notS_c (by omega) notS_n)))))))))))
        exact r_rz rfl (by omega) (po_I hs183 ⟨by omega, by omega⟩ ⟨rfl, by omega, by omega, (by exact ⟨fun q => absurd q (by omega), fun _ => CF_b (a10_b hm (by omega) (by omega)) (by rw [← e7, ← un_z_3_7]; exact hrf.2.2.2.1) (by omega)⟩)⟩)
      · intro x3 x4 x5 z w  hx3 hx4 hx5 hpa2 hz0_0 hst un_z_3_0 un_z_3_1 as1 as2 hM
        refine r_ld (pc' := 82) rfl rfl rfl rfl ?_
        have hb191 := rd_3_7 hst.1
        refine r_gi (pc' := 85) rfl rfl sh_3 rfl rfl ?_
        refine r_c0 (pc' := 86) rfl rfl ?_
        refine r_ieq (pc' := 89) rfl rfl ⟨by omega, by omega⟩ ⟨by decide, by decide⟩ (fun hc192 => ?_) (fun hc192 => ?_)
        · skip
          refine r_ld (pc' := 95) rfl rfl rfl rfl ?_
          have hb193 := rd_3_9 hst.1
          refine r_gi (pc' := 98) rfl rfl sh_3 rfl rfl ?_
          refine r_zeq (pc' := 101) rfl rfl ⟨by omega, by omega⟩ (fun hc194 => ?_) (fun hc194 => ?_)
          · skip
            have hb195 := rd_3_0 hz
            have hb196 := rd_3_1 hz
            exact w_lv (sub_c rfl (sub_c rfl sub_n)) rfl (ih2 x4 z w ⟨by omega, by omega⟩ ⟨by omega, by omega⟩ ⟨by omega, by omega⟩ hst (un_z_3_0) (un_z_3_1) (by obtain ⟨k, q1, q2, q3, q4, q5⟩ := as1; have q6 := q1.1; unfold TKc at q6; exact ⟨k, by omega, by omega, by have := q6.2.2.2.1 (by omega); omega⟩) (by omega))
          · skip
            refine r_ld (pc' := 102) rfl rfl rfl rfl ?_
            refine r_gi (pc' := 105) rfl rfl sh_3 rfl rfl ?_
            refine r_cb (pc' := 107) rfl (by decide) rfl ?_
            refine r_ile (pc' := 110) rfl rfl ⟨by omega, by omega⟩ ⟨by decide, by decide⟩ (fun hc197 => ?_) (fun hc197 => ?_)
            · skip
              obtain ⟨k, hcx, hor, h61, h81, hg71⟩ := as1
              have hcy := hcx
              unfold CA TKc at hcy
              obtain ⟨⟨f8, f0, f7, fN, fW, fE, f3⟩, hMD⟩ := hcy
              have hN := fN (by omega)
              have hzt3 := rd_T_3 ht hst.1
              have n33 : z 3 3 = z0 3 3 := hst.2.2.1 _ _ (notS_c (by omega) (notS_c (by omega) (notS_c (by omega) (notS_c (by omega) (notS_c (by omega) (notS_c (by omega) (notS_c (by omega) (notS_c (by omega) (notS_c (by omega) (notS_n))))))))))
              refine r_ld (pc' := 120) rfl rfl rfl rfl ?_
              refine r_gr (b := t) (pc' := 123) rfl rfl sh_3 rfl pp_3_4 ?_
              refine r_gr (b := t + 19) (pc' := 126) rfl rfl (sh_T ht) rfl (pp_T_15 ht) ?_
              refine r_ld (pc' := 127) rfl rfl rfl rfl ?_
              refine r_aa (b := t + 20 + a1.toNat) (pc' := 128) rfl rfl (sh_T19 ht) (Or.inr (Or.inl rfl)) rfl (by omega) (by omega) (pa_T19 ht (by omega)) ?_
              refine r_ld (pc' := 129) rfl rfl rfl rfl ?_
              refine r_ld (pc' := 130) rfl rfl rfl rfl ?_
              refine r_is (pc' := 131) rfl rfl (sh_T20 ht (by omega)) rfl (by omega) (by omega) hst (inS_s (inS_s (inS_s (inS_s (inS_s (inS_s (inS_s (inS_0 (by omega) (by omega) (by omega) (by omega))))))))) (wr_T20 ht (k := a1.toNat) (by omega) ⟨by omega, by omega⟩) (fun z198 hq199 hs200 => ?_)
              have hq1 := hq199
              refine r_ld (pc' := 132) rfl rfl rfl rfl ?_
              refine r_gr (b := t) (pc' := 135) rfl rfl sh_3 rfl pp_3_4 ?_
              refine r_gr (b := t + 26) (pc' := 138) rfl rfl (sh_T ht) rfl (pp_T_16 ht) ?_
              refine r_ld (pc' := 139) rfl rfl rfl rfl ?_
              refine r_aa (b := t + 27 + a1.toNat) (pc' := 140) rfl rfl (sh_T26 ht) (Or.inr (Or.inl rfl)) rfl (by omega) (by omega) (pa_T26 ht (by omega)) ?_
              refine r_ld (pc' := 141) rfl rfl rfl rfl ?_
              refine r_ld (pc' := 143) rfl rfl rfl rfl ?_
              refine r_zeq (pc' := 146) rfl rfl ⟨by omega, by omega⟩ (fun hc201 => ?_) (fun hc201 => ?_)
              · skip
                refine r_ld (pc' := 155) rfl rfl rfl rfl ?_
                refine r_gi (pc' := 158) rfl rfl sh_3 rfl ((congrFun (congrFun hq199 _) _).trans (mu_ne (by omega))) ?_
                refine r_is (pc' := 159) rfl rfl (sh_T27 ht (by omega)) rfl (by omega) (by omega) hs200 (inS_s (inS_s (inS_s (inS_s (inS_s (inS_s (inS_s (inS_s (inS_0 (by omega) (by omega) (by omega) (by omega)))))))))) (wr_T27 ht (k := a1.toNat) (by omega) ⟨by omega, by omega⟩) (fun z202 hq203 hs204 => ?_)
                have hq2 := hq203
                have hf1 : ∀ a i, a ≠ t + 20 + (z t 4).toNat → a ≠ t + 27 + (z t 4).toNat → z202 a i = z a i := fun a i g1 g2 => (((congrFun (congrFun hq203 _) _).trans (mu_ne (by omega))).trans ((congrFun (congrFun hq199 _) _).trans (mu_ne (by omega))))
                refine r_ld (pc' := 160) rfl rfl rfl rfl ?_
                have hb205 := rd_3_6 hst.1
                have hf206 : z202 3 6 = z 3 6 := (((congrFun (congrFun hq203 _) _).trans (mu_ne (by omega))).trans ((congrFun (congrFun hq199 _) _).trans (mu_ne (by omega))))
                have hb207 := rd_3_3 hz
                have hf208 : z202 3 3 = z0 3 3 := (((congrFun (congrFun hq203 _) _).trans (mu_ne (by omega))).trans (((congrFun (congrFun hq199 _) _).trans (mu_ne (by omega))).trans (hst.2.2.1 _ _ (notS_c (by omega) (notS_c (by omega) (notS_c (by omega) (notS_c (by omega) (notS_c (by omega) (notS_c (by omega) (notS_c (by omega) (notS_c (by omega) (notS_c (by omega) notS_n))))))))))))
                refine r_cVV (pc' := 163) rfl rfl rfl rfl rfl sh_3 (m_46x (d := d) t h hs204.1 hs204.2.1 ht (by exact (tc_f (fun i => hs204.2.2.1 2 i (notS_c (by omega) (notS_c (by omega) (notS_c (by omega) (notS_c (by omega) (notS_c (by omega) (notS_c (by omega) (notS_c (by omega) (notS_c (by omega) (notS_c (by omega) (notS_n))))))))))) (hs204.2.2.1 3 3 (notS_c (by omega) (notS_c (by omega) (notS_c (by omega) (notS_c (by omega) (notS_c (by omega) (notS_c (by omega) (notS_c (by omega) (notS_c (by omega) (notS_c (by omega) (notS_n)))))))))))).trans hh) (by first | omega | assumption | (simp only [hf206, hf208]; assumption))) (fun z210 w211 p212 hs214 hE215 => ?_)
                have hs216 := st_tr hs204 hs214 (subS_c (fun _ _ _ _ _ _ => inS_0 (by omega) (by omega) (by omega) (by omega)) (subS_c (fun _ _ _ _ _ _ => inS_s (inS_0 (by omega) (by omega) (by omega) (by omega))) (subS_c (fun _ _ _ _ _ _ => inS_s (inS_s (inS_0 (by omega) (by omega) (by omega) (by omega)))) (subS_c (fun _ _ _ _ _ _ => inS_s (inS_s (inS_s (inS_0 (by omega) (by omega) (by omega) (by omega))))) (subS_c (fun _ _ _ _ _ _ => inS_s (inS_s (inS_s (inS_s (inS_0 (by omega) (by omega) (by omega) (by omega)))))) subS_n)))))
                obtain ⟨rfl, hE215⟩ := hE215
                have hrt := hE215
                have hfe : Fr z202 w z210 w211 := ⟨fun a i ha => (hs214.2.2.1 _ _ (notS_c (by omega) (notS_c (by omega) (notS_c (by omega) (notS_c (by omega) (notS_c (by omega) notS_n)))))), (hs214.2.2.1 _ _ (notS_c (by omega) (notS_c (by omega) (notS_c (by omega) (notS_c (by omega) (notS_c (by omega) notS_n)))))), fun a i ha => (hs214.2.2.2 _ _ (notS_c (by omega) (notS_c (by omega) (notS_c (by omega) (notS_c (by omega) (notS_c (by omega) notS_n))))))⟩
                refine r_c0 (pc' := 164) rfl rfl ?_
                have hb217 := rd_3_0 hz
                have hf218 : z210 3 0 = z0 3 0 := ((hs214.2.2.1 _ _ (notS_c (by omega) (notS_c (by omega) (notS_c (by omega) (notS_c (by omega) (notS_c (by omega) notS_n)))))).trans (((congrFun (congrFun hq203 _) _).trans (mu_ne (by omega))).trans (((congrFun (congrFun hq199 _) _).trans (mu_ne (by omega))).trans un_z_3_0)))
                have hb219 := rd_T_4 ht hz
                have hf220 : z210 t 4 = z0 t 4 := ((hs214.2.2.1 _ _ (notS_c (by omega) (notS_c (by omega) (notS_c (by omega) (notS_c (by omega) (notS_c (by omega) notS_n)))))).trans (((congrFun (congrFun hq203 _) _).trans (mu_ne (by omega))).trans (((congrFun (congrFun hq199 _) _).trans (mu_ne (by omega))).trans (hst.2.2.1 _ _ (notS_c (by omega) (notS_c (by omega) (notS_c (by omega) (notS_c (by omega) (notS_c (by omega) (notS_c (by omega) (notS_c (by omega) (notS_c (by omega) (notS_c (by omega) notS_n)))))))))))))
                have hb221 := rd_3_1 hz
                have hf222 : z210 3 1 = z0 3 1 := ((hs214.2.2.1 _ _ (notS_c (by omega) (notS_c (by omega) (notS_c (by omega) (notS_c (by omega) (notS_c (by omega) notS_n)))))).trans (((congrFun (congrFun hq203 _) _).trans (mu_ne (by omega))).trans (((congrFun (congrFun hq199 _) _).trans (mu_ne (by omega))).trans un_z_3_1)))
                have hb223 := rd_3_8 hs216.1
                have hb224 := rd_T_3 ht hz
                have hf225 : z210 t 3 = z0 t 3 := ((hs214.2.2.1 _ _ (notS_c (by omega) (notS_c (by omega) (notS_c (by omega) (notS_c (by omega) (notS_c (by omega) notS_n)))))).trans (((congrFun (congrFun hq203 _) _).trans (mu_ne (by omega))).trans (((congrFun (congrFun hq199 _) _).trans (mu_ne (by omega))).trans (hst.2.2.1 _ _ (notS_c (by omega) (notS_c (by omega) (notS_c (by omega) (notS_c (by omega) (notS_c (by omega) (notS_c (by omega) (notS_c (by omega) (notS_c (by omega) (notS_c (by omega) notS_n)))))))))))))
                exact r_rz rfl (by omega) (po_I hs216 ⟨by decide, by decide⟩ ⟨rfl, by omega, by omega, (by refine ⟨fun _ => ?_, fun q => absurd q (by omega)⟩; rcases hor with g | g; (first | (exfalso; omega) | (have q9 := CA_t (v := tkN h (tp h k)) (z1 := z202) (by omega) hMD (Or.inl g.2.1) ((sq_s h k).trans (a11_o g.2.1 (by omega) ⟨by omega, by omega⟩)) (by omega) (by omega) (by omega) hf1 (fun i => by rw [hq2, mu_fn (by omega), hq1, show (z t 4).toNat = a1.toNat by omega, mu_sf]; dsimp only; rw [h61, h81]) (fun i => by rw [hq2, show (z t 4).toNat = a1.toNat by omega, mu_sf]; dsimp only; rw [h61, hq1, mu_fn (by omega)]; by_cases c : i = a2.toNat; (rw [if_pos c, if_pos c]; omega); (rw [if_neg c, if_neg c])) hfe (by rw [tp_s, ← (fE (by omega)).1, show z 3 6 = z202 3 6 from (hf1 3 6 (by omega) (by omega)).symm]; exact hrt.1); exact ⟨⟨k + 1, q9.1, q9.2.1, by omega, by rw [q9.2.2.2 7 (by omega) (by omega) (by omega)]; exact hg71⟩, by omega, by omega, by omega, by omega, by omega⟩)); (first | (exfalso; omega) | (have q9 := CA_t (v := -tkN h (tp h k)) (z1 := z202) (by omega) hMD (Or.inr g.2.1) ((sq_s h k).trans (a12_o g.2.1 (by omega) ⟨by omega, by omega⟩)) (by omega) (by omega) (by omega) hf1 (fun i => by rw [hq2, mu_fn (by omega), hq1, show (z t 4).toNat = a1.toNat by omega, mu_sf]; dsimp only; rw [h61, h81]) (fun i => by rw [hq2, show (z t 4).toNat = a1.toNat by omega, mu_sf]; dsimp only; rw [h61, hq1, mu_fn (by omega)]; by_cases c : i = a2.toNat; (rw [if_pos c, if_pos c]; omega); (rw [if_neg c, if_neg c])) hfe (by rw [tp_s, ← (fE (by omega)).1, show z 3 6 = z202 3 6 from (hf1 3 6 (by omega) (by omega)).symm]; exact hrt.1); exact ⟨⟨k + 1, q9.1, q9.2.1, by omega, by rw [q9.2.2.2 7 (by omega) (by omega) (by omega)]; exact hg71⟩, by omega, by omega, by omega, by omega, by omega⟩)))⟩)
              · skip
                refine r_ld (pc' := 147) rfl rfl rfl rfl ?_
                refine r_gi (pc' := 150) rfl rfl sh_3 rfl ((congrFun (congrFun hq199 _) _).trans (mu_ne (by omega))) ?_
                refine r_neg (pc' := 151) rfl rfl ?_
                refine w_hxi (fun v226 h227 h228 => ?_)
                refine r_go rfl ?_
                refine r_is (pc' := 159) rfl rfl (sh_T27 ht (by omega)) rfl (by omega) (by omega) hs200 (inS_s (inS_s (inS_s (inS_s (inS_s (inS_s (inS_s (inS_s (inS_0 (by omega) (by omega) (by omega) (by omega)))))))))) (wr_T27 ht (k := a1.toNat) (by omega) ⟨by omega, by omega⟩) (fun z229 hq230 hs231 => ?_)
                have hq2 := hq230
                have hf1 : ∀ a i, a ≠ t + 20 + (z t 4).toNat → a ≠ t + 27 + (z t 4).toNat → z229 a i = z a i := fun a i g1 g2 => (((congrFun (congrFun hq230 _) _).trans (mu_ne (by omega))).trans ((congrFun (congrFun hq199 _) _).trans (mu_ne (by omega))))
                refine r_ld (pc' := 160) rfl rfl rfl rfl ?_
                have hb232 := rd_3_6 hst.1
                have hf233 : z229 3 6 = z 3 6 := (((congrFun (congrFun hq230 _) _).trans (mu_ne (by omega))).trans ((congrFun (congrFun hq199 _) _).trans (mu_ne (by omega))))
                have hb234 := rd_3_3 hz
                have hf235 : z229 3 3 = z0 3 3 := (((congrFun (congrFun hq230 _) _).trans (mu_ne (by omega))).trans (((congrFun (congrFun hq199 _) _).trans (mu_ne (by omega))).trans (hst.2.2.1 _ _ (notS_c (by omega) (notS_c (by omega) (notS_c (by omega) (notS_c (by omega) (notS_c (by omega) (notS_c (by omega) (notS_c (by omega) (notS_c (by omega) (notS_c (by omega) notS_n))))))))))))
                refine r_cVV (pc' := 163) rfl rfl rfl rfl rfl sh_3 (m_46x (d := d) t h hs231.1 hs231.2.1 ht (by exact (tc_f (fun i => hs231.2.2.1 2 i (notS_c (by omega) (notS_c (by omega) (notS_c (by omega) (notS_c (by omega) (notS_c (by omega) (notS_c (by omega) (notS_c (by omega) (notS_c (by omega) (notS_c (by omega) (notS_n))))))))))) (hs231.2.2.1 3 3 (notS_c (by omega) (notS_c (by omega) (notS_c (by omega) (notS_c (by omega) (notS_c (by omega) (notS_c (by omega) (notS_c (by omega) (notS_c (by omega) (notS_c (by omega) (notS_n)))))))))))).trans hh) (by first | omega | assumption | (simp only [hf233, hf235]; assumption))) (fun z237 w238 p239 hs241 hE242 => ?_)
                have hs243 := st_tr hs231 hs241 (subS_c (fun _ _ _ _ _ _ => inS_0 (by omega) (by omega) (by omega) (by omega)) (subS_c (fun _ _ _ _ _ _ => inS_s (inS_0 (by omega) (by omega) (by omega) (by omega))) (subS_c (fun _ _ _ _ _ _ => inS_s (inS_s (inS_0 (by omega) (by omega) (by omega) (by omega)))) (subS_c (fun _ _ _ _ _ _ => inS_s (inS_s (inS_s (inS_0 (by omega) (by omega) (by omega) (by omega))))) (subS_c (fun _ _ _ _ _ _ => inS_s (inS_s (inS_s (inS_s (inS_0 (by omega) (by omega) (by omega) (by omega)))))) subS_n)))))
                obtain ⟨rfl, hE242⟩ := hE242
                have hrt := hE242
                have hfe : Fr z229 w z237 w238 := ⟨fun a i ha => (hs241.2.2.1 _ _ (notS_c (by omega) (notS_c (by omega) (notS_c (by omega) (notS_c (by omega) (notS_c (by omega) notS_n)))))), (hs241.2.2.1 _ _ (notS_c (by omega) (notS_c (by omega) (notS_c (by omega) (notS_c (by omega) (notS_c (by omega) notS_n)))))), fun a i ha => (hs241.2.2.2 _ _ (notS_c (by omega) (notS_c (by omega) (notS_c (by omega) (notS_c (by omega) (notS_c (by omega) notS_n))))))⟩
                refine r_c0 (pc' := 164) rfl rfl ?_
                have hb244 := rd_3_0 hz
                have hf245 : z237 3 0 = z0 3 0 := ((hs241.2.2.1 _ _ (notS_c (by omega) (notS_c (by omega) (notS_c (by omega) (notS_c (by omega) (notS_c (by omega) notS_n)))))).trans (((congrFun (congrFun hq230 _) _).trans (mu_ne (by omega))).trans (((congrFun (congrFun hq199 _) _).trans (mu_ne (by omega))).trans un_z_3_0)))
                have hb246 := rd_T_4 ht hz
                have hf247 : z237 t 4 = z0 t 4 := ((hs241.2.2.1 _ _ (notS_c (by omega) (notS_c (by omega) (notS_c (by omega) (notS_c (by omega) (notS_c (by omega) notS_n)))))).trans (((congrFun (congrFun hq230 _) _).trans (mu_ne (by omega))).trans (((congrFun (congrFun hq199 _) _).trans (mu_ne (by omega))).trans (hst.2.2.1 _ _ (notS_c (by omega) (notS_c (by omega) (notS_c (by omega) (notS_c (by omega) (notS_c (by omega) (notS_c (by omega) (notS_c (by omega) (notS_c (by omega) (notS_c (by omega) notS_n)))))))))))))
                have hb248 := rd_3_1 hz
                have hf249 : z237 3 1 = z0 3 1 := ((hs241.2.2.1 _ _ (notS_c (by omega) (notS_c (by omega) (notS_c (by omega) (notS_c (by omega) (notS_c (by omega) notS_n)))))).trans (((congrFun (congrFun hq230 _) _).trans (mu_ne (by omega))).trans (((congrFun (congrFun hq199 _) _).trans (mu_ne (by omega))).trans un_z_3_1)))
                have hb250 := rd_3_8 hs243.1
                have hb251 := rd_T_3 ht hz
                have hf252 : z237 t 3 = z0 t 3 := ((hs241.2.2.1 _ _ (notS_c (by omega) (notS_c (by omega) (notS_c (by omega) (notS_c (by omega) (notS_c (by omega) notS_n)))))).trans (((congrFun (congrFun hq230 _) _).trans (mu_ne (by omega))).trans (((congrFun (congrFun hq199 _) _).trans (mu_ne (by omega))).trans (hst.2.2.1 _ _ (notS_c (by omega) (notS_c (by omega) (notS_c (by omega) (notS_c (by omega) (notS_c (by omega) (notS_c (by omega) (notS_c (by omega) (notS_c (by omega) (notS_c (by omega) notS_n)))))))))))))
                exact r_rz rfl (by omega) (po_I hs243 ⟨by decide, by decide⟩ ⟨rfl, by omega, by omega, (by refine ⟨fun _ => ?_, fun q => absurd q (by omega)⟩; rcases hor with g | g; (first | (exfalso; omega) | (have q9 := CA_t (v := tkN h (tp h k)) (z1 := z229) (by omega) hMD (Or.inl g.2.1) ((sq_s h k).trans (a11_o g.2.1 (by omega) ⟨by omega, by omega⟩)) (by omega) (by omega) (by omega) hf1 (fun i => by rw [hq2, mu_fn (by omega), hq1, show (z t 4).toNat = a1.toNat by omega, mu_sf]; dsimp only; rw [h61, h81]) (fun i => by rw [hq2, show (z t 4).toNat = a1.toNat by omega, mu_sf]; dsimp only; rw [h61, hq1, mu_fn (by omega)]; by_cases c : i = a2.toNat; (rw [if_pos c, if_pos c]; omega); (rw [if_neg c, if_neg c])) hfe (by rw [tp_s, ← (fE (by omega)).1, show z 3 6 = z229 3 6 from (hf1 3 6 (by omega) (by omega)).symm]; exact hrt.1); exact ⟨⟨k + 1, q9.1, q9.2.1, by omega, by rw [q9.2.2.2 7 (by omega) (by omega) (by omega)]; exact hg71⟩, by omega, by omega, by omega, by omega, by omega⟩)); (first | (exfalso; omega) | (have q9 := CA_t (v := -tkN h (tp h k)) (z1 := z229) (by omega) hMD (Or.inr g.2.1) ((sq_s h k).trans (a12_o g.2.1 (by omega) ⟨by omega, by omega⟩)) (by omega) (by omega) (by omega) hf1 (fun i => by rw [hq2, mu_fn (by omega), hq1, show (z t 4).toNat = a1.toNat by omega, mu_sf]; dsimp only; rw [h61, h81]) (fun i => by rw [hq2, show (z t 4).toNat = a1.toNat by omega, mu_sf]; dsimp only; rw [h61, hq1, mu_fn (by omega)]; by_cases c : i = a2.toNat; (rw [if_pos c, if_pos c]; omega); (rw [if_neg c, if_neg c])) hfe (by rw [tp_s, ← (fE (by omega)).1, show z 3 6 = z229 3 6 from (hf1 3 6 (by omega) (by omega)).symm]; exact hrt.1); exact ⟨⟨k + 1, q9.1, q9.2.1, by omega, by rw [q9.2.2.2 7 (by omega) (by omega) (by omega)]; exact hg71⟩, by omega, by omega, by omega, by omega, by omega⟩)))⟩)
            · skip
              have hb253 := rd_3_0 hz
              have hb254 := rd_3_1 hz
              exact w_lv (sub_c rfl (sub_c rfl sub_n)) rfl (ih2 x4 z w ⟨by omega, by omega⟩ ⟨by omega, by omega⟩ ⟨by omega, by omega⟩ hst (un_z_3_0) (un_z_3_1) (by obtain ⟨k, q1, q2, q3, q4, q5⟩ := as1; have q6 := q1.1; unfold TKc at q6; exact ⟨k, by omega, by omega, by have := q6.2.2.2.1 (by omega); omega⟩) (by omega))
        · skip
          obtain ⟨k, hcx, hor, h61, h81, hg71⟩ := as1
          have hcy := hcx
          unfold CA TKc at hcy
          obtain ⟨⟨f8, f0, f7, fN, fW, fE, f3⟩, hMD⟩ := hcy
          refine r_ld (pc' := 90) rfl rfl rfl rfl ?_
          have hb255 := rd_3_8 hst.1
          refine r_cVI (pc' := 93) rfl rfl rfl rfl rfl sh_3 (m_34x (d := d + 1)  hst.1 hst.2.1 ) (fun v256 z257 w258 p259 h260 hs261 hE262 => ?_)
          have hs263 := st_tr hst hs261 (subS_c (fun _ _ _ _ _ _ => inS_s (inS_s (inS_s (inS_s (inS_s (inS_0 (by omega) (by omega) (by omega) (by omega))))))) (subS_c (fun _ _ _ _ _ _ => inS_s (inS_s (inS_s (inS_s (inS_s (inS_s (inS_0 (by omega) (by omega) (by omega) (by omega)))))))) subS_n))
          obtain ⟨rfl, hE262⟩ := hE262
          have hrf := hE262
          have hb264 := rd_3_0 hs263.1
          have hb265 := rd_T_4 ht hz
          have hf266 : z257 t 4 = z0 t 4 := ((hs261.2.2.1 _ _ (notS_c (by omega) (notS_c (by omega) notS_n))).trans (hst.2.2.1 _ _ (notS_c (by omega) (notS_c (by omega) (notS_c (by omega) (notS_c (by omega) (notS_c (by omega) (notS_c (by omega) (notS_c (by omega) (notS_c (by omega) (notS_c (by omega) notS_n)))))))))))
          have hb267 := rd_3_1 hs263.1
          have hf268 : z257 3 8 = z 3 8 := (hs261.2.2.1 _ _ (notS_c (by omega) (notS_c (by omega) notS_n)))
          have hb269 := rd_T_3 ht hz
          have hf270 : z257 t 3 = z0 t 3 := ((hs261.2.2.1 _ _ (notS_c (by omega) (notS_c (by omega) notS_n))).trans (hst.2.2.1 _ _ (notS_c (by omega) (notS_c (by omega) (notS_c (by omega) (notS_c (by omega) (notS_c (by omega) (notS_c (by omega) (notS_c (by omega) (notS_c (by omega) (notS_c (by omega) notS_n)))))))))))
          exact r_rz rfl (by omega) (po_I hs263 ⟨by omega, by omega⟩ ⟨rfl, by omega, by omega, (by refine ⟨fun q => absurd q (by omega), fun _ => ?_⟩; rcases hor with g | g; (exact CF_b (a11_b g.2.1 ⟨by omega, by omega⟩) (by rw [← f7]; exact hrf.2.2.2.1) (by omega)); (exact CF_b (a12_b g.2.1 (by omega)) (by rw [← f7]; exact hrf.2.2.2.1) (by omega)))⟩)
      · intro x4 z w  hx4 hpa2 hz0_0 hst un_z_3_0 un_z_3_1 as1 hM
        obtain ⟨k, hor, hK2, hN⟩ := as1
        refine r_ld (pc' := 111) rfl rfl rfl rfl ?_
        refine r_c0 (pc' := 112) rfl rfl ?_
        refine r_ld (pc' := 114) rfl rfl rfl rfl ?_
        refine r_cVV (pc' := 117) rfl rfl rfl rfl rfl sh_3 (m_33x (d := d + 2) 4 x4 hst.1 hst.2.1 ⟨by omega, by omega⟩ ⟨by omega, by omega⟩) (fun z272 w273 p274 hs276 hE277 => ?_)
        have hs278 := st_tr hst hs276 (subS_c (fun _ _ _ _ _ _ => inS_s (inS_s (inS_s (inS_s (inS_s (inS_0 (by omega) (by omega) (by omega) (by omega))))))) (subS_c (fun _ _ _ _ _ _ => inS_s (inS_s (inS_s (inS_s (inS_s (inS_s (inS_0 (by omega) (by omega) (by omega) (by omega)))))))) subS_n))
        obtain ⟨rfl, hE277⟩ := hE277
        have hrg := hE277
        refine r_c0 (pc' := 118) rfl rfl ?_
        have hb279 := rd_3_0 hs278.1
        have hb280 := rd_T_4 ht hz
        have hf281 : z272 t 4 = z0 t 4 := ((hs276.2.2.1 _ _ (notS_c (by omega) (notS_c (by omega) notS_n))).trans (hst.2.2.1 _ _ (notS_c (by omega) (notS_c (by omega) (notS_c (by omega) (notS_c (by omega) (notS_c (by omega) (notS_c (by omega) (notS_c (by omega) (notS_c (by omega) (notS_c (by omega) notS_n)))))))))))
        have hb282 := rd_3_1 hs278.1
        have hb283 := rd_3_8 hst.1
        have hf284 : z272 3 8 = z 3 8 := (hs276.2.2.1 _ _ (notS_c (by omega) (notS_c (by omega) notS_n)))
        have hb285 := rd_T_3 ht hz
        have hf286 : z272 t 3 = z0 t 3 := ((hs276.2.2.1 _ _ (notS_c (by omega) (notS_c (by omega) notS_n))).trans (hst.2.2.1 _ _ (notS_c (by omega) (notS_c (by omega) (notS_c (by omega) (notS_c (by omega) (notS_c (by omega) (notS_c (by omega) (notS_c (by omega) (notS_c (by omega) (notS_c (by omega) notS_n)))))))))))
        exact r_rz rfl (by omega) (po_I hs278 ⟨by decide, by decide⟩ ⟨rfl, by omega, by omega, (by refine ⟨fun q => absurd q (by omega), fun _ => ?_⟩; rcases hor with g | g; (exact CF_i (f := 4) (a11_4 g.1 hK2 hN) (by omega) (by omega) (by omega)); (exact CF_i (f := 4) (a12_4 g.1 hK2 hN) (by omega) (by omega) (by omega)))⟩)
  refine w_m rfl rfl ?_
  refine r_ld (pc' := 1) rfl rfl rfl rfl ?_
  have hb287 := rd_3_7 hz
  refine r_gi (pc' := 4) rfl rfl sh_3 rfl rfl ?_
  refine r_c0 (pc' := 5) rfl rfl ?_
  refine r_ine (pc' := 8) rfl rfl ⟨by omega, by omega⟩ ⟨by decide, by decide⟩ (fun hc288 => ?_) (fun hc288 => ?_)
  · skip
    have hb289 := rd_3_10 hw
    have hb290 := rd_3_0 hz
    have hb291 := rd_3_1 hz
    have hb292 := rd_3_6 hz
    have hb293 := rd_3_8 hz
    have hb294 := rd_3_9 hz
    exact w_lv (sub_c rfl sub_n) rfl ((key ((2 : Int).toNat + 1)).1 z0 w0 hst (rfl) (rfl) (rfl) (rfl) (rfl) (rfl) (rfl) (by first | omega | assumption) (by omega))
  · skip
    refine r_ld (pc' := 9) rfl rfl rfl rfl ?_
    refine r_cb (pc' := 11) rfl (by decide) rfl ?_
    refine r_ilt (pc' := 14) rfl rfl ⟨by omega, by omega⟩ ⟨by decide, by decide⟩ (fun hc295 => ?_) (fun hc295 => ?_)
    · skip
      refine r_ld (pc' := 20) rfl rfl rfl rfl ?_
      refine r_gr (b := t) (pc' := 23) rfl rfl sh_3 rfl pp_3_4 ?_
      refine r_ld (pc' := 24) rfl rfl rfl rfl ?_
      have hb296 := rd_3_10 hw
      refine r_gl (pc' := 27) rfl rfl sh_3 rfl rfl ?_
      have hb297 := rd_T_3 ht hz
      refine r_cVI (pc' := 30) rfl rfl rfl rfl rfl (sh_T ht) (m_82x (d := d + 1) t (w0 3 10) hst.1 hst.2.1 ⟨by omega, by omega⟩ ht) (fun v298 z299 w300 p301 h302 hs303 hE304 => ?_)
      obtain ⟨rfl, rfl, rfl, hE304⟩ := hE304
      have hln := hE304.2.2
      refine r_st (pc' := 31) (lv' := [(3, _), (0, _), (1, _), (2, _)]) rfl rfl rfl rfl ?_
      refine r_ld (pc' := 32) rfl rfl rfl rfl ?_
      refine r_c0 (pc' := 33) rfl rfl ?_
      refine r_ine (pc' := 36) rfl rfl ⟨by omega, by omega⟩ ⟨by decide, by decide⟩ (fun hc306 => ?_) (fun hc306 => ?_)
      · skip
        refine r_ld (pc' := 48) rfl rfl rfl rfl ?_
        have hb307 := rd_3_6 hz
        have hb308 := rd_3_3 hz
        refine r_cVV (pc' := 51) rfl rfl rfl rfl rfl sh_3 (m_46x (d := d) t h hst.1 hst.2.1 ht (by exact (tc_f (fun i => hst.2.2.1 2 i (notS_c (by omega) (notS_c (by omega) (notS_c (by omega) (notS_c (by omega) (notS_c (by omega) (notS_c (by omega) (notS_c (by omega) (notS_c (by omega) (notS_c (by omega) (notS_n))))))))))) (hst.2.2.1 3 3 (notS_c (by omega) (notS_c (by omega) (notS_c (by omega) (notS_c (by omega) (notS_c (by omega) (notS_c (by omega) (notS_c (by omega) (notS_c (by omega) (notS_c (by omega) (notS_n)))))))))))).trans hh) (by first | omega | assumption)) (fun z310 w311 p312 hs314 hE315 => ?_)
        have hs316 := st_tr hst hs314 (subS_c (fun _ _ _ _ _ _ => inS_0 (by omega) (by omega) (by omega) (by omega)) (subS_c (fun _ _ _ _ _ _ => inS_s (inS_0 (by omega) (by omega) (by omega) (by omega))) (subS_c (fun _ _ _ _ _ _ => inS_s (inS_s (inS_0 (by omega) (by omega) (by omega) (by omega)))) (subS_c (fun _ _ _ _ _ _ => inS_s (inS_s (inS_s (inS_0 (by omega) (by omega) (by omega) (by omega))))) (subS_c (fun _ _ _ _ _ _ => inS_s (inS_s (inS_s (inS_s (inS_0 (by omega) (by omega) (by omega) (by omega)))))) subS_n)))))
        obtain ⟨rfl, hE315⟩ := hE315
        have hrt := hE315
        have hfa : Fr z0 w0 z310 w311 := ⟨fun a i ha => (hs314.2.2.1 _ _ (notS_c (by omega) (notS_c (by omega) (notS_c (by omega) (notS_c (by omega) (notS_c (by omega) notS_n)))))), (hs314.2.2.1 _ _ (notS_c (by omega) (notS_c (by omega) (notS_c (by omega) (notS_c (by omega) (notS_c (by omega) notS_n)))))), fun a i ha => (hs314.2.2.2 _ _ (notS_c (by omega) (notS_c (by omega) (notS_c (by omega) (notS_c (by omega) (notS_c (by omega) notS_n))))))⟩
        have hwa := eW (by omega)
        have hfn := fn_y hMC.2.2.2.1 hwa.1 hwa.2 (by have q := hln.resolve_left (by omega); exact ⟨q.1, by omega, q.2.2⟩)
        have ea : sq h (k + 1) = _ := (sq_s h k).trans (a10_o hm (by omega) (by omega) (by rw [hfn]; omega))
        rw [hfn] at ea
        have c9 := CA_2 (i := 8) (by omega) hMC (by omega) (fun j g1 g2 => by rw [ea, su_n (by omega), su_n (by omega)]) (by omega) (by rw [ea, su_e]; omega) (fun _ => Or.inl ⟨by omega, by omega⟩) hfa (by rw [tp_s, ← (eE (by omega)).1]; exact hrt.1)
        have hcy := c9
        unfold CA TKc at hcy
        obtain ⟨⟨g8, g0, g7, gN, gW, gE, g3⟩, hMD⟩ := hcy
        refine r_ld (pc' := 52) rfl rfl rfl rfl ?_
        have hb317 := rd_3_8 hs316.1
        refine r_gi (pc' := 55) rfl rfl sh_3 rfl rfl ?_
        refine r_st (pc' := 57) (lv' := [(4, _), (3, _), (0, _), (1, _), (2, _)]) rfl rfl rfl rfl ?_
        refine r_ld (pc' := 58) rfl rfl rfl rfl ?_
        have hb318 := rd_3_7 hs316.1
        refine r_gi (pc' := 61) rfl rfl sh_3 rfl rfl ?_
        refine r_c0 (pc' := 62) rfl rfl ?_
        refine r_ine (pc' := 65) rfl rfl ⟨by omega, by omega⟩ ⟨by decide, by decide⟩ (fun hc319 => ?_) (fun hc319 => ?_)
        · skip
          refine r_c0 (pc' := 70) rfl rfl ?_
          refine r_st (pc' := 72) (lv' := [(5, _), (4, _), (3, _), (0, _), (1, _), (2, _)]) rfl rfl rfl rfl ?_
          refine r_ld (pc' := 74) rfl rfl rfl rfl ?_
          refine r_zeq (pc' := 77) rfl rfl ⟨by decide, by decide⟩ (fun hc320 => ?_) (fun hc320 => ?_)
          · skip
            have hb321 := rd_3_0 hz
            have hf322 : z310 3 0 = z0 3 0 := (hs314.2.2.1 _ _ (notS_c (by omega) (notS_c (by omega) (notS_c (by omega) (notS_c (by omega) (notS_c (by omega) notS_n))))))
            have hb323 := rd_T_4 ht hz
            have hf324 : z310 t 4 = z0 t 4 := (hs314.2.2.1 _ _ (notS_c (by omega) (notS_c (by omega) (notS_c (by omega) (notS_c (by omega) (notS_c (by omega) notS_n))))))
            have hf325 : z310 t 3 = z0 t 3 := (hs314.2.2.1 _ _ (notS_c (by omega) (notS_c (by omega) (notS_c (by omega) (notS_c (by omega) (notS_c (by omega) notS_n))))))
            have hb326 := rd_3_1 hz
            have hf327 : z310 3 1 = z0 3 1 := (hs314.2.2.1 _ _ (notS_c (by omega) (notS_c (by omega) (notS_c (by omega) (notS_c (by omega) (notS_c (by omega) notS_n))))))
            have hb328 := rd_3_9 hs316.1
            exact w_lv (sub_c rfl (sub_c rfl (sub_c rfl (sub_c rfl (sub_c rfl (sub_c rfl sub_n)))))) rfl ((key ((49 : Int).toNat + 1)).2.1 v298 (z310 3 8) 0 z310 w311 ⟨by omega, by omega⟩ ⟨by omega, by omega⟩ ⟨by omega, by omega⟩ ⟨by omega, by omega⟩ ⟨by omega, by omega⟩ hs316 ((hs314.2.2.1 _ _ (notS_c (by omega) (notS_c (by omega) (notS_c (by omega) (notS_c (by omega) (notS_c (by omega) notS_n))))))) ((hs314.2.2.1 _ _ (notS_c (by omega) (notS_c (by omega) (notS_c (by omega) (notS_c (by omega) (notS_c (by omega) notS_n))))))) (by first | exact ⟨k + 1 + 1, c10, Or.inr ⟨by omega, by rw [eb, su_e], by rw [eb, su_n (by omega), su_e]; omega⟩, by rw [eb, su_n (by omega), su_n (by omega), ea, su_n (by omega), su_n (by omega)]; exact h6, by rw [eb, su_n (by omega), su_n (by omega), ea, su_n (by omega), su_e], by rw [eb, su_n (by omega), su_n (by omega), ea, su_n (by omega), su_n (by omega)]; exact hg7⟩ | exact ⟨k + 1, c9, Or.inl ⟨by omega, by rw [ea, su_e], by omega, by omega⟩, by rw [ea, su_n (by omega), su_n (by omega)]; exact h6, by rw [ea, su_n (by omega), su_e], by rw [ea, su_n (by omega), su_n (by omega)]; exact hg7⟩) (by first | omega | assumption | (simp only [hf322, hf324, hf325, hf327]; assumption)) (by omega))
          · exfalso; omega
        · skip
          refine r_c0 (pc' := 66) rfl rfl ?_
          refine r_go rfl ?_
          refine r_st (pc' := 72) (lv' := [(5, _), (4, _), (3, _), (0, _), (1, _), (2, _)]) rfl rfl rfl rfl ?_
          refine r_ld (pc' := 74) rfl rfl rfl rfl ?_
          refine r_zeq (pc' := 77) rfl rfl ⟨by decide, by decide⟩ (fun hc329 => ?_) (fun hc329 => ?_)
          · exfalso; omega
          · skip
            refine r_ld (pc' := 78) rfl rfl rfl rfl ?_
            have hb330 := rd_3_6 hs316.1
            have hf331 : z310 3 3 = z0 3 3 := (hs314.2.2.1 _ _ (notS_c (by omega) (notS_c (by omega) (notS_c (by omega) (notS_c (by omega) (notS_c (by omega) notS_n))))))
            refine r_cVV (pc' := 81) rfl rfl rfl rfl rfl sh_3 (m_46x (d := d) t h hs316.1 hs316.2.1 ht (by exact (tc_f (fun i => hs316.2.2.1 2 i (notS_c (by omega) (notS_c (by omega) (notS_c (by omega) (notS_c (by omega) (notS_c (by omega) (notS_c (by omega) (notS_c (by omega) (notS_c (by omega) (notS_c (by omega) (notS_n))))))))))) (hs316.2.2.1 3 3 (notS_c (by omega) (notS_c (by omega) (notS_c (by omega) (notS_c (by omega) (notS_c (by omega) (notS_c (by omega) (notS_c (by omega) (notS_c (by omega) (notS_c (by omega) (notS_n)))))))))))).trans hh) (by first | omega | assumption | (simp only [hf331]; assumption))) (fun z333 w334 p335 hs337 hE338 => ?_)
            have hs339 := st_tr hs316 hs337 (subS_c (fun _ _ _ _ _ _ => inS_0 (by omega) (by omega) (by omega) (by omega)) (subS_c (fun _ _ _ _ _ _ => inS_s (inS_0 (by omega) (by omega) (by omega) (by omega))) (subS_c (fun _ _ _ _ _ _ => inS_s (inS_s (inS_0 (by omega) (by omega) (by omega) (by omega)))) (subS_c (fun _ _ _ _ _ _ => inS_s (inS_s (inS_s (inS_0 (by omega) (by omega) (by omega) (by omega))))) (subS_c (fun _ _ _ _ _ _ => inS_s (inS_s (inS_s (inS_s (inS_0 (by omega) (by omega) (by omega) (by omega)))))) subS_n)))))
            obtain ⟨rfl, hE338⟩ := hE338
            have hru := hE338
            have hfb : Fr z310 w311 z333 w334 := ⟨fun a i ha => (hs337.2.2.1 _ _ (notS_c (by omega) (notS_c (by omega) (notS_c (by omega) (notS_c (by omega) (notS_c (by omega) notS_n)))))), (hs337.2.2.1 _ _ (notS_c (by omega) (notS_c (by omega) (notS_c (by omega) (notS_c (by omega) (notS_c (by omega) notS_n)))))), fun a i ha => (hs337.2.2.2 _ _ (notS_c (by omega) (notS_c (by omega) (notS_c (by omega) (notS_c (by omega) (notS_c (by omega) notS_n))))))⟩
            have ea0 : sq h (k + 1) 0 = 11 := by rw [ea, su_e]
            have eb : sq h (k + 1 + 1) = _ := (sq_s h (k + 1)).trans (a11_m ea0 (by omega))
            have c10 := CA_2 (i := 9) (by omega) hMD (by omega) (fun j g1 g2 => by rw [eb, su_n (by omega), su_n (by omega)]) (by omega) (by rw [eb, su_e]; omega) (fun _ => Or.inl ⟨by omega, by omega⟩) hfb (by rw [tp_s, ← (gE (by omega)).1]; exact hru.1)
            have hb340 := rd_3_0 hz
            have hf341 : z333 3 0 = z0 3 0 := ((hs337.2.2.1 _ _ (notS_c (by omega) (notS_c (by omega) (notS_c (by omega) (notS_c (by omega) (notS_c (by omega) notS_n)))))).trans (hs314.2.2.1 _ _ (notS_c (by omega) (notS_c (by omega) (notS_c (by omega) (notS_c (by omega) (notS_c (by omega) notS_n)))))))
            have hb342 := rd_T_4 ht hz
            have hf343 : z333 t 4 = z0 t 4 := ((hs337.2.2.1 _ _ (notS_c (by omega) (notS_c (by omega) (notS_c (by omega) (notS_c (by omega) (notS_c (by omega) notS_n)))))).trans (hs314.2.2.1 _ _ (notS_c (by omega) (notS_c (by omega) (notS_c (by omega) (notS_c (by omega) (notS_c (by omega) notS_n)))))))
            have hf344 : z333 t 3 = z0 t 3 := ((hs337.2.2.1 _ _ (notS_c (by omega) (notS_c (by omega) (notS_c (by omega) (notS_c (by omega) (notS_c (by omega) notS_n)))))).trans (hs314.2.2.1 _ _ (notS_c (by omega) (notS_c (by omega) (notS_c (by omega) (notS_c (by omega) (notS_c (by omega) notS_n)))))))
            have hb345 := rd_3_1 hz
            have hf346 : z333 3 1 = z0 3 1 := ((hs337.2.2.1 _ _ (notS_c (by omega) (notS_c (by omega) (notS_c (by omega) (notS_c (by omega) (notS_c (by omega) notS_n)))))).trans (hs314.2.2.1 _ _ (notS_c (by omega) (notS_c (by omega) (notS_c (by omega) (notS_c (by omega) (notS_c (by omega) notS_n)))))))
            have hb347 := rd_3_8 hs339.1
            have hb348 := rd_3_7 hs339.1
            have hb349 := rd_3_9 hs339.1
            exact w_lv (sub_c rfl (sub_c rfl (sub_c rfl (sub_c rfl (sub_c rfl (sub_c rfl sub_n)))))) rfl ((key ((49 : Int).toNat + 1)).2.1 v298 (z310 3 8) 1 z333 w334 ⟨by omega, by omega⟩ ⟨by omega, by omega⟩ ⟨by omega, by omega⟩ ⟨by omega, by omega⟩ ⟨by omega, by omega⟩ hs339 (((hs337.2.2.1 _ _ (notS_c (by omega) (notS_c (by omega) (notS_c (by omega) (notS_c (by omega) (notS_c (by omega) notS_n)))))).trans (hs314.2.2.1 _ _ (notS_c (by omega) (notS_c (by omega) (notS_c (by omega) (notS_c (by omega) (notS_c (by omega) notS_n)))))))) (((hs337.2.2.1 _ _ (notS_c (by omega) (notS_c (by omega) (notS_c (by omega) (notS_c (by omega) (notS_c (by omega) notS_n)))))).trans (hs314.2.2.1 _ _ (notS_c (by omega) (notS_c (by omega) (notS_c (by omega) (notS_c (by omega) (notS_c (by omega) notS_n)))))))) (by first | exact ⟨k + 1 + 1, c10, Or.inr ⟨by omega, by rw [eb, su_e], by rw [eb, su_n (by omega), su_e]; omega⟩, by rw [eb, su_n (by omega), su_n (by omega), ea, su_n (by omega), su_n (by omega)]; exact h6, by rw [eb, su_n (by omega), su_n (by omega), ea, su_n (by omega), su_e], by rw [eb, su_n (by omega), su_n (by omega), ea, su_n (by omega), su_n (by omega)]; exact hg7⟩ | exact ⟨k + 1, c9, Or.inl ⟨by omega, by rw [ea, su_e], by omega, by omega⟩, by rw [ea, su_n (by omega), su_n (by omega)]; exact h6, by rw [ea, su_n (by omega), su_e], by rw [ea, su_n (by omega), su_n (by omega)]; exact hg7⟩) (by first | omega | assumption | (simp only [hf341, hf343, hf344, hf346]; assumption)) (by omega))
      · skip
        refine r_ld (pc' := 37) rfl rfl rfl rfl ?_
        refine r_c0 (pc' := 38) rfl rfl ?_
        refine r_ld (pc' := 39) rfl rfl rfl rfl ?_
        have hb350 := rd_3_8 hz
        refine r_gi (pc' := 42) rfl rfl sh_3 rfl rfl ?_
        refine r_cVV (pc' := 45) rfl rfl rfl rfl rfl sh_3 (m_33x (d := d + 2) 5 (z0 3 8) hst.1 hst.2.1 ⟨by omega, by omega⟩ ⟨by omega, by omega⟩) (fun z352 w353 p354 hs356 hE357 => ?_)
        have hs358 := st_tr hst hs356 (subS_c (fun _ _ _ _ _ _ => inS_s (inS_s (inS_s (inS_s (inS_s (inS_0 (by omega) (by omega) (by omega) (by omega))))))) (subS_c (fun _ _ _ _ _ _ => inS_s (inS_s (inS_s (inS_s (inS_s (inS_s (inS_0 (by omega) (by omega) (by omega) (by omega)))))))) subS_n))
        obtain ⟨rfl, hE357⟩ := hE357
        have hrg := hE357
        refine r_c0 (pc' := 46) rfl rfl ?_
        have hb359 := rd_3_0 hs358.1
        have hb360 := rd_T_4 ht hz
        have hf361 : z352 t 4 = z0 t 4 := (hs356.2.2.1 _ _ (notS_c (by omega) (notS_c (by omega) notS_n)))
        have hb362 := rd_3_1 hs358.1
        have hf363 : z352 3 8 = z0 3 8 := (hs356.2.2.1 _ _ (notS_c (by omega) (notS_c (by omega) notS_n)))
        have hf364 : z352 t 3 = z0 t 3 := (hs356.2.2.1 _ _ (notS_c (by omega) (notS_c (by omega) notS_n)))
        exact r_rz rfl (by omega) (po_I hs358 ⟨by decide, by decide⟩ ⟨rfl, by omega, by omega, (by have hwa := eW (by omega); exact ⟨fun q => absurd q (by omega), fun _ => CF_i (f := 5) (a10_5 hm (by omega) (by omega) (by rw [fn_n hMC.2.2.2.1 hwa.1 hwa.2 (fun i hi => (hln.resolve_right (by omega)).2 i (by omega))]; omega)) (by omega) (by omega) (by omega)⟩)⟩)
    · skip
      have hb365 := rd_3_10 hw
      have hb366 := rd_3_0 hz
      have hb367 := rd_3_1 hz
      have hb368 := rd_3_6 hz
      have hb369 := rd_3_8 hz
      have hb370 := rd_3_9 hz
      exact w_lv (sub_c rfl sub_n) rfl ((key ((2 : Int).toNat + 1)).1 z0 w0 hst (rfl) (rfl) (rfl) (rfl) (rfl) (rfl) (rfl) (by first | omega | assumption) (by omega))
/-- Reader readTwists -/
abbrev S_39x (t : Nat) : mS := [(3, 3, 6, 6), (3, 3, 8, 8), (3, 3, 7, 7), (3, 3, 9, 9), (3, 3, 10, 10), (3, 3, 0, 0), (3, 3, 1, 1), (t + 20, t + 25, 0, 7), (t + 27, t + 32, 0, 7), (t + 17, t + 17, 0, 5), (t + 18, t + 18, 0, 5), (t, t, 4, 4)]
abbrev E_39x (t : Nat) (h : Int → Int) (z0 w0 : mZ) (x y mt tt ct : Option Nat) : mZ → mZ → mP → Prop := fun z w p => p = (pq x y (some 2) (some t) mt tt ct) ∧ ((z 3 0 = 0 → CAz h z w t ∧ z 3 1 = z0 3 1 ∧ z0 3 8 < z 3 8) ∧ (z 3 0 ≠ 0 → CF h z))
set_option maxHeartbeats 8000000 in
theorem m_39x {d : Nat} {z0 w0 : mZ} {x y mt tt ct : Option Nat} (t : Nat) (h : Int → Int) (hz : rz z0) (hw : rw_ w0) (ht : isT t) (hh : tc z0 = h) (hca : ∃ k, (TKc h z0 w0 (tp h k) ∧ MC h (su (sq h k) 10 1) z0 w0 t) ∧ clq (sq h k) ∧ sq h k 0 = 0 ∧ tkK h (tp h k) = 9) (h00 : z0 3 0 = 0) (h51 : z0 3 5 = 1) : wc (d + 5) 39 [.ref 3] (mk z0 w0 (pq x y (some 2) (some t) mt tt ct)) (poV (S_39x t) z0 w0 (E_39x t h z0 w0 x y mt tt ct)) := by
  have hst : st_ (S_39x t) z0 w0 z0 w0 := st_rf hz hw
  have htb : 159 ≤ t ∧ t ≤ 192 := by have := ht; unfold isT at this; omega
  have hz127 := rd_3_0 hz
  have hz128 := rd_3_1 hz
  have hz129 := rd_3_5 hz
  have hz130 := rd_3_8 hz
  unfold TKc at hca
  obtain ⟨k, ⟨⟨e8, e0, e7, eN, eW, eE, e3⟩, hMC⟩, hcl, hm, hK⟩ := hca
  have hz4 := rd_T_4 ht hz
  have hMA := hMC.1.1
  have hs5 : su (sq h k) 10 1 5 = sq h k 5 := rfl
  have key : ∀ N : Nat, (∀ (x1 x2 x4 x5 : Int) (z w : mZ), 0 ≤ x1 ∧ x1 ≤ 5 → (-9223372036854775808) ≤ x2 ∧ x2 ≤ 9223372036854775807 → 0 ≤ x4 ∧ x4 ≤ 8 → 0 ≤ x5 ∧ x5 ≤ 8 → 0 ≤ z0 t 4 ∧ z0 t 4 ≤ 5 → st_ (S_39x t) z0 w0 z w → z t 4 = z0 t 4 → (∃ k, CA h z w t k ∧ sq h k 0 = 10 ∧ sq h k 6 = x4 ∧ (x2 = tkW5 h (sq h k 7) ∧ wdq h (sq h k 7))) → (x4 = x5 ∧ x1 = z t 4 ∧ x1 ≤ 5 ∧ z 3 0 = 0 ∧ z 3 1 = z0 3 1 ∧ z0 3 8 < z 3 8) → 74 * (8 - x4) + 42 < (N : Int) → wp_ (d + 4) 39 6 none (60, [(0, .ref 3), (1, .int (Int32.ofInt x1)), (2, .long (Int64.ofInt x2)), (4, .int (Int32.ofInt x4)), (5, .int (Int32.ofInt x5))], [], mk z w (pq x y (some 2) (some t) mt tt ct)) (poV (S_39x t) z0 w0 (E_39x t h z0 w0 x y mt tt ct))) ∧ (∀ (x1 x2 x4 x5 : Int) (z w : mZ), 0 ≤ x1 ∧ x1 ≤ 5 → (-9223372036854775808) ≤ x2 ∧ x2 ≤ 9223372036854775807 → 0 ≤ x4 ∧ x4 ≤ 8 → 0 ≤ x5 ∧ x5 ≤ 8 → 0 ≤ z0 t 4 ∧ z0 t 4 ≤ 5 → st_ (S_39x t) z0 w0 z w → z t 4 = z0 t 4 → (∃ k, CA h z w t k ∧ sq h k 0 = 10 ∧ sq h k 6 = x4 ∧ (x2 = tkW5 h (sq h k 7) ∧ wdq h (sq h k 7))) → (x4 = x5 ∧ x1 = z t 4 ∧ x1 ≤ 5 ∧ z 3 0 = 0 ∧ z 3 1 = z0 3 1 ∧ z0 3 8 < z 3 8 ∧ (x4 = 0 ∨ z 3 7 ≠ 3)) → 74 * (8 - x4) + 33 < (N : Int) → wp_ (d + 4) 39 6 none (80, [(0, .ref 3), (1, .int (Int32.ofInt x1)), (2, .long (Int64.ofInt x2)), (4, .int (Int32.ofInt x4)), (5, .int (Int32.ofInt x5))], [], mk z w (pq x y (some 2) (some t) mt tt ct)) (poV (S_39x t) z0 w0 (E_39x t h z0 w0 x y mt tt ct))) ∧ (∀ (x1 x2 x4 : Int) (z w : mZ), 0 ≤ x1 ∧ x1 ≤ 5 → (-9223372036854775808) ≤ x2 ∧ x2 ≤ 9223372036854775807 → 0 ≤ x4 ∧ x4 ≤ 8 → 0 ≤ z0 t 4 ∧ z0 t 4 ≤ 5 → st_ (S_39x t) z0 w0 z w → z t 4 = z0 t 4 → (∃ k, CA h z w t k ∧ sq h k 0 = 10 ∧ sq h k 6 = x4 ∧ (x2 = tkW5 h (sq h k 7) ∧ wdq h (sq h k 7))) → (x1 = z t 4 ∧ x1 ≤ 5 ∧ z 3 0 = 0 ∧ z 3 1 = z0 3 1 ∧ z0 3 8 < z 3 8 ∧ x4 ≠ 0 ∧ z 3 7 = 3) → 24 < (N : Int) → wp_ (d + 4) 39 6 none (100, [(0, .ref 3), (1, .int (Int32.ofInt x1)), (2, .long (Int64.ofInt x2)), (4, .int (Int32.ofInt x4))], [], mk z w (pq x y (some 2) (some t) mt tt ct)) (poV (S_39x t) z0 w0 (E_39x t h z0 w0 x y mt tt ct))) := by
    intro N
    induction N with
    | zero =>
      refine ⟨?_, ?_, ?_⟩
      · intro x1 x2 x4 x5 z w
        intros; exfalso; omega
      · intro x1 x2 x4 x5 z w
        intros; exfalso; omega
      · intro x1 x2 x4 z w
        intros; exfalso; omega
    | succ N ih =>
      obtain ⟨ih0, ih1, ih2⟩ := ih
      refine ⟨?_, ?_, ?_⟩
      · intro x1 x2 x4 x5 z w  hx1 hx2 hx4 hx5 hz0_0 hst un_z_t_4 as1 as2 hM
        refine r_ld (pc' := 62) rfl rfl rfl rfl ?_
        refine r_cb (pc' := 64) rfl (by decide) rfl ?_
        refine r_igt (pc' := 67) rfl rfl ⟨by omega, by omega⟩ ⟨by decide, by decide⟩ (fun hc131 => ?_) (fun hc131 => ?_)
        · exfalso; omega
        · skip
          refine r_ld (pc' := 69) rfl rfl rfl rfl ?_
          refine r_zeq (pc' := 72) rfl rfl ⟨by omega, by omega⟩ (fun hc132 => ?_) (fun hc132 => ?_)
          · skip
            have hf133 : z t 4 = z0 t 4 := un_z_t_4
            have hb134 := rd_3_0 hst.1
            have hb135 := rd_3_1 hst.1
            have hb136 := rd_3_8 hst.1
            have hb137 := rd_3_7 hst.1
            exact w_lv (sub_c rfl (sub_c rfl (sub_c rfl (sub_c rfl (sub_c rfl sub_n))))) rfl (ih1 x1 x2 x4 x5 z w ⟨by omega, by omega⟩ ⟨by omega, by omega⟩ ⟨by omega, by omega⟩ ⟨by omega, by omega⟩ ⟨by omega, by omega⟩ hst (un_z_t_4) (by exact as1) (by first | omega | assumption | (simp only [hf133]; assumption)) (by omega))
          · skip
            refine r_ld (pc' := 73) rfl rfl rfl rfl ?_
            have hb138 := rd_3_7 hst.1
            refine r_gi (pc' := 76) rfl rfl sh_3 rfl rfl ?_
            refine r_c0 (pc' := 77) rfl rfl ?_
            refine r_ieq (pc' := 80) rfl rfl ⟨by omega, by omega⟩ ⟨by decide, by decide⟩ (fun hc139 => ?_) (fun hc139 => ?_)
            · skip
              have hf140 : z t 4 = z0 t 4 := un_z_t_4
              have hb141 := rd_3_0 hst.1
              have hb142 := rd_3_1 hst.1
              have hb143 := rd_3_8 hst.1
              exact w_lv (sub_c rfl (sub_c rfl (sub_c rfl (sub_c rfl sub_n)))) rfl (ih2 x1 x2 x4 z w ⟨by omega, by omega⟩ ⟨by omega, by omega⟩ ⟨by omega, by omega⟩ ⟨by omega, by omega⟩ hst (un_z_t_4) (by exact as1) (by first | omega | assumption | (simp only [hf140]; assumption)) (by omega))
            · skip
              have hf144 : z t 4 = z0 t 4 := un_z_t_4
              have hb145 := rd_3_0 hst.1
              have hb146 := rd_3_1 hst.1
              have hb147 := rd_3_8 hst.1
              exact w_lv (sub_c rfl (sub_c rfl (sub_c rfl (sub_c rfl (sub_c rfl sub_n))))) rfl (ih1 x1 x2 x4 x5 z w ⟨by omega, by omega⟩ ⟨by omega, by omega⟩ ⟨by omega, by omega⟩ ⟨by omega, by omega⟩ ⟨by omega, by omega⟩ hst (un_z_t_4) (by exact as1) (by first | omega | assumption | (simp only [hf144]; assumption)) (by omega))
      · intro x1 x2 x4 x5 z w  hx1 hx2 hx4 hx5 hz0_0 hst un_z_t_4 as1 as2 hM
        obtain ⟨g7, hg7⟩ : ∃ g : Int, g = x2 := ⟨_, rfl⟩
        refine r_ld (pc' := 81) rfl rfl rfl rfl ?_
        refine r_ld (pc' := 82) rfl rfl rfl rfl ?_
        refine r_ld (pc' := 84) rfl rfl rfl rfl ?_
        have hf148 : z t 4 = z0 t 4 := un_z_t_4
        have hb149 := rd_3_0 hst.1
        have hb150 := rd_3_1 hst.1
        have hb151 := rd_3_8 hst.1
        refine r_cVI (pc' := 87) rfl rfl rfl rfl rfl sh_3 (m_40x (d := d) t h g7 x1 x4 hst.1 hst.2.1 ⟨by omega, by omega⟩ ⟨by omega, by omega⟩ ht (by exact (tc_f (fun i => hst.2.2.1 2 i (notS_c (by omega) (notS_c (by omega) (notS_c (by omega) (notS_c (by omega) (notS_c (by omega) (notS_c (by omega) (notS_c (by omega) (notS_c (by omega) (notS_c (by omega) (notS_c (by omega) (notS_c (by omega) (notS_c (by omega) (notS_n)))))))))))))) (hst.2.2.1 3 3 (notS_c (by omega) (notS_c (by omega) (notS_c (by omega) (notS_c (by omega) (notS_c (by omega) (notS_c (by omega) (notS_c (by omega) (notS_c (by omega) (notS_c (by omega) (notS_c (by omega) (notS_c (by omega) (notS_c (by omega) (notS_n))))))))))))))).trans hh) (by obtain ⟨k, q1, q2, q3, q4⟩ := as1; have q6 := q1.1; unfold TKc at q6; exact ⟨k, q1, q2, q3, by omega, by rw [hg7]; exact q4⟩) (by first | omega | assumption | (simp only [hf148]; assumption))) (fun v152 z153 w154 p155 h156 hs157 hE158 => ?_)
        have hs159 := st_tr hst hs157 (subS_c (fun _ _ _ _ _ _ => inS_0 (by omega) (by omega) (by omega) (by omega)) (subS_c (fun _ _ _ _ _ _ => inS_s (inS_0 (by omega) (by omega) (by omega) (by omega))) (subS_c (fun _ _ _ _ _ _ => inS_s (inS_s (inS_0 (by omega) (by omega) (by omega) (by omega)))) (subS_c (fun _ _ _ _ _ _ => inS_s (inS_s (inS_s (inS_0 (by omega) (by omega) (by omega) (by omega))))) (subS_c (fun _ _ _ _ _ _ => inS_s (inS_s (inS_s (inS_s (inS_0 (by omega) (by omega) (by omega) (by omega)))))) (subS_c (fun _ _ _ _ _ _ => inS_s (inS_s (inS_s (inS_s (inS_s (inS_0 (by omega) (by omega) (by omega) (by omega))))))) (subS_c (fun _ _ _ _ _ _ => inS_s (inS_s (inS_s (inS_s (inS_s (inS_s (inS_0 (by omega) (by omega) (by omega) (by omega)))))))) (subS_c (fun _ _ _ _ _ _ => inS_s (inS_s (inS_s (inS_s (inS_s (inS_s (inS_s (inS_0 (by omega) (by omega) (by omega) (by omega))))))))) (subS_c (fun _ _ _ _ _ _ => inS_s (inS_s (inS_s (inS_s (inS_s (inS_s (inS_s (inS_s (inS_0 (by omega) (by omega) (by omega) (by omega)))))))))) subS_n)))))))))
        obtain ⟨rfl, hE158⟩ := hE158
        have hre := hE158.2.2
        refine r_zne (pc' := 90) rfl rfl ⟨by omega, by omega⟩ (fun hc160 => ?_) (fun hc160 => ?_)
        · skip
          have hr2 := (hre.1 (by omega)).2
          refine r_inc (pc' := 94) (lv' := [(0, _), (1, _), (2, _), (5, _)]) rfl rfl rfl rfl rfl ?_
          refine r_inc (pc' := 97) (lv' := [(4, _), (0, _), (1, _), (2, _)]) rfl rfl rfl rfl rfl ?_
          refine r_go rfl ?_
          have hf161 : z153 t 4 = z0 t 4 := ((hs157.2.2.1 _ _ (notS_c (by omega) (notS_c (by omega) (notS_c (by omega) (notS_c (by omega) (notS_c (by omega) (notS_c (by omega) (notS_c (by omega) (notS_c (by omega) (notS_c (by omega) notS_n)))))))))).trans un_z_t_4)
          have hb162 := rd_3_0 hs159.1
          have hb163 := rd_3_1 hs159.1
          have hb164 := rd_3_8 hs159.1
          have hb165 := rd_3_7 hs159.1
          exact w_lv (sub_c rfl (sub_c rfl (sub_c rfl (sub_c rfl (sub_c rfl sub_n))))) rfl (ih0 x1 x2 (x4 + 1) (x5 + 1) z153 w154 ⟨by omega, by omega⟩ ⟨by omega, by omega⟩ ⟨by omega, by omega⟩ ⟨by omega, by omega⟩ ⟨by omega, by omega⟩ hs159 (((hs157.2.2.1 _ _ (notS_c (by omega) (notS_c (by omega) (notS_c (by omega) (notS_c (by omega) (notS_c (by omega) (notS_c (by omega) (notS_c (by omega) (notS_c (by omega) (notS_c (by omega) notS_n)))))))))).trans un_z_t_4)) (by first | (obtain ⟨k, q1, q2, q3, q4⟩ := (hre.1 (by omega)).1; exact ⟨k, q1, q2, q3, by rw [← hg7]; exact q4⟩) | (have e7x : sq h (k + 1 + 1 + 1) 7 = tp h (k + 1) := (by rw [ec, su_n (by omega), eb, su_e]); exact ⟨k + 1 + 1 + 1, c11, by rw [ec, su_e], by rw [ec, su_n (by omega), eb, su_n (by omega), su_n (by omega)]; exact c9.2.2.1, by rw [e7x]; exact ⟨by have := hwa.1; omega, hwa.2⟩⟩)) (by first | omega | assumption | (simp only [hf161]; assumption)) (by omega))
        · skip
          have hb166 := rd_3_0 hs159.1
          have hb167 := rd_3_1 hs159.1
          have hb168 := rd_3_8 hs159.1
          have hf169 : z153 t 4 = z0 t 4 := ((hs157.2.2.1 _ _ (notS_c (by omega) (notS_c (by omega) (notS_c (by omega) (notS_c (by omega) (notS_c (by omega) (notS_c (by omega) (notS_c (by omega) (notS_c (by omega) (notS_c (by omega) notS_n)))))))))).trans un_z_t_4)
          exact r_ret rfl (po_V hs159 ⟨rfl, (by have c8 := hre.2 (by omega); exact ⟨fun q => absurd q (CF_n c8), fun _ => c8⟩)⟩)
      · intro x1 x2 x4 z w  hx1 hx2 hx4 hz0_0 hst un_z_t_4 as1 as2 hM
        obtain ⟨k, hcx, hm1, h61, hn7⟩ := as1
        have hcy := hcx
        unfold CA TKc at hcy
        obtain ⟨⟨f8, f0, f7, fN, fW, fE, f3⟩, hMD⟩ := hcy
        have hzt3 := rd_T_3 ht hst.1
        have hzt4 := rd_T_4 ht hst.1
        refine r_ld (pc' := 101) rfl rfl rfl rfl ?_
        refine r_c0 (pc' := 102) rfl rfl ?_
        have hb170 := rd_3_8 hst.1
        have hb171 := rd_3_7 hst.1
        have hb172 := rd_3_0 hst.1
        have hb173 := rd_3_1 hst.1
        refine r_cVI (pc' := 105) rfl rfl rfl rfl rfl sh_3 (m_42x (d := d) t h 3 hst.1 hst.2.1 ⟨by omega, by omega⟩ ht (by exact (tc_f (fun i => hst.2.2.1 2 i (notS_c (by omega) (notS_c (by omega) (notS_c (by omega) (notS_c (by omega) (notS_c (by omega) (notS_c (by omega) (notS_c (by omega) (notS_c (by omega) (notS_c (by omega) (notS_c (by omega) (notS_c (by omega) (notS_c (by omega) (notS_n)))))))))))))) (hst.2.2.1 3 3 (notS_c (by omega) (notS_c (by omega) (notS_c (by omega) (notS_c (by omega) (notS_c (by omega) (notS_c (by omega) (notS_c (by omega) (notS_c (by omega) (notS_c (by omega) (notS_c (by omega) (notS_c (by omega) (notS_c (by omega) (notS_n))))))))))))))).trans hh) (by rw [f8]; exact hcx.1) (by first | omega | assumption)) (fun v174 z175 w176 p177 h178 hs179 hE180 => ?_)
        have hs181 := st_tr hst hs179 (subS_c (fun _ _ _ _ _ _ => inS_0 (by omega) (by omega) (by omega) (by omega)) (subS_c (fun _ _ _ _ _ _ => inS_s (inS_0 (by omega) (by omega) (by omega) (by omega))) (subS_c (fun _ _ _ _ _ _ => inS_s (inS_s (inS_0 (by omega) (by omega) (by omega) (by omega)))) (subS_c (fun _ _ _ _ _ _ => inS_s (inS_s (inS_s (inS_0 (by omega) (by omega) (by omega) (by omega))))) (subS_c (fun _ _ _ _ _ _ => inS_s (inS_s (inS_s (inS_s (inS_0 (by omega) (by omega) (by omega) (by omega)))))) (subS_c (fun _ _ _ _ _ _ => inS_s (inS_s (inS_s (inS_s (inS_s (inS_0 (by omega) (by omega) (by omega) (by omega))))))) (subS_c (fun _ _ _ _ _ _ => inS_s (inS_s (inS_s (inS_s (inS_s (inS_s (inS_0 (by omega) (by omega) (by omega) (by omega)))))))) subS_n)))))))
        obtain ⟨rfl, hE180⟩ := hE180
        have hpa := hE180.2.2
        have hfd : Fr z w z175 w176 := ⟨fun a i ha => (hs179.2.2.1 _ _ (notS_c (by omega) (notS_c (by omega) (notS_c (by omega) (notS_c (by omega) (notS_c (by omega) (notS_c (by omega) (notS_c (by omega) notS_n)))))))), (hs179.2.2.1 _ _ (notS_c (by omega) (notS_c (by omega) (notS_c (by omega) (notS_c (by omega) (notS_c (by omega) (notS_c (by omega) (notS_c (by omega) notS_n)))))))), fun a i ha => (hs179.2.2.2 _ _ (notS_c (by omega) (notS_c (by omega) (notS_c (by omega) (notS_c (by omega) (notS_c (by omega) (notS_c (by omega) (notS_c (by omega) notS_n))))))))⟩
        refine r_zeq (pc' := 108) rfl rfl ⟨by omega, by omega⟩ (fun hc182 => ?_) (fun hc182 => ?_)
        · skip
          have hb183 := rd_3_0 hs181.1
          have hb184 := rd_3_1 hs181.1
          have hb185 := rd_3_8 hs181.1
          have hf186 : z175 t 4 = z0 t 4 := ((hs179.2.2.1 _ _ (notS_c (by omega) (notS_c (by omega) (notS_c (by omega) (notS_c (by omega) (notS_c (by omega) (notS_c (by omega) (notS_c (by omega) notS_n)))))))).trans un_z_t_4)
          exact r_ret rfl (po_V hs181 ⟨rfl, (by first | (exfalso; have hp := hpa.resolve_left (by omega); omega) | (have hp := hpa.resolve_right (by omega); have q9 := CA_we (z1 := z175) (w1 := w176) (z' := z175) (w' := w176) (by omega) hMD hm1 (by omega) (by omega) (by omega) (by omega) hn7.2 hfd (by rw [tp_s, ← f8]; exact hp.2.2.1) (by have := hfd.1 t 4 (by omega); omega) (fun a i g1 g2 => rfl) (fun e => by rw [hqc, mu_ne (by omega), hql, show (z t 4).toNat = x1.toNat by omega, mu_sf]; dsimp only; rw [h61]) (fun e => by rw [hqn, show (z t 4).toNat = x1.toNat by omega, mu_sf]; dsimp only; rw [← hn7.1]) (fun a i g1 => by rw [hqn]; exact mu_ne (by omega)); exact ⟨fun _ => ⟨⟨k + 1, q9.1, q9.2⟩, by omega, by omega⟩, fun q => absurd (by omega) q⟩))⟩)
        · skip
          refine r_ld (pc' := 109) rfl rfl rfl rfl ?_
          refine r_gr (b := t) (pc' := 112) rfl rfl sh_3 rfl pp_3_4 ?_
          refine r_gr (b := t + 17) (pc' := 115) rfl rfl (sh_T ht) rfl (pp_T_13 ht) ?_
          refine r_ld (pc' := 116) rfl rfl rfl rfl ?_
          refine r_ld (pc' := 117) rfl rfl rfl rfl ?_
          refine r_ls (pc' := 118) rfl rfl (sh_T17 ht) rfl (by omega) (by omega) hs181 (inS_s (inS_s (inS_s (inS_s (inS_s (inS_s (inS_s (inS_s (inS_s (inS_0 (by omega) (by omega) (by omega) (by omega))))))))))) (wr_T17 ht ⟨by omega, by omega⟩) (fun w187 hq188 hs189 => ?_)
          have hqn := hq188
          refine r_ld (pc' := 119) rfl rfl rfl rfl ?_
          refine r_gr (b := t) (pc' := 122) rfl rfl sh_3 rfl pp_3_4 ?_
          refine r_gr (b := t + 18) (pc' := 125) rfl rfl (sh_T ht) rfl (pp_T_14 ht) ?_
          refine r_ld (pc' := 126) rfl rfl rfl rfl ?_
          refine r_ld (pc' := 128) rfl rfl rfl rfl ?_
          refine r_is (pc' := 129) rfl rfl (sh_T18 ht) rfl (by omega) (by omega) hs189 (inS_s (inS_s (inS_s (inS_s (inS_s (inS_s (inS_s (inS_s (inS_s (inS_s (inS_0 (by omega) (by omega) (by omega) (by omega)))))))))))) (wr_T18 ht ⟨by omega, by omega⟩) (fun z190 hq191 hs192 => ?_)
          have hql := hq191
          refine r_ld (pc' := 130) rfl rfl rfl rfl ?_
          refine r_gr (b := t) (pc' := 133) rfl rfl sh_3 rfl pp_3_4 ?_
          refine r_al (pc' := 134) rfl rfl rfl rfl ?_
          refine r_gi (pc' := 137) rfl rfl (sh_T ht) rfl (((congrFun (congrFun hq191 _) _).trans (mu_ne (by omega))).trans ((hs179.2.2.1 _ _ (notS_c (by omega) (notS_c (by omega) (notS_c (by omega) (notS_c (by omega) (notS_c (by omega) (notS_c (by omega) (notS_c (by omega) notS_n)))))))).trans un_z_t_4)) ?_
          refine r_c0 (pc' := 138) rfl rfl ?_
          refine r_add (pc' := 139) rfl rfl ?_
          refine r_pi (pc' := 142) rfl rfl (sh_T ht) rfl rfl hs192 (inS_s (inS_s (inS_s (inS_s (inS_s (inS_s (inS_s (inS_s (inS_s (inS_s (inS_s (inS_0 (by omega) (by omega) (by omega) (by omega))))))))))))) (wr_T_4 ht ⟨by omega, by omega⟩) (fun z193 hq194 hs195 => ?_)
          have hqc := hq194
          have hb196 := rd_3_0 hs181.1
          have hf197 : z193 3 0 = z175 3 0 := (((congrFun (congrFun hq194 _) _).trans (mu_ne (by omega))).trans ((congrFun (congrFun hq191 _) _).trans (mu_ne (by omega))))
          have hb198 := rd_3_1 hs181.1
          have hf199 : z193 3 1 = z175 3 1 := (((congrFun (congrFun hq194 _) _).trans (mu_ne (by omega))).trans ((congrFun (congrFun hq191 _) _).trans (mu_ne (by omega))))
          have hb200 := rd_3_8 hs181.1
          have hf201 : z193 3 8 = z175 3 8 := (((congrFun (congrFun hq194 _) _).trans (mu_ne (by omega))).trans ((congrFun (congrFun hq191 _) _).trans (mu_ne (by omega))))
          have hf202 : z193 t 4 = (z0 t 4) + 1 := ((congrFun (congrFun hq194 _) _).trans mu_eq)
          exact r_ret rfl (po_V hs195 ⟨rfl, (by first | (exfalso; have hp := hpa.resolve_left (by omega); omega) | (have hp := hpa.resolve_right (by omega); have q9 := CA_we (z1 := z175) (w1 := w176) (z' := z193) (w' := w187) (by omega) hMD hm1 (by omega) (by omega) (by omega) (by omega) hn7.2 hfd (by rw [tp_s, ← f8]; exact hp.2.2.1) (by have := hfd.1 t 4 (by omega); omega) (fun a i g1 g2 => (((congrFun (congrFun hq194 _) _).trans (mu_ne (by omega))).trans ((congrFun (congrFun hq191 _) _).trans (mu_ne (by omega))))) (fun e => by rw [hqc, mu_ne (by omega), hql, show (z t 4).toNat = x1.toNat by omega, mu_sf]; dsimp only; rw [h61]) (fun e => by rw [hqn, show (z t 4).toNat = x1.toNat by omega, mu_sf]; dsimp only; rw [← hn7.1]) (fun a i g1 => by rw [hqn]; exact mu_ne (by omega)); exact ⟨fun _ => ⟨⟨k + 1, q9.1, q9.2⟩, by omega, by omega⟩, fun q => absurd (by omega) q⟩))⟩)
  refine w_m rfl rfl ?_
  refine r_ld (pc' := 1) rfl rfl rfl rfl ?_
  refine r_gr (b := t) (pc' := 4) rfl rfl sh_3 rfl pp_3_4 ?_
  have hb203 := rd_T_4 ht hz
  refine r_gi (pc' := 7) rfl rfl (sh_T ht) rfl rfl ?_
  refine r_st (pc' := 8) (lv' := [(1, _), (0, _)]) rfl rfl rfl rfl ?_
  refine r_ld (pc' := 9) rfl rfl rfl rfl ?_
  refine r_cb (pc' := 11) rfl (by decide) rfl ?_
  refine r_ilt (pc' := 14) rfl rfl ⟨by omega, by omega⟩ ⟨by decide, by decide⟩ (fun hc204 => ?_) (fun hc204 => ?_)
  · skip
    refine r_ld (pc' := 21) rfl rfl rfl rfl ?_
    have hb205 := rd_3_6 hz
    have hb206 := rd_3_3 hz
    refine r_cVV (pc' := 24) rfl rfl rfl rfl rfl sh_3 (m_46x (d := d + 1) t h hst.1 hst.2.1 ht (by exact (tc_f (fun i => hst.2.2.1 2 i (notS_c (by omega) (notS_c (by omega) (notS_c (by omega) (notS_c (by omega) (notS_c (by omega) (notS_c (by omega) (notS_c (by omega) (notS_c (by omega) (notS_c (by omega) (notS_c (by omega) (notS_c (by omega) (notS_c (by omega) (notS_n)))))))))))))) (hst.2.2.1 3 3 (notS_c (by omega) (notS_c (by omega) (notS_c (by omega) (notS_c (by omega) (notS_c (by omega) (notS_c (by omega) (notS_c (by omega) (notS_c (by omega) (notS_c (by omega) (notS_c (by omega) (notS_c (by omega) (notS_c (by omega) (notS_n))))))))))))))).trans hh) (by first | omega | assumption)) (fun z208 w209 p210 hs212 hE213 => ?_)
    have hs214 := st_tr hst hs212 (subS_c (fun _ _ _ _ _ _ => inS_0 (by omega) (by omega) (by omega) (by omega)) (subS_c (fun _ _ _ _ _ _ => inS_s (inS_0 (by omega) (by omega) (by omega) (by omega))) (subS_c (fun _ _ _ _ _ _ => inS_s (inS_s (inS_0 (by omega) (by omega) (by omega) (by omega)))) (subS_c (fun _ _ _ _ _ _ => inS_s (inS_s (inS_s (inS_0 (by omega) (by omega) (by omega) (by omega))))) (subS_c (fun _ _ _ _ _ _ => inS_s (inS_s (inS_s (inS_s (inS_0 (by omega) (by omega) (by omega) (by omega)))))) subS_n)))))
    obtain ⟨rfl, hE213⟩ := hE213
    have hrt := hE213
    have hfa : Fr z0 w0 z208 w209 := ⟨fun a i ha => (hs212.2.2.1 _ _ (notS_c (by omega) (notS_c (by omega) (notS_c (by omega) (notS_c (by omega) (notS_c (by omega) notS_n)))))), (hs212.2.2.1 _ _ (notS_c (by omega) (notS_c (by omega) (notS_c (by omega) (notS_c (by omega) (notS_c (by omega) notS_n)))))), fun a i ha => (hs212.2.2.2 _ _ (notS_c (by omega) (notS_c (by omega) (notS_c (by omega) (notS_c (by omega) (notS_c (by omega) notS_n))))))⟩
    have c9 := CA_b (m := 8) (by omega) hMC hm ((sq_s h k).trans (a0_w1 hm hK hcl (by omega))) (by omega) hfa (by rw [tp_s, ← (eE (by omega)).1]; exact hrt.1)
    have hcy := c9.1
    unfold CA TKc at hcy
    obtain ⟨⟨g8, g0, g7, gN, gW, gE, g3⟩, hMD⟩ := hcy
    refine r_ld (pc' := 25) rfl rfl rfl rfl ?_
    have hb215 := rd_3_10 hs214.2.1
    refine r_gl (pc' := 28) rfl rfl sh_3 rfl rfl ?_
    refine r_st (pc' := 29) (lv' := [(2, _), (1, _), (0, _)]) rfl rfl rfl rfl ?_
    refine r_ld (pc' := 30) rfl rfl rfl rfl ?_
    refine r_ld (pc' := 31) rfl rfl rfl rfl ?_
    refine r_gr (b := t) (pc' := 34) rfl rfl sh_3 rfl pp_3_4 ?_
    refine r_ld (pc' := 35) rfl rfl rfl rfl ?_
    have hf216 : z208 t 4 = z0 t 4 := (hs212.2.2.1 _ _ (notS_c (by omega) (notS_c (by omega) (notS_c (by omega) (notS_c (by omega) (notS_c (by omega) notS_n))))))
    refine r_cVI (pc' := 38) rfl rfl rfl rfl rfl (sh_T ht) (m_83x (d := d + 2) t (w209 3 10) hs214.1 hs214.2.1 ⟨by omega, by omega⟩ ht) (fun v217 z218 w219 p220 h221 hs222 hE223 => ?_)
    obtain ⟨rfl, rfl, rfl, hE223⟩ := hE223
    have hln := hE223.2.2
    have hb225 := rd_3_8 hs214.1
    have hb226 := rd_3_7 hs214.1
    have hb227 := rd_3_0 hz
    have hf228 : z208 3 0 = z0 3 0 := (hs212.2.2.1 _ _ (notS_c (by omega) (notS_c (by omega) (notS_c (by omega) (notS_c (by omega) (notS_c (by omega) notS_n))))))
    have hb229 := rd_3_1 hz
    have hf230 : z208 3 1 = z0 3 1 := (hs212.2.2.1 _ _ (notS_c (by omega) (notS_c (by omega) (notS_c (by omega) (notS_c (by omega) (notS_c (by omega) notS_n))))))
    refine r_cVI (pc' := 41) rfl rfl rfl rfl rfl sh_3 (m_41x (d := d) t h v217 hs214.1 hs214.2.1 ⟨by omega, by omega⟩ ht (by exact (tc_f (fun i => hs214.2.2.1 2 i (notS_c (by omega) (notS_c (by omega) (notS_c (by omega) (notS_c (by omega) (notS_c (by omega) (notS_c (by omega) (notS_c (by omega) (notS_c (by omega) (notS_c (by omega) (notS_c (by omega) (notS_c (by omega) (notS_c (by omega) (notS_n)))))))))))))) (hs214.2.2.1 3 3 (notS_c (by omega) (notS_c (by omega) (notS_c (by omega) (notS_c (by omega) (notS_c (by omega) (notS_c (by omega) (notS_c (by omega) (notS_c (by omega) (notS_c (by omega) (notS_c (by omega) (notS_c (by omega) (notS_c (by omega) (notS_n))))))))))))))).trans hh) (by rw [g8]; exact c9.1.1)) (fun v231 z232 w233 p234 h235 hs236 hE237 => ?_)
    have hs238 := st_tr hs214 hs236 (subS_c (fun _ _ _ _ _ _ => inS_0 (by omega) (by omega) (by omega) (by omega)) (subS_c (fun _ _ _ _ _ _ => inS_s (inS_0 (by omega) (by omega) (by omega) (by omega))) (subS_c (fun _ _ _ _ _ _ => inS_s (inS_s (inS_0 (by omega) (by omega) (by omega) (by omega)))) (subS_c (fun _ _ _ _ _ _ => inS_s (inS_s (inS_s (inS_0 (by omega) (by omega) (by omega) (by omega))))) (subS_c (fun _ _ _ _ _ _ => inS_s (inS_s (inS_s (inS_s (inS_0 (by omega) (by omega) (by omega) (by omega)))))) (subS_c (fun _ _ _ _ _ _ => inS_s (inS_s (inS_s (inS_s (inS_s (inS_0 (by omega) (by omega) (by omega) (by omega))))))) (subS_c (fun _ _ _ _ _ _ => inS_s (inS_s (inS_s (inS_s (inS_s (inS_s (inS_0 (by omega) (by omega) (by omega) (by omega)))))))) subS_n)))))))
    obtain ⟨rfl, hE237⟩ := hE237
    have hpn := hE237.2.2
    have hfb : Fr z208 w209 z232 w233 := ⟨fun a i ha => (hs236.2.2.1 _ _ (notS_c (by omega) (notS_c (by omega) (notS_c (by omega) (notS_c (by omega) (notS_c (by omega) (notS_c (by omega) (notS_c (by omega) notS_n)))))))), (hs236.2.2.1 _ _ (notS_c (by omega) (notS_c (by omega) (notS_c (by omega) (notS_c (by omega) (notS_c (by omega) (notS_c (by omega) (notS_c (by omega) notS_n)))))))), fun a i ha => (hs236.2.2.2 _ _ (notS_c (by omega) (notS_c (by omega) (notS_c (by omega) (notS_c (by omega) (notS_c (by omega) (notS_c (by omega) (notS_c (by omega) notS_n))))))))⟩
    refine r_zeq (pc' := 44) rfl rfl ⟨by omega, by omega⟩ (fun hc239 => ?_) (fun hc239 => ?_)
    · skip
      have hb240 := rd_3_0 hs238.1
      have hb241 := rd_3_1 hs238.1
      have hb242 := rd_3_8 hs238.1
      have hf243 : z232 t 4 = z0 t 4 := ((hs236.2.2.1 _ _ (notS_c (by omega) (notS_c (by omega) (notS_c (by omega) (notS_c (by omega) (notS_c (by omega) (notS_c (by omega) (notS_c (by omega) notS_n)))))))).trans (hs212.2.2.1 _ _ (notS_c (by omega) (notS_c (by omega) (notS_c (by omega) (notS_c (by omega) (notS_c (by omega) notS_n)))))))
      exact r_ret rfl (po_V hs238 ⟨rfl, (by first  | (have hp := hpo.resolve_left (by omega); exact ⟨fun q => absurd q (by rw [hp.2.2.1]; split <;> omega), fun _ => CF_b (a9_b (by rw [eb, su_n (by omega), su_e]) (by omega)) (by rw [← u7]; exact hp.2.2.1) (by omega)⟩)  | (rcases hpn.resolve_left (by omega) with hp | hp; (exact ⟨fun q => absurd q (by rw [hp.2.2.1]; split <;> omega), fun _ => CF_b (a8_b c9.2.1 (by omega)) (by rw [← g7]; exact hp.2.2.1) (by omega)⟩); (have hwa := gW (by omega); exact ⟨fun q => absurd q (by omega), fun _ => CF_i (f := 3) (a8_3 c9.2.1 (by omega) (nw_y hMD.2.2.2.1 hwa.1 hwa.2 (by have q := hln.resolve_left (by omega); exact ⟨q.1, by have := hMD.1.1; omega, q.2.2⟩))) (by omega) (by omega) (by omega)⟩)))⟩)
    · skip
      have hpm := hpn.resolve_right (by omega)
      have hwa := gW (by omega)
      have hnd := nw_n hMD.2.2.2.1 (x := w209 3 10) (p := tp h (k + 1)) hwa.1 hwa.2 (fun i hi => (hln.resolve_right (by omega)).2 i (by have := hMD.1.1; omega))
      have eb : sq h (k + 1 + 1) = _ := (sq_s h (k + 1)).trans (a8_o c9.2.1 (by omega) hnd)
      have c10 := CA_2 (i := 7) (by omega) hMD (by omega) (fun j g1 g2 => by rw [eb, su_n (by omega), su_n (by omega)]) (by omega) (by rw [eb, su_n (by omega), su_e]; omega) (by rw [eb, su_n (by omega), su_e]; omega) hfb (by rw [tp_s, ← g8]; exact hpm.2.2.2.1)
      have hcy := c10
      unfold CA TKc at hcy
      obtain ⟨⟨u8, u0, u7, uN, uW, uE, u3⟩, hME⟩ := hcy
      refine r_ld (pc' := 45) rfl rfl rfl rfl ?_
      refine r_cb (pc' := 47) rfl (by decide) rfl ?_
      have hb244 := rd_3_8 hs238.1
      have hb245 := rd_3_7 hs238.1
      have hb246 := rd_3_0 hs238.1
      have hb247 := rd_3_1 hs238.1
      refine r_cVI (pc' := 50) rfl rfl rfl rfl rfl sh_3 (m_42x (d := d) t h 10 hs238.1 hs238.2.1 ⟨by omega, by omega⟩ ht (by exact (tc_f (fun i => hs238.2.2.1 2 i (notS_c (by omega) (notS_c (by omega) (notS_c (by omega) (notS_c (by omega) (notS_c (by omega) (notS_c (by omega) (notS_c (by omega) (notS_c (by omega) (notS_c (by omega) (notS_c (by omega) (notS_c (by omega) (notS_c (by omega) (notS_n)))))))))))))) (hs238.2.2.1 3 3 (notS_c (by omega) (notS_c (by omega) (notS_c (by omega) (notS_c (by omega) (notS_c (by omega) (notS_c (by omega) (notS_c (by omega) (notS_c (by omega) (notS_c (by omega) (notS_c (by omega) (notS_c (by omega) (notS_c (by omega) (notS_n))))))))))))))).trans hh) (by rw [u8]; exact c10.1) (by first | omega | assumption)) (fun v248 z249 w250 p251 h252 hs253 hE254 => ?_)
      have hs255 := st_tr hs238 hs253 (subS_c (fun _ _ _ _ _ _ => inS_0 (by omega) (by omega) (by omega) (by omega)) (subS_c (fun _ _ _ _ _ _ => inS_s (inS_0 (by omega) (by omega) (by omega) (by omega))) (subS_c (fun _ _ _ _ _ _ => inS_s (inS_s (inS_0 (by omega) (by omega) (by omega) (by omega)))) (subS_c (fun _ _ _ _ _ _ => inS_s (inS_s (inS_s (inS_0 (by omega) (by omega) (by omega) (by omega))))) (subS_c (fun _ _ _ _ _ _ => inS_s (inS_s (inS_s (inS_s (inS_0 (by omega) (by omega) (by omega) (by omega)))))) (subS_c (fun _ _ _ _ _ _ => inS_s (inS_s (inS_s (inS_s (inS_s (inS_0 (by omega) (by omega) (by omega) (by omega))))))) (subS_c (fun _ _ _ _ _ _ => inS_s (inS_s (inS_s (inS_s (inS_s (inS_s (inS_0 (by omega) (by omega) (by omega) (by omega)))))))) subS_n)))))))
      obtain ⟨rfl, hE254⟩ := hE254
      have hpo := hE254.2.2
      have hfc : Fr z232 w233 z249 w250 := ⟨fun a i ha => (hs253.2.2.1 _ _ (notS_c (by omega) (notS_c (by omega) (notS_c (by omega) (notS_c (by omega) (notS_c (by omega) (notS_c (by omega) (notS_c (by omega) notS_n)))))))), (hs253.2.2.1 _ _ (notS_c (by omega) (notS_c (by omega) (notS_c (by omega) (notS_c (by omega) (notS_c (by omega) (notS_c (by omega) (notS_c (by omega) notS_n)))))))), fun a i ha => (hs253.2.2.2 _ _ (notS_c (by omega) (notS_c (by omega) (notS_c (by omega) (notS_c (by omega) (notS_c (by omega) (notS_c (by omega) (notS_c (by omega) notS_n))))))))⟩
      refine r_zne (pc' := 53) rfl rfl ⟨by omega, by omega⟩ (fun hc256 => ?_) (fun hc256 => ?_)
      · skip
        have hpq := hpo.resolve_right (by omega)
        have eb0 : sq h (k + 1 + 1) 0 = 9 := by rw [eb, su_n (by omega), su_e]
        have ec : sq h (k + 1 + 1 + 1) = _ := (sq_s h (k + 1 + 1)).trans (a9_o eb0 (by omega))
        have c11 := CA_2 (i := 7) (by omega) hME (by omega) (fun j g1 g2 => by rw [ec, su_n (by omega)]) (by omega) (by rw [ec, su_e]; omega) (by rw [ec, su_e, eb0, eb, su_n (by omega), su_n (by omega)]; have := c9.2.2.1; omega) hfc (by rw [tp_s, ← u8]; exact hpq.2.2.1)
        refine r_c0 (pc' := 55) rfl rfl ?_
        refine r_st (pc' := 57) (lv' := [(4, _), (2, _), (1, _), (0, _)]) rfl rfl rfl rfl ?_
        refine r_c0 (pc' := 58) rfl rfl ?_
        refine r_st (pc' := 60) (lv' := [(5, _), (4, _), (2, _), (1, _), (0, _)]) rfl rfl rfl rfl ?_
        have hf257 : z249 t 4 = z0 t 4 := ((hs253.2.2.1 _ _ (notS_c (by omega) (notS_c (by omega) (notS_c (by omega) (notS_c (by omega) (notS_c (by omega) (notS_c (by omega) (notS_c (by omega) notS_n)))))))).trans ((hs236.2.2.1 _ _ (notS_c (by omega) (notS_c (by omega) (notS_c (by omega) (notS_c (by omega) (notS_c (by omega) (notS_c (by omega) (notS_c (by omega) notS_n)))))))).trans (hs212.2.2.1 _ _ (notS_c (by omega) (notS_c (by omega) (notS_c (by omega) (notS_c (by omega) (notS_c (by omega) notS_n))))))))
        have hb258 := rd_3_0 hs255.1
        have hb259 := rd_3_1 hs255.1
        have hb260 := rd_3_8 hs255.1
        have hb261 := rd_3_7 hs255.1
        exact w_lv (sub_c rfl (sub_c rfl (sub_c rfl (sub_c rfl (sub_c rfl sub_n))))) rfl ((key ((74 * (8 - 0) + 42 : Int).toNat + 1)).1 (z0 t 4) (w209 3 10) 0 0 z249 w250 ⟨by omega, by omega⟩ ⟨by omega, by omega⟩ ⟨by omega, by omega⟩ ⟨by omega, by omega⟩ ⟨by omega, by omega⟩ hs255 (((hs253.2.2.1 _ _ (notS_c (by omega) (notS_c (by omega) (notS_c (by omega) (notS_c (by omega) (notS_c (by omega) (notS_c (by omega) (notS_c (by omega) notS_n)))))))).trans ((hs236.2.2.1 _ _ (notS_c (by omega) (notS_c (by omega) (notS_c (by omega) (notS_c (by omega) (notS_c (by omega) (notS_c (by omega) (notS_c (by omega) notS_n)))))))).trans (hs212.2.2.1 _ _ (notS_c (by omega) (notS_c (by omega) (notS_c (by omega) (notS_c (by omega) (notS_c (by omega) notS_n))))))))) (by first | (obtain ⟨k, q1, q2, q3, q4⟩ := (hre.1 (by omega)).1; exact ⟨k, q1, q2, q3, by rw [← hg7]; exact q4⟩) | (have e7x : sq h (k + 1 + 1 + 1) 7 = tp h (k + 1) := (by rw [ec, su_n (by omega), eb, su_e]); exact ⟨k + 1 + 1 + 1, c11, by rw [ec, su_e], by rw [ec, su_n (by omega), eb, su_n (by omega), su_n (by omega)]; exact c9.2.2.1, by rw [e7x]; exact ⟨by have := hwa.1; omega, hwa.2⟩⟩)) (by first | omega | assumption | (simp only [hf257]; assumption)) (by omega))
      · skip
        have hb262 := rd_3_0 hs255.1
        have hb263 := rd_3_1 hs255.1
        have hb264 := rd_3_8 hs255.1
        have hf265 : z249 t 4 = z0 t 4 := ((hs253.2.2.1 _ _ (notS_c (by omega) (notS_c (by omega) (notS_c (by omega) (notS_c (by omega) (notS_c (by omega) (notS_c (by omega) (notS_c (by omega) notS_n)))))))).trans ((hs236.2.2.1 _ _ (notS_c (by omega) (notS_c (by omega) (notS_c (by omega) (notS_c (by omega) (notS_c (by omega) (notS_c (by omega) (notS_c (by omega) notS_n)))))))).trans (hs212.2.2.1 _ _ (notS_c (by omega) (notS_c (by omega) (notS_c (by omega) (notS_c (by omega) (notS_c (by omega) notS_n))))))))
        exact r_ret rfl (po_V hs255 ⟨rfl, (by first  | (have hp := hpo.resolve_left (by omega); exact ⟨fun q => absurd q (by rw [hp.2.2.1]; split <;> omega), fun _ => CF_b (a9_b (by rw [eb, su_n (by omega), su_e]) (by omega)) (by rw [← u7]; exact hp.2.2.1) (by omega)⟩)  | (rcases hpn.resolve_left (by omega) with hp | hp; (exact ⟨fun q => absurd q (by rw [hp.2.2.1]; split <;> omega), fun _ => CF_b (a8_b c9.2.1 (by omega)) (by rw [← g7]; exact hp.2.2.1) (by omega)⟩); (have hwa := gW (by omega); exact ⟨fun q => absurd q (by omega), fun _ => CF_i (f := 3) (a8_3 c9.2.1 (by omega) (nw_y hMD.2.2.2.1 hwa.1 hwa.2 (by have q := hln.resolve_left (by omega); exact ⟨q.1, by have := hMD.1.1; omega, q.2.2⟩))) (by omega) (by omega) (by omega)⟩)))⟩)
  · skip
    refine r_ld (pc' := 15) rfl rfl rfl rfl ?_
    have hb266 := rd_3_7 hz
    have hb267 := rd_3_8 hz
    refine r_cVI (pc' := 18) rfl rfl rfl rfl rfl sh_3 (m_34x (d := d + 2)  hst.1 hst.2.1 ) (fun v268 z269 w270 p271 h272 hs273 hE274 => ?_)
    have hs275 := st_tr hst hs273 (subS_c (fun _ _ _ _ _ _ => inS_s (inS_s (inS_s (inS_s (inS_s (inS_0 (by omega) (by omega) (by omega) (by omega))))))) (subS_c (fun _ _ _ _ _ _ => inS_s (inS_s (inS_s (inS_s (inS_s (inS_s (inS_0 (by omega) (by omega) (by omega) (by omega)))))))) subS_n))
    obtain ⟨rfl, hE274⟩ := hE274
    have hrf := hE274
    refine r_al (pc' := 19) rfl rfl rfl rfl ?_
    have hb276 := rd_3_0 hs275.1
    have hb277 := rd_3_1 hs275.1
    have hf278 : z269 3 8 = z0 3 8 := (hs273.2.2.1 _ _ (notS_c (by omega) (notS_c (by omega) notS_n)))
    have hf279 : z269 t 4 = z0 t 4 := (hs273.2.2.1 _ _ (notS_c (by omega) (notS_c (by omega) notS_n)))
    exact r_ret rfl (po_V hs275 ⟨rfl, (by exact ⟨fun q => absurd q (by rw [hrf.2.2.2.1]; split <;> omega), fun _ => CF_b (a0_w2 hm hK hcl (by omega)) (by rw [← e7]; exact hrf.2.2.2.1) (by omega)⟩)⟩)

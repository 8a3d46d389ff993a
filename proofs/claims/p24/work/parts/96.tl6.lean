/-! methods, printed by wip/tools/vcg.py -/
/-- LoopGroundModel here -/
abbrev S_149x  : mS := []
abbrev E_149x (h : Int → Int) (a1 : Int) (z0 w0 : mZ) (x y tx it mt tt ct : Option Nat) : Int → mZ → mZ → mP → Prop := fun v z w p => p = (pq x y tx it mt tt ct) ∧ z0 = z ∧ w0 = w ∧ (-1) ≤ v ∧ v ≤ 255 ∧ (v = h (z0 225 4 + a1) ∧ (z0 225 5 ≤ z0 225 4 + a1 → v = -1))
theorem m_149x {d : Nat} {z0 w0 : mZ} {x y tx it mt tt ct : Option Nat} (h : Int → Int) (a1 : Int) (hz : rz z0) (hw : rw_ w0) (ha1 : 0 ≤ a1 ∧ a1 ≤ 1600) (hh : tr8 z0 = h) : wc (d + 1) 149 [.ref 225, .int (Int32.ofInt a1)] (mk z0 w0 (pq x y tx it mt tt ct)) (poI S_149x z0 w0 (E_149x h a1 z0 w0 x y tx it mt tt ct)) := by
  have hst : st_ S_149x z0 w0 z0 w0 := st_rf hz hw
  have hz5 := rd_225_4 hz
  have hz6 := rd_225_5 hz
  refine w_m rfl rfl ?_
  refine r_ld (pc' := 1) rfl rfl rfl rfl ?_
  have hb7 := rd_225_4 hz
  refine r_gi (pc' := 4) rfl rfl sh_225 rfl rfl ?_
  refine r_ld (pc' := 5) rfl rfl rfl rfl ?_
  refine r_add (pc' := 6) rfl rfl ?_
  refine r_ld (pc' := 7) rfl rfl rfl rfl ?_
  have hb8 := rd_225_5 hz
  refine r_gi (pc' := 10) rfl rfl sh_225 rfl rfl ?_
  refine r_ige (pc' := 13) rfl rfl ⟨by omega, by omega⟩ ⟨by omega, by omega⟩ (fun hc9 => ?_) (fun hc9 => ?_)
  · skip
    refine r_c0 (pc' := 28) rfl rfl ?_
    exact r_ri rfl (po_I hst ⟨by decide, by decide⟩ ⟨rfl, rfl, rfl, by omega, by omega, (by first | exact ⟨(tr8_i hh (by omega) (by omega)).symm, fun q => absurd q (by omega)⟩ | exact ⟨(tr8_e hh (by omega)).symm, fun _ => by omega⟩)⟩)
  · skip
    refine r_ld (pc' := 14) rfl rfl rfl rfl ?_
    refine r_gr (b := 226) (pc' := 17) rfl rfl sh_225 rfl pp_225_0 ?_
    refine r_ld (pc' := 18) rfl rfl rfl rfl ?_
    refine r_gi (pc' := 21) rfl rfl sh_225 rfl rfl ?_
    refine r_ld (pc' := 22) rfl rfl rfl rfl ?_
    refine r_add (pc' := 23) rfl rfl ?_
    have hb10 := rd_226 hz (i := ((z0 225 4) + a1).toNat) (by omega)
    refine r_ia (pc' := 24) rfl rfl sh_226 rfl (by omega) (by omega) rfl ?_
    refine r_go rfl ?_
    exact r_ri rfl (po_I hst ⟨by omega, by omega⟩ ⟨rfl, rfl, rfl, by omega, by omega, (by first | exact ⟨(tr8_i hh (by omega) (by omega)).symm, fun q => absurd q (by omega)⟩ | exact ⟨(tr8_e hh (by omega)).symm, fun _ => by omega⟩)⟩)
/-- LoopGroundModel token -/
abbrev S_152x  : mS := [(225, 225, 4, 4), (225, 225, 7, 7), (225, 225, 9, 9), (225, 225, 8, 8), (225, 225, 6, 6)]
abbrev E_152x (h : Int → Int) (z0 w0 : mZ) (x y tx it mt tt ct : Option Nat) : mZ → mZ → mP → Prop := fun z w p => p = (pq x y tx it mt tt ct) ∧ (TKr h z w (ups h isB (z0 225 4)) ∧ z0 225 4 ≤ z 225 7)
theorem m_152x {d : Nat} {z0 w0 : mZ} {x y tx it mt tt ct : Option Nat} (h : Int → Int) (hz : rz z0) (hw : rw_ w0) (hh : tr8 z0 = h) (hat : z0 225 4 ≤ z0 225 5) : wc (d + 2) 152 [.ref 225] (mk z0 w0 (pq x y tx it mt tt ct)) (poV S_152x z0 w0 (E_152x h z0 w0 x y tx it mt tt ct)) := by
  have hst : st_ S_152x z0 w0 z0 w0 := st_rf hz hw
  have hz209 := rd_225_4 hz
  have hz210 := rd_225_5 hz
  have hz5 := rd_225_5 hz
  have key : ∀ N : Nat, (∀ (z w : mZ), st_ S_152x z0 w0 z w → w 225 9 = w0 225 9 → z 225 6 = z0 225 6 → z 225 7 = z0 225 7 → z 225 8 = z0 225 8 → (z0 225 4 ≤ z 225 4 ∧ z 225 4 ≤ z0 225 5) → (∀ k, z0 225 4 ≤ k → k < z 225 4 → isB (h k)) → 10000000 + (1600 - z 225 4) < (N : Int) → wp_ (d + 1) 152 3 none (0, [(0, .ref 225)], [], mk z w (pq x y tx it mt tt ct)) (poV S_152x z0 w0 (E_152x h z0 w0 x y tx it mt tt ct))) ∧ (∀ (x2 : Int) (z w : mZ), 0 ≤ x2 ∧ x2 ≤ 1600 → st_ S_152x z0 w0 z w → z 225 6 = z0 225 6 → (z0 225 4 ≤ z 225 4 ∧ z 225 4 + x2 ≤ z0 225 5 ∧ z 225 7 = z 225 4 ∧ (x2 = 0 → isL (h (z 225 4 + x2)))) → (upTo h isB (z0 225 4) (z 225 4)) → ((∀ k, z 225 4 ≤ k → k < z 225 4 + x2 → isL (h k)) ∧ (x2 ≤ 8 → w 225 9 = wl8 (tkF h (z 225 4)) x2.toNat)) → 135 * (1600 - x2) + 216369 < (N : Int) → wp_ (d + 1) 152 3 none (78, [(0, .ref 225), (2, .int (Int32.ofInt x2))], [], mk z w (pq x y tx it mt tt ct)) (poV S_152x z0 w0 (E_152x h z0 w0 x y tx it mt tt ct))) ∧ (∀ (x2 : Int) (z w : mZ), 0 ≤ x2 ∧ x2 ≤ 1600 → st_ S_152x z0 w0 z w → z 225 6 = z0 225 6 → (z0 225 4 ≤ z 225 4 ∧ z 225 4 + x2 ≤ z0 225 5 ∧ z 225 7 = z 225 4 ∧ (x2 = 0 → isD (h (z 225 4 + x2)))) → (upTo h isB (z0 225 4) (z 225 4)) → ((∀ k, z 225 4 ≤ k → k < z 225 4 + x2 → isD (h k)) ∧ (x2 ≤ 4 → z 225 8 = dn (tkF h (z 225 4)) x2.toNat)) → 135 * (1600 - x2) + 66 < (N : Int) → wp_ (d + 1) 152 3 none (144, [(0, .ref 225), (2, .int (Int32.ofInt x2))], [], mk z w (pq x y tx it mt tt ct)) (poV S_152x z0 w0 (E_152x h z0 w0 x y tx it mt tt ct))) ∧ (∀ (x2 : Int) (z w : mZ), 0 ≤ x2 ∧ x2 ≤ 1600 → st_ S_152x z0 w0 z w → (z0 225 4 ≤ z 225 4 ∧ z 225 4 + x2 ≤ z0 225 5) → (upTo h isB (z0 225 4) (z 225 4)) → (TKq h z w (z 225 4) x2) → 17 < (N : Int) → wp_ (d + 1) 152 3 none (237, [(0, .ref 225), (2, .int (Int32.ofInt x2))], [], mk z w (pq x y tx it mt tt ct)) (poV S_152x z0 w0 (E_152x h z0 w0 x y tx it mt tt ct))) := by
    intro N
    induction N with
    | zero =>
      refine ⟨?_, ?_, ?_, ?_⟩
      · intro  z w
        intro hst
        have hb211 := rd_225_4 hst.1
        intros; exfalso; omega
      · intro x2 z w
        intros; exfalso; omega
      · intro x2 z w
        intros; exfalso; omega
      · intro x2 z w
        intros; exfalso; omega
    | succ N ih =>
      obtain ⟨ih0, ih1, ih2, ih3⟩ := ih
      refine ⟨?_, ?_, ?_, ?_⟩
      · intro  z w  hst un_w_225_9 un_z_225_6 un_z_225_7 un_z_225_8 as1 as2 hM
        refine r_ld (pc' := 1) rfl rfl rfl rfl ?_
        refine r_c0 (pc' := 2) rfl rfl ?_
        have hb212 := rd_225_4 hst.1
        have hb213 := rd_225_5 hz
        have hf214 : z 225 5 = z0 225 5 := (hst.2.2.1 _ _ (notS_c (by omega) (notS_c (by omega) (notS_c (by omega) (notS_c (by omega) (notS_c (by omega) notS_n))))))
        refine r_cVI (pc' := 5) rfl rfl rfl rfl rfl sh_225 (m_149x (d := d) h 0 hst.1 hst.2.1 ⟨by omega, by omega⟩ (by exact (tr8_f (fun i => hst.2.2.1 226 i (notS_c (by omega) (notS_c (by omega) (notS_c (by omega) (notS_c (by omega) (notS_c (by omega) (notS_n))))))) (hst.2.2.1 225 5 (notS_c (by omega) (notS_c (by omega) (notS_c (by omega) (notS_c (by omega) (notS_c (by omega) (notS_n)))))))).trans hh)) (fun v215 z216 w217 p218 h219 hs220 hE221 => ?_)
        obtain ⟨rfl, rfl, rfl, hE221⟩ := hE221
        have hb1 : v215 = h (z 225 4) := hE221.2.2.1.trans (congrArg h (by omega))
        refine r_cb (pc' := 7) rfl (by decide) rfl ?_
        refine r_ieq (pc' := 10) rfl rfl ⟨by omega, by omega⟩ ⟨by decide, by decide⟩ (fun hc223 => ?_) (fun hc223 => ?_)
        · skip
          refine r_ld (pc' := 21) rfl rfl rfl rfl ?_
          refine r_al (pc' := 22) rfl rfl rfl rfl ?_
          refine r_gi (pc' := 25) rfl rfl sh_225 rfl rfl ?_
          refine r_c0 (pc' := 26) rfl rfl ?_
          refine r_add (pc' := 27) rfl rfl ?_
          refine r_pi (pc' := 30) rfl rfl sh_225 rfl rfl hst (inS_0 (by omega) (by omega) (by omega) (by omega)) (wr_225_4 ⟨by omega, by omega⟩) (fun z224 hq225 hs226 => ?_)
          refine r_go rfl ?_
          have hf227 : z224 225 4 = (z 225 4) + 1 := ((congrFun (congrFun hq225 _) _).trans mu_eq)
          have hb228 := rd_225_7 hz
          have hf229 : z224 225 7 = z0 225 7 := (((congrFun (congrFun hq225 _) _).trans (mu_ne (by omega))).trans un_z_225_7)
          have hb230 := rd_225_8 hz
          have hf231 : z224 225 8 = z0 225 8 := (((congrFun (congrFun hq225 _) _).trans (mu_ne (by omega))).trans un_z_225_8)
          have hb232 := rd_225_9 hw
          have hf233 : w 225 9 = w0 225 9 := un_w_225_9
          have hb234 := rd_225_6 hz
          have hf235 : z224 225 6 = z0 225 6 := (((congrFun (congrFun hq225 _) _).trans (mu_ne (by omega))).trans un_z_225_6)
          exact w_lv (sub_c rfl sub_n) rfl (ih0 z224 w hs226 (un_w_225_9) ((((congrFun (congrFun hq225 _) _).trans (mu_ne (by omega))).trans un_z_225_6)) ((((congrFun (congrFun hq225 _) _).trans (mu_ne (by omega))).trans un_z_225_7)) ((((congrFun (congrFun hq225 _) _).trans (mu_ne (by omega))).trans un_z_225_8)) (by first | omega | assumption | (simp only [hf227, hf229, hf231, hf233, hf235]; assumption)) (by first | (intro k h1 h2; exfalso; omega) | (intro k h1 h2; by_cases c : k = z 225 4; (rw [c]; omega); exact as2 k h1 (by omega))) (by omega))
        · skip
          refine r_ld (pc' := 11) rfl rfl rfl rfl ?_
          refine r_c0 (pc' := 12) rfl rfl ?_
          have hf236 : z 225 5 = z0 225 5 := (hst.2.2.1 _ _ (notS_c (by omega) (notS_c (by omega) (notS_c (by omega) (notS_c (by omega) (notS_c (by omega) notS_n))))))
          refine r_cVI (pc' := 15) rfl rfl rfl rfl rfl sh_225 (m_149x (d := d) h 0 hst.1 hst.2.1 ⟨by omega, by omega⟩ (by exact (tr8_f (fun i => hst.2.2.1 226 i (notS_c (by omega) (notS_c (by omega) (notS_c (by omega) (notS_c (by omega) (notS_c (by omega) (notS_n))))))) (hst.2.2.1 225 5 (notS_c (by omega) (notS_c (by omega) (notS_c (by omega) (notS_c (by omega) (notS_c (by omega) (notS_n)))))))).trans hh)) (fun v237 z238 w239 p240 h241 hs242 hE243 => ?_)
          obtain ⟨rfl, rfl, rfl, hE243⟩ := hE243
          have hb2 : v237 = h (z 225 4) := hE243.2.2.1.trans (congrArg h (by omega))
          refine r_cb (pc' := 17) rfl (by decide) rfl ?_
          refine r_ine (pc' := 20) rfl rfl ⟨by omega, by omega⟩ ⟨by decide, by decide⟩ (fun hc245 => ?_) (fun hc245 => ?_)
          · skip
            refine r_ld (pc' := 34) rfl rfl rfl rfl ?_
            refine r_ld (pc' := 35) rfl rfl rfl rfl ?_
            refine r_gi (pc' := 38) rfl rfl sh_225 rfl rfl ?_
            refine r_pi (pc' := 41) rfl rfl sh_225 rfl rfl hst (inS_s (inS_0 (by omega) (by omega) (by omega) (by omega))) (wr_225_7 ⟨by omega, by omega⟩) (fun z246 hq247 hs248 => ?_)
            refine r_ld (pc' := 42) rfl rfl rfl rfl ?_
            refine r_c0 (pc' := 43) rfl rfl ?_
            have hf249 : z246 225 4 = z 225 4 := ((congrFun (congrFun hq247 _) _).trans (mu_ne (by omega)))
            have hf250 : z246 225 5 = z0 225 5 := (((congrFun (congrFun hq247 _) _).trans (mu_ne (by omega))).trans (hst.2.2.1 _ _ (notS_c (by omega) (notS_c (by omega) (notS_c (by omega) (notS_c (by omega) (notS_c (by omega) notS_n)))))))
            refine r_cVI (pc' := 46) rfl rfl rfl rfl rfl sh_225 (m_149x (d := d) h 0 hs248.1 hs248.2.1 ⟨by omega, by omega⟩ (by exact (tr8_f (fun i => hs248.2.2.1 226 i (notS_c (by omega) (notS_c (by omega) (notS_c (by omega) (notS_c (by omega) (notS_c (by omega) (notS_n))))))) (hs248.2.2.1 225 5 (notS_c (by omega) (notS_c (by omega) (notS_c (by omega) (notS_c (by omega) (notS_c (by omega) (notS_n)))))))).trans hh)) (fun v251 z252 w253 p254 h255 hs256 hE257 => ?_)
            obtain ⟨rfl, rfl, rfl, hE257⟩ := hE257
            have hb3 : v251 = h (z 225 4) := hE257.2.2.1.trans (congrArg h (by omega))
            have hnb : ¬ isB (h (z 225 4)) := by omega
            refine r_st (pc' := 47) (lv' := [(1, _), (0, _)]) rfl rfl rfl rfl ?_
            refine r_c0 (pc' := 48) rfl rfl ?_
            refine r_st (pc' := 49) (lv' := [(2, _), (1, _), (0, _)]) rfl rfl rfl rfl ?_
            refine r_ld (pc' := 50) rfl rfl rfl rfl ?_
            refine r_lc0 (pc' := 51) rfl rfl ?_
            refine r_pl (pc' := 54) rfl rfl sh_225 rfl rfl hs248 (inS_s (inS_s (inS_0 (by omega) (by omega) (by omega) (by omega)))) (wr_225_9 ⟨by omega, by omega⟩) (fun w259 hq260 hs261 => ?_)
            refine r_ld (pc' := 55) rfl rfl rfl rfl ?_
            refine r_c0 (pc' := 56) rfl rfl ?_
            refine r_pi (pc' := 59) rfl rfl sh_225 rfl rfl hs261 (inS_s (inS_s (inS_s (inS_0 (by omega) (by omega) (by omega) (by omega))))) (wr_225_8 ⟨by omega, by omega⟩) (fun z262 hq263 hs264 => ?_)
            refine r_ld (pc' := 60) rfl rfl rfl rfl ?_
            refine r_zge (pc' := 63) rfl rfl ⟨by omega, by omega⟩ (fun hc265 => ?_) (fun hc265 => ?_)
            · skip
              refine r_ld (pc' := 72) rfl rfl rfl rfl ?_
              refine r_cSI (pc' := 75) rfl rfl rfl rfl rfl (m_150 (d := d) v251 hs264.1 hs264.2.1 ⟨by omega, by omega⟩) (fun v266 z267 w268 p269 h270 hs271 hE272 => ?_)
              obtain ⟨rfl, rfl, rfl, hE272⟩ := hE272
              refine r_zeq (pc' := 78) rfl rfl ⟨by omega, by omega⟩ (fun hc274 => ?_) (fun hc274 => ?_)
              · skip
                refine r_ld (pc' := 138) rfl rfl rfl rfl ?_
                refine r_cSI (pc' := 141) rfl rfl rfl rfl rfl (m_151 (d := d) v251 hs264.1 hs264.2.1 ⟨by omega, by omega⟩) (fun v275 z276 w277 p278 h279 hs280 hE281 => ?_)
                obtain ⟨rfl, rfl, rfl, hE281⟩ := hE281
                refine r_zeq (pc' := 144) rfl rfl ⟨by omega, by omega⟩ (fun hc283 => ?_) (fun hc283 => ?_)
                · skip
                  refine r_c0 (pc' := 215) rfl rfl ?_
                  refine r_st (pc' := 216) (lv' := [(2, _), (1, _), (0, _)]) rfl rfl rfl rfl ?_
                  refine r_ld (pc' := 217) rfl rfl rfl rfl ?_
                  refine r_ld (pc' := 218) rfl rfl rfl rfl ?_
                  refine r_cb (pc' := 220) rfl (by decide) rfl ?_
                  refine r_ieq (pc' := 223) rfl rfl ⟨by omega, by omega⟩ ⟨by decide, by decide⟩ (fun hc284 => ?_) (fun hc284 => ?_)
                  · skip
                    refine r_ld (pc' := 230) rfl rfl rfl rfl ?_
                    refine r_go rfl ?_
                    refine r_pi (pc' := 237) rfl rfl sh_225 rfl rfl hs264 (inS_s (inS_s (inS_s (inS_s (inS_0 (by omega) (by omega) (by omega) (by omega)))))) (wr_225_6 ⟨by omega, by omega⟩) (fun z285 hq286 hs287 => ?_)
                    have hf288 : z285 225 4 = z 225 4 := (((congrFun (congrFun hq286 _) _).trans (mu_ne (by omega))).trans (((congrFun (congrFun hq263 _) _).trans (mu_ne (by omega))).trans ((congrFun (congrFun hq247 _) _).trans (mu_ne (by omega)))))
                    have hf289 : z285 225 7 = z 225 4 := (((congrFun (congrFun hq286 _) _).trans (mu_ne (by omega))).trans (((congrFun (congrFun hq263 _) _).trans (mu_ne (by omega))).trans ((congrFun (congrFun hq247 _) _).trans mu_eq)))
                    have hf290 : z285 225 8 = 0 := (((congrFun (congrFun hq286 _) _).trans (mu_ne (by omega))).trans ((congrFun (congrFun hq263 _) _).trans mu_eq))
                    have hf291 : w259 225 9 = 0 := ((congrFun (congrFun hq260 _) _).trans mu_eq)
                    have hf292 : z285 225 6 = v251 := ((congrFun (congrFun hq286 _) _).trans mu_eq)
                    exact w_lv (sub_c rfl (sub_c rfl sub_n)) rfl (ih3 1 z285 w259 ⟨by omega, by omega⟩ hs287 (by first | omega | assumption | (simp only [hf288, hf289, hf290, hf291, hf292]; assumption)) (by first | exact as2 | (rw [show z285 225 4 = z 225 4 by omega]; first | exact as2 | exact ⟨by omega, as2, hnb⟩)) (by rw [show z285 225 4 = z 225 4 by omega]; first | exact r0_e (by omega) (by omega) (by omega) | exact rs8_e (c := v251) (by omega) (by omega) (by omega) (by omega) (by omega) (by first | exact Or.inl ⟨by omega, by omega⟩ | exact Or.inr ⟨by omega, by omega, by omega⟩) | exact rl8_e (by omega) as3.1 (by omega) (by omega) (fun c => by have := as3.2 c; omega) (by first | exact Or.inl ⟨by omega, by omega⟩ | exact Or.inr ⟨by omega, by omega⟩) | exact rd8_e (by omega) as3.1 (by omega) (by omega) (fun c => by have := as3.2 c; omega) (by first | exact Or.inl ⟨by omega, by omega⟩ | exact Or.inr ⟨by omega, by omega, by omega⟩)) (by omega))
                  · skip
                    refine r_ld (pc' := 224) rfl rfl rfl rfl ?_
                    refine r_cb (pc' := 226) rfl (by decide) rfl ?_
                    refine r_ine (pc' := 229) rfl rfl ⟨by omega, by omega⟩ ⟨by decide, by decide⟩ (fun hc293 => ?_) (fun hc293 => ?_)
                    · skip
                      refine r_c0 (pc' := 234) rfl rfl ?_
                      refine r_pi (pc' := 237) rfl rfl sh_225 rfl rfl hs264 (inS_s (inS_s (inS_s (inS_s (inS_0 (by omega) (by omega) (by omega) (by omega)))))) (wr_225_6 ⟨by omega, by omega⟩) (fun z294 hq295 hs296 => ?_)
                      have hf297 : z294 225 4 = z 225 4 := (((congrFun (congrFun hq295 _) _).trans (mu_ne (by omega))).trans (((congrFun (congrFun hq263 _) _).trans (mu_ne (by omega))).trans ((congrFun (congrFun hq247 _) _).trans (mu_ne (by omega)))))
                      have hf298 : z294 225 7 = z 225 4 := (((congrFun (congrFun hq295 _) _).trans (mu_ne (by omega))).trans (((congrFun (congrFun hq263 _) _).trans (mu_ne (by omega))).trans ((congrFun (congrFun hq247 _) _).trans mu_eq)))
                      have hf299 : z294 225 8 = 0 := (((congrFun (congrFun hq295 _) _).trans (mu_ne (by omega))).trans ((congrFun (congrFun hq263 _) _).trans mu_eq))
                      have hf300 : w259 225 9 = 0 := ((congrFun (congrFun hq260 _) _).trans mu_eq)
                      have hf301 : z294 225 6 = 3 := ((congrFun (congrFun hq295 _) _).trans mu_eq)
                      exact w_lv (sub_c rfl (sub_c rfl sub_n)) rfl (ih3 1 z294 w259 ⟨by omega, by omega⟩ hs296 (by first | omega | assumption | (simp only [hf297, hf298, hf299, hf300, hf301]; assumption)) (by first | exact as2 | (rw [show z294 225 4 = z 225 4 by omega]; first | exact as2 | exact ⟨by omega, as2, hnb⟩)) (by rw [show z294 225 4 = z 225 4 by omega]; first | exact r0_e (by omega) (by omega) (by omega) | exact rs8_e (c := v251) (by omega) (by omega) (by omega) (by omega) (by omega) (by first | exact Or.inl ⟨by omega, by omega⟩ | exact Or.inr ⟨by omega, by omega, by omega⟩) | exact rl8_e (by omega) as3.1 (by omega) (by omega) (fun c => by have := as3.2 c; omega) (by first | exact Or.inl ⟨by omega, by omega⟩ | exact Or.inr ⟨by omega, by omega⟩) | exact rd8_e (by omega) as3.1 (by omega) (by omega) (fun c => by have := as3.2 c; omega) (by first | exact Or.inl ⟨by omega, by omega⟩ | exact Or.inr ⟨by omega, by omega, by omega⟩)) (by omega))
                    · skip
                      refine r_ld (pc' := 230) rfl rfl rfl rfl ?_
                      refine r_go rfl ?_
                      refine r_pi (pc' := 237) rfl rfl sh_225 rfl rfl hs264 (inS_s (inS_s (inS_s (inS_s (inS_0 (by omega) (by omega) (by omega) (by omega)))))) (wr_225_6 ⟨by omega, by omega⟩) (fun z302 hq303 hs304 => ?_)
                      have hf305 : z302 225 4 = z 225 4 := (((congrFun (congrFun hq303 _) _).trans (mu_ne (by omega))).trans (((congrFun (congrFun hq263 _) _).trans (mu_ne (by omega))).trans ((congrFun (congrFun hq247 _) _).trans (mu_ne (by omega)))))
                      have hf306 : z302 225 7 = z 225 4 := (((congrFun (congrFun hq303 _) _).trans (mu_ne (by omega))).trans (((congrFun (congrFun hq263 _) _).trans (mu_ne (by omega))).trans ((congrFun (congrFun hq247 _) _).trans mu_eq)))
                      have hf307 : z302 225 8 = 0 := (((congrFun (congrFun hq303 _) _).trans (mu_ne (by omega))).trans ((congrFun (congrFun hq263 _) _).trans mu_eq))
                      have hf308 : w259 225 9 = 0 := ((congrFun (congrFun hq260 _) _).trans mu_eq)
                      have hf309 : z302 225 6 = v251 := ((congrFun (congrFun hq303 _) _).trans mu_eq)
                      exact w_lv (sub_c rfl (sub_c rfl sub_n)) rfl (ih3 1 z302 w259 ⟨by omega, by omega⟩ hs304 (by first | omega | assumption | (simp only [hf305, hf306, hf307, hf308, hf309]; assumption)) (by first | exact as2 | (rw [show z302 225 4 = z 225 4 by omega]; first | exact as2 | exact ⟨by omega, as2, hnb⟩)) (by rw [show z302 225 4 = z 225 4 by omega]; first | exact r0_e (by omega) (by omega) (by omega) | exact rs8_e (c := v251) (by omega) (by omega) (by omega) (by omega) (by omega) (by first | exact Or.inl ⟨by omega, by omega⟩ | exact Or.inr ⟨by omega, by omega, by omega⟩) | exact rl8_e (by omega) as3.1 (by omega) (by omega) (fun c => by have := as3.2 c; omega) (by first | exact Or.inl ⟨by omega, by omega⟩ | exact Or.inr ⟨by omega, by omega⟩) | exact rd8_e (by omega) as3.1 (by omega) (by omega) (fun c => by have := as3.2 c; omega) (by first | exact Or.inl ⟨by omega, by omega⟩ | exact Or.inr ⟨by omega, by omega, by omega⟩)) (by omega))
                · skip
                  have hf310 : z262 225 4 = z 225 4 := (((congrFun (congrFun hq263 _) _).trans (mu_ne (by omega))).trans ((congrFun (congrFun hq247 _) _).trans (mu_ne (by omega))))
                  have hf311 : z262 225 7 = z 225 4 := (((congrFun (congrFun hq263 _) _).trans (mu_ne (by omega))).trans ((congrFun (congrFun hq247 _) _).trans mu_eq))
                  have hf312 : z262 225 8 = 0 := ((congrFun (congrFun hq263 _) _).trans mu_eq)
                  have hf313 : w259 225 9 = 0 := ((congrFun (congrFun hq260 _) _).trans mu_eq)
                  have hb314 := rd_225_6 hz
                  have hf315 : z262 225 6 = z0 225 6 := (((congrFun (congrFun hq263 _) _).trans (mu_ne (by omega))).trans (((congrFun (congrFun hq247 _) _).trans (mu_ne (by omega))).trans un_z_225_6))
                  exact w_lv (sub_c rfl (sub_c rfl sub_n)) rfl (ih2 0 z262 w259 ⟨by omega, by omega⟩ hs264 ((((congrFun (congrFun hq263 _) _).trans (mu_ne (by omega))).trans (((congrFun (congrFun hq247 _) _).trans (mu_ne (by omega))).trans un_z_225_6))) (by first | omega | exact ⟨by omega, by omega, by omega, fun c => absurd c (by omega)⟩ | exact ⟨by omega, by omega, by omega, fun _ => by rw [show z262 225 4 + 0 = z 225 4 by omega, ← hb3]; omega⟩) (by first | exact as2 | (rw [show z262 225 4 = z 225 4 by omega]; first | exact as2 | exact ⟨by omega, as2, hnb⟩)) (by first | exact ⟨fun k h1 h2 => absurd h2 (by omega), fun _ => by show z262 225 8 = 0; omega⟩ | (have k9 := rd_s (h := h) (p := z 225 4) (q := z 225 4 + x2) (v := NOV) (l := z 225 8) as3.1 (by omega) (by omega) (by omega) (fun c => by rw [show z 225 4 + x2 - z 225 4 = x2 by omega]; exact as3.2 (by omega)) (l' := z262 225 8) (fun h1 h2 h3 => by first | omega | (have := hsh h2 h3; omega)); rw [show z 225 4 + x2 + 1 - z 225 4 = x2 + 1 by omega] at k9; rw [show z262 225 4 = z 225 4 by omega]; exact ⟨fun k h1 h2 => k9.1 k h1 (by omega), fun c => k9.2 c⟩)) (by omega))
              · skip
                have hf316 : z262 225 4 = z 225 4 := (((congrFun (congrFun hq263 _) _).trans (mu_ne (by omega))).trans ((congrFun (congrFun hq247 _) _).trans (mu_ne (by omega))))
                have hf317 : z262 225 7 = z 225 4 := (((congrFun (congrFun hq263 _) _).trans (mu_ne (by omega))).trans ((congrFun (congrFun hq247 _) _).trans mu_eq))
                have hf318 : w259 225 9 = 0 := ((congrFun (congrFun hq260 _) _).trans mu_eq)
                have hf319 : z262 225 8 = 0 := ((congrFun (congrFun hq263 _) _).trans mu_eq)
                have hb320 := rd_225_6 hz
                have hf321 : z262 225 6 = z0 225 6 := (((congrFun (congrFun hq263 _) _).trans (mu_ne (by omega))).trans (((congrFun (congrFun hq247 _) _).trans (mu_ne (by omega))).trans un_z_225_6))
                exact w_lv (sub_c rfl (sub_c rfl sub_n)) rfl (ih1 0 z262 w259 ⟨by omega, by omega⟩ hs264 ((((congrFun (congrFun hq263 _) _).trans (mu_ne (by omega))).trans (((congrFun (congrFun hq247 _) _).trans (mu_ne (by omega))).trans un_z_225_6))) (by first | omega | exact ⟨by omega, by omega, by omega, fun c => absurd c (by omega)⟩ | exact ⟨by omega, by omega, by omega, fun _ => by rw [show z262 225 4 + 0 = z 225 4 by omega, ← hb3]; omega⟩) (by first | exact as2 | (rw [show z262 225 4 = z 225 4 by omega]; first | exact as2 | exact ⟨by omega, as2, hnb⟩)) (by first | exact ⟨fun k h1 h2 => absurd h2 (by omega), fun _ => by show w259 225 9 = 0; omega⟩ | (have k9 := rl8_s (h := h) (p := z 225 4) (q := z 225 4 + x2) (v := NOV) (l := w 225 9) as3.1 (by omega) (by omega) (by omega) (fun c => by rw [show z 225 4 + x2 - z 225 4 = x2 by omega]; exact as3.2 (by omega)) (l' := w259 225 9) (fun h1 h2 h3 => by first | omega | (have := hsh h2 h3; omega)); rw [show z 225 4 + x2 + 1 - z 225 4 = x2 + 1 by omega] at k9; rw [show z262 225 4 = z 225 4 by omega]; exact ⟨fun k h1 h2 => k9.1 k h1 (by omega), fun c => k9.2 c⟩)) (by omega))
            · skip
              refine r_ld (pc' := 64) rfl rfl rfl rfl ?_
              refine r_c0 (pc' := 65) rfl rfl ?_
              refine r_pi (pc' := 68) rfl rfl sh_225 rfl rfl hs264 (inS_s (inS_s (inS_s (inS_s (inS_0 (by omega) (by omega) (by omega) (by omega)))))) (wr_225_6 ⟨by omega, by omega⟩) (fun z322 hq323 hs324 => ?_)
              refine r_go rfl ?_
              have hf325 : z322 225 4 = z 225 4 := (((congrFun (congrFun hq323 _) _).trans (mu_ne (by omega))).trans (((congrFun (congrFun hq263 _) _).trans (mu_ne (by omega))).trans ((congrFun (congrFun hq247 _) _).trans (mu_ne (by omega)))))
              have hf326 : z322 225 7 = z 225 4 := (((congrFun (congrFun hq323 _) _).trans (mu_ne (by omega))).trans (((congrFun (congrFun hq263 _) _).trans (mu_ne (by omega))).trans ((congrFun (congrFun hq247 _) _).trans mu_eq)))
              have hf327 : z322 225 8 = 0 := (((congrFun (congrFun hq323 _) _).trans (mu_ne (by omega))).trans ((congrFun (congrFun hq263 _) _).trans mu_eq))
              have hf328 : w259 225 9 = 0 := ((congrFun (congrFun hq260 _) _).trans mu_eq)
              have hf329 : z322 225 6 = 0 := ((congrFun (congrFun hq323 _) _).trans mu_eq)
              exact w_lv (sub_c rfl (sub_c rfl sub_n)) rfl (ih3 0 z322 w259 ⟨by omega, by omega⟩ hs324 (by first | omega | assumption | (simp only [hf325, hf326, hf327, hf328, hf329]; assumption)) (by first | exact as2 | (rw [show z322 225 4 = z 225 4 by omega]; first | exact as2 | exact ⟨by omega, as2, hnb⟩)) (by rw [show z322 225 4 = z 225 4 by omega]; first | exact r0_e (by omega) (by omega) (by omega) | exact rs8_e (c := v251) (by omega) (by omega) (by omega) (by omega) (by omega) (by first | exact Or.inl ⟨by omega, by omega⟩ | exact Or.inr ⟨by omega, by omega, by omega⟩) | exact rl8_e (by omega) as3.1 (by omega) (by omega) (fun c => by have := as3.2 c; omega) (by first | exact Or.inl ⟨by omega, by omega⟩ | exact Or.inr ⟨by omega, by omega⟩) | exact rd8_e (by omega) as3.1 (by omega) (by omega) (fun c => by have := as3.2 c; omega) (by first | exact Or.inl ⟨by omega, by omega⟩ | exact Or.inr ⟨by omega, by omega, by omega⟩)) (by omega))
          · skip
            refine r_ld (pc' := 21) rfl rfl rfl rfl ?_
            refine r_al (pc' := 22) rfl rfl rfl rfl ?_
            refine r_gi (pc' := 25) rfl rfl sh_225 rfl rfl ?_
            refine r_c0 (pc' := 26) rfl rfl ?_
            refine r_add (pc' := 27) rfl rfl ?_
            refine r_pi (pc' := 30) rfl rfl sh_225 rfl rfl hst (inS_0 (by omega) (by omega) (by omega) (by omega)) (wr_225_4 ⟨by omega, by omega⟩) (fun z330 hq331 hs332 => ?_)
            refine r_go rfl ?_
            have hf333 : z330 225 4 = (z 225 4) + 1 := ((congrFun (congrFun hq331 _) _).trans mu_eq)
            have hb334 := rd_225_7 hz
            have hf335 : z330 225 7 = z0 225 7 := (((congrFun (congrFun hq331 _) _).trans (mu_ne (by omega))).trans un_z_225_7)
            have hb336 := rd_225_8 hz
            have hf337 : z330 225 8 = z0 225 8 := (((congrFun (congrFun hq331 _) _).trans (mu_ne (by omega))).trans un_z_225_8)
            have hb338 := rd_225_9 hw
            have hf339 : w 225 9 = w0 225 9 := un_w_225_9
            have hb340 := rd_225_6 hz
            have hf341 : z330 225 6 = z0 225 6 := (((congrFun (congrFun hq331 _) _).trans (mu_ne (by omega))).trans un_z_225_6)
            exact w_lv (sub_c rfl sub_n) rfl (ih0 z330 w hs332 (un_w_225_9) ((((congrFun (congrFun hq331 _) _).trans (mu_ne (by omega))).trans un_z_225_6)) ((((congrFun (congrFun hq331 _) _).trans (mu_ne (by omega))).trans un_z_225_7)) ((((congrFun (congrFun hq331 _) _).trans (mu_ne (by omega))).trans un_z_225_8)) (by first | omega | assumption | (simp only [hf333, hf335, hf337, hf339, hf341]; assumption)) (by first | (intro k h1 h2; exfalso; omega) | (intro k h1 h2; by_cases c : k = z 225 4; (rw [c]; omega); exact as2 k h1 (by omega))) (by omega))
      · intro x2 z w  hx2 hst un_z_225_6 as1 as2 as3 hM
        refine r_ld (pc' := 79) rfl rfl rfl rfl ?_
        refine r_ld (pc' := 80) rfl rfl rfl rfl ?_
        have hb342 := rd_225_4 hst.1
        have hb343 := rd_225_5 hz
        have hf344 : z 225 5 = z0 225 5 := (hst.2.2.1 _ _ (notS_c (by omega) (notS_c (by omega) (notS_c (by omega) (notS_c (by omega) (notS_c (by omega) notS_n))))))
        refine r_cVI (pc' := 83) rfl rfl rfl rfl rfl sh_225 (m_149x (d := d) h x2 hst.1 hst.2.1 ⟨by omega, by omega⟩ (by exact (tr8_f (fun i => hst.2.2.1 226 i (notS_c (by omega) (notS_c (by omega) (notS_c (by omega) (notS_c (by omega) (notS_c (by omega) (notS_n))))))) (hst.2.2.1 225 5 (notS_c (by omega) (notS_c (by omega) (notS_c (by omega) (notS_c (by omega) (notS_c (by omega) (notS_n)))))))).trans hh)) (fun v345 z346 w347 p348 h349 hs350 hE351 => ?_)
        obtain ⟨rfl, rfl, rfl, hE351⟩ := hE351
        have hb4 : v345 = h (z 225 4 + x2) := hE351.2.2.1
        refine r_cSI (pc' := 86) rfl rfl rfl rfl rfl (m_150 (d := d) v345 hst.1 hst.2.1 ⟨by omega, by omega⟩) (fun v353 z354 w355 p356 h357 hs358 hE359 => ?_)
        obtain ⟨rfl, rfl, rfl, hE359⟩ := hE359
        refine r_zeq (pc' := 89) rfl rfl ⟨by omega, by omega⟩ (fun hc361 => ?_) (fun hc361 => ?_)
        · skip
          refine r_ld (pc' := 120) rfl rfl rfl rfl ?_
          refine r_ld (pc' := 121) rfl rfl rfl rfl ?_
          refine r_cb (pc' := 123) rfl (by decide) rfl ?_
          refine r_ile (pc' := 126) rfl rfl ⟨by omega, by omega⟩ ⟨by decide, by decide⟩ (fun hc362 => ?_) (fun hc362 => ?_)
          · skip
            refine r_c0 (pc' := 131) rfl rfl ?_
            refine r_pi (pc' := 134) rfl rfl sh_225 rfl rfl hst (inS_s (inS_s (inS_s (inS_s (inS_0 (by omega) (by omega) (by omega) (by omega)))))) (wr_225_6 ⟨by omega, by omega⟩) (fun z363 hq364 hs365 => ?_)
            refine r_go rfl ?_
            have hf366 : z363 225 4 = z 225 4 := ((congrFun (congrFun hq364 _) _).trans (mu_ne (by omega)))
            have hb367 := rd_225_7 hst.1
            have hf368 : z363 225 7 = z 225 7 := ((congrFun (congrFun hq364 _) _).trans (mu_ne (by omega)))
            have hb369 := rd_225_8 hst.1
            have hf370 : z363 225 8 = z 225 8 := ((congrFun (congrFun hq364 _) _).trans (mu_ne (by omega)))
            have hb371 := rd_225_9 hst.2.1
            have hf372 : z363 225 6 = 1 := ((congrFun (congrFun hq364 _) _).trans mu_eq)
            exact w_lv (sub_c rfl (sub_c rfl sub_n)) rfl (ih3 x2 z363 w ⟨by omega, by omega⟩ hs365 (by first | omega | assumption | (simp only [hf366, hf368, hf370, hf372]; assumption)) (by first | exact as2 | (rw [show z363 225 4 = z 225 4 by omega]; first | exact as2 | exact ⟨by omega, as2, hnb⟩)) (by rw [show z363 225 4 = z 225 4 by omega]; first | exact r0_e (by omega) (by omega) (by omega) | exact rs8_e (c := NOL) (by omega) (by omega) (by omega) (by omega) (by omega) (by first | exact Or.inl ⟨by omega, by omega⟩ | exact Or.inr ⟨by omega, by omega, by omega⟩) | exact rl8_e (by omega) as3.1 (by omega) (by omega) (fun c => by have := as3.2 c; omega) (by first | exact Or.inl ⟨by omega, by omega⟩ | exact Or.inr ⟨by omega, by omega⟩) | exact rd8_e (by omega) as3.1 (by omega) (by omega) (fun c => by have := as3.2 c; omega) (by first | exact Or.inl ⟨by omega, by omega⟩ | exact Or.inr ⟨by omega, by omega, by omega⟩)) (by omega))
          · skip
            refine r_c0 (pc' := 127) rfl rfl ?_
            refine r_go rfl ?_
            refine r_pi (pc' := 134) rfl rfl sh_225 rfl rfl hst (inS_s (inS_s (inS_s (inS_s (inS_0 (by omega) (by omega) (by omega) (by omega)))))) (wr_225_6 ⟨by omega, by omega⟩) (fun z373 hq374 hs375 => ?_)
            refine r_go rfl ?_
            have hf376 : z373 225 4 = z 225 4 := ((congrFun (congrFun hq374 _) _).trans (mu_ne (by omega)))
            have hb377 := rd_225_7 hst.1
            have hf378 : z373 225 7 = z 225 7 := ((congrFun (congrFun hq374 _) _).trans (mu_ne (by omega)))
            have hb379 := rd_225_8 hst.1
            have hf380 : z373 225 8 = z 225 8 := ((congrFun (congrFun hq374 _) _).trans (mu_ne (by omega)))
            have hb381 := rd_225_9 hst.2.1
            have hf382 : z373 225 6 = 3 := ((congrFun (congrFun hq374 _) _).trans mu_eq)
            exact w_lv (sub_c rfl (sub_c rfl sub_n)) rfl (ih3 x2 z373 w ⟨by omega, by omega⟩ hs375 (by first | omega | assumption | (simp only [hf376, hf378, hf380, hf382]; assumption)) (by first | exact as2 | (rw [show z373 225 4 = z 225 4 by omega]; first | exact as2 | exact ⟨by omega, as2, hnb⟩)) (by rw [show z373 225 4 = z 225 4 by omega]; first | exact r0_e (by omega) (by omega) (by omega) | exact rs8_e (c := NOL) (by omega) (by omega) (by omega) (by omega) (by omega) (by first | exact Or.inl ⟨by omega, by omega⟩ | exact Or.inr ⟨by omega, by omega, by omega⟩) | exact rl8_e (by omega) as3.1 (by omega) (by omega) (fun c => by have := as3.2 c; omega) (by first | exact Or.inl ⟨by omega, by omega⟩ | exact Or.inr ⟨by omega, by omega⟩) | exact rd8_e (by omega) as3.1 (by omega) (by omega) (fun c => by have := as3.2 c; omega) (by first | exact Or.inl ⟨by omega, by omega⟩ | exact Or.inr ⟨by omega, by omega, by omega⟩)) (by omega))
        · skip
          refine r_ld (pc' := 90) rfl rfl rfl rfl ?_
          refine r_cb (pc' := 92) rfl (by decide) rfl ?_
          refine r_ige (pc' := 95) rfl rfl ⟨by omega, by omega⟩ ⟨by decide, by decide⟩ (fun hc383 => ?_) (fun hc383 => ?_)
          · skip
            refine r_inc (pc' := 116) (lv' := [(0, _)]) rfl rfl rfl rfl rfl ?_
            refine r_go rfl ?_
            have hb384 := rd_225_7 hst.1
            have hb385 := rd_225_9 hst.2.1
            have hb386 := rd_225_8 hst.1
            have hb387 := rd_225_6 hz
            have hf388 : z 225 6 = z0 225 6 := un_z_225_6
            exact w_lv (sub_c rfl (sub_c rfl sub_n)) rfl (ih1 (x2 + 1) z w ⟨by omega, by omega⟩ hst (un_z_225_6) (by first | omega | exact ⟨by omega, by omega, by omega, fun c => absurd c (by omega)⟩ | exact ⟨by omega, by omega, by omega, fun _ => by rw [show z 225 4 + 0 = z 225 4 by omega, ← hb3]; omega⟩) (by first | exact as2 | (rw [show z 225 4 = z 225 4 by omega]; first | exact as2 | exact ⟨by omega, as2, hnb⟩)) (by first | exact ⟨fun k h1 h2 => absurd h2 (by omega), fun _ => by show w 225 9 = 0; omega⟩ | (have k9 := rl8_s (h := h) (p := z 225 4) (q := z 225 4 + x2) (v := v345) (l := w 225 9) as3.1 (by omega) (by omega) (by omega) (fun c => by rw [show z 225 4 + x2 - z 225 4 = x2 by omega]; exact as3.2 (by omega)) (l' := w 225 9) (fun h1 h2 h3 => by first | omega | (have := hsh h2 h3; omega)); rw [show z 225 4 + x2 + 1 - z 225 4 = x2 + 1 by omega] at k9; rw [show z 225 4 = z 225 4 by omega]; exact ⟨fun k h1 h2 => k9.1 k h1 (by omega), fun c => k9.2 c⟩)) (by omega))
          · skip
            refine r_ld (pc' := 96) rfl rfl rfl rfl ?_
            refine r_ld (pc' := 97) rfl rfl rfl rfl ?_
            have hb389 := rd_225_9 hst.2.1
            refine r_gl (pc' := 100) rfl rfl sh_225 rfl rfl ?_
            refine r_cb (pc' := 102) rfl (by decide) rfl ?_
            refine r_aLx (pc' := 103) rfl rfl rfl rfl (fun v390 h391 hbit102 => ?_)
            have h391i := h391
            have hin102 := h391
            unfold inL at h391
            refine r_ld (pc' := 104) rfl rfl rfl rfl ?_
            refine r_ld (pc' := 105) rfl rfl rfl rfl ?_
            have hf392 : z 225 5 = z0 225 5 := (hst.2.2.1 _ _ (notS_c (by omega) (notS_c (by omega) (notS_c (by omega) (notS_c (by omega) (notS_c (by omega) notS_n))))))
            refine r_cVI (pc' := 108) rfl rfl rfl rfl rfl sh_225 (m_149x (d := d) h x2 hst.1 hst.2.1 ⟨by omega, by omega⟩ (by exact (tr8_f (fun i => hst.2.2.1 226 i (notS_c (by omega) (notS_c (by omega) (notS_c (by omega) (notS_c (by omega) (notS_c (by omega) (notS_n))))))) (hst.2.2.1 225 5 (notS_c (by omega) (notS_c (by omega) (notS_c (by omega) (notS_c (by omega) (notS_c (by omega) (notS_n)))))))).trans hh)) (fun v393 z394 w395 p396 h397 hs398 hE399 => ?_)
            obtain ⟨rfl, rfl, rfl, hE399⟩ := hE399
            have hb5 : v393 = h (z 225 4 + x2) := hE399.2.2.1
            refine r_i2l (pc' := 109) rfl rfl ⟨by omega, by omega⟩ ?_
            refine r_aLx (pc' := 110) rfl rfl rfl rfl (fun v401 h402 hbit109 => ?_)
            have h402i := h402
            have hin109 := h402
            unfold inL at h402
            have hsh : 0 ≤ w 225 9 → w 225 9 ≤ 34474613618145914 → v401 = w 225 9 * 256 + v393 := fun h1 h2 => sh_or ⟨h1, h2⟩ ⟨by omega, by omega⟩ hin102 hin109 hbit102 hbit109
            refine r_pl (pc' := 113) rfl rfl sh_225 rfl rfl hst (inS_s (inS_s (inS_0 (by omega) (by omega) (by omega) (by omega)))) (wr_225_9 ⟨by omega, by omega⟩) (fun w403 hq404 hs405 => ?_)
            refine r_inc (pc' := 116) (lv' := [(0, _)]) rfl rfl rfl rfl rfl ?_
            refine r_go rfl ?_
            have hb406 := rd_225_7 hst.1
            have hf407 : w403 225 9 = v401 := ((congrFun (congrFun hq404 _) _).trans mu_eq)
            have hb408 := rd_225_8 hst.1
            have hb409 := rd_225_6 hz
            have hf410 : z 225 6 = z0 225 6 := un_z_225_6
            exact w_lv (sub_c rfl (sub_c rfl sub_n)) rfl (ih1 (x2 + 1) z w403 ⟨by omega, by omega⟩ hs405 (un_z_225_6) (by first | omega | exact ⟨by omega, by omega, by omega, fun c => absurd c (by omega)⟩ | exact ⟨by omega, by omega, by omega, fun _ => by rw [show z 225 4 + 0 = z 225 4 by omega, ← hb3]; omega⟩) (by first | exact as2 | (rw [show z 225 4 = z 225 4 by omega]; first | exact as2 | exact ⟨by omega, as2, hnb⟩)) (by first | exact ⟨fun k h1 h2 => absurd h2 (by omega), fun _ => by show w403 225 9 = 0; omega⟩ | (have k9 := rl8_s (h := h) (p := z 225 4) (q := z 225 4 + x2) (v := v345) (l := w 225 9) as3.1 (by omega) (by omega) (by omega) (fun c => by rw [show z 225 4 + x2 - z 225 4 = x2 by omega]; exact as3.2 (by omega)) (l' := w403 225 9) (fun h1 h2 h3 => by first | omega | (have := hsh h2 h3; omega)); rw [show z 225 4 + x2 + 1 - z 225 4 = x2 + 1 by omega] at k9; rw [show z 225 4 = z 225 4 by omega]; exact ⟨fun k h1 h2 => k9.1 k h1 (by omega), fun c => k9.2 c⟩)) (by omega))
      · intro x2 z w  hx2 hst un_z_225_6 as1 as2 as3 hM
        refine r_ld (pc' := 145) rfl rfl rfl rfl ?_
        refine r_ld (pc' := 146) rfl rfl rfl rfl ?_
        have hb411 := rd_225_4 hst.1
        have hb412 := rd_225_5 hz
        have hf413 : z 225 5 = z0 225 5 := (hst.2.2.1 _ _ (notS_c (by omega) (notS_c (by omega) (notS_c (by omega) (notS_c (by omega) (notS_c (by omega) notS_n))))))
        refine r_cVI (pc' := 149) rfl rfl rfl rfl rfl sh_225 (m_149x (d := d) h x2 hst.1 hst.2.1 ⟨by omega, by omega⟩ (by exact (tr8_f (fun i => hst.2.2.1 226 i (notS_c (by omega) (notS_c (by omega) (notS_c (by omega) (notS_c (by omega) (notS_c (by omega) (notS_n))))))) (hst.2.2.1 225 5 (notS_c (by omega) (notS_c (by omega) (notS_c (by omega) (notS_c (by omega) (notS_c (by omega) (notS_n)))))))).trans hh)) (fun v414 z415 w416 p417 h418 hs419 hE420 => ?_)
        obtain ⟨rfl, rfl, rfl, hE420⟩ := hE420
        have hb4 : v414 = h (z 225 4 + x2) := hE420.2.2.1
        refine r_cSI (pc' := 152) rfl rfl rfl rfl rfl (m_151 (d := d) v414 hst.1 hst.2.1 ⟨by omega, by omega⟩) (fun v422 z423 w424 p425 h426 hs427 hE428 => ?_)
        obtain ⟨rfl, rfl, rfl, hE428⟩ := hE428
        refine r_zeq (pc' := 155) rfl rfl ⟨by omega, by omega⟩ (fun hc430 => ?_) (fun hc430 => ?_)
        · skip
          refine r_ld (pc' := 187) rfl rfl rfl rfl ?_
          refine r_ld (pc' := 188) rfl rfl rfl rfl ?_
          refine r_c0 (pc' := 189) rfl rfl ?_
          refine r_igt (pc' := 192) rfl rfl ⟨by omega, by omega⟩ ⟨by decide, by decide⟩ (fun hc431 => ?_) (fun hc431 => ?_)
          · skip
            refine r_c0 (pc' := 204) rfl rfl ?_
            refine r_go rfl ?_
            refine r_pi (pc' := 211) rfl rfl sh_225 rfl rfl hst (inS_s (inS_s (inS_s (inS_s (inS_0 (by omega) (by omega) (by omega) (by omega)))))) (wr_225_6 ⟨by omega, by omega⟩) (fun z432 hq433 hs434 => ?_)
            refine r_go rfl ?_
            have hf435 : z432 225 4 = z 225 4 := ((congrFun (congrFun hq433 _) _).trans (mu_ne (by omega)))
            have hb436 := rd_225_7 hst.1
            have hf437 : z432 225 7 = z 225 7 := ((congrFun (congrFun hq433 _) _).trans (mu_ne (by omega)))
            have hb438 := rd_225_8 hst.1
            have hf439 : z432 225 8 = z 225 8 := ((congrFun (congrFun hq433 _) _).trans (mu_ne (by omega)))
            have hb440 := rd_225_9 hst.2.1
            have hf441 : z432 225 6 = 3 := ((congrFun (congrFun hq433 _) _).trans mu_eq)
            exact w_lv (sub_c rfl (sub_c rfl sub_n)) rfl (ih3 x2 z432 w ⟨by omega, by omega⟩ hs434 (by first | omega | assumption | (simp only [hf435, hf437, hf439, hf441]; assumption)) (by first | exact as2 | (rw [show z432 225 4 = z 225 4 by omega]; first | exact as2 | exact ⟨by omega, as2, hnb⟩)) (by rw [show z432 225 4 = z 225 4 by omega]; first | exact r0_e (by omega) (by omega) (by omega) | exact rs8_e (c := NOL) (by omega) (by omega) (by omega) (by omega) (by omega) (by first | exact Or.inl ⟨by omega, by omega⟩ | exact Or.inr ⟨by omega, by omega, by omega⟩) | exact rl8_e (by omega) as3.1 (by omega) (by omega) (fun c => by have := as3.2 c; omega) (by first | exact Or.inl ⟨by omega, by omega⟩ | exact Or.inr ⟨by omega, by omega⟩) | exact rd8_e (by omega) as3.1 (by omega) (by omega) (fun c => by have := as3.2 c; omega) (by first | exact Or.inl ⟨by omega, by omega⟩ | exact Or.inr ⟨by omega, by omega, by omega⟩)) (by omega))
          · skip
            refine r_ld (pc' := 193) rfl rfl rfl rfl ?_
            refine r_ld (pc' := 194) rfl rfl rfl rfl ?_
            have hf442 : z 225 5 = z0 225 5 := (hst.2.2.1 _ _ (notS_c (by omega) (notS_c (by omega) (notS_c (by omega) (notS_c (by omega) (notS_c (by omega) notS_n))))))
            refine r_cVI (pc' := 197) rfl rfl rfl rfl rfl sh_225 (m_149x (d := d) h x2 hst.1 hst.2.1 ⟨by omega, by omega⟩ (by exact (tr8_f (fun i => hst.2.2.1 226 i (notS_c (by omega) (notS_c (by omega) (notS_c (by omega) (notS_c (by omega) (notS_c (by omega) (notS_n))))))) (hst.2.2.1 225 5 (notS_c (by omega) (notS_c (by omega) (notS_c (by omega) (notS_c (by omega) (notS_c (by omega) (notS_n)))))))).trans hh)) (fun v443 z444 w445 p446 h447 hs448 hE449 => ?_)
            obtain ⟨rfl, rfl, rfl, hE449⟩ := hE449
            have hb6 : v443 = h (z 225 4 + x2) := hE449.2.2.1
            refine r_cSI (pc' := 200) rfl rfl rfl rfl rfl (m_150 (d := d) v443 hst.1 hst.2.1 ⟨by omega, by omega⟩) (fun v451 z452 w453 p454 h455 hs456 hE457 => ?_)
            obtain ⟨rfl, rfl, rfl, hE457⟩ := hE457
            refine r_zeq (pc' := 203) rfl rfl ⟨by omega, by omega⟩ (fun hc459 => ?_) (fun hc459 => ?_)
            · skip
              refine r_c0 (pc' := 208) rfl rfl ?_
              refine r_pi (pc' := 211) rfl rfl sh_225 rfl rfl hst (inS_s (inS_s (inS_s (inS_s (inS_0 (by omega) (by omega) (by omega) (by omega)))))) (wr_225_6 ⟨by omega, by omega⟩) (fun z460 hq461 hs462 => ?_)
              refine r_go rfl ?_
              have hf463 : z460 225 4 = z 225 4 := ((congrFun (congrFun hq461 _) _).trans (mu_ne (by omega)))
              have hb464 := rd_225_7 hst.1
              have hf465 : z460 225 7 = z 225 7 := ((congrFun (congrFun hq461 _) _).trans (mu_ne (by omega)))
              have hb466 := rd_225_8 hst.1
              have hf467 : z460 225 8 = z 225 8 := ((congrFun (congrFun hq461 _) _).trans (mu_ne (by omega)))
              have hb468 := rd_225_9 hst.2.1
              have hf469 : z460 225 6 = 2 := ((congrFun (congrFun hq461 _) _).trans mu_eq)
              exact w_lv (sub_c rfl (sub_c rfl sub_n)) rfl (ih3 x2 z460 w ⟨by omega, by omega⟩ hs462 (by first | omega | assumption | (simp only [hf463, hf465, hf467, hf469]; assumption)) (by first | exact as2 | (rw [show z460 225 4 = z 225 4 by omega]; first | exact as2 | exact ⟨by omega, as2, hnb⟩)) (by rw [show z460 225 4 = z 225 4 by omega]; first | exact r0_e (by omega) (by omega) (by omega) | exact rs8_e (c := NOL) (by omega) (by omega) (by omega) (by omega) (by omega) (by first | exact Or.inl ⟨by omega, by omega⟩ | exact Or.inr ⟨by omega, by omega, by omega⟩) | exact rl8_e (by omega) as3.1 (by omega) (by omega) (fun c => by have := as3.2 c; omega) (by first | exact Or.inl ⟨by omega, by omega⟩ | exact Or.inr ⟨by omega, by omega⟩) | exact rd8_e (by omega) as3.1 (by omega) (by omega) (fun c => by have := as3.2 c; omega) (by first | exact Or.inl ⟨by omega, by omega⟩ | exact Or.inr ⟨by omega, by omega, by omega⟩)) (by omega))
            · skip
              refine r_c0 (pc' := 204) rfl rfl ?_
              refine r_go rfl ?_
              refine r_pi (pc' := 211) rfl rfl sh_225 rfl rfl hst (inS_s (inS_s (inS_s (inS_s (inS_0 (by omega) (by omega) (by omega) (by omega)))))) (wr_225_6 ⟨by omega, by omega⟩) (fun z470 hq471 hs472 => ?_)
              refine r_go rfl ?_
              have hf473 : z470 225 4 = z 225 4 := ((congrFun (congrFun hq471 _) _).trans (mu_ne (by omega)))
              have hb474 := rd_225_7 hst.1
              have hf475 : z470 225 7 = z 225 7 := ((congrFun (congrFun hq471 _) _).trans (mu_ne (by omega)))
              have hb476 := rd_225_8 hst.1
              have hf477 : z470 225 8 = z 225 8 := ((congrFun (congrFun hq471 _) _).trans (mu_ne (by omega)))
              have hb478 := rd_225_9 hst.2.1
              have hf479 : z470 225 6 = 3 := ((congrFun (congrFun hq471 _) _).trans mu_eq)
              exact w_lv (sub_c rfl (sub_c rfl sub_n)) rfl (ih3 x2 z470 w ⟨by omega, by omega⟩ hs472 (by first | omega | assumption | (simp only [hf473, hf475, hf477, hf479]; assumption)) (by first | exact as2 | (rw [show z470 225 4 = z 225 4 by omega]; first | exact as2 | exact ⟨by omega, as2, hnb⟩)) (by rw [show z470 225 4 = z 225 4 by omega]; first | exact r0_e (by omega) (by omega) (by omega) | exact rs8_e (c := NOL) (by omega) (by omega) (by omega) (by omega) (by omega) (by first | exact Or.inl ⟨by omega, by omega⟩ | exact Or.inr ⟨by omega, by omega, by omega⟩) | exact rl8_e (by omega) as3.1 (by omega) (by omega) (fun c => by have := as3.2 c; omega) (by first | exact Or.inl ⟨by omega, by omega⟩ | exact Or.inr ⟨by omega, by omega⟩) | exact rd8_e (by omega) as3.1 (by omega) (by omega) (fun c => by have := as3.2 c; omega) (by first | exact Or.inl ⟨by omega, by omega⟩ | exact Or.inr ⟨by omega, by omega, by omega⟩)) (by omega))
        · skip
          refine r_ld (pc' := 156) rfl rfl rfl rfl ?_
          refine r_c0 (pc' := 157) rfl rfl ?_
          refine r_ige (pc' := 160) rfl rfl ⟨by omega, by omega⟩ ⟨by decide, by decide⟩ (fun hc480 => ?_) (fun hc480 => ?_)
          · skip
            refine r_inc (pc' := 183) (lv' := [(0, _)]) rfl rfl rfl rfl rfl ?_
            refine r_go rfl ?_
            have hb481 := rd_225_7 hst.1
            have hb482 := rd_225_8 hst.1
            have hb483 := rd_225_9 hst.2.1
            have hb484 := rd_225_6 hz
            have hf485 : z 225 6 = z0 225 6 := un_z_225_6
            exact w_lv (sub_c rfl (sub_c rfl sub_n)) rfl (ih2 (x2 + 1) z w ⟨by omega, by omega⟩ hst (un_z_225_6) (by first | omega | exact ⟨by omega, by omega, by omega, fun c => absurd c (by omega)⟩ | exact ⟨by omega, by omega, by omega, fun _ => by rw [show z 225 4 + 0 = z 225 4 by omega, ← hb3]; omega⟩) (by first | exact as2 | (rw [show z 225 4 = z 225 4 by omega]; first | exact as2 | exact ⟨by omega, as2, hnb⟩)) (by first | exact ⟨fun k h1 h2 => absurd h2 (by omega), fun _ => by show z 225 8 = 0; omega⟩ | (have k9 := rd_s (h := h) (p := z 225 4) (q := z 225 4 + x2) (v := v414) (l := z 225 8) as3.1 (by omega) (by omega) (by omega) (fun c => by rw [show z 225 4 + x2 - z 225 4 = x2 by omega]; exact as3.2 (by omega)) (l' := z 225 8) (fun h1 h2 h3 => by first | omega | (have := hsh h2 h3; omega)); rw [show z 225 4 + x2 + 1 - z 225 4 = x2 + 1 by omega] at k9; rw [show z 225 4 = z 225 4 by omega]; exact ⟨fun k h1 h2 => k9.1 k h1 (by omega), fun c => k9.2 c⟩)) (by omega))
          · skip
            refine r_ld (pc' := 161) rfl rfl rfl rfl ?_
            refine r_cb (pc' := 163) rfl (by decide) rfl ?_
            refine r_ld (pc' := 164) rfl rfl rfl rfl ?_
            have hb486 := rd_225_8 hst.1
            refine r_gi (pc' := 167) rfl rfl sh_225 rfl rfl ?_
            refine r_mul (pc' := 168) rfl rfl ?_
            refine r_ld (pc' := 169) rfl rfl rfl rfl ?_
            refine r_ld (pc' := 170) rfl rfl rfl rfl ?_
            have hf487 : z 225 5 = z0 225 5 := (hst.2.2.1 _ _ (notS_c (by omega) (notS_c (by omega) (notS_c (by omega) (notS_c (by omega) (notS_c (by omega) notS_n))))))
            refine r_cVI (pc' := 173) rfl rfl rfl rfl rfl sh_225 (m_149x (d := d) h x2 hst.1 hst.2.1 ⟨by omega, by omega⟩ (by exact (tr8_f (fun i => hst.2.2.1 226 i (notS_c (by omega) (notS_c (by omega) (notS_c (by omega) (notS_c (by omega) (notS_c (by omega) (notS_n))))))) (hst.2.2.1 225 5 (notS_c (by omega) (notS_c (by omega) (notS_c (by omega) (notS_c (by omega) (notS_c (by omega) (notS_n)))))))).trans hh)) (fun v488 z489 w490 p491 h492 hs493 hE494 => ?_)
            obtain ⟨rfl, rfl, rfl, hE494⟩ := hE494
            have hb5 : v488 = h (z 225 4 + x2) := hE494.2.2.1
            refine r_add (pc' := 174) rfl rfl ?_
            have hdb := dn_b (digs_u as3.1)
            rw [show (z 225 4 + x2 - z 225 4).toNat = x2.toNat by omega, ← as3.2 (by omega)] at hdb
            have hdc := hdb.2.2.1
            refine r_cb (pc' := 176) rfl (by decide) rfl ?_
            refine r_sub (pc' := 177) rfl rfl ?_
            refine r_pi (pc' := 180) rfl rfl sh_225 rfl rfl hst (inS_s (inS_s (inS_s (inS_0 (by omega) (by omega) (by omega) (by omega))))) (wr_225_8 ⟨by omega, by omega⟩) (fun z496 hq497 hs498 => ?_)
            refine r_inc (pc' := 183) (lv' := [(0, _)]) rfl rfl rfl rfl rfl ?_
            refine r_go rfl ?_
            have hf499 : z496 225 4 = z 225 4 := ((congrFun (congrFun hq497 _) _).trans (mu_ne (by omega)))
            have hb500 := rd_225_7 hst.1
            have hf501 : z496 225 7 = z 225 7 := ((congrFun (congrFun hq497 _) _).trans (mu_ne (by omega)))
            have hf502 : z496 225 8 = ((10 * (z 225 8)) + v488) - 48 := ((congrFun (congrFun hq497 _) _).trans mu_eq)
            have hb503 := rd_225_9 hst.2.1
            have hb504 := rd_225_6 hz
            have hf505 : z496 225 6 = z0 225 6 := (((congrFun (congrFun hq497 _) _).trans (mu_ne (by omega))).trans un_z_225_6)
            exact w_lv (sub_c rfl (sub_c rfl sub_n)) rfl (ih2 (x2 + 1) z496 w ⟨by omega, by omega⟩ hs498 ((((congrFun (congrFun hq497 _) _).trans (mu_ne (by omega))).trans un_z_225_6)) (by first | omega | exact ⟨by omega, by omega, by omega, fun c => absurd c (by omega)⟩ | exact ⟨by omega, by omega, by omega, fun _ => by rw [show z496 225 4 + 0 = z 225 4 by omega, ← hb3]; omega⟩) (by first | exact as2 | (rw [show z496 225 4 = z 225 4 by omega]; first | exact as2 | exact ⟨by omega, as2, hnb⟩)) (by first | exact ⟨fun k h1 h2 => absurd h2 (by omega), fun _ => by show z496 225 8 = 0; omega⟩ | (have k9 := rd_s (h := h) (p := z 225 4) (q := z 225 4 + x2) (v := v414) (l := z 225 8) as3.1 (by omega) (by omega) (by omega) (fun c => by rw [show z 225 4 + x2 - z 225 4 = x2 by omega]; exact as3.2 (by omega)) (l' := z496 225 8) (fun h1 h2 h3 => by first | omega | (have := hsh h2 h3; omega)); rw [show z 225 4 + x2 + 1 - z 225 4 = x2 + 1 by omega] at k9; rw [show z496 225 4 = z 225 4 by omega]; exact ⟨fun k h1 h2 => k9.1 k h1 (by omega), fun c => k9.2 c⟩)) (by omega))
      · intro x2 z w  hx2 hst as1 as2 as3 hM
        refine r_ld (pc' := 238) rfl rfl rfl rfl ?_
        have hb506 := rd_225_6 hst.1
        refine r_gi (pc' := 241) rfl rfl sh_225 rfl rfl ?_
        refine r_c0 (pc' := 242) rfl rfl ?_
        refine r_ieq (pc' := 245) rfl rfl ⟨by omega, by omega⟩ ⟨by decide, by decide⟩ (fun hc507 => ?_) (fun hc507 => ?_)
        · skip
          have hb508 := rd_225_7 hst.1
          have hb509 := rd_225_4 hst.1
          have hb510 := rd_225_5 hz
          have hf511 : z 225 5 = z0 225 5 := (hst.2.2.1 _ _ (notS_c (by omega) (notS_c (by omega) (notS_c (by omega) (notS_c (by omega) (notS_c (by omega) notS_n))))))
          have hb512 := rd_225_8 hst.1
          have hb513 := rd_225_9 hst.2.1
          exact r_ret rfl (po_V hst ⟨rfl, (by have hz55 : z 225 5 = z0 225 5 := hst.2.2.1 _ _ (notS_c (by omega) (notS_c (by omega) (notS_c (by omega) (notS_c (by omega) (notS_c (by omega) (notS_n)))))); have hq7 := as3.1; refine ⟨?_, by omega⟩; rw [ups_eq as2]; first | exact TKq_r as3 (by omega) (by omega) (by omega) (by omega) (by omega) (by omega) (by omega) (Or.inl ⟨by omega, by omega⟩) | exact TKq_r as3 (by omega) (by omega) (by omega) (by omega) (by omega) (by omega) (by omega) (Or.inr ⟨by omega, by omega⟩))⟩)
        · skip
          refine r_ld (pc' := 246) rfl rfl rfl rfl ?_
          refine r_al (pc' := 247) rfl rfl rfl rfl ?_
          have hb514 := rd_225_4 hst.1
          refine r_gi (pc' := 250) rfl rfl sh_225 rfl rfl ?_
          refine r_ld (pc' := 251) rfl rfl rfl rfl ?_
          refine r_add (pc' := 252) rfl rfl ?_
          refine r_pi (pc' := 255) rfl rfl sh_225 rfl rfl hst (inS_0 (by omega) (by omega) (by omega) (by omega)) (wr_225_4 ⟨by omega, by omega⟩) (fun z515 hq516 hs517 => ?_)
          have hb518 := rd_225_7 hst.1
          have hf519 : z515 225 7 = z 225 7 := ((congrFun (congrFun hq516 _) _).trans (mu_ne (by omega)))
          have hf520 : z515 225 4 = (z 225 4) + x2 := ((congrFun (congrFun hq516 _) _).trans mu_eq)
          have hb521 := rd_225_5 hz
          have hf522 : z515 225 5 = z0 225 5 := (((congrFun (congrFun hq516 _) _).trans (mu_ne (by omega))).trans (hst.2.2.1 _ _ (notS_c (by omega) (notS_c (by omega) (notS_c (by omega) (notS_c (by omega) (notS_c (by omega) notS_n)))))))
          have hf523 : z515 225 6 = z 225 6 := ((congrFun (congrFun hq516 _) _).trans (mu_ne (by omega)))
          have hb524 := rd_225_8 hst.1
          have hf525 : z515 225 8 = z 225 8 := ((congrFun (congrFun hq516 _) _).trans (mu_ne (by omega)))
          have hb526 := rd_225_9 hst.2.1
          exact r_ret rfl (po_V hs517 ⟨rfl, (by have hz55 : z 225 5 = z0 225 5 := hst.2.2.1 _ _ (notS_c (by omega) (notS_c (by omega) (notS_c (by omega) (notS_c (by omega) (notS_c (by omega) (notS_n)))))); have hq7 := as3.1; refine ⟨?_, by omega⟩; rw [ups_eq as2]; first | exact TKq_r as3 (by omega) (by omega) (by omega) (by omega) (by omega) (by omega) (by omega) (Or.inl ⟨by omega, by omega⟩) | exact TKq_r as3 (by omega) (by omega) (by omega) (by omega) (by omega) (by omega) (by omega) (Or.inr ⟨by omega, by omega⟩))⟩)
  refine w_m rfl rfl ?_
  have hb527 := rd_225_4 hz
  have hb528 := rd_225_7 hz
  have hb529 := rd_225_8 hz
  have hb530 := rd_225_9 hw
  have hb531 := rd_225_6 hz
  exact w_lv (sub_c rfl sub_n) rfl ((key ((10000000 + (1600 - z0 225 4) : Int).toNat + 1)).1 z0 w0 hst (rfl) (rfl) (rfl) (rfl) (by first | omega | assumption) (by first | (intro k h1 h2; exfalso; omega) | (intro k h1 h2; by_cases c : k = z 225 4; (rw [c]; omega); exact as2 k h1 (by omega))) (by omega))

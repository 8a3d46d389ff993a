section
/-! methods, printed by wip/tools/vcg.py -/
/-- LoopGroundModel here -/
abbrev S_149x  : mS := []
abbrev E_149x (h : Int → Int) (a1 : Int) (z0 w0 : mZ) (x y tx it mt tt ct : Option Nat) : Int → mZ → mZ → mP → Prop := fun v z w p => p = (pq x y tx it mt tt ct) ∧ z0 = z ∧ w0 = w ∧ (-1) ≤ v ∧ v ≤ 255 ∧ (v = h (z0 225 4 + a1) ∧ (z0 225 5 ≤ z0 225 4 + a1 → v = -1))
theorem m_149x {d : Nat} {z0 w0 : mZ} {x y tx it mt tt ct : Option Nat} (h : Int → Int) (a1 : Int) (hz : rz z0) (hw : rw_ w0) (ha1 : 0 ≤ a1 ∧ a1 ≤ 1600) (hh : tr8 z0 = h) : wc (d + 1) 149 [.ref 225, .int (Int32.ofInt a1)] (mk z0 w0 (pq x y tx it mt tt ct)) (poI S_149x z0 w0 (E_149x h a1 z0 w0 x y tx it mt tt ct)) := by
  have hst : st_ S_149x z0 w0 z0 w0 := st_rf hz hw
  have hz5 := rd_225_4 hz
  have hz6 := rd_225_5 hz
  refine w_m rfl rfl ?_
  refine r_ld (pc' := 1) rfl rfl rfl rfl ?_
  have hb7 := rd_225_4 hz
  refine r_gi (pc' := 4) rfl rfl sh_225 rfl rfl ?_
  refine r_ld (pc' := 5) rfl rfl rfl rfl ?_
  refine r_add (pc' := 6) rfl rfl ?_
  refine r_ld (pc' := 7) rfl rfl rfl rfl ?_
  have hb8 := rd_225_5 hz
  refine r_gi (pc' := 10) rfl rfl sh_225 rfl rfl ?_
  refine r_ige (pc' := 13) rfl rfl ⟨by omega, by omega⟩ ⟨by omega, by omega⟩ (fun hc9 => ?_) (fun hc9 => ?_)
  · skip
    refine r_c0 (pc' := 28) rfl rfl ?_
    exact r_ri rfl (po_I hst ⟨by decide, by decide⟩ ⟨rfl, rfl, rfl, by omega, by omega, (by first | exact ⟨(tr8_i hh (by omega) (by omega)).symm, fun q => absurd q (by omega)⟩ | exact ⟨(tr8_e hh (by omega)).symm, fun _ => by omega⟩)⟩)
  · skip
    refine r_ld (pc' := 14) rfl rfl rfl rfl ?_
    refine r_gr (b := 226) (pc' := 17) rfl rfl sh_225 rfl pp_225_0 ?_
    refine r_ld (pc' := 18) rfl rfl rfl rfl ?_
    refine r_gi (pc' := 21) rfl rfl sh_225 rfl rfl ?_
    refine r_ld (pc' := 22) rfl rfl rfl rfl ?_
    refine r_add (pc' := 23) rfl rfl ?_
    have hb10 := rd_226 hz (i := ((z0 225 4) + a1).toNat) (by omega)
    refine r_ia (pc' := 24) rfl rfl sh_226 rfl (by omega) (by omega) rfl ?_
    refine r_go rfl ?_
    exact r_ri rfl (po_I hst ⟨by omega, by omega⟩ ⟨rfl, rfl, rfl, by omega, by omega, (by first | exact ⟨(tr8_i hh (by omega) (by omega)).symm, fun q => absurd q (by omega)⟩ | exact ⟨(tr8_e hh (by omega)).symm, fun _ => by omega⟩)⟩)
/-- LoopGroundModel token -/
abbrev S_152x  : mS := [(225, 225, 4, 4), (225, 225, 7, 7), (225, 225, 9, 9), (225, 225, 8, 8), (225, 225, 6, 6)]
abbrev E_152x (h : Int → Int) (z0 w0 : mZ) (x y tx it mt tt ct : Option Nat) : mZ → mZ → mP → Prop := fun z w p => p = (pq x y tx it mt tt ct) ∧ (TKr h z w (ups h isB (z0 225 4)) ∧ z0 225 4 ≤ z 225 7)
theorem m_152x {d : Nat} {z0 w0 : mZ} {x y tx it mt tt ct : Option Nat} (h : Int → Int) (hz : rz z0) (hw : rw_ w0) (hh : tr8 z0 = h) (hat : z0 225 4 ≤ z0 225 5) : wc (d + 2) 152 [.ref 225] (mk z0 w0 (pq x y tx it mt tt ct)) (poV S_152x z0 w0 (E_152x h z0 w0 x y tx it mt tt ct)) := by
  have hst : st_ S_152x z0 w0 z0 w0 := st_rf hz hw
  have hz209 := rd_225_4 hz
  have hz210 := rd_225_5 hz
  have hz5 := rd_225_5 hz
  have key : ∀ N : Nat, (∀ (z w : mZ), st_ S_152x z0 w0 z w → w 225 9 = w0 225 9 → z 225 6 = z0 225 6 → z 225 7 = z0 225 7 → z 225 8 = z0 225 8 → (z0 225 4 ≤ z 225 4 ∧ z 225 4 ≤ z0 225 5) → (∀ k, z0 225 4 ≤ k → k < z 225 4 → isB (h k)) → 10000000 + (1600 - z 225 4) < (N : Int) → wp_ (d + 1) 152 3 none (0, [(0, .ref 225)], [], mk z w (pq x y tx it mt tt ct)) (poV S_152x z0 w0 (E_152x h z0 w0 x y tx it mt tt ct))) ∧ (∀ (x2 : Int) (z w : mZ), 0 ≤ x2 ∧ x2 ≤ 1600 → st_ S_152x z0 w0 z w → z 225 6 = z0 225 6 → (z0 225 4 ≤ z 225 4 ∧ z 225 4 + x2 ≤ z0 225 5 ∧ z 225 7 = z 225 4 ∧ (x2 = 0 → isL (h (z 225 4 + x2)))) → (upTo h isB (z0 225 4) (z 225 4)) → ((∀ k, z 225 4 ≤ k → k < z 225 4 + x2 → isL (h k)) ∧ (x2 ≤ 8 → w 225 9 = wl8 (tkF h (z 225 4)) x2.toNat)) → 135 * (1600 - x2) + 216369 < (N : Int) → wp_ (d + 1) 152 3 none (78, [(0, .ref 225), (2, .int (Int32.ofInt x2))], [], mk z w (pq x y tx it mt tt ct)) (poV S_152x z0 w0 (E_152x h z0 w0 x y tx it mt tt ct))) ∧ (∀ (x2 : Int) (z w : mZ), 0 ≤ x2 ∧ x2 ≤ 1600 → st_ S_152x z0 w0 z w → z 225 6 = z0 225 6 → (z0 225 4 ≤ z 225 4 ∧ z 225 4 + x2 ≤ z0 225 5 ∧ z 225 7 = z 225 4 ∧ (x2 = 0 → isD (h (z 225 4 + x2)))) → (upTo h isB (z0 225 4) (z 225 4)) → ((∀ k, z 225 4 ≤ k → k < z 225 4 + x2 → isD (h k)) ∧ (x2 ≤ 4 → z 225 8 = dn (tkF h (z 225 4)) x2.toNat)) → 135 * (1600 - x2) + 66 < (N : Int) → wp_ (d + 1) 152 3 none (144, [(0, .ref 225), (2, .int (Int32.ofInt x2))], [], mk z w (pq x y tx it mt tt ct)) (poV S_152x z0 w0 (E_152x h z0 w0 x y tx it mt tt ct))) ∧ (∀ (x2 : Int) (z w : mZ), 0 ≤ x2 ∧ x2 ≤ 1600 → st_ S_152x z0 w0 z w → (z0 225 4 ≤ z 225 4 ∧ z 225 4 + x2 ≤ z0 225 5) → (upTo h isB (z0 225 4) (z 225 4)) → (TKq h z w (z 225 4) x2) → 17 < (N : Int) → wp_ (d + 1) 152 3 none (237, [(0, .ref 225), (2, .int (Int32.ofInt x2))], [], mk z w (pq x y tx it mt tt ct)) (poV S_152x z0 w0 (E_152x h z0 w0 x y tx it mt tt ct))) := by
    intro N
    induction N with
    | zero =>
      refine ⟨?_, ?_, ?_, ?_⟩
      · intro  z w
        intro hst
        have hb211 := rd_225_4 hst.1
        intros; exfalso; omega
      · intro x2 z w
        intros; exfalso; omega
      · intro x2 z w
        intros; exfalso; omega
      · intro x2 z w
        intros; exfalso; omega
    | succ N ih =>
      obtain ⟨ih0, ih1, ih2, ih3⟩ := ih
      refine ⟨?_, ?_, ?_, ?_⟩
      · intro  z w  hst un_w_225_9 un_z_225_6 un_z_225_7 un_z_225_8 as1 as2 hM
        refine r_ld (pc' := 1) rfl rfl rfl rfl ?_
        refine r_c0 (pc' := 2) rfl rfl ?_
        have hb212 := rd_225_4 hst.1
        have hb213 := rd_225_5 hz
        have hf214 : z 225 5 = z0 225 5 := (hst.2.2.1 _ _ (notS_c (by omega) (notS_c (by omega) (notS_c (by omega) (notS_c (by omega) (notS_c (by omega) notS_n))))))
        refine r_cVI (pc' := 5) rfl rfl rfl rfl rfl sh_225 (m_149x (d := d) h 0 hst.1 hst.2.1 ⟨by omega, by omega⟩ (by exact (tr8_f (fun i => hst.2.2.1 226 i (notS_c (by omega) (notS_c (by omega) (notS_c (by omega) (notS_c (by omega) (notS_c (by omega) (notS_n))))))) (hst.2.2.1 225 5 (notS_c (by omega) (notS_c (by omega) (notS_c (by omega) (notS_c (by omega) (notS_c (by omega) (notS_n)))))))).trans hh)) (fun v215 z216 w217 p218 h219 hs220 hE221 => ?_)
        obtain ⟨rfl, rfl, rfl, hE221⟩ := hE221
        have hb1 : v215 = h (z 225 4) := hE221.2.2.1.trans (congrArg h (by omega))
        refine r_cb (pc' := 7) rfl (by decide) rfl ?_
        refine r_ieq (pc' := 10) rfl rfl ⟨by omega, by omega⟩ ⟨by decide, by decide⟩ (fun hc223 => ?_) (fun hc223 => ?_)
        · skip
          refine r_ld (pc' := 21) rfl rfl rfl rfl ?_
          refine r_al (pc' := 22) rfl rfl rfl rfl ?_
          refine r_gi (pc' := 25) rfl rfl sh_225 rfl rfl ?_
          refine r_c0 (pc' := 26) rfl rfl ?_
          refine r_add (pc' := 27) rfl rfl ?_
          refine r_pi (pc' := 30) rfl rfl sh_225 rfl rfl hst (inS_0 (by omega) (by omega) (by omega) (by omega)) (wr_225_4 ⟨by omega, by omega⟩) (fun z224 hq225 hs226 => ?_)
          refine r_go rfl ?_
          have hf227 : z224 225 4 = (z 225 4) + 1 := ((congrFun (congrFun hq225 _) _).trans mu_eq)
          have hb228 := rd_225_7 hz
          have hf229 : z224 225 7 = z0 225 7 := (((congrFun (congrFun hq225 _) _).trans (mu_ne (by omega))).trans un_z_225_7)
          have hb230 := rd_225_8 hz
          have hf231 : z224 225 8 = z0 225 8 := (((congrFun (congrFun hq225 _) _).trans (mu_ne (by omega))).trans un_z_225_8)
          have hb232 := rd_225_9 hw
          have hf233 : w 225 9 = w0 225 9 := un_w_225_9
          have hb234 := rd_225_6 hz
          have hf235 : z224 225 6 = z0 225 6 := (((congrFun (congrFun hq225 _) _).trans (mu_ne (by omega))).trans un_z_225_6)
          exact w_lv (sub_c rfl sub_n) rfl (ih0 z224 w hs226 (un_w_225_9) ((((congrFun (congrFun hq225 _) _).trans (mu_ne (by omega))).trans un_z_225_6)) ((((congrFun (congrFun hq225 _) _).trans (mu_ne (by omega))).trans un_z_225_7)) ((((congrFun (congrFun hq225 _) _).trans (mu_ne (by omega))).trans un_z_225_8)) (by first | omega | assumption | (simp only [hf227, hf229, hf231, hf233, hf235]; assumption)) (by first | (intro k h1 h2; exfalso; omega) | (intro k h1 h2; by_cases c : k = z 225 4; (rw [c]; omega); exact as2 k h1 (by omega))) (by omega))
        · skip
          refine r_ld (pc' := 11) rfl rfl rfl rfl ?_
          refine r_c0 (pc' := 12) rfl rfl ?_
          have hf236 : z 225 5 = z0 225 5 := (hst.2.2.1 _ _ (notS_c (by omega) (notS_c (by omega) (notS_c (by omega) (notS_c (by omega) (notS_c (by omega) notS_n))))))
          refine r_cVI (pc' := 15) rfl rfl rfl rfl rfl sh_225 (m_149x (d := d) h 0 hst.1 hst.2.1 ⟨by omega, by omega⟩ (by exact (tr8_f (fun i => hst.2.2.1 226 i (notS_c (by omega) (notS_c (by omega) (notS_c (by omega) (notS_c (by omega) (notS_c (by omega) (notS_n))))))) (hst.2.2.1 225 5 (notS_c (by omega) (notS_c (by omega) (notS_c (by omega) (notS_c (by omega) (notS_c (by omega) (notS_n)))))))).trans hh)) (fun v237 z238 w239 p240 h241 hs242 hE243 => ?_)
          obtain ⟨rfl, rfl, rfl, hE243⟩ := hE243
          have hb2 : v237 = h (z 225 4) := hE243.2.2.1.trans (congrArg h (by omega))
          refine r_cb (pc' := 17) rfl (by decide) rfl ?_
          refine r_ine (pc' := 20) rfl rfl ⟨by omega, by omega⟩ ⟨by decide, by decide⟩ (fun hc245 => ?_) (fun hc245 => ?_)
          · skip
            refine r_ld (pc' := 34) rfl rfl rfl rfl ?_
            refine r_ld (pc' := 35) rfl rfl rfl rfl ?_
            refine r_gi (pc' := 38) rfl rfl sh_225 rfl rfl ?_
            refine r_pi (pc' := 41) rfl rfl sh_225 rfl rfl hst (inS_s (inS_0 (by omega) (by omega) (by omega) (by omega))) (wr_225_7 ⟨by omega, by omega⟩) (fun z246 hq247 hs248 => ?_)
            refine r_ld (pc' := 42) rfl rfl rfl rfl ?_
            refine r_c0 (pc' := 43) rfl rfl ?_
            have hf249 : z246 225 4 = z 225 4 := ((congrFun (congrFun hq247 _) _).trans (mu_ne (by omega)))
            have hf250 : z246 225 5 = z0 225 5 := (((congrFun (congrFun hq247 _) _).trans (mu_ne (by omega))).trans (hst.2.2.1 _ _ (notS_c (by omega) (notS_c (by omega) (notS_c (by omega) (notS_c (by omega) (notS_c (by omega) notS_n)))))))
            refine r_cVI (pc' := 46) rfl rfl rfl rfl rfl sh_225 (m_149x (d := d) h 0 hs248.1 hs248.2.1 ⟨by omega, by omega⟩ (by exact (tr8_f (fun i => hs248.2.2.1 226 i (notS_c (by omega) (notS_c (by omega) (notS_c (by omega) (notS_c (by omega) (notS_c (by omega) (notS_n))))))) (hs248.2.2.1 225 5 (notS_c (by omega) (notS_c (by omega) (notS_c (by omega) (notS_c (by omega) (notS_c (by omega) (notS_n)))))))).trans hh)) (fun v251 z252 w253 p254 h255 hs256 hE257 => ?_)
            obtain ⟨rfl, rfl, rfl, hE257⟩ := hE257
            have hb3 : v251 = h (z 225 4) := hE257.2.2.1.trans (congrArg h (by omega))
            have hnb : ¬ isB (h (z 225 4)) := by omega
            refine r_st (pc' := 47) (lv' := [(1, _), (0, _)]) rfl rfl rfl rfl ?_
            refine r_c0 (pc' := 48) rfl rfl ?_
            refine r_st (pc' := 49) (lv' := [(2, _), (1, _), (0, _)]) rfl rfl rfl rfl ?_
            refine r_ld (pc' := 50) rfl rfl rfl rfl ?_
            refine r_lc0 (pc' := 51) rfl rfl ?_
            refine r_pl (pc' := 54) rfl rfl sh_225 rfl rfl hs248 (inS_s (inS_s (inS_0 (by omega) (by omega) (by omega) (by omega)))) (wr_225_9 ⟨by omega, by omega⟩) (fun w259 hq260 hs261 => ?_)
            refine r_ld (pc' := 55) rfl rfl rfl rfl ?_
            refine r_c0 (pc' := 56) rfl rfl ?_
            refine r_pi (pc' := 59) rfl rfl sh_225 rfl rfl hs261 (inS_s (inS_s (inS_s (inS_0 (by omega) (by omega) (by omega) (by omega))))) (wr_225_8 ⟨by omega, by omega⟩) (fun z262 hq263 hs264 => ?_)
            refine r_ld (pc' := 60) rfl rfl rfl rfl ?_
            refine r_zge (pc' := 63) rfl rfl ⟨by omega, by omega⟩ (fun hc265 => ?_) (fun hc265 => ?_)
            · skip
              refine r_ld (pc' := 72) rfl rfl rfl rfl ?_
              refine r_cSI (pc' := 75) rfl rfl rfl rfl rfl (m_150 (d := d) v251 hs264.1 hs264.2.1 ⟨by omega, by omega⟩) (fun v266 z267 w268 p269 h270 hs271 hE272 => ?_)
              obtain ⟨rfl, rfl, rfl, hE272⟩ := hE272
              refine r_zeq (pc' := 78) rfl rfl ⟨by omega, by omega⟩ (fun hc274 => ?_) (fun hc274 => ?_)
              · skip
                refine r_ld (pc' := 138) rfl rfl rfl rfl ?_
                refine r_cSI (pc' := 141) rfl rfl rfl rfl rfl (m_151 (d := d) v251 hs264.1 hs264.2.1 ⟨by omega, by omega⟩) (fun v275 z276 w277 p278 h279 hs280 hE281 => ?_)
                obtain ⟨rfl, rfl, rfl, hE281⟩ := hE281
                refine r_zeq (pc' := 144) rfl rfl ⟨by omega, by omega⟩ (fun hc283 => ?_) (fun hc283 => ?_)
                · skip
                  refine r_c0 (pc' := 215) rfl rfl ?_
                  refine r_st (pc' := 216) (lv' := [(2, _), (1, _), (0, _)]) rfl rfl rfl rfl ?_
                  refine r_ld (pc' := 217) rfl rfl rfl rfl ?_
                  refine r_ld (pc' := 218) rfl rfl rfl rfl ?_
                  refine r_cb (pc' := 220) rfl (by decide) rfl ?_
                  refine r_ieq (pc' := 223) rfl rfl ⟨by omega, by omega⟩ ⟨by decide, by decide⟩ (fun hc284 => ?_) (fun hc284 => ?_)
                  · skip
                    refine r_ld (pc' := 230) rfl rfl rfl rfl ?_
                    refine r_go rfl ?_
                    refine r_pi (pc' := 237) rfl rfl sh_225 rfl rfl hs264 (inS_s (inS_s (inS_s (inS_s (inS_0 (by omega) (by omega) (by omega) (by omega)))))) (wr_225_6 ⟨by omega, by omega⟩) (fun z285 hq286 hs287 => ?_)
                    have hf288 : z285 225 4 = z 225 4 := (((congrFun (congrFun hq286 _) _).trans (mu_ne (by omega))).trans (((congrFun (congrFun hq263 _) _).trans (mu_ne (by omega))).trans ((congrFun (congrFun hq247 _) _).trans (mu_ne (by omega)))))
                    have hf289 : z285 225 7 = z 225 4 := (((congrFun (congrFun hq286 _) _).trans (mu_ne (by omega))).trans (((congrFun (congrFun hq263 _) _).trans (mu_ne (by omega))).trans ((congrFun (congrFun hq247 _) _).trans mu_eq)))
                    have hf290 : z285 225 8 = 0 := (((congrFun (congrFun hq286 _) _).trans (mu_ne (by omega))).trans ((congrFun (congrFun hq263 _) _).trans mu_eq))
                    have hf291 : w259 225 9 = 0 := ((congrFun (congrFun hq260 _) _).trans mu_eq)
                    have hf292 : z285 225 6 = v251 := ((congrFun (congrFun hq286 _) _).trans mu_eq)
                    exact w_lv (sub_c rfl (sub_c rfl sub_n)) rfl (ih3 1 z285 w259 ⟨by omega, by omega⟩ hs287 (by first | omega | assumption | (simp only [hf288, hf289, hf290, hf291, hf292]; assumption)) (by first | exact as2 | (rw [show z285 225 4 = z 225 4 by omega]; first | exact as2 | exact ⟨by omega, as2, hnb⟩)) (by rw [show z285 225 4 = z 225 4 by omega]; first | exact r0_e (by omega) (by omega) (by omega) | exact rs8_e (c := v251) (by omega) (by omega) (by omega) (by omega) (by omega) (by first | exact Or.inl ⟨by omega, by omega⟩ | exact Or.inr ⟨by omega, by omega, by omega⟩) | exact rl8_e (by omega) as3.1 (by omega) (by omega) (fun c => by have := as3.2 c; omega) (by first | exact Or.inl ⟨by omega, by omega⟩ | exact Or.inr ⟨by omega, by omega⟩) | exact rd8_e (by omega) as3.1 (by omega) (by omega) (fun c => by have := as3.2 c; omega) (by first | exact Or.inl ⟨by omega, by omega⟩ | exact Or.inr ⟨by omega, by omega, by omega⟩)) (by omega))
                  · skip
                    refine r_ld (pc' := 224) rfl rfl rfl rfl ?_
                    refine r_cb (pc' := 226) rfl (by decide) rfl ?_
                    refine r_ine (pc' := 229) rfl rfl ⟨by omega, by omega⟩ ⟨by decide, by decide⟩ (fun hc293 => ?_) (fun hc293 => ?_)
                    · skip
                      refine r_c0 (pc' := 234) rfl rfl ?_
                      refine r_pi (pc' := 237) rfl rfl sh_225 rfl rfl hs264 (inS_s (inS_s (inS_s (inS_s (inS_0 (by omega) (by omega) (by omega) (by omega)))))) (wr_225_6 ⟨by omega, by omega⟩) (fun z294 hq295 hs296 => ?_)
                      have hf297 : z294 225 4 = z 225 4 := (((congrFun (congrFun hq295 _) _).trans (mu_ne (by omega))).trans (((congrFun (congrFun hq263 _) _).trans (mu_ne (by omega))).trans ((congrFun (congrFun hq247 _) _).trans (mu_ne (by omega)))))
                      have hf298 : z294 225 7 = z 225 4 := (((congrFun (congrFun hq295 _) _).trans (mu_ne (by omega))).trans (((congrFun (congrFun hq263 _) _).trans (mu_ne (by omega))).trans ((congrFun (congrFun hq247 _) _).trans mu_eq)))
                      have hf299 : z294 225 8 = 0 := (((congrFun (congrFun hq295 _) _).trans (mu_ne (by omega))).trans ((congrFun (congrFun hq263 _) _).trans mu_eq))
                      have hf300 : w259 225 9 = 0 := ((congrFun (congrFun hq260 _) _).trans mu_eq)
                      have hf301 : z294 225 6 = 3 := ((congrFun (congrFun hq295 _) _).trans mu_eq)
                      exact w_lv (sub_c rfl (sub_c rfl sub_n)) rfl (ih3 1 z294 w259 ⟨by omega, by omega⟩ hs296 (by first | omega | assumption | (simp only [hf297, hf298, hf299, hf300, hf301]; assumption)) (by first | exact as2 | (rw [show z294 225 4 = z 225 4 by omega]; first | exact as2 | exact ⟨by omega, as2, hnb⟩)) (by rw [show z294 225 4 = z 225 4 by omega]; first | exact r0_e (by omega) (by omega) (by omega) | exact rs8_e (c := v251) (by omega) (by omega) (by omega) (by omega) (by omega) (by first | exact Or.inl ⟨by omega, by omega⟩ | exact Or.inr ⟨by omega, by omega, by omega⟩) | exact rl8_e (by omega) as3.1 (by omega) (by omega) (fun c => by have := as3.2 c; omega) (by first | exact Or.inl ⟨by omega, by omega⟩ | exact Or.inr ⟨by omega, by omega⟩) | exact rd8_e (by omega) as3.1 (by omega) (by omega) (fun c => by have := as3.2 c; omega) (by first | exact Or.inl ⟨by omega, by omega⟩ | exact Or.inr ⟨by omega, by omega, by omega⟩)) (by omega))
                    · skip
                      refine r_ld (pc' := 230) rfl rfl rfl rfl ?_
                      refine r_go rfl ?_
                      refine r_pi (pc' := 237) rfl rfl sh_225 rfl rfl hs264 (inS_s (inS_s (inS_s (inS_s (inS_0 (by omega) (by omega) (by omega) (by omega)))))) (wr_225_6 ⟨by omega, by omega⟩) (fun z302 hq303 hs304 => ?_)
                      have hf305 : z302 225 4 = z 225 4 := (((congrFun (congrFun hq303 _) _).trans (mu_ne (by omega))).trans (((congrFun (congrFun hq263 _) _).trans (mu_ne (by omega))).trans ((congrFun (congrFun hq247 _) _).trans (mu_ne (by omega)))))
                      have hf306 : z302 225 7 = z 225 4 := (((congrFun (congrFun hq303 _) _).trans (mu_ne (by omega))).trans (((congrFun (congrFun hq263 _) _).trans (mu_ne (by omega))).trans ((congrFun (congrFun hq247 _) _).trans mu_eq)))
                      have hf307 : z302 225 8 = 0 := (((congrFun (congrFun hq303 _) _).trans (mu_ne (by omega))).trans ((congrFun (congrFun hq263 _) _).trans mu_eq))
                      have hf308 : w259 225 9 = 0 := ((congrFun (congrFun hq260 _) _).trans mu_eq)
                      have hf309 : z302 225 6 = v251 := ((congrFun (congrFun hq303 _) _).trans mu_eq)
                      exact w_lv (sub_c rfl (sub_c rfl sub_n)) rfl (ih3 1 z302 w259 ⟨by omega, by omega⟩ hs304 (by first | omega | assumption | (simp only [hf305, hf306, hf307, hf308, hf309]; assumption)) (by first | exact as2 | (rw [show z302 225 4 = z 225 4 by omega]; first | exact as2 | exact ⟨by omega, as2, hnb⟩)) (by rw [show z302 225 4 = z 225 4 by omega]; first | exact r0_e (by omega) (by omega) (by omega) | exact rs8_e (c := v251) (by omega) (by omega) (by omega) (by omega) (by omega) (by first | exact Or.inl ⟨by omega, by omega⟩ | exact Or.inr ⟨by omega, by omega, by omega⟩) | exact rl8_e (by omega) as3.1 (by omega) (by omega) (fun c => by have := as3.2 c; omega) (by first | exact Or.inl ⟨by omega, by omega⟩ | exact Or.inr ⟨by omega, by omega⟩) | exact rd8_e (by omega) as3.1 (by omega) (by omega) (fun c => by have := as3.2 c; omega) (by first | exact Or.inl ⟨by omega, by omega⟩ | exact Or.inr ⟨by omega, by omega, by omega⟩)) (by omega))
                · skip
                  have hf310 : z262 225 4 = z 225 4 := (((congrFun (congrFun hq263 _) _).trans (mu_ne (by omega))).trans ((congrFun (congrFun hq247 _) _).trans (mu_ne (by omega))))
                  have hf311 : z262 225 7 = z 225 4 := (((congrFun (congrFun hq263 _) _).trans (mu_ne (by omega))).trans ((congrFun (congrFun hq247 _) _).trans mu_eq))
                  have hf312 : z262 225 8 = 0 := ((congrFun (congrFun hq263 _) _).trans mu_eq)
                  have hf313 : w259 225 9 = 0 := ((congrFun (congrFun hq260 _) _).trans mu_eq)
                  have hb314 := rd_225_6 hz
                  have hf315 : z262 225 6 = z0 225 6 := (((congrFun (congrFun hq263 _) _).trans (mu_ne (by omega))).trans (((congrFun (congrFun hq247 _) _).trans (mu_ne (by omega))).trans un_z_225_6))
                  exact w_lv (sub_c rfl (sub_c rfl sub_n)) rfl (ih2 0 z262 w259 ⟨by omega, by omega⟩ hs264 ((((congrFun (congrFun hq263 _) _).trans (mu_ne (by omega))).trans (((congrFun (congrFun hq247 _) _).trans (mu_ne (by omega))).trans un_z_225_6))) (by first | omega | exact ⟨by omega, by omega, by omega, fun c => absurd c (by omega)⟩ | exact ⟨by omega, by omega, by omega, fun _ => by rw [show z262 225 4 + 0 = z 225 4 by omega, ← hb3]; omega⟩) (by first | exact as2 | (rw [show z262 225 4 = z 225 4 by omega]; first | exact as2 | exact ⟨by omega, as2, hnb⟩)) (by first | exact ⟨fun k h1 h2 => absurd h2 (by omega), fun _ => by show z262 225 8 = 0; omega⟩ | (have k9 := rd_s (h := h) (p := z 225 4) (q := z 225 4 + x2) (v := NOV) (l := z 225 8) as3.1 (by omega) (by omega) (by omega) (fun c => by rw [show z 225 4 + x2 - z 225 4 = x2 by omega]; exact as3.2 (by omega)) (l' := z262 225 8) (fun h1 h2 h3 => by first | omega | (have := hsh h2 h3; omega)); rw [show z 225 4 + x2 + 1 - z 225 4 = x2 + 1 by omega] at k9; rw [show z262 225 4 = z 225 4 by omega]; exact ⟨fun k h1 h2 => k9.1 k h1 (by omega), fun c => k9.2 c⟩)) (by omega))
              · skip
                have hf316 : z262 225 4 = z 225 4 := (((congrFun (congrFun hq263 _) _).trans (mu_ne (by omega))).trans ((congrFun (congrFun hq247 _) _).trans (mu_ne (by omega))))
                have hf317 : z262 225 7 = z 225 4 := (((congrFun (congrFun hq263 _) _).trans (mu_ne (by omega))).trans ((congrFun (congrFun hq247 _) _).trans mu_eq))
                have hf318 : w259 225 9 = 0 := ((congrFun (congrFun hq260 _) _).trans mu_eq)
                have hf319 : z262 225 8 = 0 := ((congrFun (congrFun hq263 _) _).trans mu_eq)
                have hb320 := rd_225_6 hz
                have hf321 : z262 225 6 = z0 225 6 := (((congrFun (congrFun hq263 _) _).trans (mu_ne (by omega))).trans (((congrFun (congrFun hq247 _) _).trans (mu_ne (by omega))).trans un_z_225_6))
                exact w_lv (sub_c rfl (sub_c rfl sub_n)) rfl (ih1 0 z262 w259 ⟨by omega, by omega⟩ hs264 ((((congrFun (congrFun hq263 _) _).trans (mu_ne (by omega))).trans (((congrFun (congrFun hq247 _) _).trans (mu_ne (by omega))).trans un_z_225_6))) (by first | omega | exact ⟨by omega, by omega, by omega, fun c => absurd c (by omega)⟩ | exact ⟨by omega, by omega, by omega, fun _ => by rw [show z262 225 4 + 0 = z 225 4 by omega, ← hb3]; omega⟩) (by first | exact as2 | (rw [show z262 225 4 = z 225 4 by omega]; first | exact as2 | exact ⟨by omega, as2, hnb⟩)) (by first | exact ⟨fun k h1 h2 => absurd h2 (by omega), fun _ => by show w259 225 9 = 0; omega⟩ | (have k9 := rl8_s (h := h) (p := z 225 4) (q := z 225 4 + x2) (v := NOV) (l := w 225 9) as3.1 (by omega) (by omega) (by omega) (fun c => by rw [show z 225 4 + x2 - z 225 4 = x2 by omega]; exact as3.2 (by omega)) (l' := w259 225 9) (fun h1 h2 h3 => by first | omega | (have := hsh h2 h3; omega)); rw [show z 225 4 + x2 + 1 - z 225 4 = x2 + 1 by omega] at k9; rw [show z262 225 4 = z 225 4 by omega]; exact ⟨fun k h1 h2 => k9.1 k h1 (by omega), fun c => k9.2 c⟩)) (by omega))
            · skip
              refine r_ld (pc' := 64) rfl rfl rfl rfl ?_
              refine r_c0 (pc' := 65) rfl rfl ?_
              refine r_pi (pc' := 68) rfl rfl sh_225 rfl rfl hs264 (inS_s (inS_s (inS_s (inS_s (inS_0 (by omega) (by omega) (by omega) (by omega)))))) (wr_225_6 ⟨by omega, by omega⟩) (fun z322 hq323 hs324 => ?_)
              refine r_go rfl ?_
              have hf325 : z322 225 4 = z 225 4 := (((congrFun (congrFun hq323 _) _).trans (mu_ne (by omega))).trans (((congrFun (congrFun hq263 _) _).trans (mu_ne (by omega))).trans ((congrFun (congrFun hq247 _) _).trans (mu_ne (by omega)))))
              have hf326 : z322 225 7 = z 225 4 := (((congrFun (congrFun hq323 _) _).trans (mu_ne (by omega))).trans (((congrFun (congrFun hq263 _) _).trans (mu_ne (by omega))).trans ((congrFun (congrFun hq247 _) _).trans mu_eq)))
              have hf327 : z322 225 8 = 0 := (((congrFun (congrFun hq323 _) _).trans (mu_ne (by omega))).trans ((congrFun (congrFun hq263 _) _).trans mu_eq))
              have hf328 : w259 225 9 = 0 := ((congrFun (congrFun hq260 _) _).trans mu_eq)
              have hf329 : z322 225 6 = 0 := ((congrFun (congrFun hq323 _) _).trans mu_eq)
              exact w_lv (sub_c rfl (sub_c rfl sub_n)) rfl (ih3 0 z322 w259 ⟨by omega, by omega⟩ hs324 (by first | omega | assumption | (simp only [hf325, hf326, hf327, hf328, hf329]; assumption)) (by first | exact as2 | (rw [show z322 225 4 = z 225 4 by omega]; first | exact as2 | exact ⟨by omega, as2, hnb⟩)) (by rw [show z322 225 4 = z 225 4 by omega]; first | exact r0_e (by omega) (by omega) (by omega) | exact rs8_e (c := v251) (by omega) (by omega) (by omega) (by omega) (by omega) (by first | exact Or.inl ⟨by omega, by omega⟩ | exact Or.inr ⟨by omega, by omega, by omega⟩) | exact rl8_e (by omega) as3.1 (by omega) (by omega) (fun c => by have := as3.2 c; omega) (by first | exact Or.inl ⟨by omega, by omega⟩ | exact Or.inr ⟨by omega, by omega⟩) | exact rd8_e (by omega) as3.1 (by omega) (by omega) (fun c => by have := as3.2 c; omega) (by first | exact Or.inl ⟨by omega, by omega⟩ | exact Or.inr ⟨by omega, by omega, by omega⟩)) (by omega))
          · skip
            refine r_ld (pc' := 21) rfl rfl rfl rfl ?_
            refine r_al (pc' := 22) rfl rfl rfl rfl ?_
            refine r_gi (pc' := 25) rfl rfl sh_225 rfl rfl ?_
            refine r_c0 (pc' := 26) rfl rfl ?_
            refine r_add (pc' := 27) rfl rfl ?_
            refine r_pi (pc' := 30) rfl rfl sh_225 rfl rfl hst (inS_0 (by omega) (by omega) (by omega) (by omega)) (wr_225_4 ⟨by omega, by omega⟩) (fun z330 hq331 hs332 => ?_)
            refine r_go rfl ?_
            have hf333 : z330 225 4 = (z 225 4) + 1 := ((congrFun (congrFun hq331 _) _).trans mu_eq)
            have hb334 := rd_225_7 hz
            have hf335 : z330 225 7 = z0 225 7 := (((congrFun (congrFun hq331 _) _).trans (mu_ne (by omega))).trans un_z_225_7)
            have hb336 := rd_225_8 hz
            have hf337 : z330 225 8 = z0 225 8 := (((congrFun (congrFun hq331 _) _).trans (mu_ne (by omega))).trans un_z_225_8)
            have hb338 := rd_225_9 hw
            have hf339 : w 225 9 = w0 225 9 := un_w_225_9
            have hb340 := rd_225_6 hz
            have hf341 : z330 225 6 = z0 225 6 := (((congrFun (congrFun hq331 _) _).trans (mu_ne (by omega))).trans un_z_225_6)
            exact w_lv (sub_c rfl sub_n) rfl (ih0 z330 w hs332 (un_w_225_9) ((((congrFun (congrFun hq331 _) _).trans (mu_ne (by omega))).trans un_z_225_6)) ((((congrFun (congrFun hq331 _) _).trans (mu_ne (by omega))).trans un_z_225_7)) ((((congrFun (congrFun hq331 _) _).trans (mu_ne (by omega))).trans un_z_225_8)) (by first | omega | assumption | (simp only [hf333, hf335, hf337, hf339, hf341]; assumption)) (by first | (intro k h1 h2; exfalso; omega) | (intro k h1 h2; by_cases c : k = z 225 4; (rw [c]; omega); exact as2 k h1 (by omega))) (by omega))
      · intro x2 z w  hx2 hst un_z_225_6 as1 as2 as3 hM
        refine r_ld (pc' := 79) rfl rfl rfl rfl ?_
        refine r_ld (pc' := 80) rfl rfl rfl rfl ?_
        have hb342 := rd_225_4 hst.1
        have hb343 := rd_225_5 hz
        have hf344 : z 225 5 = z0 225 5 := (hst.2.2.1 _ _ (notS_c (by omega) (notS_c (by omega) (notS_c (by omega) (notS_c (by omega) (notS_c (by omega) notS_n))))))
        refine r_cVI (pc' := 83) rfl rfl rfl rfl rfl sh_225 (m_149x (d := d) h x2 hst.1 hst.2.1 ⟨by omega, by omega⟩ (by exact (tr8_f (fun i => hst.2.2.1 226 i (notS_c (by omega) (notS_c (by omega) (notS_c (by omega) (notS_c (by omega) (notS_c (by omega) (notS_n))))))) (hst.2.2.1 225 5 (notS_c (by omega) (notS_c (by omega) (notS_c (by omega) (notS_c (by omega) (notS_c (by omega) (notS_n)))))))).trans hh)) (fun v345 z346 w347 p348 h349 hs350 hE351 => ?_)
        obtain ⟨rfl, rfl, rfl, hE351⟩ := hE351
        have hb4 : v345 = h (z 225 4 + x2) := hE351.2.2.1
        refine r_cSI (pc' := 86) rfl rfl rfl rfl rfl (m_150 (d := d) v345 hst.1 hst.2.1 ⟨by omega, by omega⟩) (fun v353 z354 w355 p356 h357 hs358 hE359 => ?_)
        obtain ⟨rfl, rfl, rfl, hE359⟩ := hE359
        refine r_zeq (pc' := 89) rfl rfl ⟨by omega, by omega⟩ (fun hc361 => ?_) (fun hc361 => ?_)
        · skip
          refine r_ld (pc' := 120) rfl rfl rfl rfl ?_
          refine r_ld (pc' := 121) rfl rfl rfl rfl ?_
          refine r_cb (pc' := 123) rfl (by decide) rfl ?_
          refine r_ile (pc' := 126) rfl rfl ⟨by omega, by omega⟩ ⟨by decide, by decide⟩ (fun hc362 => ?_) (fun hc362 => ?_)
          · skip
            refine r_c0 (pc' := 131) rfl rfl ?_
            refine r_pi (pc' := 134) rfl rfl sh_225 rfl rfl hst (inS_s (inS_s (inS_s (inS_s (inS_0 (by omega) (by omega) (by omega) (by omega)))))) (wr_225_6 ⟨by omega, by omega⟩) (fun z363 hq364 hs365 => ?_)
            refine r_go rfl ?_
            have hf366 : z363 225 4 = z 225 4 := ((congrFun (congrFun hq364 _) _).trans (mu_ne (by omega)))
            have hb367 := rd_225_7 hst.1
            have hf368 : z363 225 7 = z 225 7 := ((congrFun (congrFun hq364 _) _).trans (mu_ne (by omega)))
            have hb369 := rd_225_8 hst.1
            have hf370 : z363 225 8 = z 225 8 := ((congrFun (congrFun hq364 _) _).trans (mu_ne (by omega)))
            have hb371 := rd_225_9 hst.2.1
            have hf372 : z363 225 6 = 1 := ((congrFun (congrFun hq364 _) _).trans mu_eq)
            exact w_lv (sub_c rfl (sub_c rfl sub_n)) rfl (ih3 x2 z363 w ⟨by omega, by omega⟩ hs365 (by first | omega | assumption | (simp only [hf366, hf368, hf370, hf372]; assumption)) (by first | exact as2 | (rw [show z363 225 4 = z 225 4 by omega]; first | exact as2 | exact ⟨by omega, as2, hnb⟩)) (by rw [show z363 225 4 = z 225 4 by omega]; first | exact r0_e (by omega) (by omega) (by omega) | exact rs8_e (c := NOL) (by omega) (by omega) (by omega) (by omega) (by omega) (by first | exact Or.inl ⟨by omega, by omega⟩ | exact Or.inr ⟨by omega, by omega, by omega⟩) | exact rl8_e (by omega) as3.1 (by omega) (by omega) (fun c => by have := as3.2 c; omega) (by first | exact Or.inl ⟨by omega, by omega⟩ | exact Or.inr ⟨by omega, by omega⟩) | exact rd8_e (by omega) as3.1 (by omega) (by omega) (fun c => by have := as3.2 c; omega) (by first | exact Or.inl ⟨by omega, by omega⟩ | exact Or.inr ⟨by omega, by omega, by omega⟩)) (by omega))
          · skip
            refine r_c0 (pc' := 127) rfl rfl ?_
            refine r_go rfl ?_
            refine r_pi (pc' := 134) rfl rfl sh_225 rfl rfl hst (inS_s (inS_s (inS_s (inS_s (inS_0 (by omega) (by omega) (by omega) (by omega)))))) (wr_225_6 ⟨by omega, by omega⟩) (fun z373 hq374 hs375 => ?_)
            refine r_go rfl ?_
            have hf376 : z373 225 4 = z 225 4 := ((congrFun (congrFun hq374 _) _).trans (mu_ne (by omega)))
            have hb377 := rd_225_7 hst.1
            have hf378 : z373 225 7 = z 225 7 := ((congrFun (congrFun hq374 _) _).trans (mu_ne (by omega)))
            have hb379 := rd_225_8 hst.1
            have hf380 : z373 225 8 = z 225 8 := ((congrFun (congrFun hq374 _) _).trans (mu_ne (by omega)))
            have hb381 := rd_225_9 hst.2.1
            have hf382 : z373 225 6 = 3 := ((congrFun (congrFun hq374 _) _).trans mu_eq)
            exact w_lv (sub_c rfl (sub_c rfl sub_n)) rfl (ih3 x2 z373 w ⟨by omega, by omega⟩ hs375 (by first | omega | assumption | (simp only [hf376, hf378, hf380, hf382]; assumption)) (by first | exact as2 | (rw [show z373 225 4 = z 225 4 by omega]; first | exact as2 | exact ⟨by omega, as2, hnb⟩)) (by rw [show z373 225 4 = z 225 4 by omega]; first | exact r0_e (by omega) (by omega) (by omega) | exact rs8_e (c := NOL) (by omega) (by omega) (by omega) (by omega) (by omega) (by first | exact Or.inl ⟨by omega, by omega⟩ | exact Or.inr ⟨by omega, by omega, by omega⟩) | exact rl8_e (by omega) as3.1 (by omega) (by omega) (fun c => by have := as3.2 c; omega) (by first | exact Or.inl ⟨by omega, by omega⟩ | exact Or.inr ⟨by omega, by omega⟩) | exact rd8_e (by omega) as3.1 (by omega) (by omega) (fun c => by have := as3.2 c; omega) (by first | exact Or.inl ⟨by omega, by omega⟩ | exact Or.inr ⟨by omega, by omega, by omega⟩)) (by omega))
        · skip
          refine r_ld (pc' := 90) rfl rfl rfl rfl ?_
          refine r_cb (pc' := 92) rfl (by decide) rfl ?_
          refine r_ige (pc' := 95) rfl rfl ⟨by omega, by omega⟩ ⟨by decide, by decide⟩ (fun hc383 => ?_) (fun hc383 => ?_)
          · skip
            refine r_inc (pc' := 116) (lv' := [(0, _)]) rfl rfl rfl rfl rfl ?_
            refine r_go rfl ?_
            have hb384 := rd_225_7 hst.1
            have hb385 := rd_225_9 hst.2.1
            have hb386 := rd_225_8 hst.1
            have hb387 := rd_225_6 hz
            have hf388 : z 225 6 = z0 225 6 := un_z_225_6
            exact w_lv (sub_c rfl (sub_c rfl sub_n)) rfl (ih1 (x2 + 1) z w ⟨by omega, by omega⟩ hst (un_z_225_6) (by first | omega | exact ⟨by omega, by omega, by omega, fun c => absurd c (by omega)⟩ | exact ⟨by omega, by omega, by omega, fun _ => by rw [show z 225 4 + 0 = z 225 4 by omega, ← hb3]; omega⟩) (by first | exact as2 | (rw [show z 225 4 = z 225 4 by omega]; first | exact as2 | exact ⟨by omega, as2, hnb⟩)) (by first | exact ⟨fun k h1 h2 => absurd h2 (by omega), fun _ => by show w 225 9 = 0; omega⟩ | (have k9 := rl8_s (h := h) (p := z 225 4) (q := z 225 4 + x2) (v := v345) (l := w 225 9) as3.1 (by omega) (by omega) (by omega) (fun c => by rw [show z 225 4 + x2 - z 225 4 = x2 by omega]; exact as3.2 (by omega)) (l' := w 225 9) (fun h1 h2 h3 => by first | omega | (have := hsh h2 h3; omega)); rw [show z 225 4 + x2 + 1 - z 225 4 = x2 + 1 by omega] at k9; rw [show z 225 4 = z 225 4 by omega]; exact ⟨fun k h1 h2 => k9.1 k h1 (by omega), fun c => k9.2 c⟩)) (by omega))
          · skip
            refine r_ld (pc' := 96) rfl rfl rfl rfl ?_
            refine r_ld (pc' := 97) rfl rfl rfl rfl ?_
            have hb389 := rd_225_9 hst.2.1
            refine r_gl (pc' := 100) rfl rfl sh_225 rfl rfl ?_
            refine r_cb (pc' := 102) rfl (by decide) rfl ?_
            refine r_aLx (pc' := 103) rfl rfl rfl rfl (fun v390 h391 hbit102 => ?_)
            have h391i := h391
            have hin102 := h391
            unfold inL at h391
            refine r_ld (pc' := 104) rfl rfl rfl rfl ?_
            refine r_ld (pc' := 105) rfl rfl rfl rfl ?_
            have hf392 : z 225 5 = z0 225 5 := (hst.2.2.1 _ _ (notS_c (by omega) (notS_c (by omega) (notS_c (by omega) (notS_c (by omega) (notS_c (by omega) notS_n))))))
            refine r_cVI (pc' := 108) rfl rfl rfl rfl rfl sh_225 (m_149x (d := d) h x2 hst.1 hst.2.1 ⟨by omega, by omega⟩ (by exact (tr8_f (fun i => hst.2.2.1 226 i (notS_c (by omega) (notS_c (by omega) (notS_c (by omega) (notS_c (by omega) (notS_c (by omega) (notS_n))))))) (hst.2.2.1 225 5 (notS_c (by omega) (notS_c (by omega) (notS_c (by omega) (notS_c (by omega) (notS_c (by omega) (notS_n)))))))).trans hh)) (fun v393 z394 w395 p396 h397 hs398 hE399 => ?_)
            obtain ⟨rfl, rfl, rfl, hE399⟩ := hE399
            have hb5 : v393 = h (z 225 4 + x2) := hE399.2.2.1
            refine r_i2l (pc' := 109) rfl rfl ⟨by omega, by omega⟩ ?_
            refine r_aLx (pc' := 110) rfl rfl rfl rfl (fun v401 h402 hbit109 => ?_)
            have h402i := h402
            have hin109 := h402
            unfold inL at h402
            have hsh : 0 ≤ w 225 9 → w 225 9 ≤ 34474613618145914 → v401 = w 225 9 * 256 + v393 := fun h1 h2 => sh_or ⟨h1, h2⟩ ⟨by omega, by omega⟩ hin102 hin109 hbit102 hbit109
            refine r_pl (pc' := 113) rfl rfl sh_225 rfl rfl hst (inS_s (inS_s (inS_0 (by omega) (by omega) (by omega) (by omega)))) (wr_225_9 ⟨by omega, by omega⟩) (fun w403 hq404 hs405 => ?_)
            refine r_inc (pc' := 116) (lv' := [(0, _)]) rfl rfl rfl rfl rfl ?_
            refine r_go rfl ?_
            have hb406 := rd_225_7 hst.1
            have hf407 : w403 225 9 = v401 := ((congrFun (congrFun hq404 _) _).trans mu_eq)
            have hb408 := rd_225_8 hst.1
            have hb409 := rd_225_6 hz
            have hf410 : z 225 6 = z0 225 6 := un_z_225_6
            exact w_lv (sub_c rfl (sub_c rfl sub_n)) rfl (ih1 (x2 + 1) z w403 ⟨by omega, by omega⟩ hs405 (un_z_225_6) (by first | omega | exact ⟨by omega, by omega, by omega, fun c => absurd c (by omega)⟩ | exact ⟨by omega, by omega, by omega, fun _ => by rw [show z 225 4 + 0 = z 225 4 by omega, ← hb3]; omega⟩) (by first | exact as2 | (rw [show z 225 4 = z 225 4 by omega]; first | exact as2 | exact ⟨by omega, as2, hnb⟩)) (by first | exact ⟨fun k h1 h2 => absurd h2 (by omega), fun _ => by show w403 225 9 = 0; omega⟩ | (have k9 := rl8_s (h := h) (p := z 225 4) (q := z 225 4 + x2) (v := v345) (l := w 225 9) as3.1 (by omega) (by omega) (by omega) (fun c => by rw [show z 225 4 + x2 - z 225 4 = x2 by omega]; exact as3.2 (by omega)) (l' := w403 225 9) (fun h1 h2 h3 => by first | omega | (have := hsh h2 h3; omega)); rw [show z 225 4 + x2 + 1 - z 225 4 = x2 + 1 by omega] at k9; rw [show z 225 4 = z 225 4 by omega]; exact ⟨fun k h1 h2 => k9.1 k h1 (by omega), fun c => k9.2 c⟩)) (by omega))
      · intro x2 z w  hx2 hst un_z_225_6 as1 as2 as3 hM
        refine r_ld (pc' := 145) rfl rfl rfl rfl ?_
        refine r_ld (pc' := 146) rfl rfl rfl rfl ?_
        have hb411 := rd_225_4 hst.1
        have hb412 := rd_225_5 hz
        have hf413 : z 225 5 = z0 225 5 := (hst.2.2.1 _ _ (notS_c (by omega) (notS_c (by omega) (notS_c (by omega) (notS_c (by omega) (notS_c (by omega) notS_n))))))
        refine r_cVI (pc' := 149) rfl rfl rfl rfl rfl sh_225 (m_149x (d := d) h x2 hst.1 hst.2.1 ⟨by omega, by omega⟩ (by exact (tr8_f (fun i => hst.2.2.1 226 i (notS_c (by omega) (notS_c (by omega) (notS_c (by omega) (notS_c (by omega) (notS_c (by omega) (notS_n))))))) (hst.2.2.1 225 5 (notS_c (by omega) (notS_c (by omega) (notS_c (by omega) (notS_c (by omega) (notS_c (by omega) (notS_n)))))))).trans hh)) (fun v414 z415 w416 p417 h418 hs419 hE420 => ?_)
        obtain ⟨rfl, rfl, rfl, hE420⟩ := hE420
        have hb4 : v414 = h (z 225 4 + x2) := hE420.2.2.1
        refine r_cSI (pc' := 152) rfl rfl rfl rfl rfl (m_151 (d := d) v414 hst.1 hst.2.1 ⟨by omega, by omega⟩) (fun v422 z423 w424 p425 h426 hs427 hE428 => ?_)
        obtain ⟨rfl, rfl, rfl, hE428⟩ := hE428
        refine r_zeq (pc' := 155) rfl rfl ⟨by omega, by omega⟩ (fun hc430 => ?_) (fun hc430 => ?_)
        · skip
          refine r_ld (pc' := 187) rfl rfl rfl rfl ?_
          refine r_ld (pc' := 188) rfl rfl rfl rfl ?_
          refine r_c0 (pc' := 189) rfl rfl ?_
          refine r_igt (pc' := 192) rfl rfl ⟨by omega, by omega⟩ ⟨by decide, by decide⟩ (fun hc431 => ?_) (fun hc431 => ?_)
          · skip
            refine r_c0 (pc' := 204) rfl rfl ?_
            refine r_go rfl ?_
            refine r_pi (pc' := 211) rfl rfl sh_225 rfl rfl hst (inS_s (inS_s (inS_s (inS_s (inS_0 (by omega) (by omega) (by omega) (by omega)))))) (wr_225_6 ⟨by omega, by omega⟩) (fun z432 hq433 hs434 => ?_)
            refine r_go rfl ?_
            have hf435 : z432 225 4 = z 225 4 := ((congrFun (congrFun hq433 _) _).trans (mu_ne (by omega)))
            have hb436 := rd_225_7 hst.1
            have hf437 : z432 225 7 = z 225 7 := ((congrFun (congrFun hq433 _) _).trans (mu_ne (by omega)))
            have hb438 := rd_225_8 hst.1
            have hf439 : z432 225 8 = z 225 8 := ((congrFun (congrFun hq433 _) _).trans (mu_ne (by omega)))
            have hb440 := rd_225_9 hst.2.1
            have hf441 : z432 225 6 = 3 := ((congrFun (congrFun hq433 _) _).trans mu_eq)
            exact w_lv (sub_c rfl (sub_c rfl sub_n)) rfl (ih3 x2 z432 w ⟨by omega, by omega⟩ hs434 (by first | omega | assumption | (simp only [hf435, hf437, hf439, hf441]; assumption)) (by first | exact as2 | (rw [show z432 225 4 = z 225 4 by omega]; first | exact as2 | exact ⟨by omega, as2, hnb⟩)) (by rw [show z432 225 4 = z 225 4 by omega]; first | exact r0_e (by omega) (by omega) (by omega) | exact rs8_e (c := NOL) (by omega) (by omega) (by omega) (by omega) (by omega) (by first | exact Or.inl ⟨by omega, by omega⟩ | exact Or.inr ⟨by omega, by omega, by omega⟩) | exact rl8_e (by omega) as3.1 (by omega) (by omega) (fun c => by have := as3.2 c; omega) (by first | exact Or.inl ⟨by omega, by omega⟩ | exact Or.inr ⟨by omega, by omega⟩) | exact rd8_e (by omega) as3.1 (by omega) (by omega) (fun c => by have := as3.2 c; omega) (by first | exact Or.inl ⟨by omega, by omega⟩ | exact Or.inr ⟨by omega, by omega, by omega⟩)) (by omega))
          · skip
            refine r_ld (pc' := 193) rfl rfl rfl rfl ?_
            refine r_ld (pc' := 194) rfl rfl rfl rfl ?_
            have hf442 : z 225 5 = z0 225 5 := (hst.2.2.1 _ _ (notS_c (by omega) (notS_c (by omega) (notS_c (by omega) (notS_c (by omega) (notS_c (by omega) notS_n))))))
            refine r_cVI (pc' := 197) rfl rfl rfl rfl rfl sh_225 (m_149x (d := d) h x2 hst.1 hst.2.1 ⟨by omega, by omega⟩ (by exact (tr8_f (fun i => hst.2.2.1 226 i (notS_c (by omega) (notS_c (by omega) (notS_c (by omega) (notS_c (by omega) (notS_c (by omega) (notS_n))))))) (hst.2.2.1 225 5 (notS_c (by omega) (notS_c (by omega) (notS_c (by omega) (notS_c (by omega) (notS_c (by omega) (notS_n)))))))).trans hh)) (fun v443 z444 w445 p446 h447 hs448 hE449 => ?_)
            obtain ⟨rfl, rfl, rfl, hE449⟩ := hE449
            have hb6 : v443 = h (z 225 4 + x2) := hE449.2.2.1
            refine r_cSI (pc' := 200) rfl rfl rfl rfl rfl (m_150 (d := d) v443 hst.1 hst.2.1 ⟨by omega, by omega⟩) (fun v451 z452 w453 p454 h455 hs456 hE457 => ?_)
            obtain ⟨rfl, rfl, rfl, hE457⟩ := hE457
            refine r_zeq (pc' := 203) rfl rfl ⟨by omega, by omega⟩ (fun hc459 => ?_) (fun hc459 => ?_)
            · skip
              refine r_c0 (pc' := 208) rfl rfl ?_
              refine r_pi (pc' := 211) rfl rfl sh_225 rfl rfl hst (inS_s (inS_s (inS_s (inS_s (inS_0 (by omega) (by omega) (by omega) (by omega)))))) (wr_225_6 ⟨by omega, by omega⟩) (fun z460 hq461 hs462 => ?_)
              refine r_go rfl ?_
              have hf463 : z460 225 4 = z 225 4 := ((congrFun (congrFun hq461 _) _).trans (mu_ne (by omega)))
              have hb464 := rd_225_7 hst.1
              have hf465 : z460 225 7 = z 225 7 := ((congrFun (congrFun hq461 _) _).trans (mu_ne (by omega)))
              have hb466 := rd_225_8 hst.1
              have hf467 : z460 225 8 = z 225 8 := ((congrFun (congrFun hq461 _) _).trans (mu_ne (by omega)))
              have hb468 := rd_225_9 hst.2.1
              have hf469 : z460 225 6 = 2 := ((congrFun (congrFun hq461 _) _).trans mu_eq)
              exact w_lv (sub_c rfl (sub_c rfl sub_n)) rfl (ih3 x2 z460 w ⟨by omega, by omega⟩ hs462 (by first | omega | assumption | (simp only [hf463, hf465, hf467, hf469]; assumption)) (by first | exact as2 | (rw [show z460 225 4 = z 225 4 by omega]; first | exact as2 | exact ⟨by omega, as2, hnb⟩)) (by rw [show z460 225 4 = z 225 4 by omega]; first | exact r0_e (by omega) (by omega) (by omega) | exact rs8_e (c := NOL) (by omega) (by omega) (by omega) (by omega) (by omega) (by first | exact Or.inl ⟨by omega, by omega⟩ | exact Or.inr ⟨by omega, by omega, by omega⟩) | exact rl8_e (by omega) as3.1 (by omega) (by omega) (fun c => by have := as3.2 c; omega) (by first | exact Or.inl ⟨by omega, by omega⟩ | exact Or.inr ⟨by omega, by omega⟩) | exact rd8_e (by omega) as3.1 (by omega) (by omega) (fun c => by have := as3.2 c; omega) (by first | exact Or.inl ⟨by omega, by omega⟩ | exact Or.inr ⟨by omega, by omega, by omega⟩)) (by omega))
            · skip
              refine r_c0 (pc' := 204) rfl rfl ?_
              refine r_go rfl ?_
              refine r_pi (pc' := 211) rfl rfl sh_225 rfl rfl hst (inS_s (inS_s (inS_s (inS_s (inS_0 (by omega) (by omega) (by omega) (by omega)))))) (wr_225_6 ⟨by omega, by omega⟩) (fun z470 hq471 hs472 => ?_)
              refine r_go rfl ?_
              have hf473 : z470 225 4 = z 225 4 := ((congrFun (congrFun hq471 _) _).trans (mu_ne (by omega)))
              have hb474 := rd_225_7 hst.1
              have hf475 : z470 225 7 = z 225 7 := ((congrFun (congrFun hq471 _) _).trans (mu_ne (by omega)))
              have hb476 := rd_225_8 hst.1
              have hf477 : z470 225 8 = z 225 8 := ((congrFun (congrFun hq471 _) _).trans (mu_ne (by omega)))
              have hb478 := rd_225_9 hst.2.1
              have hf479 : z470 225 6 = 3 := ((congrFun (congrFun hq471 _) _).trans mu_eq)
              exact w_lv (sub_c rfl (sub_c rfl sub_n)) rfl (ih3 x2 z470 w ⟨by omega, by omega⟩ hs472 (by first | omega | assumption | (simp only [hf473, hf475, hf477, hf479]; assumption)) (by first | exact as2 | (rw [show z470 225 4 = z 225 4 by omega]; first | exact as2 | exact ⟨by omega, as2, hnb⟩)) (by rw [show z470 225 4 = z 225 4 by omega]; first | exact r0_e (by omega) (by omega) (by omega) | exact rs8_e (c := NOL) (by omega) (by omega) (by omega) (by omega) (by omega) (by first | exact Or.inl ⟨by omega, by omega⟩ | exact Or.inr ⟨by omega, by omega, by omega⟩) | exact rl8_e (by omega) as3.1 (by omega) (by omega) (fun c => by have := as3.2 c; omega) (by first | exact Or.inl ⟨by omega, by omega⟩ | exact Or.inr ⟨by omega, by omega⟩) | exact rd8_e (by omega) as3.1 (by omega) (by omega) (fun c => by have := as3.2 c; omega) (by first | exact Or.inl ⟨by omega, by omega⟩ | exact Or.inr ⟨by omega, by omega, by omega⟩)) (by omega))
        · skip
          refine r_ld (pc' := 156) rfl rfl rfl rfl ?_
          refine r_c0 (pc' := 157) rfl rfl ?_
          refine r_ige (pc' := 160) rfl rfl ⟨by omega, by omega⟩ ⟨by decide, by decide⟩ (fun hc480 => ?_) (fun hc480 => ?_)
          · skip
            refine r_inc (pc' := 183) (lv' := [(0, _)]) rfl rfl rfl rfl rfl ?_
            refine r_go rfl ?_
            have hb481 := rd_225_7 hst.1
            have hb482 := rd_225_8 hst.1
            have hb483 := rd_225_9 hst.2.1
            have hb484 := rd_225_6 hz
            have hf485 : z 225 6 = z0 225 6 := un_z_225_6
            exact w_lv (sub_c rfl (sub_c rfl sub_n)) rfl (ih2 (x2 + 1) z w ⟨by omega, by omega⟩ hst (un_z_225_6) (by first | omega | exact ⟨by omega, by omega, by omega, fun c => absurd c (by omega)⟩ | exact ⟨by omega, by omega, by omega, fun _ => by rw [show z 225 4 + 0 = z 225 4 by omega, ← hb3]; omega⟩) (by first | exact as2 | (rw [show z 225 4 = z 225 4 by omega]; first | exact as2 | exact ⟨by omega, as2, hnb⟩)) (by first | exact ⟨fun k h1 h2 => absurd h2 (by omega), fun _ => by show z 225 8 = 0; omega⟩ | (have k9 := rd_s (h := h) (p := z 225 4) (q := z 225 4 + x2) (v := v414) (l := z 225 8) as3.1 (by omega) (by omega) (by omega) (fun c => by rw [show z 225 4 + x2 - z 225 4 = x2 by omega]; exact as3.2 (by omega)) (l' := z 225 8) (fun h1 h2 h3 => by first | omega | (have := hsh h2 h3; omega)); rw [show z 225 4 + x2 + 1 - z 225 4 = x2 + 1 by omega] at k9; rw [show z 225 4 = z 225 4 by omega]; exact ⟨fun k h1 h2 => k9.1 k h1 (by omega), fun c => k9.2 c⟩)) (by omega))
          · skip
            refine r_ld (pc' := 161) rfl rfl rfl rfl ?_
            refine r_cb (pc' := 163) rfl (by decide) rfl ?_
            refine r_ld (pc' := 164) rfl rfl rfl rfl ?_
            have hb486 := rd_225_8 hst.1
            refine r_gi (pc' := 167) rfl rfl sh_225 rfl rfl ?_
            refine r_mul (pc' := 168) rfl rfl ?_
            refine r_ld (pc' := 169) rfl rfl rfl rfl ?_
            refine r_ld (pc' := 170) rfl rfl rfl rfl ?_
            have hf487 : z 225 5 = z0 225 5 := (hst.2.2.1 _ _ (notS_c (by omega) (notS_c (by omega) (notS_c (by omega) (notS_c (by omega) (notS_c (by omega) notS_n))))))
            refine r_cVI (pc' := 173) rfl rfl rfl rfl rfl sh_225 (m_149x (d := d) h x2 hst.1 hst.2.1 ⟨by omega, by omega⟩ (by exact (tr8_f (fun i => hst.2.2.1 226 i (notS_c (by omega) (notS_c (by omega) (notS_c (by omega) (notS_c (by omega) (notS_c (by omega) (notS_n))))))) (hst.2.2.1 225 5 (notS_c (by omega) (notS_c (by omega) (notS_c (by omega) (notS_c (by omega) (notS_c (by omega) (notS_n)))))))).trans hh)) (fun v488 z489 w490 p491 h492 hs493 hE494 => ?_)
            obtain ⟨rfl, rfl, rfl, hE494⟩ := hE494
            have hb5 : v488 = h (z 225 4 + x2) := hE494.2.2.1
            refine r_add (pc' := 174) rfl rfl ?_
            have hdb := dn_b (digs_u as3.1)
            rw [show (z 225 4 + x2 - z 225 4).toNat = x2.toNat by omega, ← as3.2 (by omega)] at hdb
            have hdc := hdb.2.2.1
            refine r_cb (pc' := 176) rfl (by decide) rfl ?_
            refine r_sub (pc' := 177) rfl rfl ?_
            refine r_pi (pc' := 180) rfl rfl sh_225 rfl rfl hst (inS_s (inS_s (inS_s (inS_0 (by omega) (by omega) (by omega) (by omega))))) (wr_225_8 ⟨by omega, by omega⟩) (fun z496 hq497 hs498 => ?_)
            refine r_inc (pc' := 183) (lv' := [(0, _)]) rfl rfl rfl rfl rfl ?_
            refine r_go rfl ?_
            have hf499 : z496 225 4 = z 225 4 := ((congrFun (congrFun hq497 _) _).trans (mu_ne (by omega)))
            have hb500 := rd_225_7 hst.1
            have hf501 : z496 225 7 = z 225 7 := ((congrFun (congrFun hq497 _) _).trans (mu_ne (by omega)))
            have hf502 : z496 225 8 = ((10 * (z 225 8)) + v488) - 48 := ((congrFun (congrFun hq497 _) _).trans mu_eq)
            have hb503 := rd_225_9 hst.2.1
            have hb504 := rd_225_6 hz
            have hf505 : z496 225 6 = z0 225 6 := (((congrFun (congrFun hq497 _) _).trans (mu_ne (by omega))).trans un_z_225_6)
            exact w_lv (sub_c rfl (sub_c rfl sub_n)) rfl (ih2 (x2 + 1) z496 w ⟨by omega, by omega⟩ hs498 ((((congrFun (congrFun hq497 _) _).trans (mu_ne (by omega))).trans un_z_225_6)) (by first | omega | exact ⟨by omega, by omega, by omega, fun c => absurd c (by omega)⟩ | exact ⟨by omega, by omega, by omega, fun _ => by rw [show z496 225 4 + 0 = z 225 4 by omega, ← hb3]; omega⟩) (by first | exact as2 | (rw [show z496 225 4 = z 225 4 by omega]; first | exact as2 | exact ⟨by omega, as2, hnb⟩)) (by first | exact ⟨fun k h1 h2 => absurd h2 (by omega), fun _ => by show z496 225 8 = 0; omega⟩ | (have k9 := rd_s (h := h) (p := z 225 4) (q := z 225 4 + x2) (v := v414) (l := z 225 8) as3.1 (by omega) (by omega) (by omega) (fun c => by rw [show z 225 4 + x2 - z 225 4 = x2 by omega]; exact as3.2 (by omega)) (l' := z496 225 8) (fun h1 h2 h3 => by first | omega | (have := hsh h2 h3; omega)); rw [show z 225 4 + x2 + 1 - z 225 4 = x2 + 1 by omega] at k9; rw [show z496 225 4 = z 225 4 by omega]; exact ⟨fun k h1 h2 => k9.1 k h1 (by omega), fun c => k9.2 c⟩)) (by omega))
      · intro x2 z w  hx2 hst as1 as2 as3 hM
        refine r_ld (pc' := 238) rfl rfl rfl rfl ?_
        have hb506 := rd_225_6 hst.1
        refine r_gi (pc' := 241) rfl rfl sh_225 rfl rfl ?_
        refine r_c0 (pc' := 242) rfl rfl ?_
        refine r_ieq (pc' := 245) rfl rfl ⟨by omega, by omega⟩ ⟨by decide, by decide⟩ (fun hc507 => ?_) (fun hc507 => ?_)
        · skip
          have hb508 := rd_225_7 hst.1
          have hb509 := rd_225_4 hst.1
          have hb510 := rd_225_5 hz
          have hf511 : z 225 5 = z0 225 5 := (hst.2.2.1 _ _ (notS_c (by omega) (notS_c (by omega) (notS_c (by omega) (notS_c (by omega) (notS_c (by omega) notS_n))))))
          have hb512 := rd_225_8 hst.1
          have hb513 := rd_225_9 hst.2.1
          exact r_ret rfl (po_V hst ⟨rfl, (by have hz55 : z 225 5 = z0 225 5 := hst.2.2.1 _ _ (notS_c (by omega) (notS_c (by omega) (notS_c (by omega) (notS_c (by omega) (notS_c (by omega) (notS_n)))))); have hq7 := as3.1; refine ⟨?_, by omega⟩; rw [ups_eq as2]; first | exact TKq_r as3 (by omega) (by omega) (by omega) (by omega) (by omega) (by omega) (by omega) (Or.inl ⟨by omega, by omega⟩) | exact TKq_r as3 (by omega) (by omega) (by omega) (by omega) (by omega) (by omega) (by omega) (Or.inr ⟨by omega, by omega⟩))⟩)
        · skip
          refine r_ld (pc' := 246) rfl rfl rfl rfl ?_
          refine r_al (pc' := 247) rfl rfl rfl rfl ?_
          have hb514 := rd_225_4 hst.1
          refine r_gi (pc' := 250) rfl rfl sh_225 rfl rfl ?_
          refine r_ld (pc' := 251) rfl rfl rfl rfl ?_
          refine r_add (pc' := 252) rfl rfl ?_
          refine r_pi (pc' := 255) rfl rfl sh_225 rfl rfl hst (inS_0 (by omega) (by omega) (by omega) (by omega)) (wr_225_4 ⟨by omega, by omega⟩) (fun z515 hq516 hs517 => ?_)
          have hb518 := rd_225_7 hst.1
          have hf519 : z515 225 7 = z 225 7 := ((congrFun (congrFun hq516 _) _).trans (mu_ne (by omega)))
          have hf520 : z515 225 4 = (z 225 4) + x2 := ((congrFun (congrFun hq516 _) _).trans mu_eq)
          have hb521 := rd_225_5 hz
          have hf522 : z515 225 5 = z0 225 5 := (((congrFun (congrFun hq516 _) _).trans (mu_ne (by omega))).trans (hst.2.2.1 _ _ (notS_c (by omega) (notS_c (by omega) (notS_c (by omega) (notS_c (by omega) (notS_c (by omega) notS_n)))))))
          have hf523 : z515 225 6 = z 225 6 := ((congrFun (congrFun hq516 _) _).trans (mu_ne (by omega)))
          have hb524 := rd_225_8 hst.1
          have hf525 : z515 225 8 = z 225 8 := ((congrFun (congrFun hq516 _) _).trans (mu_ne (by omega)))
          have hb526 := rd_225_9 hst.2.1
          exact r_ret rfl (po_V hs517 ⟨rfl, (by have hz55 : z 225 5 = z0 225 5 := hst.2.2.1 _ _ (notS_c (by omega) (notS_c (by omega) (notS_c (by omega) (notS_c (by omega) (notS_c (by omega) (notS_n)))))); have hq7 := as3.1; refine ⟨?_, by omega⟩; rw [ups_eq as2]; first | exact TKq_r as3 (by omega) (by omega) (by omega) (by omega) (by omega) (by omega) (by omega) (Or.inl ⟨by omega, by omega⟩) | exact TKq_r as3 (by omega) (by omega) (by omega) (by omega) (by omega) (by omega) (by omega) (Or.inr ⟨by omega, by omega⟩))⟩)
  refine w_m rfl rfl ?_
  have hb527 := rd_225_4 hz
  have hb528 := rd_225_7 hz
  have hb529 := rd_225_8 hz
  have hb530 := rd_225_9 hw
  have hb531 := rd_225_6 hz
  exact w_lv (sub_c rfl sub_n) rfl ((key ((10000000 + (1600 - z0 225 4) : Int).toNat + 1)).1 z0 w0 hst (rfl) (rfl) (rfl) (rfl) (by first | omega | assumption) (by first | (intro k h1 h2; exfalso; omega) | (intro k h1 h2; by_cases c : k = z 225 4; (rw [c]; omega); exact as2 k h1 (by omega))) (by omega))
end
section
/-! what the reference has read, and the state -/
abbrev il (s : RG) (l e : Nat) : Prop := (l < 8 ∧ e < 18) ∧ (((l : Int) < s 4 ∧ (e : Int) < ED s) ∨ ((l : Int) = s 4 ∧ s 0 = 7 ∧ (e : Int) < s 6))
/-- EDGES of told PIECES have been told -/
def TI (s : RG) : Prop := ∀ i : Nat, i < 36 → (i : Int) < 3 * s 3 + cs s → (0 ≤ s (100 + i) ∧ s (100 + i) < 18) ∧ 1 ≤ s (140 + (s (100 + i)).toNat)
theorem TI_c {s s' : RG} (e3 : s' 3 = s 3) (ec : cs s' = cs s) (g : ∀ j, 100 ≤ j → j < 160 → s' j = s j) (k : TI s) : TI s' := by
  intro i hi hj
  rw [e3, ec] at hj
  have q := k i hi hj
  rw [g (100 + i) (by omega) (by omega)]
  rw [g (140 + (s (100 + i)).toNat) (by omega) (by omega)]
  exact q
def RP1 (s : RG) (z : mZ) : Prop := (z 225 23 = s 3 ∧ z 225 24 = s 4 ∧ z 225 25 = s 5) ∧ (∀ i : Nat, i < 36 → (i : Int) < 3 * s 3 + cs s → z 229 i = s (100 + i)) ∧ (∀ e : Nat, e < 18 → z 230 e = s (140 + e)) ∧ TI s
def RP2 (h : Int → Int) (s : RG) (z w : mZ) : Prop := (∀ l e : Nat, il s l e → z 231 (18 * l + e) = s (200 + 18 * l + e)) ∧ (∀ l : Nat, (l : Int) < s 4 → w 227 l = tkW8 h (s (400 + l))) ∧ ∀ a : Nat, (a : Int) < s 5 → w 228 a = tkW8 h (s (410 + a))
def RP3 (s : RG) (z : mZ) : Prop := (∀ a : Nat, (a : Int) < s 5 → z 234 a = s (520 + a)) ∧ ∀ a i : Nat, iw s a i → z 232 (8 * a + i) = s (420 + 8 * a + i) ∧ z 233 (8 * a + i) = s (470 + 8 * a + i)
def MR (h : Int → Int) (s : RG) (z w : mZ) : Prop := RP1 s z ∧ RP2 h s z w ∧ RP3 s z
def RA (h : Int → Int) (z w : mZ) (k : Nat) : Prop := TKr h z w (tp h k) ∧ MR h (sq h k) z w
def RF (h : Int → Int) (z : mZ) : Prop := ∃ k, sq h k 0 = 21 ∧ z 225 2 = sq h k 1 ∧ z 225 3 = sq h k 2 ∧ 0 < z 225 2
theorem RF_i {h : Int → Int} {z : mZ} {k : Nat} {f p : Int} (e : dl h (sq h k) (tp h k) = flt (sq h k) f p) (hf : 0 < f) (h0 : z 225 2 = f) (h1 : z 225 3 = p) : RF h z := ⟨k + 1, by rw [sq_s, e]; rfl, by rw [sq_s, e]; exact h0, by rw [sq_s, e]; exact h1, by omega⟩
theorem RF_b {h : Int → Int} {z : mZ} {k : Nat} {c p : Int} (e : dl h (sq h k) (tp h k) = bd (sq h k) c p) (h0 : z 225 2 = if c = 5 then 1 else 2) (h1 : z 225 3 = p) : RF h z := RF_i (f := if c = 5 then 1 else 2) e (by split <;> omega) h0 h1
theorem RF_f {h : Int → Int} {z z' : mZ} (h0 : z' 225 2 = z 225 2) (h1 : z' 225 3 = z 225 3) (k : RF h z) : RF h z' := by
  unfold RF at k ⊢
  rw [h0, h1]; exact k
/-- outside of the reader's own places nothing is another -/
def Fs (z w z' w' : mZ) : Prop := (∀ i, 23 ≤ i → i ≤ 25 → z' 225 i = z 225 i) ∧ (∀ a i, 229 ≤ a → a ≤ 234 → z' a i = z a i) ∧ ∀ a i, 227 ≤ a → a ≤ 228 → w' a i = w a i
theorem MR_f {h : Int → Int} {s : RG} {z w z' w' : mZ} (f : Fs z w z' w') (k : MR h s z w) : MR h s z' w' := by
  obtain ⟨f1, f2, f3⟩ := f
  unfold MR RP1 RP2 RP3 at *
  rw [f1 23 (by omega) (by omega), f1 24 (by omega) (by omega), f1 25 (by omega) (by omega), show z' 229 = z 229 from funext fun i => f2 _ _ (by omega) (by omega), show z' 230 = z 230 from funext fun i => f2 _ _ (by omega) (by omega), show z' 231 = z 231 from funext fun i => f2 _ _ (by omega) (by omega), show z' 232 = z 232 from funext fun i => f2 _ _ (by omega) (by omega), show z' 233 = z 233 from funext fun i => f2 _ _ (by omega) (by omega), show z' 234 = z 234 from funext fun i => f2 _ _ (by omega) (by omega), show w' 227 = w 227 from funext fun i => f3 _ _ (by omega) (by omega), show w' 228 = w 228 from funext fun i => f3 _ _ (by omega) (by omega)]
  exact k
theorem MR_m {h : Int → Int} {s s' : RG} {z w : mZ} (g1 : ∀ j, 3 ≤ j → j ≤ 5 → s' j = s j) (g2 : ∀ j, 11 ≤ j → s' j = s j) (g3 : cs s' = cs s) (g4 : ∀ a i, iw s' a i → iw s a i) (g5 : ∀ l e, il s' l e → il s l e) (k : MR h s z w) : MR h s' z w := by
  obtain ⟨k1, k2, k3⟩ := k
  have e3 := g1 3 (by omega) (by omega)
  have e4 := g1 4 (by omega) (by omega)
  have e5 := g1 5 (by omega) (by omega)
  refine ⟨?_, ?_, ?_⟩
  · unfold RP1 at k1 ⊢
    rw [e3, e4, e5, g3]
    exact ⟨k1.1, fun i hi hj => (k1.2.1 i hi hj).trans (g2 _ (by omega)).symm, fun e he => (k1.2.2.1 e he).trans (g2 _ (by omega)).symm, TI_c e3 g3 (fun j h1 _ => g2 j (by omega)) k1.2.2.2⟩
  · unfold RP2 at k2 ⊢
    rw [e4, e5]
    refine ⟨fun l e q => (k2.1 l e (g5 l e q)).trans (g2 _ (by omega)).symm, fun l hl => ?_, fun a ha => ?_⟩
    · rw [g2 _ (by omega)]; exact k2.2.1 l hl
    · rw [g2 _ (by omega)]; exact k2.2.2 a ha
  · refine ⟨fun a ha => ?_, fun a i q => ?_⟩
    · rw [e5] at ha; rw [g2 _ (by omega)]; exact k3.1 a ha
    · rw [g2 _ (by omega), g2 _ (by omega)]; exact k3.2 a i (g4 a i q)
/-- an EDGE told -/
theorem MR_e {h : Int → Int} {s : RG} {z w z' : mZ} {nu : Int} (hm : s 0 = 1) (h6 : 0 ≤ s 6 ∧ s 6 < 3) (h3 : 0 ≤ s 3 ∧ s 3 ≤ 11) (n0 : 0 ≤ nu ∧ nu < 18) (n1 : 0 ≤ s (140 + nu.toNat)) (a0 : ∀ i, z' 225 i = z 225 i) (f1 : ∀ a i, 231 ≤ a → a ≤ 234 → z' a i = z a i) (u1 : ∀ i : Nat, z' 229 i = if i = (3 * s 3 + s 6).toNat then nu else z 229 i) (u4 : ∀ e : Nat, z' 230 e = if e = nu.toNat then z 230 e + 1 else z 230 e) (k : MR h s z w) :
    MR h (su (su (su s (100 + (3 * s 3 + s 6).toNat) nu) (140 + nu.toNat) (s (140 + nu.toNat) + 1)) 6 (s 6 + 1)) z' w := by
  obtain ⟨k1, k2, k3⟩ := k
  generalize hs' : su (su (su s (100 + (3 * s 3 + s 6).toNat) nu) (140 + nu.toNat) (s (140 + nu.toNat) + 1)) 6 (s 6 + 1) = s'
  have ne : ∀ j, j ≠ 6 → (j < 100 ∨ 158 ≤ j) → s' j = s j := fun j h1 h2 => by rw [← hs', su_n h1, su_n (by omega), su_n (by omega)]
  have e6 : s' 6 = s 6 + 1 := by rw [← hs', su_e]
  have e0 := ne 0 (by omega) (by omega)
  have e3 := ne 3 (by omega) (by omega)
  have e4 := ne 4 (by omega) (by omega)
  have e5 := ne 5 (by omega) (by omega)
  have c' : cs s' = s 6 + 1 := by unfold cs; rw [e0, if_pos hm, e6]
  have c : cs s = s 6 := if_pos hm
  refine ⟨?_, ?_, ?_⟩
  · unfold RP1 at k1 ⊢
    rw [e3, e4, e5, c', a0, a0, a0]
    refine ⟨k1.1, fun i hi hj => ?_, fun e he => ?_, ?_⟩
    · rw [u1 i]
      by_cases g : i = (3 * s 3 + s 6).toNat
      · rw [if_pos g, ← hs', su_n (by omega), su_n (by omega), g, su_e]
      · rw [if_neg g, k1.2.1 i hi (by omega), ← hs', su_n (by omega), su_n (by omega), su_n (by omega)]
    · rw [u4 e]
      by_cases g : e = nu.toNat
      · rw [if_pos g, k1.2.2.1 e he, ← hs', su_n (by omega), g, su_e]
      · rw [if_neg g, k1.2.2.1 e he, ← hs', su_n (by omega), su_n (by omega), su_n (by omega)]
    · intro i hi hj
      rw [e3, c'] at hj
      have h140 : ∀ e : Nat, e < 18 → s (140 + e) ≤ s' (140 + e) := fun e he => by
        by_cases g : e = nu.toNat
        · rw [← hs', su_n (by omega), g, su_e]; omega
        · rw [← hs', su_n (by omega), su_n (by omega), su_n (by omega)]; exact Int.le_refl _
      by_cases g : i = (3 * s 3 + s 6).toNat
      · have e1 : s' (100 + i) = nu := by rw [← hs', su_n (by omega), su_n (by omega), g, su_e]
        rw [e1]
        refine ⟨⟨n0.1, n0.2⟩, ?_⟩
        rw [← hs', su_n (by omega), su_e]
        have := n1
        omega
      · have e1 : s' (100 + i) = s (100 + i) := by rw [← hs', su_n (by omega), su_n (by omega), su_n (by omega)]
        have q := k1.2.2.2 i hi (by omega)
        rw [e1]
        have := h140 (s (100 + i)).toNat (by omega)
        exact ⟨q.1, by omega⟩
  · unfold RP2 il ED at k2 ⊢
    rw [e4, e5, e3, e0, e6]
    refine ⟨fun l e q => ?_, fun l hl => ?_, fun a ha => ?_⟩
    · rw [f1 _ _ (by omega) (by omega), ne _ (by omega) (by omega)]
      exact k2.1 l e ⟨q.1, q.2.elim Or.inl (fun g => absurd g.2.1 (by omega))⟩
    · rw [ne _ (by omega) (by omega)]; exact k2.2.1 l hl
    · rw [ne _ (by omega) (by omega)]; exact k2.2.2 a ha
  · refine ⟨fun a ha => ?_, fun a i q => ?_⟩
    · rw [e5] at ha; rw [ne _ (by omega) (by omega), f1 _ _ (by omega) (by omega)]; exact k3.1 a ha
    · unfold iw at q
      rw [e0, e5, e6, ne (520 + a) (by omega) (by omega)] at q
      rw [ne _ (by omega) (by omega), ne _ (by omega) (by omega), f1 _ _ (by omega) (by omega), f1 _ _ (by omega) (by omega)]
      exact k3.2 a i ⟨q.1, q.2.elim Or.inl (fun g => absurd g.2.1 (by omega))⟩
/-- a PIECE's end -/
theorem MR_p {h : Int → Int} {s : RG} {z w z' w' : mZ} (hm : s 0 = 1) (h6 : s 6 = 3) (h4 : s 4 ≤ 0) (a0 : z' 225 23 = z 225 23 + 1) (a1 : ∀ i, 24 ≤ i → i ≤ 25 → z' 225 i = z 225 i) (f1 : ∀ a i, 229 ≤ a → a ≤ 234 → z' a i = z a i) (f2 : ∀ a i, 227 ≤ a → a ≤ 228 → w' a i = w a i) (k : MR h s z w) : MR h (su (su (su s 3 (s 3 + 1)) 6 0) 0 0) z' w' := by
  obtain ⟨k1, k2, k3⟩ := k
  generalize hs' : su (su (su s 3 (s 3 + 1)) 6 0) 0 0 = s'
  have ne : ∀ j, j ≠ 6 → j ≠ 3 → j ≠ 0 → s' j = s j := fun j h1 h2 h3 => by rw [← hs', su_n h3, su_n h1, su_n h2]
  have e0 : s' 0 = 0 := by rw [← hs', su_e]
  have e3 : s' 3 = s 3 + 1 := by rw [← hs', su_n (by omega), su_n (by omega), su_e]
  have e4 := ne 4 (by omega) (by omega) (by omega)
  have e5 := ne 5 (by omega) (by omega) (by omega)
  have c' : cs s' = 0 := by unfold cs; rw [e0, if_neg (by omega)]
  have c : cs s = 3 := by unfold cs; rw [if_pos hm]; exact h6
  have n : ∀ j, 100 ≤ j → s' j = s j := fun j h1 => ne j (by omega) (by omega) (by omega)
  refine ⟨?_, ?_, ?_⟩
  · unfold RP1 at k1 ⊢
    rw [e3, e4, e5, c', a0, a1 24 (by omega) (by omega), a1 25 (by omega) (by omega), show z' 229 = z 229 from funext fun i => f1 _ _ (by omega) (by omega), show z' 230 = z 230 from funext fun i => f1 _ _ (by omega) (by omega)]
    refine ⟨⟨by omega, k1.1.2⟩, fun i hi hj => ?_, fun e he => ?_, fun i hi hj => ?_⟩
    · rw [n _ (by omega)]; exact k1.2.1 i hi (by omega)
    · rw [n _ (by omega)]; exact k1.2.2.1 e he
    · rw [e3, c'] at hj
      have q := k1.2.2.2 i hi (by omega)
      rw [n _ (by omega), n _ (by omega)]; exact q
  · unfold RP2 at k2 ⊢
    rw [e4, e5, show w' 227 = w 227 from funext fun i => f2 _ _ (by omega) (by omega), show w' 228 = w 228 from funext fun i => f2 _ _ (by omega) (by omega)]
    refine ⟨fun l e q => ?_, fun l hl => ?_, fun a ha => ?_⟩
    · unfold il at q
      rw [e4, e0] at q
      rcases q.2 with g | g
      · have := g.1; omega
      · have := g.2.1; omega
    · rw [n _ (by omega)]; exact k2.2.1 l hl
    · rw [n _ (by omega)]; exact k2.2.2 a ha
  · refine ⟨fun a ha => ?_, fun a i q => ?_⟩
    · rw [e5] at ha; rw [n _ (by omega), f1 _ _ (by omega) (by omega)]; exact k3.1 a ha
    · unfold iw at q
      rw [e0, e5, n (520 + a) (by omega)] at q
      rw [n _ (by omega), n _ (by omega), f1 _ _ (by omega) (by omega), f1 _ _ (by omega) (by omega)]
      exact k3.2 a i ⟨q.1, q.2.elim Or.inl (fun g => absurd g.2.1 (by omega))⟩
/-- a LINE's number -/
theorem MR_n {h : Int → Int} {s : RG} {z w z' w' : mZ} {nu : Int} (hm : s 0 = 7) (h6 : 0 ≤ s 6 ∧ s 6 < 18) (h4 : 0 ≤ s 4 ∧ s 4 ≤ 7) (a0 : ∀ i, 23 ≤ i → i ≤ 25 → z' 225 i = z 225 i) (u : ∀ i : Nat, z' 231 i = if i = (18 * s 4 + s 6).toNat then nu else z 231 i) (f1 : ∀ a i, 229 ≤ a → a ≤ 234 → a ≠ 231 → z' a i = z a i) (f2 : ∀ a i, 227 ≤ a → a ≤ 228 → w' a i = w a i) (k : MR h s z w) : MR h (su (su s (200 + (18 * s 4 + s 6).toNat) nu) 6 (s 6 + 1)) z' w' := by
  obtain ⟨k1, k2, k3⟩ := k
  generalize hs' : su (su s (200 + (18 * s 4 + s 6).toNat) nu) 6 (s 6 + 1) = s'
  have n : ∀ j, j ≠ 6 → (j < 200 ∨ 344 ≤ j) → s' j = s j := fun j h1 h2 => by rw [← hs', su_n h1, su_n (by omega)]
  have e0 := n 0 (by omega) (by omega)
  have e6 : s' 6 = s 6 + 1 := by rw [← hs', su_e]
  have e3 := n 3 (by omega) (by omega)
  have e4 := n 4 (by omega) (by omega)
  have e5 := n 5 (by omega) (by omega)
  have c' : cs s' = cs s := by unfold cs; rw [e0, if_neg (by omega), if_neg (by omega)]
  refine ⟨?_, ?_, ?_⟩
  · unfold RP1 at k1 ⊢
    rw [e3, e4, e5, c', a0 23 (by omega) (by omega), a0 24 (by omega) (by omega), a0 25 (by omega) (by omega), show z' 229 = z 229 from funext fun i => f1 _ _ (by omega) (by omega) (by omega), show z' 230 = z 230 from funext fun i => f1 _ _ (by omega) (by omega) (by omega)]
    exact ⟨k1.1, fun i hi hj => (k1.2.1 i hi hj).trans (n _ (by omega) (by omega)).symm, fun e he => (k1.2.2.1 e he).trans (n _ (by omega) (by omega)).symm, TI_c e3 c' (fun j h1 h2 => n j (by omega) (by omega)) k1.2.2.2⟩
  · unfold RP2 il ED at k2 ⊢
    rw [e3, e4, e5, e0, e6, show w' 227 = w 227 from funext fun i => f2 _ _ (by omega) (by omega), show w' 228 = w 228 from funext fun i => f2 _ _ (by omega) (by omega)]
    refine ⟨fun l e q => ?_, fun l hl => ?_, fun a ha => ?_⟩
    · rw [u]
      by_cases g : 18 * l + e = (18 * s 4 + s 6).toNat
      · rw [if_pos g, ← hs', su_n (by omega), show 200 + 18 * l + e = 200 + (18 * s 4 + s 6).toNat by omega, su_e]
      · rw [if_neg g, ← hs', su_n (by omega), su_n (by omega)]
        refine k2.1 l e ⟨q.1, q.2.elim Or.inl (fun g2 => Or.inr ⟨g2.1, hm, ?_⟩)⟩
        have g3 := g2.1
        have g4 := g2.2.2
        omega
    · rw [n _ (by omega) (by omega)]; exact k2.2.1 l hl
    · rw [n _ (by omega) (by omega)]; exact k2.2.2 a ha
  · refine ⟨fun a ha => ?_, fun a i q => ?_⟩
    · rw [e5] at ha; rw [n _ (by omega) (by omega), f1 _ _ (by omega) (by omega) (by omega)]; exact k3.1 a ha
    · unfold iw at q
      rw [e0, e5, n (520 + a) (by omega) (by omega)] at q
      rw [n _ (by omega) (by omega), n _ (by omega) (by omega), f1 _ _ (by omega) (by omega) (by omega), f1 _ _ (by omega) (by omega) (by omega)]
      exact k3.2 a i ⟨q.1, q.2.elim Or.inl (fun g => absurd g.2.1 (by omega))⟩
/-- a LINE's end -/
theorem MR_l {h : Int → Int} {s : RG} {z w z' w' : mZ} (hm : s 0 = 7) (h4 : 0 ≤ s 4 ∧ s 4 ≤ 7) (h6 : ED s ≤ s 6) (a0 : z' 225 24 = z 225 24 + 1) (a3 : z' 225 23 = z 225 23) (a5 : z' 225 25 = z 225 25) (f1 : ∀ a i, 229 ≤ a → a ≤ 234 → z' a i = z a i) (u : ∀ e : Nat, w' 227 e = if e = (s 4).toNat then tkW8 h (s 7) else w 227 e) (f2 : ∀ i, w' 228 i = w 228 i) (k : MR h s z w) : MR h (fin7 s) z' w' := by
  obtain ⟨k1, k2, k3⟩ := k
  generalize hs' : fin7 s = s'
  unfold fin7 at hs'
  have n : ∀ j, j ≠ 6 → j ≠ 0 → j ≠ 4 → j ≠ 400 + (s 4).toNat → s' j = s j := fun j h1 h2 h3 h4 => by rw [← hs', su_n h2, su_n h1, su_n h3, su_n h4]
  have e0 : s' 0 = 0 := by rw [← hs', su_e]
  have e4 : s' 4 = s 4 + 1 := by rw [← hs', su_n (by omega), su_n (by omega), su_e]
  have e40 : s' (400 + (s 4).toNat) = s 7 := by rw [← hs', su_n (by omega), su_n (by omega), su_n (by omega), su_e]
  have e5 := n 5 (by omega) (by omega) (by omega) (by omega)
  have e3 := n 3 (by omega) (by omega) (by omega) (by omega)
  have c' : cs s' = cs s := by unfold cs; rw [e0, if_neg (by omega), if_neg (by omega)]
  refine ⟨?_, ?_, ?_⟩
  · unfold RP1 at k1 ⊢
    rw [e3, e4, e5, c', a0, a3, a5, show z' 229 = z 229 from funext fun i => f1 _ _ (by omega) (by omega), show z' 230 = z 230 from funext fun i => f1 _ _ (by omega) (by omega)]
    exact ⟨⟨k1.1.1, by omega, k1.1.2.2⟩, fun i hi hj => (k1.2.1 i hi hj).trans (n _ (by omega) (by omega) (by omega) (by omega)).symm, fun e he => (k1.2.2.1 e he).trans (n _ (by omega) (by omega) (by omega) (by omega)).symm, TI_c e3 c' (fun j h1 h2 => n j (by omega) (by omega) (by omega) (by omega)) k1.2.2.2⟩
  · unfold RP2 il ED at k2 ⊢
    rw [e3, e4, e5, e0, show w' 228 = w 228 from funext f2]
    refine ⟨fun l e q => ?_, fun l hl => ?_, fun a ha => ?_⟩
    · rw [f1 _ _ (by omega) (by omega), n _ (by omega) (by omega) (by omega) (by omega)]
      refine k2.1 l e ⟨q.1, ?_⟩
      rcases q.2 with g | g
      · by_cases c : (l : Int) = s 4
        · exact Or.inr ⟨c, hm, by have := g.2; unfold ED at h6; omega⟩
        · exact Or.inl ⟨by have := g.1; omega, g.2⟩
      · have := g.2.1; omega
    · by_cases g : l = (s 4).toNat
      · rw [u l, if_pos g, g, e40]
      · rw [u l, if_neg g, n _ (by omega) (by omega) (by omega) (by omega)]; exact k2.2.1 l (by omega)
    · rw [n _ (by omega) (by omega) (by omega) (by omega)]; exact k2.2.2 a ha
  · refine ⟨fun a ha => ?_, fun a i q => ?_⟩
    · rw [e5] at ha; rw [n _ (by omega) (by omega) (by omega) (by omega), f1 _ _ (by omega) (by omega)]; exact k3.1 a ha
    · unfold iw at q
      rw [e0, e5, n (520 + a) (by omega) (by omega) (by omega) (by omega)] at q
      rw [n _ (by omega) (by omega) (by omega) (by omega), n _ (by omega) (by omega) (by omega) (by omega), f1 _ _ (by omega) (by omega), f1 _ _ (by omega) (by omega)]
      exact k3.2 a i ⟨q.1, q.2.elim Or.inl (fun g => absurd g.2.1 (by omega))⟩
/-- a TWIST told -/
theorem MR_t {h : Int → Int} {s : RG} {z w z' w' : mZ} {v : Int} (hm : s 0 = 11 ∨ s 0 = 12) (h5 : 0 ≤ s 5 ∧ s 5 ≤ 5) (h6 : 0 ≤ s 6 ∧ s 6 ≤ 7) (h4 : s 4 ≤ 8) (a0 : ∀ i, 23 ≤ i → i ≤ 25 → z' 225 i = z 225 i) (f1 : ∀ a i, 229 ≤ a → a ≤ 234 → a ≠ 232 → a ≠ 233 → z' a i = z a i) (u1 : ∀ i : Nat, z' 232 i = if i = (8 * s 5 + s 6).toNat then s 8 else z 232 i) (u2 : ∀ i : Nat, z' 233 i = if i = (8 * s 5 + s 6).toNat then v else z 233 i) (f2 : ∀ a i, 227 ≤ a → a ≤ 228 → w' a i = w a i) (k : MR h s z w) : MR h (adt s v) z' w' := by
  obtain ⟨k1, k2, k3⟩ := k
  generalize hs' : adt s v = s'
  unfold adt at hs'
  have n : ∀ j, j ≠ 6 → j ≠ 0 → j ≠ 420 + (8 * s 5 + s 6).toNat → j ≠ 470 + (8 * s 5 + s 6).toNat → s' j = s j := fun j h1 h2 h3 h4 => by rw [← hs', su_n h2, su_n h1, su_n h4, su_n h3]
  have e0 : s' 0 = 10 := by rw [← hs', su_e]
  have e6 : s' 6 = s 6 + 1 := by rw [← hs', su_n (by omega), su_e]
  have ea : s' (420 + (8 * s 5 + s 6).toNat) = s 8 := by rw [← hs', su_n (by omega), su_n (by omega), su_n (by omega), su_e]
  have eb : s' (470 + (8 * s 5 + s 6).toNat) = v := by rw [← hs', su_n (by omega), su_n (by omega), su_e]
  have e5 := n 5 (by omega) (by omega) (by omega) (by omega)
  have e4 := n 4 (by omega) (by omega) (by omega) (by omega)
  have e3 := n 3 (by omega) (by omega) (by omega) (by omega)
  have c' : cs s' = cs s := by unfold cs; rw [e0, if_neg (by omega), if_neg (by omega)]
  refine ⟨?_, ?_, ?_⟩
  · unfold RP1 at k1 ⊢
    rw [e3, e4, e5, c', a0 23 (by omega) (by omega), a0 24 (by omega) (by omega), a0 25 (by omega) (by omega), show z' 229 = z 229 from funext fun i => f1 _ _ (by omega) (by omega) (by omega) (by omega), show z' 230 = z 230 from funext fun i => f1 _ _ (by omega) (by omega) (by omega) (by omega)]
    exact ⟨k1.1, fun i hi hj => (k1.2.1 i hi hj).trans (n _ (by omega) (by omega) (by omega) (by omega)).symm, fun e he => (k1.2.2.1 e he).trans (n _ (by omega) (by omega) (by omega) (by omega)).symm, TI_c e3 c' (fun j h1 h2 => n j (by omega) (by omega) (by omega) (by omega)) k1.2.2.2⟩
  · unfold RP2 il ED at k2 ⊢
    rw [e3, e4, e5, e0, show w' 227 = w 227 from funext fun i => f2 _ _ (by omega) (by omega), show w' 228 = w 228 from funext fun i => f2 _ _ (by omega) (by omega)]
    refine ⟨fun l e q => ?_, fun l hl => ?_, fun a ha => ?_⟩
    · rw [f1 _ _ (by omega) (by omega) (by omega) (by omega), n _ (by omega) (by omega) (by omega) (by omega)]
      exact k2.1 l e ⟨q.1, q.2.elim Or.inl (fun g => absurd g.2.1 (by omega))⟩
    · rw [n _ (by omega) (by omega) (by omega) (by omega)]; exact k2.2.1 l hl
    · rw [n _ (by omega) (by omega) (by omega) (by omega)]; exact k2.2.2 a ha
  · refine ⟨fun a ha => ?_, fun a i q => ?_⟩
    · rw [e5] at ha; rw [n _ (by omega) (by omega) (by omega) (by omega), f1 _ _ (by omega) (by omega) (by omega) (by omega)]; exact k3.1 a ha
    · unfold iw at q
      rw [e0, e5, e6, n (520 + a) (by omega) (by omega) (by omega) (by omega)] at q
      rw [u1, u2]
      by_cases g : 8 * a + i = (8 * s 5 + s 6).toNat
      · rw [if_pos g, if_pos g, show 420 + 8 * a + i = 420 + (8 * s 5 + s 6).toNat by omega, show 470 + 8 * a + i = 470 + (8 * s 5 + s 6).toNat by omega, ea, eb]
        exact ⟨rfl, rfl⟩
      · rw [if_neg g, if_neg g, n _ (by omega) (by omega) (by omega) (by omega), n _ (by omega) (by omega) (by omega) (by omega)]
        refine k3.2 a i ⟨q.1, q.2.elim Or.inl (fun g2 => Or.inr ⟨g2.1, by omega, ?_⟩)⟩
        have g3 := g2.1
        have g4 := g2.2.2
        omega
/-- a WORD's end -/
theorem MR_w {h : Int → Int} {s : RG} {z w z' w' : mZ} (hm : s 0 = 10) (h4 : s 4 ≤ 8) (h5 : 0 ≤ s 5 ∧ s 5 ≤ 5) (a0 : z' 225 25 = z 225 25 + 1) (a3 : z' 225 23 = z 225 23) (a5 : z' 225 24 = z 225 24) (f1 : ∀ a i, 229 ≤ a → a ≤ 233 → z' a i = z a i) (u1 : ∀ e : Nat, z' 234 e = if e = (s 5).toNat then s 6 else z 234 e) (u : ∀ e : Nat, w' 228 e = if e = (s 5).toNat then tkW8 h (s 7) else w 228 e) (f2 : ∀ i, w' 227 i = w 227 i) (k : MR h s z w) : MR h (fin10 s) z' w' := by
  obtain ⟨k1, k2, k3⟩ := k
  generalize hs' : fin10 s = s'
  unfold fin10 at hs'
  have n : ∀ j, j ≠ 6 → j ≠ 0 → j ≠ 5 → j ≠ 410 + (s 5).toNat → j ≠ 520 + (s 5).toNat → s' j = s j := fun j h1 h2 h3 h4 h5 => by rw [← hs', su_n h2, su_n h1, su_n h3, su_n h5, su_n h4]
  have e0 : s' 0 = 0 := by rw [← hs', su_e]
  have e5 : s' 5 = s 5 + 1 := by rw [← hs', su_n (by omega), su_n (by omega), su_e]
  have ea : s' (410 + (s 5).toNat) = s 7 := by rw [← hs', su_n (by omega), su_n (by omega), su_n (by omega), su_n (by omega), su_e]
  have eb : s' (520 + (s 5).toNat) = s 6 := by rw [← hs', su_n (by omega), su_n (by omega), su_n (by omega), su_e]
  have e4 := n 4 (by omega) (by omega) (by omega) (by omega) (by omega)
  have e3 := n 3 (by omega) (by omega) (by omega) (by omega) (by omega)
  have c' : cs s' = cs s := by unfold cs; rw [e0, if_neg (by omega), if_neg (by omega)]
  refine ⟨?_, ?_, ?_⟩
  · unfold RP1 at k1 ⊢
    rw [e3, e4, e5, c', a0, a3, a5, show z' 229 = z 229 from funext fun i => f1 _ _ (by omega) (by omega), show z' 230 = z 230 from funext fun i => f1 _ _ (by omega) (by omega)]
    exact ⟨⟨k1.1.1, k1.1.2.1, by omega⟩, fun i hi hj => (k1.2.1 i hi hj).trans (n _ (by omega) (by omega) (by omega) (by omega) (by omega)).symm, fun e he => (k1.2.2.1 e he).trans (n _ (by omega) (by omega) (by omega) (by omega) (by omega)).symm, TI_c e3 c' (fun j h1 h2 => n j (by omega) (by omega) (by omega) (by omega) (by omega)) k1.2.2.2⟩
  · unfold RP2 il ED at k2 ⊢
    rw [e3, e4, e5, e0, show w' 227 = w 227 from funext f2]
    refine ⟨fun l e q => ?_, fun l hl => ?_, fun a ha => ?_⟩
    · rw [f1 _ _ (by omega) (by omega), n _ (by omega) (by omega) (by omega) (by omega) (by omega)]
      exact k2.1 l e ⟨q.1, q.2.elim Or.inl (fun g => absurd g.2.1 (by omega))⟩
    · rw [n _ (by omega) (by omega) (by omega) (by omega) (by omega)]; exact k2.2.1 l hl
    · by_cases g : a = (s 5).toNat
      · rw [u a, if_pos g, g, ea]
      · rw [u a, if_neg g, n _ (by omega) (by omega) (by omega) (by omega) (by omega)]; exact k2.2.2 a (by omega)
  · refine ⟨fun a ha => ?_, fun a i q => ?_⟩
    · rw [e5] at ha
      by_cases g : a = (s 5).toNat
      · rw [u1 a, if_pos g, g, eb]
      · rw [u1 a, if_neg g, n _ (by omega) (by omega) (by omega) (by omega) (by omega)]; exact k3.1 a (by omega)
    · unfold iw at q
      rw [e0, e5] at q
      rw [n _ (by omega) (by omega) (by omega) (by omega) (by omega), n _ (by omega) (by omega) (by omega) (by omega) (by omega), f1 _ _ (by omega) (by omega), f1 _ _ (by omega) (by omega)]
      refine k3.2 a i ⟨q.1, ?_⟩
      rcases q.2 with g | g
      · by_cases g2 : a = (s 5).toNat
        · rw [g2, eb] at g
          exact Or.inr ⟨by omega, by omega, by omega⟩
        · rw [n _ (by omega) (by omega) (by omega) (by omega) (by omega)] at g
          exact Or.inl ⟨by omega, g.2⟩
      · exact absurd g.2.1 (by omega)
end

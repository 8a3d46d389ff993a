/-! methods, printed by wip/tools/vcg.py -/
/-- LoopGroundModel layShort -/
abbrev S_201  : mS := [(250, 250, 0, 7), (249, 249, 0, 7), (252, 252, 0, 7), (251, 251, 0, 7)]
abbrev E_201 (a1 : Int) (z0 w0 : mZ) (x y tx it mt tt ct : Option Nat) : mZ → mZ → mP → Prop := fun z w p => p = (pq x y tx it mt tt ct) ∧ (((∃ u v, u < 3 * (z0 225 26).toNat ∧ v < 3 * (z0 225 26).toNat ∧ u ≠ v ∧ CO (vT (z0 255)) (nS z0) u ∧ CO (vT (z0 255)) (nS z0) v) → ∃ u v : Nat, u < 3 * (z0 225 26).toNat ∧ v < 3 * (z0 225 26).toNat ∧ u ≠ v ∧ CO (vT (z0 255)) (nS z0) u ∧ CO (vT (z0 255)) (nS z0) v ∧ z 251 a1.toNat = z0 255 u ∧ z 252 a1.toNat = z0 255 v ∧ z 250 a1.toNat = z0 255 (bh v) ∧ z 249 a1.toNat = z0 255 (ah v)) ∧ ∀ j : Nat, j ≠ a1.toNat → z 249 j = z0 249 j ∧ z 250 j = z0 250 j ∧ z 251 j = z0 251 j ∧ z 252 j = z0 252 j)
theorem m_201 {d : Nat} {z0 w0 : mZ} {x y tx it mt tt ct : Option Nat} (a1 : Int) (hz : rz z0) (hw : rw_ w0) (ha1 : 0 ≤ a1 ∧ a1 ≤ 7) (hly : LY (z0 225 26) (rE z0) (z0 255)) (hs1 : ∀ e : Nat, (e : Int) < rE z0 → nS z0 e ≤ 1) : wc (d + 2) 201 [.ref 225, .int (Int32.ofInt a1)] (mk z0 w0 (pq x y tx it mt tt ct)) (poV S_201 z0 w0 (E_201 a1 z0 w0 x y tx it mt tt ct)) := by
  have hst : st_ S_201 z0 w0 z0 w0 := st_rf hz hw
  have hz47 := rd_225_26 hz
  have hm26 := rd_225_26 hz
  have hrE : rE z0 = 3 * z0 225 26 / 2 := rfl
  have key : ∀ N : Nat, (∀ (x2 x3 : Int) (z w : mZ), 0 ≤ x2 ∧ x2 ≤ 1 → 0 ≤ x3 ∧ x3 ≤ 12 → st_ S_201 z0 w0 z w → (NBQ (z0 255) (nS z0) x2 x3 (z 251 a1.toNat) (z 252 a1.toNat) (z 249 a1.toNat) (z 250 a1.toNat)) → (x3 ≤ z0 225 26) → (∀ j : Nat, j ≠ a1.toNat → z 249 j = z0 249 j ∧ z 250 j = z0 250 j ∧ z 251 j = z0 251 j ∧ z 252 j = z0 252 j) → 3914 * (12 - x3) + 3909 < (N : Int) → wp_ (d + 1) 201 6 none (4, [(0, .ref 225), (1, .int (Int32.ofInt a1)), (2, .int (Int32.ofInt x2)), (3, .int (Int32.ofInt x3))], [], mk z w (pq x y tx it mt tt ct)) (poV S_201 z0 w0 (E_201 a1 z0 w0 x y tx it mt tt ct))) ∧ (∀ (x2 x3 x5 : Int) (z w : mZ), 0 ≤ x2 ∧ x2 ≤ 1 → 0 ≤ x3 ∧ x3 ≤ 11 → 0 ≤ x5 ∧ x5 ≤ 35 → 1 ≤ z0 225 26 ∧ z0 225 26 ≤ 12 → st_ S_201 z0 w0 z w → (NBQ (z0 255) (nS z0) x2 x3 (z 251 a1.toNat) (z 252 a1.toNat) (z 249 a1.toNat) (z 250 a1.toNat)) → (x3 < z0 225 26 ∧ 3 * x3 ≤ x5 ∧ x5 ≤ 3 * x3 + 2) → ((z0 256 (z0 255 (3 * x3).toNat).toNat + z0 256 (z0 255 (3 * x3 + 1).toNat).toNat + z0 256 (z0 255 (3 * x3 + 2).toNat).toNat = 2)) → (∀ k : Nat, 3 * x3 ≤ (k : Int) → (k : Int) < x5 → 0 < z0 256 (z0 255 k).toNat) → (∀ j : Nat, j ≠ a1.toNat → z 249 j = z0 249 j ∧ z 250 j = z0 250 j ∧ z 251 j = z0 251 j ∧ z 252 j = z0 252 j) → 3914 * (12 - x3) + 103 * (35 - x5) + 52 < (N : Int) → wp_ (d + 1) 201 6 none (73, [(0, .ref 225), (1, .int (Int32.ofInt a1)), (2, .int (Int32.ofInt x2)), (3, .int (Int32.ofInt x3)), (5, .int (Int32.ofInt x5))], [], mk z w (pq x y tx it mt tt ct)) (poV S_201 z0 w0 (E_201 a1 z0 w0 x y tx it mt tt ct))) := by
    intro N
    induction N with
    | zero =>
      refine ⟨?_, ?_⟩
      · intro x2 x3 z w
        intros; exfalso; omega
      · intro x2 x3 x5 z w
        intros; exfalso; omega
    | succ N ih =>
      obtain ⟨ih0, ih1⟩ := ih
      refine ⟨?_, ?_⟩
      · intro x2 x3 z w  hx2 hx3 hst as1 as2 as5 hM
        refine r_ld (pc' := 5) rfl rfl rfl rfl ?_
        refine r_ld (pc' := 6) rfl rfl rfl rfl ?_
        have hb48 := rd_225_26 hz
        refine r_gi (pc' := 9) rfl rfl sh_225 rfl (hst.2.2.1 _ _ (notS_c (by omega) (notS_c (by omega) (notS_c (by omega) (notS_c (by omega) notS_n))))) ?_
        refine r_ige (pc' := 12) rfl rfl ⟨by omega, by omega⟩ ⟨by omega, by omega⟩ (fun hc49 => ?_) (fun hc49 => ?_)
        · skip
          exact r_ret rfl (po_V hst ⟨rfl, (by exact ⟨NBQ_e as1 (by omega) (by omega) (by omega), as5⟩)⟩)
        · skip
          refine r_ld (pc' := 13) rfl rfl rfl rfl ?_
          have n0 := nS_T hly (s := (3 * x3).toNat) (by omega)
          have n1 := nS_T hly (s := (3 * x3 + 1).toNat) (by omega)
          have n2 := nS_T hly (s := (3 * x3 + 2).toNat) (by omega)
          have t0 : (3 * x3).toNat = 3 * x3.toNat := by omega
          have t1 : (3 * x3 + 1).toNat = 3 * x3.toNat + 1 := by omega
          have t2 : (3 * x3 + 2).toNat = 3 * x3.toNat + 2 := by omega
          refine r_gr (b := 256) (pc' := 16) rfl rfl sh_225 rfl pp_225_52 ?_
          refine r_ld (pc' := 17) rfl rfl rfl rfl ?_
          refine r_gr (b := 255) (pc' := 20) rfl rfl sh_225 rfl pp_225_51 ?_
          refine r_c0 (pc' := 21) rfl rfl ?_
          refine r_ld (pc' := 22) rfl rfl rfl rfl ?_
          refine r_mul (pc' := 23) rfl rfl ?_
          have hb50 := rd_255 hz (i := (3 * x3).toNat) (by omega)
          refine r_ia (pc' := 24) rfl rfl sh_255 rfl (by omega) (by omega) (hst.2.2.1 _ _ (notS_c (by omega) (notS_c (by omega) (notS_c (by omega) (notS_c (by omega) notS_n))))) ?_
          have hb51 := rd_256 hz (i := (z0 255 (3 * x3).toNat).toNat) (by omega)
          refine r_ia (pc' := 25) rfl rfl sh_256 rfl (by omega) (by omega) (hst.2.2.1 _ _ (notS_c (by omega) (notS_c (by omega) (notS_c (by omega) (notS_c (by omega) notS_n))))) ?_
          refine r_ld (pc' := 26) rfl rfl rfl rfl ?_
          refine r_gr (b := 256) (pc' := 29) rfl rfl sh_225 rfl pp_225_52 ?_
          refine r_ld (pc' := 30) rfl rfl rfl rfl ?_
          refine r_gr (b := 255) (pc' := 33) rfl rfl sh_225 rfl pp_225_51 ?_
          refine r_c0 (pc' := 34) rfl rfl ?_
          refine r_ld (pc' := 35) rfl rfl rfl rfl ?_
          refine r_mul (pc' := 36) rfl rfl ?_
          refine r_c0 (pc' := 37) rfl rfl ?_
          refine r_add (pc' := 38) rfl rfl ?_
          have hb52 := rd_255 hz (i := ((3 * x3) + 1).toNat) (by omega)
          refine r_ia (pc' := 39) rfl rfl sh_255 rfl (by omega) (by omega) (hst.2.2.1 _ _ (notS_c (by omega) (notS_c (by omega) (notS_c (by omega) (notS_c (by omega) notS_n))))) ?_
          have hb53 := rd_256 hz (i := (z0 255 ((3 * x3) + 1).toNat).toNat) (by omega)
          refine r_ia (pc' := 40) rfl rfl sh_256 rfl (by omega) (by omega) (hst.2.2.1 _ _ (notS_c (by omega) (notS_c (by omega) (notS_c (by omega) (notS_c (by omega) notS_n))))) ?_
          refine r_add (pc' := 41) rfl rfl ?_
          refine r_ld (pc' := 42) rfl rfl rfl rfl ?_
          refine r_gr (b := 256) (pc' := 45) rfl rfl sh_225 rfl pp_225_52 ?_
          refine r_ld (pc' := 46) rfl rfl rfl rfl ?_
          refine r_gr (b := 255) (pc' := 49) rfl rfl sh_225 rfl pp_225_51 ?_
          refine r_c0 (pc' := 50) rfl rfl ?_
          refine r_ld (pc' := 51) rfl rfl rfl rfl ?_
          refine r_mul (pc' := 52) rfl rfl ?_
          refine r_c0 (pc' := 53) rfl rfl ?_
          refine r_add (pc' := 54) rfl rfl ?_
          have hb54 := rd_255 hz (i := ((3 * x3) + 2).toNat) (by omega)
          refine r_ia (pc' := 55) rfl rfl sh_255 rfl (by omega) (by omega) (hst.2.2.1 _ _ (notS_c (by omega) (notS_c (by omega) (notS_c (by omega) (notS_c (by omega) notS_n))))) ?_
          have hb55 := rd_256 hz (i := (z0 255 ((3 * x3) + 2).toNat).toNat) (by omega)
          refine r_ia (pc' := 56) rfl rfl sh_256 rfl (by omega) (by omega) (hst.2.2.1 _ _ (notS_c (by omega) (notS_c (by omega) (notS_c (by omega) (notS_c (by omega) notS_n))))) ?_
          refine r_add (pc' := 57) rfl rfl ?_
          refine r_st (pc' := 59) (lv' := [(4, _), (0, _), (1, _), (2, _), (3, _)]) rfl rfl rfl rfl ?_
          refine r_ld (pc' := 61) rfl rfl rfl rfl ?_
          refine r_c0 (pc' := 62) rfl rfl ?_
          refine r_ieq (pc' := 65) rfl rfl ⟨by omega, by omega⟩ ⟨by decide, by decide⟩ (fun hc56 => ?_) (fun hc56 => ?_)
          · skip
            refine r_c0 (pc' := 69) rfl rfl ?_
            refine r_ld (pc' := 70) rfl rfl rfl rfl ?_
            refine r_mul (pc' := 71) rfl rfl ?_
            refine r_st (pc' := 73) (lv' := [(5, _), (4, _), (0, _), (1, _), (2, _), (3, _)]) rfl rfl rfl rfl ?_
            exact w_lv (sub_c rfl (sub_c rfl (sub_c rfl (sub_c rfl (sub_c rfl sub_n))))) rfl (ih1 x2 x3 (3 * x3) z w ⟨by omega, by omega⟩ ⟨by omega, by omega⟩ ⟨by omega, by omega⟩ ⟨by omega, by omega⟩ hst (by exact as1) (by first | omega | assumption) (by first | omega | assumption) (by first | (intro k g0 g1; exfalso; omega) | (intro k g0 g1; by_cases c : k = x5.toNat; (subst c; omega); exact as4 k g0 (by omega))) (by exact as5) (by omega))
          · skip
            refine r_go rfl ?_
            refine r_inc (pc' := 163) (lv' := [(4, _), (0, _), (1, _), (2, _)]) rfl rfl rfl rfl rfl ?_
            refine r_go rfl ?_
            exact w_lv (sub_c rfl (sub_c rfl (sub_c rfl (sub_c rfl sub_n)))) rfl (ih0 x2 (x3 + 1) z w ⟨by omega, by omega⟩ ⟨by omega, by omega⟩ hst (by first | exact NBQ_0 | exact NBQ_n as1 (fun u g0 g1 c => by have q := co_sum c (p := x3.toNat) (by omega) (by omega); rw [← t1, ← t2, ← t0, n0, n1, n2] at q; omega) | exact NBQ_s (s := x5.toNat) as1 (by omega) (by omega) (by omega) hco.1 (fun u g0 g1 c => hco.2 u (by omega) (by omega) c) (by first | (rw [show z 251 a1.toNat = NOMARK 251 a1.toNat from NOMARK, hqA, mu_eq, if_pos (by omega)]) | (rw [if_neg (by omega)]; exact rfl)) (by rw [hqB]; exact mu_eq) (by rw [show z 250 a1.toNat = NOMARK 250 a1.toNat from NOMARK, hqF, mu_eq, h106]) (by rw [show z 249 a1.toNat = NOMARK 249 a1.toNat from NOMARK, hqE, mu_eq, h123])) (by first | omega | assumption) (by first | exact as5 | exact fun j hj => ⟨rfl, rfl, rfl, rfl⟩ | exact fun j hj => ⟨(rfl).trans (as5 j hj).1, (rfl).trans (as5 j hj).2.1, (rfl).trans (as5 j hj).2.2.1, (rfl).trans (as5 j hj).2.2.2⟩) (by omega))
      · intro x2 x3 x5 z w  hx2 hx3 hx5 hz0_0 hst as1 as2 as3 as4 as5 hM
        have n0 := nS_T hly (s := (3 * x3).toNat) (by omega)
        have n1 := nS_T hly (s := (3 * x3 + 1).toNat) (by omega)
        have n2 := nS_T hly (s := (3 * x3 + 2).toNat) (by omega)
        have t0 : (3 * x3).toNat = 3 * x3.toNat := by omega
        have t1 : (3 * x3 + 1).toNat = 3 * x3.toNat + 1 := by omega
        have t2 : (3 * x3 + 2).toNat = 3 * x3.toNat + 2 := by omega
        have hv3 : ∀ k, k < 3 → 0 ≤ nS z0 (vT (z0 255) (3 * x3.toNat + k)) ∧ nS z0 (vT (z0 255) (3 * x3.toNat + k)) ≤ 1 := (fun k hk => by have q := nS_T hly (s := 3 * x3.toNat + k) (by omega); have r := hly.2.2.2.1 (3 * x3.toNat + k) (by omega); have o := hs1 (vT (z0 255) (3 * x3.toNat + k)) (by show (((z0 255 (3 * x3.toNat + k)).toNat : Nat) : Int) < _; omega); exact ⟨by rw [q]; exact (rd_256 hz (i := (z0 255 (3 * x3.toNat + k)).toNat) (by omega)).1, o⟩)
        have hval := co_mk (T := vT (z0 255)) (n := nS z0) (p := x3.toNat) (s := x5.toNat) hv3 (by rw [← t1, ← t2, ← t0, n0, n1, n2]; exact as3) (by omega) (by omega)
        have n5 := nS_T hly (s := x5.toNat) (by omega)
        have hw0 := hv3 0 (by omega)
        have hw1 := hv3 1 (by omega)
        have hw2 := hv3 2 (by omega)
        rw [Nat.add_zero, ← t0, n0] at hw0
        rw [← t1, n1] at hw1
        rw [← t2, n2] at hw2
        refine r_ld (pc' := 74) rfl rfl rfl rfl ?_
        refine r_gr (b := 256) (pc' := 77) rfl rfl sh_225 rfl pp_225_52 ?_
        refine r_ld (pc' := 78) rfl rfl rfl rfl ?_
        refine r_gr (b := 255) (pc' := 81) rfl rfl sh_225 rfl pp_225_51 ?_
        refine r_ld (pc' := 83) rfl rfl rfl rfl ?_
        have hb57 := rd_255 hz (i := x5.toNat) (by omega)
        refine r_ia (pc' := 84) rfl rfl sh_255 rfl (by omega) (by omega) (hst.2.2.1 _ _ (notS_c (by omega) (notS_c (by omega) (notS_c (by omega) (notS_c (by omega) notS_n))))) ?_
        have hb58 := rd_256 hz (i := (z0 255 x5.toNat).toNat) (by omega)
        refine r_ia (pc' := 85) rfl rfl sh_256 rfl (by omega) (by omega) (hst.2.2.1 _ _ (notS_c (by omega) (notS_c (by omega) (notS_c (by omega) (notS_c (by omega) notS_n))))) ?_
        refine r_zle (pc' := 88) rfl rfl ⟨by omega, by omega⟩ (fun hc59 => ?_) (fun hc59 => ?_)
        · skip
          refine r_ld (pc' := 95) rfl rfl rfl rfl ?_
          refine r_gr (b := 250) (pc' := 98) rfl rfl sh_225 rfl pp_225_46 ?_
          refine r_ld (pc' := 99) rfl rfl rfl rfl ?_
          refine r_ld (pc' := 100) rfl rfl rfl rfl ?_
          refine r_gr (b := 255) (pc' := 103) rfl rfl sh_225 rfl pp_225_51 ?_
          refine r_ld (pc' := 105) rfl rfl rfl rfl ?_
          refine r_c0 (pc' := 106) rfl rfl ?_
          refine r_cSI (pc' := 109) rfl rfl rfl rfl rfl (m_177v (d := d) x5 1 hst.1 hst.2.1 ⟨by omega, by omega⟩ ⟨by omega, by omega⟩) (fun v60 z61 w62 p63 h64 hs65 hE66 => ?_)
          obtain ⟨rfl, rfl, rfl, hE66⟩ := hE66
          have h106 := (hE66.2.2).1 rfl
          have hb68 := rd_255 hz (i := v60.toNat) (by omega)
          refine r_ia (pc' := 110) rfl rfl sh_255 rfl (by omega) (by omega) (hst.2.2.1 _ _ (notS_c (by omega) (notS_c (by omega) (notS_c (by omega) (notS_c (by omega) notS_n))))) ?_
          refine r_is (pc' := 111) rfl rfl sh_250 rfl (by omega) (by omega) hst (inS_0 (by omega) (by omega) (by omega) (by omega)) (wr_250 ⟨by omega, by omega⟩) (fun z69 hq70 hs71 => ?_)
          have hqF := hq70
          refine r_ld (pc' := 112) rfl rfl rfl rfl ?_
          refine r_gr (b := 249) (pc' := 115) rfl rfl sh_225 rfl pp_225_45 ?_
          refine r_ld (pc' := 116) rfl rfl rfl rfl ?_
          refine r_ld (pc' := 117) rfl rfl rfl rfl ?_
          refine r_gr (b := 255) (pc' := 120) rfl rfl sh_225 rfl pp_225_51 ?_
          refine r_ld (pc' := 122) rfl rfl rfl rfl ?_
          refine r_c0 (pc' := 123) rfl rfl ?_
          refine r_cSI (pc' := 126) rfl rfl rfl rfl rfl (m_177v (d := d) x5 2 hs71.1 hs71.2.1 ⟨by omega, by omega⟩ ⟨by omega, by omega⟩) (fun v72 z73 w74 p75 h76 hs77 hE78 => ?_)
          obtain ⟨rfl, rfl, rfl, hE78⟩ := hE78
          have h123 := (hE78.2.2).2 rfl
          have hb80 := rd_255 hz (i := v72.toNat) (by omega)
          refine r_ia (pc' := 127) rfl rfl sh_255 rfl (by omega) (by omega) (((congrFun (congrFun hq70 _) _).trans (mu_ne (by omega))).trans (hst.2.2.1 _ _ (notS_c (by omega) (notS_c (by omega) (notS_c (by omega) (notS_c (by omega) notS_n)))))) ?_
          refine r_is (pc' := 128) rfl rfl sh_249 rfl (by omega) (by omega) hs71 (inS_s (inS_0 (by omega) (by omega) (by omega) (by omega))) (wr_249 ⟨by omega, by omega⟩) (fun z81 hq82 hs83 => ?_)
          have hqE := hq82
          refine r_ld (pc' := 129) rfl rfl rfl rfl ?_
          refine r_zeq (pc' := 132) rfl rfl ⟨by omega, by omega⟩ (fun hc84 => ?_) (fun hc84 => ?_)
          · skip
            refine r_ld (pc' := 146) rfl rfl rfl rfl ?_
            refine r_gr (b := 252) (pc' := 149) rfl rfl sh_225 rfl pp_225_48 ?_
            refine r_ld (pc' := 150) rfl rfl rfl rfl ?_
            refine r_ld (pc' := 151) rfl rfl rfl rfl ?_
            refine r_gr (b := 255) (pc' := 154) rfl rfl sh_225 rfl pp_225_51 ?_
            refine r_ld (pc' := 156) rfl rfl rfl rfl ?_
            refine r_ia (pc' := 157) rfl rfl sh_255 rfl (by omega) (by omega) (((congrFun (congrFun hq82 _) _).trans (mu_ne (by omega))).trans (((congrFun (congrFun hq70 _) _).trans (mu_ne (by omega))).trans (hst.2.2.1 _ _ (notS_c (by omega) (notS_c (by omega) (notS_c (by omega) (notS_c (by omega) notS_n))))))) ?_
            refine r_is (pc' := 158) rfl rfl sh_252 rfl (by omega) (by omega) hs83 (inS_s (inS_s (inS_0 (by omega) (by omega) (by omega) (by omega)))) (wr_252 ⟨by omega, by omega⟩) (fun z85 hq86 hs87 => ?_)
            have hqB := hq86
            have hco := hval (by rw [n5]; have := rd_256 hz (i := (z0 255 x5.toNat).toNat) (by have := rd_255 hz (i := x5.toNat) (by omega); omega); omega)
            refine r_c0 (pc' := 159) rfl rfl ?_
            refine r_st (pc' := 160) (lv' := [(2, _), (0, _), (1, _), (3, _), (5, _)]) rfl rfl rfl rfl ?_
            refine r_inc (pc' := 163) (lv' := [(2, _), (0, _), (1, _), (5, _)]) rfl rfl rfl rfl rfl ?_
            refine r_go rfl ?_
            exact w_lv (sub_c rfl (sub_c rfl (sub_c rfl (sub_c rfl sub_n)))) rfl (ih0 0 (x3 + 1) z85 w ⟨by omega, by omega⟩ ⟨by omega, by omega⟩ hs87 (by first | exact NBQ_0 | exact NBQ_n as1 (fun u g0 g1 c => by have q := co_sum c (p := x3.toNat) (by omega) (by omega); rw [← t1, ← t2, ← t0, n0, n1, n2] at q; omega) | exact NBQ_s (s := x5.toNat) as1 (by omega) (by omega) (by omega) hco.1 (fun u g0 g1 c => hco.2 u (by omega) (by omega) c) (by first | (rw [show z85 251 a1.toNat = NOMARK 251 a1.toNat from NOMARK, hqA, mu_eq, if_pos (by omega)]) | (rw [if_neg (by omega)]; exact (((congrFun (congrFun hq86 _) _).trans (mu_ne (by omega))).trans (((congrFun (congrFun hq82 _) _).trans (mu_ne (by omega))).trans ((congrFun (congrFun hq70 _) _).trans (mu_ne (by omega))))))) (by rw [hqB]; exact mu_eq) (by rw [show z85 250 a1.toNat = z69 250 a1.toNat from (((congrFun (congrFun hq86 _) _).trans (mu_ne (by omega))).trans ((congrFun (congrFun hq82 _) _).trans (mu_ne (by omega)))), hqF, mu_eq, h106]) (by rw [show z85 249 a1.toNat = z81 249 a1.toNat from ((congrFun (congrFun hq86 _) _).trans (mu_ne (by omega))), hqE, mu_eq, h123])) (by first | omega | assumption) (by first | exact as5 | exact fun j hj => ⟨rfl, rfl, rfl, rfl⟩ | exact fun j hj => ⟨((((congrFun (congrFun hq86 _) _).trans (mu_ne (by omega))).trans (((congrFun (congrFun hq82 _) _).trans (mu_ne (by omega))).trans ((congrFun (congrFun hq70 _) _).trans (mu_ne (by omega)))))).trans (as5 j hj).1, ((((congrFun (congrFun hq86 _) _).trans (mu_ne (by omega))).trans (((congrFun (congrFun hq82 _) _).trans (mu_ne (by omega))).trans ((congrFun (congrFun hq70 _) _).trans (mu_ne (by omega)))))).trans (as5 j hj).2.1, ((((congrFun (congrFun hq86 _) _).trans (mu_ne (by omega))).trans (((congrFun (congrFun hq82 _) _).trans (mu_ne (by omega))).trans ((congrFun (congrFun hq70 _) _).trans (mu_ne (by omega)))))).trans (as5 j hj).2.2.1, ((((congrFun (congrFun hq86 _) _).trans (mu_ne (by omega))).trans (((congrFun (congrFun hq82 _) _).trans (mu_ne (by omega))).trans ((congrFun (congrFun hq70 _) _).trans (mu_ne (by omega)))))).trans (as5 j hj).2.2.2⟩) (by omega))
          · skip
            refine r_ld (pc' := 133) rfl rfl rfl rfl ?_
            refine r_gr (b := 251) (pc' := 136) rfl rfl sh_225 rfl pp_225_47 ?_
            refine r_ld (pc' := 137) rfl rfl rfl rfl ?_
            refine r_ld (pc' := 138) rfl rfl rfl rfl ?_
            refine r_gr (b := 255) (pc' := 141) rfl rfl sh_225 rfl pp_225_51 ?_
            refine r_ld (pc' := 143) rfl rfl rfl rfl ?_
            refine r_ia (pc' := 144) rfl rfl sh_255 rfl (by omega) (by omega) (((congrFun (congrFun hq82 _) _).trans (mu_ne (by omega))).trans (((congrFun (congrFun hq70 _) _).trans (mu_ne (by omega))).trans (hst.2.2.1 _ _ (notS_c (by omega) (notS_c (by omega) (notS_c (by omega) (notS_c (by omega) notS_n))))))) ?_
            refine r_is (pc' := 145) rfl rfl sh_251 rfl (by omega) (by omega) hs83 (inS_s (inS_s (inS_s (inS_0 (by omega) (by omega) (by omega) (by omega))))) (wr_251 ⟨by omega, by omega⟩) (fun z88 hq89 hs90 => ?_)
            have hqA := hq89
            refine r_ld (pc' := 146) rfl rfl rfl rfl ?_
            refine r_gr (b := 252) (pc' := 149) rfl rfl sh_225 rfl pp_225_48 ?_
            refine r_ld (pc' := 150) rfl rfl rfl rfl ?_
            refine r_ld (pc' := 151) rfl rfl rfl rfl ?_
            refine r_gr (b := 255) (pc' := 154) rfl rfl sh_225 rfl pp_225_51 ?_
            refine r_ld (pc' := 156) rfl rfl rfl rfl ?_
            refine r_ia (pc' := 157) rfl rfl sh_255 rfl (by omega) (by omega) (((congrFun (congrFun hq89 _) _).trans (mu_ne (by omega))).trans (((congrFun (congrFun hq82 _) _).trans (mu_ne (by omega))).trans (((congrFun (congrFun hq70 _) _).trans (mu_ne (by omega))).trans (hst.2.2.1 _ _ (notS_c (by omega) (notS_c (by omega) (notS_c (by omega) (notS_c (by omega) notS_n)))))))) ?_
            refine r_is (pc' := 158) rfl rfl sh_252 rfl (by omega) (by omega) hs90 (inS_s (inS_s (inS_0 (by omega) (by omega) (by omega) (by omega)))) (wr_252 ⟨by omega, by omega⟩) (fun z91 hq92 hs93 => ?_)
            have hqB := hq92
            have hco := hval (by rw [n5]; have := rd_256 hz (i := (z0 255 x5.toNat).toNat) (by have := rd_255 hz (i := x5.toNat) (by omega); omega); omega)
            refine r_c0 (pc' := 159) rfl rfl ?_
            refine r_st (pc' := 160) (lv' := [(2, _), (0, _), (1, _), (3, _), (5, _)]) rfl rfl rfl rfl ?_
            refine r_inc (pc' := 163) (lv' := [(2, _), (0, _), (1, _), (5, _)]) rfl rfl rfl rfl rfl ?_
            refine r_go rfl ?_
            exact w_lv (sub_c rfl (sub_c rfl (sub_c rfl (sub_c rfl sub_n)))) rfl (ih0 0 (x3 + 1) z91 w ⟨by omega, by omega⟩ ⟨by omega, by omega⟩ hs93 (by first | exact NBQ_0 | exact NBQ_n as1 (fun u g0 g1 c => by have q := co_sum c (p := x3.toNat) (by omega) (by omega); rw [← t1, ← t2, ← t0, n0, n1, n2] at q; omega) | exact NBQ_s (s := x5.toNat) as1 (by omega) (by omega) (by omega) hco.1 (fun u g0 g1 c => hco.2 u (by omega) (by omega) c) (by first | (rw [show z91 251 a1.toNat = z88 251 a1.toNat from ((congrFun (congrFun hq92 _) _).trans (mu_ne (by omega))), hqA, mu_eq, if_pos (by omega)]) | (rw [if_neg (by omega)]; exact (((congrFun (congrFun hq92 _) _).trans (mu_ne (by omega))).trans (((congrFun (congrFun hq89 _) _).trans (mu_ne (by omega))).trans (((congrFun (congrFun hq82 _) _).trans (mu_ne (by omega))).trans ((congrFun (congrFun hq70 _) _).trans (mu_ne (by omega)))))))) (by rw [hqB]; exact mu_eq) (by rw [show z91 250 a1.toNat = z69 250 a1.toNat from (((congrFun (congrFun hq92 _) _).trans (mu_ne (by omega))).trans (((congrFun (congrFun hq89 _) _).trans (mu_ne (by omega))).trans ((congrFun (congrFun hq82 _) _).trans (mu_ne (by omega))))), hqF, mu_eq, h106]) (by rw [show z91 249 a1.toNat = z81 249 a1.toNat from (((congrFun (congrFun hq92 _) _).trans (mu_ne (by omega))).trans ((congrFun (congrFun hq89 _) _).trans (mu_ne (by omega)))), hqE, mu_eq, h123])) (by first | omega | assumption) (by first | exact as5 | exact fun j hj => ⟨rfl, rfl, rfl, rfl⟩ | exact fun j hj => ⟨((((congrFun (congrFun hq92 _) _).trans (mu_ne (by omega))).trans (((congrFun (congrFun hq89 _) _).trans (mu_ne (by omega))).trans (((congrFun (congrFun hq82 _) _).trans (mu_ne (by omega))).trans ((congrFun (congrFun hq70 _) _).trans (mu_ne (by omega))))))).trans (as5 j hj).1, ((((congrFun (congrFun hq92 _) _).trans (mu_ne (by omega))).trans (((congrFun (congrFun hq89 _) _).trans (mu_ne (by omega))).trans (((congrFun (congrFun hq82 _) _).trans (mu_ne (by omega))).trans ((congrFun (congrFun hq70 _) _).trans (mu_ne (by omega))))))).trans (as5 j hj).2.1, ((((congrFun (congrFun hq92 _) _).trans (mu_ne (by omega))).trans (((congrFun (congrFun hq89 _) _).trans (mu_ne (by omega))).trans (((congrFun (congrFun hq82 _) _).trans (mu_ne (by omega))).trans ((congrFun (congrFun hq70 _) _).trans (mu_ne (by omega))))))).trans (as5 j hj).2.2.1, ((((congrFun (congrFun hq92 _) _).trans (mu_ne (by omega))).trans (((congrFun (congrFun hq89 _) _).trans (mu_ne (by omega))).trans (((congrFun (congrFun hq82 _) _).trans (mu_ne (by omega))).trans ((congrFun (congrFun hq70 _) _).trans (mu_ne (by omega))))))).trans (as5 j hj).2.2.2⟩) (by omega))
        · skip
          have hnot : x5 < 3 * x3 + 2 := by apply Classical.byContradiction; intro q; have k0 := as4 (3 * x3).toNat (by omega) (by omega); have k1 := as4 (3 * x3 + 1).toNat (by omega) (by omega); have e5 : x5 = 3 * x3 + 2 := (by omega); have k2 : 0 < z0 256 (z0 255 (3 * x3 + 2).toNat).toNat := (by rw [← e5]; omega); omega
          refine r_inc (pc' := 91) (lv' := [(0, _), (1, _), (2, _), (3, _)]) rfl rfl rfl rfl rfl ?_
          refine r_go rfl ?_
          exact w_lv (sub_c rfl (sub_c rfl (sub_c rfl (sub_c rfl (sub_c rfl sub_n))))) rfl (ih1 x2 x3 (x5 + 1) z w ⟨by omega, by omega⟩ ⟨by omega, by omega⟩ ⟨by omega, by omega⟩ ⟨by omega, by omega⟩ hst (by exact as1) (by first | omega | assumption) (by first | omega | assumption) (by first | (intro k g0 g1; exfalso; omega) | (intro k g0 g1; by_cases c : k = x5.toNat; (subst c; omega); exact as4 k g0 (by omega))) (by exact as5) (by omega))
  refine w_m rfl rfl ?_
  refine r_c0 (pc' := 1) rfl rfl ?_
  refine r_st (pc' := 2) (lv' := [(2, _), (0, _), (1, _)]) rfl rfl rfl rfl ?_
  refine r_c0 (pc' := 3) rfl rfl ?_
  refine r_st (pc' := 4) (lv' := [(3, _), (2, _), (0, _), (1, _)]) rfl rfl rfl rfl ?_
  exact w_lv (sub_c rfl (sub_c rfl (sub_c rfl (sub_c rfl sub_n)))) rfl ((key ((3914 * (12 - 0) + 3909 : Int).toNat + 1)).1 1 0 z0 w0 ⟨by omega, by omega⟩ ⟨by omega, by omega⟩ hst (by first | exact NBQ_0 | exact NBQ_n as1 (fun u g0 g1 c => by have q := co_sum c (p := x3.toNat) (by omega) (by omega); rw [← t1, ← t2, ← t0, n0, n1, n2] at q; omega) | exact NBQ_s (s := x5.toNat) as1 (by omega) (by omega) (by omega) hco.1 (fun u g0 g1 c => hco.2 u (by omega) (by omega) c) (by first | (rw [show z0 251 a1.toNat = NOMARK 251 a1.toNat from NOMARK, hqA, mu_eq, if_pos (by omega)]) | (rw [if_neg (by omega)]; exact rfl)) (by rw [hqB]; exact mu_eq) (by rw [show z0 250 a1.toNat = NOMARK 250 a1.toNat from NOMARK, hqF, mu_eq, h106]) (by rw [show z0 249 a1.toNat = NOMARK 249 a1.toNat from NOMARK, hqE, mu_eq, h123])) (by first | omega | assumption) (by first | exact as5 | exact fun j hj => ⟨rfl, rfl, rfl, rfl⟩ | exact fun j hj => ⟨(rfl).trans (as5 j hj).1, (rfl).trans (as5 j hj).2.1, (rfl).trans (as5 j hj).2.2.1, (rfl).trans (as5 j hj).2.2.2⟩) (by omega))

/-! methods, printed by wip/tools/vcg.py -/
/-- Reader closePieces -/
abbrev S_35 (t : Nat) : mS := [(3, 3, 5, 5), (t, t, 1, 1), (t + 3, t + 3, 0, 35), (t, t, 2, 2), (t + 2, t + 2, 0, 35), (3, 3, 0, 0), (3, 3, 1, 1)]
abbrev E_35 (t : Nat) (z0 w0 : mZ) (x y mt tt ct : Option Nat) : Int → mZ → mZ → mP → Prop := fun v z w p => p = (pq x y (some 2) (some t) mt tt ct) ∧ 0 ≤ v ∧ v ≤ 1 ∧ ((v = 0 → z 3 0 ≠ 0) ∧ (v = 1 → z 3 0 = z0 3 0 ∧ z 3 5 = 1 ∧ RD z w t))
theorem m_35 {d : Nat} {z0 w0 : mZ} {x y mt tt ct : Option Nat} (t : Nat) (hz : rz z0) (hw : rw_ w0) (ht : isT t) (hrd : RD z0 w0 t) (h5 : z0 3 5 = 0) : wc (d + 4) 35 [.ref 3] (mk z0 w0 (pq x y (some 2) (some t) mt tt ct)) (poI (S_35 t) z0 w0 (E_35 t z0 w0 x y mt tt ct)) := by
  have hst : st_ (S_35 t) z0 w0 z0 w0 := st_rf hz hw
  have htb : 159 ≤ t ∧ t ≤ 192 := by have := ht; unfold isT at this; omega
  have hz37 := rd_3_0 hz
  have hz38 := rd_3_5 hz
  have h03 := (hrd.1 h5).2
  refine w_m rfl rfl ?_
  refine r_ld (pc' := 1) rfl rfl rfl rfl ?_
  refine r_c0 (pc' := 2) rfl rfl ?_
  refine r_pi (pc' := 5) rfl rfl sh_3 rfl (fit_b (by omega)) hst (inS_0 (by omega) (by omega) (by omega) (by omega)) (wr_3_5 ⟨by omega, by omega⟩) (fun z39 hq40 hs41 => ?_)
  refine r_ld (pc' := 6) rfl rfl rfl rfl ?_
  refine r_gr (b := t) (pc' := 9) rfl rfl sh_3 rfl pp_3_4 ?_
  have hb42 := rd_T_0 ht hz
  have hf43 : z39 t 0 = z0 t 0 := ((congrFun (congrFun hq40 _) _).trans (mu_ne (by omega)))
  have hF44 : z39 (t + 1) = z0 (t + 1) := ((congrFun hq40 _).trans (mu_fn (by omega)))
  have hF45 : z39 (t + 4) = z0 (t + 4) := ((congrFun hq40 _).trans (mu_fn (by omega)))
  have hF46 : z39 (t + 5) = z0 (t + 5) := ((congrFun hq40 _).trans (mu_fn (by omega)))
  have hF47 : z39 (t + 6) = z0 (t + 6) := ((congrFun hq40 _).trans (mu_fn (by omega)))
  refine r_cVI (pc' := 12) rfl rfl rfl rfl rfl (sh_T ht) (m_76 (d := d) t hs41.1 hs41.2.1 ht (by simp only [hF44, hF45, hF46, hF47, hf43]; exact PI_c (hrd.1 h5).1 (by omega))) (fun v48 z49 w50 p51 h52 hs53 hE54 => ?_)
  have hs55 := st_tr hs41 hs53 (subS_c (fun _ _ _ _ _ _ => inS_s (inS_0 (by omega) (by omega) (by omega) (by omega))) (subS_c (fun _ _ _ _ _ _ => inS_s (inS_s (inS_0 (by omega) (by omega) (by omega) (by omega)))) (subS_c (fun _ _ _ _ _ _ => inS_s (inS_s (inS_s (inS_0 (by omega) (by omega) (by omega) (by omega))))) (subS_c (fun _ _ _ _ _ _ => inS_s (inS_s (inS_s (inS_s (inS_0 (by omega) (by omega) (by omega) (by omega)))))) subS_n))))
  obtain ⟨rfl, hE54⟩ := hE54
  have hgl := hE54
  refine r_zne (pc' := 15) rfl rfl ⟨by omega, by omega⟩ (fun hc56 => ?_) (fun hc56 => ?_)
  · skip
    refine r_c0 (pc' := 28) rfl rfl ?_
    have hb57 := rd_3_0 hz
    have hf58 : z49 3 0 = z0 3 0 := ((hs53.2.2.1 _ _ (notS_c (by omega) (notS_c (by omega) (notS_c (by omega) (notS_c (by omega) notS_n))))).trans ((congrFun (congrFun hq40 _) _).trans (mu_ne (by omega))))
    have hf59 : z49 3 5 = 1 := ((hs53.2.2.1 _ _ (notS_c (by omega) (notS_c (by omega) (notS_c (by omega) (notS_c (by omega) notS_n))))).trans ((congrFun (congrFun hq40 _) _).trans mu_eq))
    have hb60 := rd_T_3 ht hz
    have hf61 : z49 t 3 = z0 t 3 := ((hs53.2.2.1 _ _ (notS_c (by omega) (notS_c (by omega) (notS_c (by omega) (notS_c (by omega) notS_n))))).trans ((congrFun (congrFun hq40 _) _).trans (mu_ne (by omega))))
    exact r_rz rfl (by omega) (po_I hs55 ⟨by decide, by decide⟩ ⟨rfl, by omega, by omega, (by constructor; (intro h; first | omega | (exfalso; omega)); (intro h; first | (exfalso; omega) | exact ⟨by omega, by omega, RD_c (by omega) (hgl.2.2 (by omega)) (by omega)⟩))⟩)
  · skip
    refine r_ld (pc' := 16) rfl rfl rfl rfl ?_
    refine r_cb (pc' := 18) rfl (by decide) rfl ?_
    refine r_ld (pc' := 19) rfl rfl rfl rfl ?_
    have hb62 := rd_3_8 hz
    refine r_gi (pc' := 22) rfl rfl sh_3 rfl ((hs53.2.2.1 _ _ (notS_c (by omega) (notS_c (by omega) (notS_c (by omega) (notS_c (by omega) notS_n))))).trans ((congrFun (congrFun hq40 _) _).trans (mu_ne (by omega)))) ?_
    refine r_cVV (pc' := 25) rfl rfl rfl rfl rfl sh_3 (m_33 (d := d + 2) 6 (z0 3 8) hs55.1 hs55.2.1 ⟨by omega, by omega⟩ ⟨by omega, by omega⟩) (fun z64 w65 p66 hs68 hE69 => ?_)
    have hs70 := st_tr hs55 hs68 (subS_c (fun _ _ _ _ _ _ => inS_s (inS_s (inS_s (inS_s (inS_s (inS_0 (by omega) (by omega) (by omega) (by omega))))))) (subS_c (fun _ _ _ _ _ _ => inS_s (inS_s (inS_s (inS_s (inS_s (inS_s (inS_0 (by omega) (by omega) (by omega) (by omega)))))))) subS_n))
    obtain ⟨rfl, hE69⟩ := hE69
    refine r_c0 (pc' := 26) rfl rfl ?_
    have hb71 := rd_3_0 hs70.1
    have hf72 : z64 3 5 = 1 := ((hs68.2.2.1 _ _ (notS_c (by omega) (notS_c (by omega) notS_n))).trans ((hs53.2.2.1 _ _ (notS_c (by omega) (notS_c (by omega) (notS_c (by omega) (notS_c (by omega) notS_n))))).trans ((congrFun (congrFun hq40 _) _).trans mu_eq)))
    have hb73 := rd_T_3 ht hz
    have hf74 : z64 t 3 = z0 t 3 := ((hs68.2.2.1 _ _ (notS_c (by omega) (notS_c (by omega) notS_n))).trans ((hs53.2.2.1 _ _ (notS_c (by omega) (notS_c (by omega) (notS_c (by omega) (notS_c (by omega) notS_n))))).trans ((congrFun (congrFun hq40 _) _).trans (mu_ne (by omega)))))
    exact r_rz rfl (by omega) (po_I hs70 ⟨by decide, by decide⟩ ⟨rfl, by omega, by omega, (by constructor; (intro h; first | omega | (exfalso; omega)); (intro h; first | (exfalso; omega) | exact ⟨by omega, by omega, RD_c (by omega) (hgl.2.2 (by omega)) (by omega)⟩))⟩)
/-- Reader readPiece -/
abbrev S_36 (t : Nat) : mS := [(3, 3, 6, 6), (3, 3, 8, 8), (3, 3, 7, 7), (3, 3, 9, 9), (3, 3, 10, 10), (3, 3, 0, 0), (3, 3, 1, 1), (t + 1, t + 1, 0, 35), (t + 6, t + 6, 0, 17), (t + 4, t + 4, 0, 17), (t + 5, t + 5, 0, 17), (t, t, 0, 0)]
abbrev E_36 (t : Nat) (z0 w0 : mZ) (x y mt tt ct : Option Nat) : mZ → mZ → mP → Prop := fun z w p => p = (pq x y (some 2) (some t) mt tt ct) ∧ ((z 3 7 = 2 → 0 ≤ z 3 9 ∧ z 3 9 ≤ 9999) ∧ (z 3 0 = 0 → RD z w t))
theorem m_36 {d : Nat} {z0 w0 : mZ} {x y mt tt ct : Option Nat} (t : Nat) (hz : rz z0) (hw : rw_ w0) (ht : isT t) (hkn : (z0 3 7 = 2 → 0 ≤ z0 3 9 ∧ z0 3 9 ≤ 9999)) (hrd : RD z0 w0 t) : wc (d + 5) 36 [.ref 3] (mk z0 w0 (pq x y (some 2) (some t) mt tt ct)) (poV (S_36 t) z0 w0 (E_36 t z0 w0 x y mt tt ct)) := by
  have hst : st_ (S_36 t) z0 w0 z0 w0 := st_rf hz hw
  have htb : 159 ≤ t ∧ t ≤ 192 := by have := ht; unfold isT at this; omega
  have hz98 := rd_3_7 hz
  have hz99 := rd_3_9 hz
  have hrq := hrd.1
  have key : ∀ N : Nat, (∀ (z w : mZ), st_ (S_36 t) z0 w0 z w → w 3 10 = w0 3 10 → z 3 0 = z0 3 0 → z 3 1 = z0 3 1 → z 3 6 = z0 3 6 → z 3 7 = z0 3 7 → z 3 8 = z0 3 8 → z 3 9 = z0 3 9 → z t 0 = z0 t 0 → ((z 3 7 = 2 → 0 ≤ z 3 9 ∧ z 3 9 ≤ 9999)) → 3 < (N : Int) → wp_ (d + 4) 36 3 none (21, [(0, .ref 3)], [], mk z w (pq x y (some 2) (some t) mt tt ct)) (poV (S_36 t) z0 w0 (E_36 t z0 w0 x y mt tt ct))) ∧ (∀ (x1 x2 : Int) (z w : mZ), 0 ≤ x1 ∧ x1 ≤ 11 → 0 ≤ x2 ∧ x2 ≤ 3 → 0 ≤ z0 3 5 ∧ z0 3 5 ≤ 0 → 0 ≤ z0 t 0 ∧ z0 t 0 ≤ 11 → st_ (S_36 t) z0 w0 z w → z t 0 = z0 t 0 → ((z 3 7 = 2 → 0 ≤ z 3 9 ∧ z 3 9 ≤ 9999)) → (z 3 5 = 0 ∧ z t 3 = 0 ∧ x1 = z t 0 ∧ x1 ≤ 11) → (PI (z (t + 1)) (z (t + 4)) (z (t + 5)) (z (t + 6)) (3 * x1 + x2)) → 44 * (3 - x2) + 29 < (N : Int) → wp_ (d + 4) 36 3 none (33, [(0, .ref 3), (1, .int (Int32.ofInt x1)), (2, .int (Int32.ofInt x2))], [], mk z w (pq x y (some 2) (some t) mt tt ct)) (poV (S_36 t) z0 w0 (E_36 t z0 w0 x y mt tt ct))) := by
    intro N
    induction N with
    | zero =>
      refine ⟨?_, ?_⟩
      · intro  z w
        intros; exfalso; omega
      · intro x1 x2 z w
        intros; exfalso; omega
    | succ N ih =>
      obtain ⟨ih0, ih1⟩ := ih
      refine ⟨?_, ?_⟩
      · intro  z w  hst un_w_3_10 un_z_3_0 un_z_3_1 un_z_3_6 un_z_3_7 un_z_3_8 un_z_3_9 un_z_t_0 as1 hM
        refine r_ld (pc' := 22) rfl rfl rfl rfl ?_
        refine r_cVI (pc' := 25) rfl rfl rfl rfl rfl sh_3 (m_34 (d := d + 2)  hst.1 hst.2.1 ) (fun v100 z101 w102 p103 h104 hs105 hE106 => ?_)
        have hs107 := st_tr hst hs105 (subS_c (fun _ _ _ _ _ _ => inS_s (inS_s (inS_s (inS_s (inS_s (inS_0 (by omega) (by omega) (by omega) (by omega))))))) (subS_c (fun _ _ _ _ _ _ => inS_s (inS_s (inS_s (inS_s (inS_s (inS_s (inS_0 (by omega) (by omega) (by omega) (by omega)))))))) subS_n))
        obtain ⟨rfl, hE106⟩ := hE106
        refine r_al (pc' := 26) rfl rfl rfl rfl ?_
        have hb108 := rd_3_7 hz
        have hf109 : z101 3 7 = z0 3 7 := ((hs105.2.2.1 _ _ (notS_c (by omega) (notS_c (by omega) notS_n))).trans un_z_3_7)
        have hb110 := rd_3_9 hz
        have hf111 : z101 3 9 = z0 3 9 := ((hs105.2.2.1 _ _ (notS_c (by omega) (notS_c (by omega) notS_n))).trans un_z_3_9)
        have hb112 := rd_3_0 hs107.1
        have hb113 := rd_3_5 hz
        have hf114 : z101 3 5 = z0 3 5 := ((hs105.2.2.1 _ _ (notS_c (by omega) (notS_c (by omega) notS_n))).trans (hst.2.2.1 _ _ (notS_c (by omega) (notS_c (by omega) (notS_c (by omega) (notS_c (by omega) (notS_c (by omega) (notS_c (by omega) (notS_c (by omega) (notS_c (by omega) (notS_c (by omega) (notS_c (by omega) (notS_c (by omega) (notS_c (by omega) notS_n))))))))))))))
        have hb115 := rd_T_3 ht hz
        have hf116 : z101 t 3 = z0 t 3 := ((hs105.2.2.1 _ _ (notS_c (by omega) (notS_c (by omega) notS_n))).trans (hst.2.2.1 _ _ (notS_c (by omega) (notS_c (by omega) (notS_c (by omega) (notS_c (by omega) (notS_c (by omega) (notS_c (by omega) (notS_c (by omega) (notS_c (by omega) (notS_c (by omega) (notS_c (by omega) (notS_c (by omega) (notS_c (by omega) notS_n))))))))))))))
        have hb117 := rd_T_0 ht hz
        have hf118 : z101 t 0 = z0 t 0 := ((hs105.2.2.1 _ _ (notS_c (by omega) (notS_c (by omega) notS_n))).trans un_z_t_0)
        have hF119 : z101 (t + 1) = z (t + 1) := (funext fun _ => hs105.2.2.1 _ _ (notS_c (by omega) (notS_c (by omega) notS_n)))
        have hF120 : z101 (t + 4) = z (t + 4) := (funext fun _ => hs105.2.2.1 _ _ (notS_c (by omega) (notS_c (by omega) notS_n)))
        have hF121 : z101 (t + 5) = z (t + 5) := (funext fun _ => hs105.2.2.1 _ _ (notS_c (by omega) (notS_c (by omega) notS_n)))
        have hF122 : z101 (t + 6) = z (t + 6) := (funext fun _ => hs105.2.2.1 _ _ (notS_c (by omega) (notS_c (by omega) notS_n)))
        exact r_ret rfl (po_V hs107 ⟨rfl, (by refine ⟨by omega, ?_⟩; first | (intro h; exfalso; omega) | (intro _; exact RD_p (by omega) (by simp only [hF119, hF120, hF121, hF122, hf109, hf111, hf114, hf116, hf118]; exact PI_c as3 (by omega)) (by omega)))⟩)
      · intro x1 x2 z w  hx1 hx2 hz0_0 hz0_1 hst un_z_t_0 as1 as2 as3 hM
        refine r_ld (pc' := 34) rfl rfl rfl rfl ?_
        refine r_c0 (pc' := 35) rfl rfl ?_
        refine r_ige (pc' := 38) rfl rfl ⟨by omega, by omega⟩ ⟨by decide, by decide⟩ (fun hc123 => ?_) (fun hc123 => ?_)
        · skip
          refine r_ld (pc' := 58) rfl rfl rfl rfl ?_
          refine r_c0 (pc' := 59) rfl rfl ?_
          have hb124 := rd_3_7 hst.1
          have hb125 := rd_3_9 hst.1
          have hb126 := rd_3_0 hst.1
          refine r_cVI (pc' := 62) rfl rfl rfl rfl rfl sh_3 (m_42 (d := d) t 3 hst.1 hst.2.1 ⟨by omega, by omega⟩ ht (by first | omega | assumption)) (fun v127 z128 w129 p130 h131 hs132 hE133 => ?_)
          have hs134 := st_tr hst hs132 (subS_c (fun _ _ _ _ _ _ => inS_0 (by omega) (by omega) (by omega) (by omega)) (subS_c (fun _ _ _ _ _ _ => inS_s (inS_0 (by omega) (by omega) (by omega) (by omega))) (subS_c (fun _ _ _ _ _ _ => inS_s (inS_s (inS_0 (by omega) (by omega) (by omega) (by omega)))) (subS_c (fun _ _ _ _ _ _ => inS_s (inS_s (inS_s (inS_0 (by omega) (by omega) (by omega) (by omega))))) (subS_c (fun _ _ _ _ _ _ => inS_s (inS_s (inS_s (inS_s (inS_0 (by omega) (by omega) (by omega) (by omega)))))) (subS_c (fun _ _ _ _ _ _ => inS_s (inS_s (inS_s (inS_s (inS_s (inS_0 (by omega) (by omega) (by omega) (by omega))))))) (subS_c (fun _ _ _ _ _ _ => inS_s (inS_s (inS_s (inS_s (inS_s (inS_s (inS_0 (by omega) (by omega) (by omega) (by omega)))))))) subS_n)))))))
          obtain ⟨rfl, hE133⟩ := hE133
          refine r_zeq (pc' := 65) rfl rfl ⟨by omega, by omega⟩ (fun hc135 => ?_) (fun hc135 => ?_)
          · skip
            have hb136 := rd_3_7 hs134.1
            have hb137 := rd_3_9 hs134.1
            have hb138 := rd_3_0 hs134.1
            have hf139 : z128 3 5 = z0 3 5 := ((hs132.2.2.1 _ _ (notS_c (by omega) (notS_c (by omega) (notS_c (by omega) (notS_c (by omega) (notS_c (by omega) (notS_c (by omega) (notS_c (by omega) notS_n)))))))).trans (hst.2.2.1 _ _ (notS_c (by omega) (notS_c (by omega) (notS_c (by omega) (notS_c (by omega) (notS_c (by omega) (notS_c (by omega) (notS_c (by omega) (notS_c (by omega) (notS_c (by omega) (notS_c (by omega) (notS_c (by omega) (notS_c (by omega) notS_n))))))))))))))
            have hb140 := rd_T_3 ht hz
            have hf141 : z128 t 3 = z0 t 3 := ((hs132.2.2.1 _ _ (notS_c (by omega) (notS_c (by omega) (notS_c (by omega) (notS_c (by omega) (notS_c (by omega) (notS_c (by omega) (notS_c (by omega) notS_n)))))))).trans (hst.2.2.1 _ _ (notS_c (by omega) (notS_c (by omega) (notS_c (by omega) (notS_c (by omega) (notS_c (by omega) (notS_c (by omega) (notS_c (by omega) (notS_c (by omega) (notS_c (by omega) (notS_c (by omega) (notS_c (by omega) (notS_c (by omega) notS_n))))))))))))))
            have hf142 : z128 t 0 = z0 t 0 := ((hs132.2.2.1 _ _ (notS_c (by omega) (notS_c (by omega) (notS_c (by omega) (notS_c (by omega) (notS_c (by omega) (notS_c (by omega) (notS_c (by omega) notS_n)))))))).trans un_z_t_0)
            have hF143 : z128 (t + 1) = z (t + 1) := (funext fun _ => hs132.2.2.1 _ _ (notS_c (by omega) (notS_c (by omega) (notS_c (by omega) (notS_c (by omega) (notS_c (by omega) (notS_c (by omega) (notS_c (by omega) notS_n))))))))
            have hF144 : z128 (t + 4) = z (t + 4) := (funext fun _ => hs132.2.2.1 _ _ (notS_c (by omega) (notS_c (by omega) (notS_c (by omega) (notS_c (by omega) (notS_c (by omega) (notS_c (by omega) (notS_c (by omega) notS_n))))))))
            have hF145 : z128 (t + 5) = z (t + 5) := (funext fun _ => hs132.2.2.1 _ _ (notS_c (by omega) (notS_c (by omega) (notS_c (by omega) (notS_c (by omega) (notS_c (by omega) (notS_c (by omega) (notS_c (by omega) notS_n))))))))
            have hF146 : z128 (t + 6) = z (t + 6) := (funext fun _ => hs132.2.2.1 _ _ (notS_c (by omega) (notS_c (by omega) (notS_c (by omega) (notS_c (by omega) (notS_c (by omega) (notS_c (by omega) (notS_c (by omega) notS_n))))))))
            exact r_ret rfl (po_V hs134 ⟨rfl, (by refine ⟨by omega, ?_⟩; first | (intro h; exfalso; omega) | (intro _; exact RD_p (by omega) (by simp only [hF143, hF144, hF145, hF146, hf139, hf141, hf142]; exact PI_c as3 (by omega)) (by omega)))⟩)
          · skip
            refine r_ld (pc' := 66) rfl rfl rfl rfl ?_
            refine r_gr (b := t) (pc' := 69) rfl rfl sh_3 rfl pp_3_4 ?_
            refine r_al (pc' := 70) rfl rfl rfl rfl ?_
            refine r_gi (pc' := 73) rfl rfl (sh_T ht) rfl ((hs132.2.2.1 _ _ (notS_c (by omega) (notS_c (by omega) (notS_c (by omega) (notS_c (by omega) (notS_c (by omega) (notS_c (by omega) (notS_c (by omega) notS_n)))))))).trans un_z_t_0) ?_
            refine r_c0 (pc' := 74) rfl rfl ?_
            refine r_add (pc' := 75) rfl rfl ?_
            refine r_pi (pc' := 78) rfl rfl (sh_T ht) rfl rfl hs134 (inS_s (inS_s (inS_s (inS_s (inS_s (inS_s (inS_s (inS_s (inS_s (inS_s (inS_s (inS_0 (by omega) (by omega) (by omega) (by omega))))))))))))) (wr_T_0 ht ⟨by omega, by omega⟩) (fun z147 hq148 hs149 => ?_)
            have hb150 := rd_3_7 hs134.1
            have hf151 : z147 3 7 = z128 3 7 := ((congrFun (congrFun hq148 _) _).trans (mu_ne (by omega)))
            have hb152 := rd_3_9 hs134.1
            have hf153 : z147 3 9 = z128 3 9 := ((congrFun (congrFun hq148 _) _).trans (mu_ne (by omega)))
            have hb154 := rd_3_0 hs134.1
            have hf155 : z147 3 0 = z128 3 0 := ((congrFun (congrFun hq148 _) _).trans (mu_ne (by omega)))
            have hf156 : z147 3 5 = z0 3 5 := (((congrFun (congrFun hq148 _) _).trans (mu_ne (by omega))).trans ((hs132.2.2.1 _ _ (notS_c (by omega) (notS_c (by omega) (notS_c (by omega) (notS_c (by omega) (notS_c (by omega) (notS_c (by omega) (notS_c (by omega) notS_n)))))))).trans (hst.2.2.1 _ _ (notS_c (by omega) (notS_c (by omega) (notS_c (by omega) (notS_c (by omega) (notS_c (by omega) (notS_c (by omega) (notS_c (by omega) (notS_c (by omega) (notS_c (by omega) (notS_c (by omega) (notS_c (by omega) (notS_c (by omega) notS_n)))))))))))))))
            have hb157 := rd_T_3 ht hz
            have hf158 : z147 t 3 = z0 t 3 := (((congrFun (congrFun hq148 _) _).trans (mu_ne (by omega))).trans ((hs132.2.2.1 _ _ (notS_c (by omega) (notS_c (by omega) (notS_c (by omega) (notS_c (by omega) (notS_c (by omega) (notS_c (by omega) (notS_c (by omega) notS_n)))))))).trans (hst.2.2.1 _ _ (notS_c (by omega) (notS_c (by omega) (notS_c (by omega) (notS_c (by omega) (notS_c (by omega) (notS_c (by omega) (notS_c (by omega) (notS_c (by omega) (notS_c (by omega) (notS_c (by omega) (notS_c (by omega) (notS_c (by omega) notS_n)))))))))))))))
            have hf159 : z147 t 0 = (z0 t 0) + 1 := ((congrFun (congrFun hq148 _) _).trans mu_eq)
            have hF160 : z147 (t + 1) = z (t + 1) := (((congrFun hq148 _).trans (mu_fn (by omega))).trans (funext fun _ => hs132.2.2.1 _ _ (notS_c (by omega) (notS_c (by omega) (notS_c (by omega) (notS_c (by omega) (notS_c (by omega) (notS_c (by omega) (notS_c (by omega) notS_n)))))))))
            have hF161 : z147 (t + 4) = z (t + 4) := (((congrFun hq148 _).trans (mu_fn (by omega))).trans (funext fun _ => hs132.2.2.1 _ _ (notS_c (by omega) (notS_c (by omega) (notS_c (by omega) (notS_c (by omega) (notS_c (by omega) (notS_c (by omega) (notS_c (by omega) notS_n)))))))))
            have hF162 : z147 (t + 5) = z (t + 5) := (((congrFun hq148 _).trans (mu_fn (by omega))).trans (funext fun _ => hs132.2.2.1 _ _ (notS_c (by omega) (notS_c (by omega) (notS_c (by omega) (notS_c (by omega) (notS_c (by omega) (notS_c (by omega) (notS_c (by omega) notS_n)))))))))
            have hF163 : z147 (t + 6) = z (t + 6) := (((congrFun hq148 _).trans (mu_fn (by omega))).trans (funext fun _ => hs132.2.2.1 _ _ (notS_c (by omega) (notS_c (by omega) (notS_c (by omega) (notS_c (by omega) (notS_c (by omega) (notS_c (by omega) (notS_c (by omega) notS_n)))))))))
            exact r_ret rfl (po_V hs149 ⟨rfl, (by refine ⟨by omega, ?_⟩; first | (intro h; exfalso; omega) | (intro _; exact RD_p (by omega) (by simp only [hF160, hF161, hF162, hF163, hf151, hf153, hf155, hf156, hf158, hf159]; exact PI_c as3 (by omega)) (by omega)))⟩)
        · skip
          refine r_ld (pc' := 39) rfl rfl rfl rfl ?_
          refine r_c0 (pc' := 40) rfl rfl ?_
          refine r_ld (pc' := 41) rfl rfl rfl rfl ?_
          refine r_mul (pc' := 42) rfl rfl ?_
          refine r_ld (pc' := 43) rfl rfl rfl rfl ?_
          refine r_add (pc' := 44) rfl rfl ?_
          have hb164 := rd_3_7 hst.1
          have hb165 := rd_3_9 hst.1
          have hb166 := rd_3_0 hst.1
          refine r_cVI (pc' := 47) rfl rfl rfl rfl rfl sh_3 (m_37 (d := d) t ((3 * x1) + x2) hst.1 hst.2.1 ⟨by omega, by omega⟩ ht (by first | omega | assumption) (by exact as3)) (fun v167 z168 w169 p170 h171 hs172 hE173 => ?_)
          have hs174 := st_tr hst hs172 (subS_c (fun _ _ _ _ _ _ => inS_s (inS_s (inS_s (inS_s (inS_s (inS_s (inS_s (inS_0 (by omega) (by omega) (by omega) (by omega))))))))) (subS_c (fun _ _ _ _ _ _ => inS_s (inS_s (inS_s (inS_s (inS_s (inS_s (inS_s (inS_s (inS_0 (by omega) (by omega) (by omega) (by omega)))))))))) (subS_c (fun _ _ _ _ _ _ => inS_s (inS_s (inS_s (inS_s (inS_s (inS_s (inS_s (inS_s (inS_s (inS_0 (by omega) (by omega) (by omega) (by omega))))))))))) (subS_c (fun _ _ _ _ _ _ => inS_s (inS_s (inS_s (inS_s (inS_s (inS_s (inS_s (inS_s (inS_s (inS_s (inS_0 (by omega) (by omega) (by omega) (by omega)))))))))))) (subS_c (fun _ _ _ _ _ _ => inS_0 (by omega) (by omega) (by omega) (by omega)) (subS_c (fun _ _ _ _ _ _ => inS_s (inS_0 (by omega) (by omega) (by omega) (by omega))) (subS_c (fun _ _ _ _ _ _ => inS_s (inS_s (inS_0 (by omega) (by omega) (by omega) (by omega)))) (subS_c (fun _ _ _ _ _ _ => inS_s (inS_s (inS_s (inS_0 (by omega) (by omega) (by omega) (by omega))))) (subS_c (fun _ _ _ _ _ _ => inS_s (inS_s (inS_s (inS_s (inS_0 (by omega) (by omega) (by omega) (by omega)))))) (subS_c (fun _ _ _ _ _ _ => inS_s (inS_s (inS_s (inS_s (inS_s (inS_0 (by omega) (by omega) (by omega) (by omega))))))) (subS_c (fun _ _ _ _ _ _ => inS_s (inS_s (inS_s (inS_s (inS_s (inS_s (inS_0 (by omega) (by omega) (by omega) (by omega)))))))) subS_n)))))))))))
          obtain ⟨rfl, hE173⟩ := hE173
          have hre := hE173.2.2.2.2.2
          refine r_zne (pc' := 50) rfl rfl ⟨by omega, by omega⟩ (fun hc175 => ?_) (fun hc175 => ?_)
          · skip
            refine r_inc (pc' := 54) (lv' := [(0, _), (1, _)]) rfl rfl rfl rfl rfl ?_
            refine r_go rfl ?_
            have hb176 := rd_3_7 hs174.1
            have hb177 := rd_3_9 hs174.1
            have hf178 : z168 3 5 = z0 3 5 := ((hs172.2.2.1 _ _ (notS_c (by omega) (notS_c (by omega) (notS_c (by omega) (notS_c (by omega) (notS_c (by omega) (notS_c (by omega) (notS_c (by omega) (notS_c (by omega) (notS_c (by omega) (notS_c (by omega) (notS_c (by omega) notS_n)))))))))))).trans (hst.2.2.1 _ _ (notS_c (by omega) (notS_c (by omega) (notS_c (by omega) (notS_c (by omega) (notS_c (by omega) (notS_c (by omega) (notS_c (by omega) (notS_c (by omega) (notS_c (by omega) (notS_c (by omega) (notS_c (by omega) (notS_c (by omega) notS_n))))))))))))))
            have hb179 := rd_T_3 ht hz
            have hf180 : z168 t 3 = z0 t 3 := ((hs172.2.2.1 _ _ (notS_c (by omega) (notS_c (by omega) (notS_c (by omega) (notS_c (by omega) (notS_c (by omega) (notS_c (by omega) (notS_c (by omega) (notS_c (by omega) (notS_c (by omega) (notS_c (by omega) (notS_c (by omega) notS_n)))))))))))).trans (hst.2.2.1 _ _ (notS_c (by omega) (notS_c (by omega) (notS_c (by omega) (notS_c (by omega) (notS_c (by omega) (notS_c (by omega) (notS_c (by omega) (notS_c (by omega) (notS_c (by omega) (notS_c (by omega) (notS_c (by omega) (notS_c (by omega) notS_n))))))))))))))
            have hf181 : z168 t 0 = z0 t 0 := ((hs172.2.2.1 _ _ (notS_c (by omega) (notS_c (by omega) (notS_c (by omega) (notS_c (by omega) (notS_c (by omega) (notS_c (by omega) (notS_c (by omega) (notS_c (by omega) (notS_c (by omega) (notS_c (by omega) (notS_c (by omega) notS_n)))))))))))).trans un_z_t_0)
            exact w_lv (sub_c rfl (sub_c rfl (sub_c rfl sub_n))) rfl (ih1 x1 (x2 + 1) z168 w169 ⟨by omega, by omega⟩ ⟨by omega, by omega⟩ ⟨by omega, by omega⟩ ⟨by omega, by omega⟩ hs174 (((hs172.2.2.1 _ _ (notS_c (by omega) (notS_c (by omega) (notS_c (by omega) (notS_c (by omega) (notS_c (by omega) (notS_c (by omega) (notS_c (by omega) (notS_c (by omega) (notS_c (by omega) (notS_c (by omega) (notS_c (by omega) notS_n)))))))))))).trans un_z_t_0)) (by first | omega | assumption | (simp only [hf178, hf180, hf181]; assumption)) (by first | omega | assumption | (simp only [hf178, hf180, hf181]; assumption)) (by first | exact PI_c (hre (by omega)) (by omega) | (simp only [hf178, hf180, hf181]; exact PI_c (hrq (by omega)).1 (by omega))) (by omega))
          · skip
            have hb182 := rd_3_7 hs174.1
            have hb183 := rd_3_9 hs174.1
            have hb184 := rd_3_0 hs174.1
            have hf185 : z168 3 5 = z0 3 5 := ((hs172.2.2.1 _ _ (notS_c (by omega) (notS_c (by omega) (notS_c (by omega) (notS_c (by omega) (notS_c (by omega) (notS_c (by omega) (notS_c (by omega) (notS_c (by omega) (notS_c (by omega) (notS_c (by omega) (notS_c (by omega) notS_n)))))))))))).trans (hst.2.2.1 _ _ (notS_c (by omega) (notS_c (by omega) (notS_c (by omega) (notS_c (by omega) (notS_c (by omega) (notS_c (by omega) (notS_c (by omega) (notS_c (by omega) (notS_c (by omega) (notS_c (by omega) (notS_c (by omega) (notS_c (by omega) notS_n))))))))))))))
            have hb186 := rd_T_3 ht hz
            have hf187 : z168 t 3 = z0 t 3 := ((hs172.2.2.1 _ _ (notS_c (by omega) (notS_c (by omega) (notS_c (by omega) (notS_c (by omega) (notS_c (by omega) (notS_c (by omega) (notS_c (by omega) (notS_c (by omega) (notS_c (by omega) (notS_c (by omega) (notS_c (by omega) notS_n)))))))))))).trans (hst.2.2.1 _ _ (notS_c (by omega) (notS_c (by omega) (notS_c (by omega) (notS_c (by omega) (notS_c (by omega) (notS_c (by omega) (notS_c (by omega) (notS_c (by omega) (notS_c (by omega) (notS_c (by omega) (notS_c (by omega) (notS_c (by omega) notS_n))))))))))))))
            have hf188 : z168 t 0 = z0 t 0 := ((hs172.2.2.1 _ _ (notS_c (by omega) (notS_c (by omega) (notS_c (by omega) (notS_c (by omega) (notS_c (by omega) (notS_c (by omega) (notS_c (by omega) (notS_c (by omega) (notS_c (by omega) (notS_c (by omega) (notS_c (by omega) notS_n)))))))))))).trans un_z_t_0)
            exact r_ret rfl (po_V hs174 ⟨rfl, (by refine ⟨by omega, ?_⟩; first | (intro h; exfalso; omega) | (intro _; exact RD_p (by omega) (by simp only [hf185, hf187, hf188]; exact PI_c as3 (by omega)) (by omega)))⟩)
  refine w_m rfl rfl ?_
  refine r_ld (pc' := 1) rfl rfl rfl rfl ?_
  refine r_gr (b := t) (pc' := 4) rfl rfl sh_3 rfl pp_3_4 ?_
  have hb189 := rd_T_0 ht hz
  refine r_gi (pc' := 7) rfl rfl (sh_T ht) rfl rfl ?_
  refine r_st (pc' := 8) (lv' := [(1, _), (0, _)]) rfl rfl rfl rfl ?_
  refine r_ld (pc' := 9) rfl rfl rfl rfl ?_
  have hb190 := rd_3_5 hz
  refine r_gi (pc' := 12) rfl rfl sh_3 rfl rfl ?_
  refine r_zne (pc' := 15) rfl rfl ⟨by omega, by omega⟩ (fun hc191 => ?_) (fun hc191 => ?_)
  · skip
    have hb192 := rd_3_7 hz
    have hb193 := rd_3_9 hz
    have hb194 := rd_3_10 hw
    have hb195 := rd_3_0 hz
    have hb196 := rd_3_1 hz
    have hb197 := rd_3_6 hz
    have hb198 := rd_3_8 hz
    exact w_lv (sub_c rfl sub_n) rfl ((key ((3 : Int).toNat + 1)).1 z0 w0 hst (rfl) (rfl) (rfl) (rfl) (rfl) (rfl) (rfl) (rfl) (by first | omega | assumption) (by omega))
  · skip
    refine r_ld (pc' := 16) rfl rfl rfl rfl ?_
    refine r_cb (pc' := 18) rfl (by decide) rfl ?_
    refine r_ilt (pc' := 21) rfl rfl ⟨by omega, by omega⟩ ⟨by decide, by decide⟩ (fun hc199 => ?_) (fun hc199 => ?_)
    · skip
      refine r_ld (pc' := 28) rfl rfl rfl rfl ?_
      have hb200 := rd_3_7 hz
      have hb201 := rd_3_9 hz
      refine r_cVV (pc' := 31) rfl rfl rfl rfl rfl sh_3 (m_46 (d := d + 1) t hst.1 hst.2.1 ht (by first | omega | assumption)) (fun z203 w204 p205 hs207 hE208 => ?_)
      have hs209 := st_tr hst hs207 (subS_c (fun _ _ _ _ _ _ => inS_0 (by omega) (by omega) (by omega) (by omega)) (subS_c (fun _ _ _ _ _ _ => inS_s (inS_0 (by omega) (by omega) (by omega) (by omega))) (subS_c (fun _ _ _ _ _ _ => inS_s (inS_s (inS_0 (by omega) (by omega) (by omega) (by omega)))) (subS_c (fun _ _ _ _ _ _ => inS_s (inS_s (inS_s (inS_0 (by omega) (by omega) (by omega) (by omega))))) (subS_c (fun _ _ _ _ _ _ => inS_s (inS_s (inS_s (inS_s (inS_0 (by omega) (by omega) (by omega) (by omega)))))) subS_n)))))
      obtain ⟨rfl, hE208⟩ := hE208
      have h03 := (hrq (by omega)).2
      refine r_c0 (pc' := 32) rfl rfl ?_
      refine r_st (pc' := 33) (lv' := [(2, _), (1, _), (0, _)]) rfl rfl rfl rfl ?_
      have hb210 := rd_3_7 hs209.1
      have hb211 := rd_3_9 hs209.1
      have hf212 : z203 3 5 = z0 3 5 := (hs207.2.2.1 _ _ (notS_c (by omega) (notS_c (by omega) (notS_c (by omega) (notS_c (by omega) (notS_c (by omega) notS_n))))))
      have hb213 := rd_T_3 ht hz
      have hf214 : z203 t 3 = z0 t 3 := (hs207.2.2.1 _ _ (notS_c (by omega) (notS_c (by omega) (notS_c (by omega) (notS_c (by omega) (notS_c (by omega) notS_n))))))
      have hf215 : z203 t 0 = z0 t 0 := (hs207.2.2.1 _ _ (notS_c (by omega) (notS_c (by omega) (notS_c (by omega) (notS_c (by omega) (notS_c (by omega) notS_n))))))
      have hF216 : z203 (t + 1) = z0 (t + 1) := (funext fun _ => hs207.2.2.1 _ _ (notS_c (by omega) (notS_c (by omega) (notS_c (by omega) (notS_c (by omega) (notS_c (by omega) notS_n))))))
      have hF217 : z203 (t + 4) = z0 (t + 4) := (funext fun _ => hs207.2.2.1 _ _ (notS_c (by omega) (notS_c (by omega) (notS_c (by omega) (notS_c (by omega) (notS_c (by omega) notS_n))))))
      have hF218 : z203 (t + 5) = z0 (t + 5) := (funext fun _ => hs207.2.2.1 _ _ (notS_c (by omega) (notS_c (by omega) (notS_c (by omega) (notS_c (by omega) (notS_c (by omega) notS_n))))))
      have hF219 : z203 (t + 6) = z0 (t + 6) := (funext fun _ => hs207.2.2.1 _ _ (notS_c (by omega) (notS_c (by omega) (notS_c (by omega) (notS_c (by omega) (notS_c (by omega) notS_n))))))
      exact w_lv (sub_c rfl (sub_c rfl (sub_c rfl sub_n))) rfl ((key ((44 * (3 - 0) + 29 : Int).toNat + 1)).2 (z0 t 0) 0 z203 w204 ⟨by omega, by omega⟩ ⟨by omega, by omega⟩ ⟨by omega, by omega⟩ ⟨by omega, by omega⟩ hs209 ((hs207.2.2.1 _ _ (notS_c (by omega) (notS_c (by omega) (notS_c (by omega) (notS_c (by omega) (notS_c (by omega) notS_n))))))) (by first | omega | assumption | (simp only [hF216, hF217, hF218, hF219, hf212, hf214, hf215]; assumption)) (by first | omega | assumption | (simp only [hF216, hF217, hF218, hF219, hf212, hf214, hf215]; assumption)) (by first | exact PI_c (hre (by omega)) (by omega) | (simp only [hF216, hF217, hF218, hF219, hf212, hf214, hf215]; exact PI_c (hrq (by omega)).1 (by omega))) (by omega))
    · skip
      have hb220 := rd_3_7 hz
      have hb221 := rd_3_9 hz
      have hb222 := rd_3_10 hw
      have hb223 := rd_3_0 hz
      have hb224 := rd_3_1 hz
      have hb225 := rd_3_6 hz
      have hb226 := rd_3_8 hz
      exact w_lv (sub_c rfl sub_n) rfl ((key ((3 : Int).toNat + 1)).1 z0 w0 hst (rfl) (rfl) (rfl) (rfl) (rfl) (rfl) (rfl) (rfl) (by first | omega | assumption) (by omega))
/-- Reader readLoops -/
abbrev S_38 (t : Nat) : mS := [(3, 3, 6, 6), (3, 3, 8, 8), (3, 3, 7, 7), (3, 3, 9, 9), (3, 3, 10, 10), (3, 3, 0, 0), (3, 3, 1, 1), (t + 8, t + 15, 0, 17), (t + 16, t + 16, 0, 7), (t, t, 3, 3)]
abbrev E_38 (t : Nat) (z0 w0 : mZ) (x y mt tt ct : Option Nat) : mZ → mZ → mP → Prop := fun z w p => p = (pq x y (some 2) (some t) mt tt ct) ∧ ((z 3 7 = 2 → 0 ≤ z 3 9 ∧ z 3 9 ≤ 9999) ∧ (z 3 0 = 0 → RD z w t))
set_option maxHeartbeats 8000000 in
theorem m_38 {d : Nat} {z0 w0 : mZ} {x y mt tt ct : Option Nat} (t : Nat) (hz : rz z0) (hw : rw_ w0) (ht : isT t) (hkn : (z0 3 7 = 2 → 0 ≤ z0 3 9 ∧ z0 3 9 ≤ 9999)) (hrd : RD z0 w0 t) (h51 : z0 3 5 = 1) : wc (d + 5) 38 [.ref 3] (mk z0 w0 (pq x y (some 2) (some t) mt tt ct)) (poV (S_38 t) z0 w0 (E_38 t z0 w0 x y mt tt ct)) := by
  have hst : st_ (S_38 t) z0 w0 z0 w0 := st_rf hz hw
  have htb : 159 ≤ t ∧ t ≤ 192 := by have := ht; unfold isT at this; omega
  have hz246 := rd_3_5 hz
  have hz247 := rd_3_7 hz
  have hz248 := rd_3_9 hz
  have hz249 := rd_T_3 ht hz
  have hz38 := rd_T_3 ht hz
  have key : ∀ N : Nat, (∀ (x1 x2 x5 x6 : Int) (z w : mZ), 0 ≤ x1 ∧ x1 ≤ 7 → (-9223372036854775808) ≤ x2 ∧ x2 ≤ 9223372036854775807 → 0 ≤ x5 ∧ x5 ≤ 18 → 0 ≤ x6 ∧ x6 ≤ 19 → 0 ≤ z0 t 3 ∧ z0 t 3 ≤ 7 → st_ (S_38 t) z0 w0 z w → z t 3 = z0 t 3 → ((z 3 7 = 2 → 0 ≤ z 3 9 ∧ z 3 9 ≤ 9999)) → (x1 = z0 t 3 ∧ x1 ≤ 7) → (∀ l : Nat, l < 8 → (l : Int) ≠ z0 t 3 → w (t + 8 + l) = w0 (t + 8 + l)) → 117 * (18 - x5) + 79 < (N : Int) → wp_ (d + 4) 38 7 none (71, [(0, .ref 3), (1, .int (Int32.ofInt x1)), (2, .long (Int64.ofInt x2)), (4, .ref (t + 8 + (z0 t 3).toNat)), (5, .int (Int32.ofInt x5)), (6, .int (Int32.ofInt x6))], [], mk z w (pq x y (some 2) (some t) mt tt ct)) (poV (S_38 t) z0 w0 (E_38 t z0 w0 x y mt tt ct))) ∧ (∀ (x1 x2 x5 : Int) (z w : mZ), 0 ≤ x1 ∧ x1 ≤ 7 → (-9223372036854775808) ≤ x2 ∧ x2 ≤ 9223372036854775807 → 0 ≤ x5 ∧ x5 ≤ 18 → 0 ≤ z0 t 3 ∧ z0 t 3 ≤ 7 → st_ (S_38 t) z0 w0 z w → z t 3 = z0 t 3 → ((z 3 7 = 2 → 0 ≤ z 3 9 ∧ z 3 9 ≤ 9999)) → (x1 = z0 t 3 ∧ x1 ≤ 7) → (∀ l : Nat, l < 8 → (l : Int) ≠ z0 t 3 → w (t + 8 + l) = w0 (t + 8 + l)) → 42 < (N : Int) → wp_ (d + 4) 38 7 none (146, [(0, .ref 3), (1, .int (Int32.ofInt x1)), (2, .long (Int64.ofInt x2)), (4, .ref (t + 8 + (z0 t 3).toNat)), (5, .int (Int32.ofInt x5))], [], mk z w (pq x y (some 2) (some t) mt tt ct)) (poV (S_38 t) z0 w0 (E_38 t z0 w0 x y mt tt ct))) ∧ (∀ (z w : mZ), 0 ≤ z0 t 3 ∧ z0 t 3 ≤ 7 → st_ (S_38 t) z0 w0 z w → z t 3 = z0 t 3 → ((z 3 7 = 2 → 0 ≤ z 3 9 ∧ z 3 9 ≤ 9999)) → 4 < (N : Int) → wp_ (d + 4) 38 7 none (171, [(0, .ref 3)], [], mk z w (pq x y (some 2) (some t) mt tt ct)) (poV (S_38 t) z0 w0 (E_38 t z0 w0 x y mt tt ct))) := by
    intro N
    induction N with
    | zero =>
      refine ⟨?_, ?_, ?_⟩
      · intro x1 x2 x5 x6 z w
        intros; exfalso; omega
      · intro x1 x2 x5 z w
        intros; exfalso; omega
      · intro  z w
        intros; exfalso; omega
    | succ N ih =>
      obtain ⟨ih0, ih1, ih2⟩ := ih
      refine ⟨?_, ?_, ?_⟩
      · intro x1 x2 x5 x6 z w  hx1 hx2 hx5 hx6 hz0_0 hst un_z_t_3 as1 as2 as4 hM
        refine r_ld (pc' := 73) rfl rfl rfl rfl ?_
        refine r_cb (pc' := 75) rfl (by decide) rfl ?_
        refine r_igt (pc' := 78) rfl rfl ⟨by omega, by omega⟩ ⟨by decide, by decide⟩ (fun hc250 => ?_) (fun hc250 => ?_)
        · skip
          have hb251 := rd_3_7 hst.1
          have hb252 := rd_3_9 hst.1
          exact w_lv (sub_c rfl (sub_c rfl (sub_c rfl (sub_c rfl (sub_c rfl sub_n))))) rfl (ih1 x1 x2 x5 z w ⟨by omega, by omega⟩ ⟨by omega, by omega⟩ ⟨by omega, by omega⟩ ⟨by omega, by omega⟩ hst (un_z_t_3) (by first | omega | assumption) (by first | omega | assumption) (by first | (intro l hl hne; funext i; exact (rfl).trans (congrFun (as4 l hl hne) i)) | (intro l hl hne; funext i; exact rfl) | exact as4) (by omega))
        · skip
          refine r_ld (pc' := 79) rfl rfl rfl rfl ?_
          have hb253 := rd_3_7 hst.1
          refine r_gi (pc' := 82) rfl rfl sh_3 rfl rfl ?_
          refine r_c0 (pc' := 83) rfl rfl ?_
          refine r_ine (pc' := 86) rfl rfl ⟨by omega, by omega⟩ ⟨by decide, by decide⟩ (fun hc254 => ?_) (fun hc254 => ?_)
          · skip
            have hb255 := rd_3_9 hst.1
            exact w_lv (sub_c rfl (sub_c rfl (sub_c rfl (sub_c rfl (sub_c rfl sub_n))))) rfl (ih1 x1 x2 x5 z w ⟨by omega, by omega⟩ ⟨by omega, by omega⟩ ⟨by omega, by omega⟩ ⟨by omega, by omega⟩ hst (un_z_t_3) (by first | omega | assumption) (by first | omega | assumption) (by first | (intro l hl hne; funext i; exact (rfl).trans (congrFun (as4 l hl hne) i)) | (intro l hl hne; funext i; exact rfl) | exact as4) (by omega))
          · skip
            refine r_ld (pc' := 88) rfl rfl rfl rfl ?_
            refine r_ld (pc' := 89) rfl rfl rfl rfl ?_
            refine r_gr (b := t) (pc' := 92) rfl rfl sh_3 rfl pp_3_4 ?_
            have hb256 := rd_T_1 ht hz
            refine r_gi (pc' := 95) rfl rfl (sh_T ht) rfl (hst.2.2.1 _ _ (notS_c (by omega) (notS_c (by omega) (notS_c (by omega) (notS_c (by omega) (notS_c (by omega) (notS_c (by omega) (notS_c (by omega) (notS_c (by omega) (notS_c (by omega) (notS_c (by omega) notS_n))))))))))) ?_
            refine r_ilt (pc' := 98) rfl rfl ⟨by omega, by omega⟩ ⟨by omega, by omega⟩ (fun hc257 => ?_) (fun hc257 => ?_)
            · skip
              refine r_ld (pc' := 105) rfl rfl rfl rfl ?_
              have hb258 := rd_3_9 hst.1
              refine r_gi (pc' := 108) rfl rfl sh_3 rfl rfl ?_
              refine r_cb (pc' := 110) rfl (by decide) rfl ?_
              refine r_ile (pc' := 113) rfl rfl ⟨by omega, by omega⟩ ⟨by decide, by decide⟩ (fun hc259 => ?_) (fun hc259 => ?_)
              · skip
                refine r_ld (pc' := 125) rfl rfl rfl rfl ?_
                refine r_ld (pc' := 127) rfl rfl rfl rfl ?_
                refine r_ld (pc' := 128) rfl rfl rfl rfl ?_
                refine r_gi (pc' := 131) rfl rfl sh_3 rfl rfl ?_
                refine r_i2l (pc' := 132) rfl rfl ⟨by omega, by omega⟩ ?_
                refine r_ls (pc' := 133) rfl rfl (sh_T8 ht (by omega)) rfl (by omega) (by omega) hst (inS_s (inS_s (inS_s (inS_s (inS_s (inS_s (inS_s (inS_0 (by omega) (by omega) (by omega) (by omega))))))))) (wr_T8 ht (k := (z0 t 3).toNat) (by omega) ⟨by omega, by omega⟩) (fun w260 hq261 hs262 => ?_)
                refine r_inc (pc' := 136) (lv' := [(0, _), (1, _), (2, _), (4, _), (6, _)]) rfl rfl rfl rfl rfl ?_
                refine r_ld (pc' := 137) rfl rfl rfl rfl ?_
                refine r_cVV (pc' := 140) rfl rfl rfl rfl rfl sh_3 (m_46 (d := d + 1) t hs262.1 hs262.2.1 ht (by first | omega | assumption)) (fun z264 w265 p266 hs268 hE269 => ?_)
                have hs270 := st_tr hs262 hs268 (subS_c (fun _ _ _ _ _ _ => inS_0 (by omega) (by omega) (by omega) (by omega)) (subS_c (fun _ _ _ _ _ _ => inS_s (inS_0 (by omega) (by omega) (by omega) (by omega))) (subS_c (fun _ _ _ _ _ _ => inS_s (inS_s (inS_0 (by omega) (by omega) (by omega) (by omega)))) (subS_c (fun _ _ _ _ _ _ => inS_s (inS_s (inS_s (inS_0 (by omega) (by omega) (by omega) (by omega))))) (subS_c (fun _ _ _ _ _ _ => inS_s (inS_s (inS_s (inS_s (inS_0 (by omega) (by omega) (by omega) (by omega)))))) subS_n)))))
                obtain ⟨rfl, hE269⟩ := hE269
                refine r_inc (pc' := 143) (lv' := [(5, _), (0, _), (1, _), (2, _), (4, _)]) rfl rfl rfl rfl rfl ?_
                refine r_go rfl ?_
                have hb271 := rd_3_7 hs270.1
                have hb272 := rd_3_9 hs270.1
                exact w_lv (sub_c rfl (sub_c rfl (sub_c rfl (sub_c rfl (sub_c rfl (sub_c rfl sub_n)))))) rfl (ih0 x1 x2 (x5 + 1) (x6 + 1) z264 w265 ⟨by omega, by omega⟩ ⟨by omega, by omega⟩ ⟨by omega, by omega⟩ ⟨by omega, by omega⟩ ⟨by omega, by omega⟩ hs270 (((hs268.2.2.1 _ _ (notS_c (by omega) (notS_c (by omega) (notS_c (by omega) (notS_c (by omega) (notS_c (by omega) notS_n)))))).trans un_z_t_3)) (by first | omega | assumption) (by first | omega | assumption) (by first | (intro l hl hne; funext i; exact (((hs268.2.2.2 _ _ (notS_c (by omega) (notS_c (by omega) (notS_c (by omega) (notS_c (by omega) (notS_c (by omega) notS_n)))))).trans ((congrFun (congrFun hq261 _) _).trans (mu_ne (by omega))))).trans (congrFun (as4 l hl hne) i)) | (intro l hl hne; funext i; exact ((hs268.2.2.2 _ _ (notS_c (by omega) (notS_c (by omega) (notS_c (by omega) (notS_c (by omega) (notS_c (by omega) notS_n)))))).trans ((congrFun (congrFun hq261 _) _).trans (mu_ne (by omega))))) | exact as4) (by omega))
              · skip
                refine r_ld (pc' := 114) rfl rfl rfl rfl ?_
                refine r_c0 (pc' := 115) rfl rfl ?_
                refine r_ld (pc' := 116) rfl rfl rfl rfl ?_
                have hb273 := rd_3_8 hst.1
                refine r_gi (pc' := 119) rfl rfl sh_3 rfl rfl ?_
                refine r_cVV (pc' := 122) rfl rfl rfl rfl rfl sh_3 (m_33 (d := d + 3) 4 (z 3 8) hst.1 hst.2.1 ⟨by omega, by omega⟩ ⟨by omega, by omega⟩) (fun z275 w276 p277 hs279 hE280 => ?_)
                have hs281 := st_tr hst hs279 (subS_c (fun _ _ _ _ _ _ => inS_s (inS_s (inS_s (inS_s (inS_s (inS_0 (by omega) (by omega) (by omega) (by omega))))))) (subS_c (fun _ _ _ _ _ _ => inS_s (inS_s (inS_s (inS_s (inS_s (inS_s (inS_0 (by omega) (by omega) (by omega) (by omega)))))))) subS_n))
                obtain ⟨rfl, hE280⟩ := hE280
                have hf282 : z275 3 7 = z 3 7 := (hs279.2.2.1 _ _ (notS_c (by omega) (notS_c (by omega) notS_n)))
                have hf283 : z275 3 9 = z 3 9 := (hs279.2.2.1 _ _ (notS_c (by omega) (notS_c (by omega) notS_n)))
                have hb284 := rd_3_0 hs281.1
                have hb285 := rd_3_5 hz
                have hf286 : z275 3 5 = z0 3 5 := ((hs279.2.2.1 _ _ (notS_c (by omega) (notS_c (by omega) notS_n))).trans (hst.2.2.1 _ _ (notS_c (by omega) (notS_c (by omega) (notS_c (by omega) (notS_c (by omega) (notS_c (by omega) (notS_c (by omega) (notS_c (by omega) (notS_c (by omega) (notS_c (by omega) (notS_c (by omega) notS_n))))))))))))
                have hb287 := rd_T_0 ht hz
                have hf288 : z275 t 0 = z0 t 0 := ((hs279.2.2.1 _ _ (notS_c (by omega) (notS_c (by omega) notS_n))).trans (hst.2.2.1 _ _ (notS_c (by omega) (notS_c (by omega) (notS_c (by omega) (notS_c (by omega) (notS_c (by omega) (notS_c (by omega) (notS_c (by omega) (notS_c (by omega) (notS_c (by omega) (notS_c (by omega) notS_n))))))))))))
                have hf289 : z275 t 1 = z0 t 1 := ((hs279.2.2.1 _ _ (notS_c (by omega) (notS_c (by omega) notS_n))).trans (hst.2.2.1 _ _ (notS_c (by omega) (notS_c (by omega) (notS_c (by omega) (notS_c (by omega) (notS_c (by omega) (notS_c (by omega) (notS_c (by omega) (notS_c (by omega) (notS_c (by omega) (notS_c (by omega) notS_n))))))))))))
                have hf290 : z275 t 3 = z0 t 3 := ((hs279.2.2.1 _ _ (notS_c (by omega) (notS_c (by omega) notS_n))).trans un_z_t_3)
                have hF291 : z275 (t + 1) = z0 (t + 1) := ((funext fun _ => hs279.2.2.1 _ _ (notS_c (by omega) (notS_c (by omega) notS_n))).trans (funext fun _ => hst.2.2.1 _ _ (notS_c (by omega) (notS_c (by omega) (notS_c (by omega) (notS_c (by omega) (notS_c (by omega) (notS_c (by omega) (notS_c (by omega) (notS_c (by omega) (notS_c (by omega) (notS_c (by omega) notS_n))))))))))))
                have hF292 : z275 (t + 2) = z0 (t + 2) := ((funext fun _ => hs279.2.2.1 _ _ (notS_c (by omega) (notS_c (by omega) notS_n))).trans (funext fun _ => hst.2.2.1 _ _ (notS_c (by omega) (notS_c (by omega) (notS_c (by omega) (notS_c (by omega) (notS_c (by omega) (notS_c (by omega) (notS_c (by omega) (notS_c (by omega) (notS_c (by omega) (notS_c (by omega) notS_n))))))))))))
                have hF293 : z275 (t + 5) = z0 (t + 5) := ((funext fun _ => hs279.2.2.1 _ _ (notS_c (by omega) (notS_c (by omega) notS_n))).trans (funext fun _ => hst.2.2.1 _ _ (notS_c (by omega) (notS_c (by omega) (notS_c (by omega) (notS_c (by omega) (notS_c (by omega) (notS_c (by omega) (notS_c (by omega) (notS_c (by omega) (notS_c (by omega) (notS_c (by omega) notS_n))))))))))))
                exact r_ret rfl (po_V hs281 ⟨rfl, (by refine ⟨by omega, ?_⟩; first | (intro h; exfalso; omega) | (intro _; exact RL_end hrd h51 (by omega) (by omega) (by omega) (by omega) (by omega) (by omega) (by simp only [hF291, hF292, hF293, hf282, hf283, hf286, hf288, hf289, hf290]) (by simp only [hF291, hF292, hF293, hf282, hf283, hf286, hf288, hf289, hf290]) (by simp only [hF291, hF292, hF293, hf282, hf283, hf286, hf288, hf289, hf290]) (fun l hl hne => funext fun i => (NOMARK).trans (congrFun (as4 l hl hne) i)) (by rw [← as2.1, show w276 (t + 8 + x1.toNat) = NOMARK (t + 8 + x1.toNat) from funext fun i => NOMARK]; exact hfn (by omega))))⟩)
            · skip
              refine r_ld (pc' := 99) rfl rfl rfl rfl ?_
              refine r_cVI (pc' := 102) rfl rfl rfl rfl rfl sh_3 (m_34 (d := d + 2)  hst.1 hst.2.1 ) (fun v294 z295 w296 p297 h298 hs299 hE300 => ?_)
              have hs301 := st_tr hst hs299 (subS_c (fun _ _ _ _ _ _ => inS_s (inS_s (inS_s (inS_s (inS_s (inS_0 (by omega) (by omega) (by omega) (by omega))))))) (subS_c (fun _ _ _ _ _ _ => inS_s (inS_s (inS_s (inS_s (inS_s (inS_s (inS_0 (by omega) (by omega) (by omega) (by omega)))))))) subS_n))
              obtain ⟨rfl, hE300⟩ := hE300
              refine r_al (pc' := 103) rfl rfl rfl rfl ?_
              have hf302 : z295 3 7 = z 3 7 := (hs299.2.2.1 _ _ (notS_c (by omega) (notS_c (by omega) notS_n)))
              have hb303 := rd_3_9 hst.1
              have hf304 : z295 3 9 = z 3 9 := (hs299.2.2.1 _ _ (notS_c (by omega) (notS_c (by omega) notS_n)))
              have hb305 := rd_3_0 hs301.1
              have hb306 := rd_3_5 hz
              have hf307 : z295 3 5 = z0 3 5 := ((hs299.2.2.1 _ _ (notS_c (by omega) (notS_c (by omega) notS_n))).trans (hst.2.2.1 _ _ (notS_c (by omega) (notS_c (by omega) (notS_c (by omega) (notS_c (by omega) (notS_c (by omega) (notS_c (by omega) (notS_c (by omega) (notS_c (by omega) (notS_c (by omega) (notS_c (by omega) notS_n))))))))))))
              have hb308 := rd_T_0 ht hz
              have hf309 : z295 t 0 = z0 t 0 := ((hs299.2.2.1 _ _ (notS_c (by omega) (notS_c (by omega) notS_n))).trans (hst.2.2.1 _ _ (notS_c (by omega) (notS_c (by omega) (notS_c (by omega) (notS_c (by omega) (notS_c (by omega) (notS_c (by omega) (notS_c (by omega) (notS_c (by omega) (notS_c (by omega) (notS_c (by omega) notS_n))))))))))))
              have hf310 : z295 t 1 = z0 t 1 := ((hs299.2.2.1 _ _ (notS_c (by omega) (notS_c (by omega) notS_n))).trans (hst.2.2.1 _ _ (notS_c (by omega) (notS_c (by omega) (notS_c (by omega) (notS_c (by omega) (notS_c (by omega) (notS_c (by omega) (notS_c (by omega) (notS_c (by omega) (notS_c (by omega) (notS_c (by omega) notS_n))))))))))))
              have hf311 : z295 t 3 = z0 t 3 := ((hs299.2.2.1 _ _ (notS_c (by omega) (notS_c (by omega) notS_n))).trans un_z_t_3)
              have hF312 : z295 (t + 1) = z0 (t + 1) := ((funext fun _ => hs299.2.2.1 _ _ (notS_c (by omega) (notS_c (by omega) notS_n))).trans (funext fun _ => hst.2.2.1 _ _ (notS_c (by omega) (notS_c (by omega) (notS_c (by omega) (notS_c (by omega) (notS_c (by omega) (notS_c (by omega) (notS_c (by omega) (notS_c (by omega) (notS_c (by omega) (notS_c (by omega) notS_n))))))))))))
              have hF313 : z295 (t + 2) = z0 (t + 2) := ((funext fun _ => hs299.2.2.1 _ _ (notS_c (by omega) (notS_c (by omega) notS_n))).trans (funext fun _ => hst.2.2.1 _ _ (notS_c (by omega) (notS_c (by omega) (notS_c (by omega) (notS_c (by omega) (notS_c (by omega) (notS_c (by omega) (notS_c (by omega) (notS_c (by omega) (notS_c (by omega) (notS_c (by omega) notS_n))))))))))))
              have hF314 : z295 (t + 5) = z0 (t + 5) := ((funext fun _ => hs299.2.2.1 _ _ (notS_c (by omega) (notS_c (by omega) notS_n))).trans (funext fun _ => hst.2.2.1 _ _ (notS_c (by omega) (notS_c (by omega) (notS_c (by omega) (notS_c (by omega) (notS_c (by omega) (notS_c (by omega) (notS_c (by omega) (notS_c (by omega) (notS_c (by omega) (notS_c (by omega) notS_n))))))))))))
              exact r_ret rfl (po_V hs301 ⟨rfl, (by refine ⟨by omega, ?_⟩; first | (intro h; exfalso; omega) | (intro _; exact RL_end hrd h51 (by omega) (by omega) (by omega) (by omega) (by omega) (by omega) (by simp only [hF312, hF313, hF314, hf302, hf304, hf307, hf309, hf310, hf311]) (by simp only [hF312, hF313, hF314, hf302, hf304, hf307, hf309, hf310, hf311]) (by simp only [hF312, hF313, hF314, hf302, hf304, hf307, hf309, hf310, hf311]) (fun l hl hne => funext fun i => (NOMARK).trans (congrFun (as4 l hl hne) i)) (by rw [← as2.1, show w296 (t + 8 + x1.toNat) = NOMARK (t + 8 + x1.toNat) from funext fun i => NOMARK]; exact hfn (by omega))))⟩)
      · intro x1 x2 x5 z w  hx1 hx2 hx5 hz0_0 hst un_z_t_3 as1 as2 as4 hM
        refine r_ld (pc' := 147) rfl rfl rfl rfl ?_
        have hb315 := rd_3_7 hst.1
        refine r_gi (pc' := 150) rfl rfl sh_3 rfl rfl ?_
        refine r_c0 (pc' := 151) rfl rfl ?_
        refine r_ine (pc' := 154) rfl rfl ⟨by omega, by omega⟩ ⟨by decide, by decide⟩ (fun hc316 => ?_) (fun hc316 => ?_)
        · skip
          have hb317 := rd_3_9 hst.1
          exact w_lv (sub_c rfl sub_n) rfl (ih2 z w ⟨by omega, by omega⟩ hst (un_z_t_3) (by first | omega | assumption) (by omega))
        · skip
          refine r_ld (pc' := 156) rfl rfl rfl rfl ?_
          refine r_zeq (pc' := 159) rfl rfl ⟨by omega, by omega⟩ (fun hc318 => ?_) (fun hc318 => ?_)
          · skip
            have hb319 := rd_3_9 hst.1
            exact w_lv (sub_c rfl sub_n) rfl (ih2 z w ⟨by omega, by omega⟩ hst (un_z_t_3) (by first | omega | assumption) (by omega))
          · skip
            refine r_ld (pc' := 161) rfl rfl rfl rfl ?_
            refine r_ld (pc' := 162) rfl rfl rfl rfl ?_
            refine r_gr (b := t) (pc' := 165) rfl rfl sh_3 rfl pp_3_4 ?_
            have hb320 := rd_T_1 ht hz
            refine r_gi (pc' := 168) rfl rfl (sh_T ht) rfl (hst.2.2.1 _ _ (notS_c (by omega) (notS_c (by omega) (notS_c (by omega) (notS_c (by omega) (notS_c (by omega) (notS_c (by omega) (notS_c (by omega) (notS_c (by omega) (notS_c (by omega) (notS_c (by omega) notS_n))))))))))) ?_
            refine r_ige (pc' := 171) rfl rfl ⟨by omega, by omega⟩ ⟨by omega, by omega⟩ (fun hc321 => ?_) (fun hc321 => ?_)
            · skip
              refine r_ld (pc' := 178) rfl rfl rfl rfl ?_
              refine r_gr (b := t) (pc' := 181) rfl rfl sh_3 rfl pp_3_4 ?_
              refine r_ld (pc' := 183) rfl rfl rfl rfl ?_
              refine r_cVI (pc' := 186) rfl rfl rfl rfl rfl (sh_T ht) (m_80 (d := d + 2) t (t + 8 + (z0 t 3).toNat) hst.1 hst.2.1 ht (lr_T8 ht (k := (z0 t 3).toNat) (by omega) ) (by first | omega | assumption) (fun e he => by have q := rd_T8 ht (k := (z0 t 3).toNat) (by omega) hst.2.1 (i := e) he; exact ⟨by omega, by omega⟩)) (fun v322 z323 w324 p325 h326 hs327 hE328 => ?_)
              obtain ⟨rfl, rfl, rfl, hE328⟩ := hE328
              have hfi := hE328.2.2
              rw [← as2.1] at hfi
              have hfn : v322 = 1 → FTt z0 t (w (t + 8 + x1.toNat)) := fun q => FTt_fr (hst.2.2.1 _ _ (notS_c (by omega) (notS_c (by omega) (notS_c (by omega) (notS_c (by omega) (notS_c (by omega) (notS_c (by omega) (notS_c (by omega) (notS_c (by omega) (notS_c (by omega) (notS_c (by omega) (notS_n)))))))))))).symm (funext fun i => (hst.2.2.1 _ _ (notS_c (by omega) (notS_c (by omega) (notS_c (by omega) (notS_c (by omega) (notS_c (by omega) (notS_c (by omega) (notS_c (by omega) (notS_c (by omega) (notS_c (by omega) (notS_c (by omega) (notS_n)))))))))))).symm) (hfi q)
              refine r_zne (pc' := 189) rfl rfl ⟨by omega, by omega⟩ (fun hc330 => ?_) (fun hc330 => ?_)
              · skip
                refine r_ld (pc' := 201) rfl rfl rfl rfl ?_
                refine r_gr (b := t) (pc' := 204) rfl rfl sh_3 rfl pp_3_4 ?_
                refine r_gr (b := t + 16) (pc' := 207) rfl rfl (sh_T ht) rfl (pp_T_12 ht) ?_
                refine r_ld (pc' := 208) rfl rfl rfl rfl ?_
                refine r_ld (pc' := 209) rfl rfl rfl rfl ?_
                refine r_ls (pc' := 210) rfl rfl (sh_T16 ht) rfl (by omega) (by omega) hst (inS_s (inS_s (inS_s (inS_s (inS_s (inS_s (inS_s (inS_s (inS_0 (by omega) (by omega) (by omega) (by omega)))))))))) (wr_T16 ht ⟨by omega, by omega⟩) (fun w331 hq332 hs333 => ?_)
                refine r_ld (pc' := 211) rfl rfl rfl rfl ?_
                refine r_gr (b := t) (pc' := 214) rfl rfl sh_3 rfl pp_3_4 ?_
                refine r_al (pc' := 215) rfl rfl rfl rfl ?_
                refine r_gi (pc' := 218) rfl rfl (sh_T ht) rfl un_z_t_3 ?_
                refine r_c0 (pc' := 219) rfl rfl ?_
                refine r_add (pc' := 220) rfl rfl ?_
                refine r_pi (pc' := 223) rfl rfl (sh_T ht) rfl rfl hs333 (inS_s (inS_s (inS_s (inS_s (inS_s (inS_s (inS_s (inS_s (inS_s (inS_0 (by omega) (by omega) (by omega) (by omega))))))))))) (wr_T_3 ht ⟨by omega, by omega⟩) (fun z334 hq335 hs336 => ?_)
                refine r_ld (pc' := 224) rfl rfl rfl rfl ?_
                have hf337 : z334 3 7 = z 3 7 := ((congrFun (congrFun hq335 _) _).trans (mu_ne (by omega)))
                have hb338 := rd_3_9 hst.1
                have hf339 : z334 3 9 = z 3 9 := ((congrFun (congrFun hq335 _) _).trans (mu_ne (by omega)))
                refine r_cVV (pc' := 227) rfl rfl rfl rfl rfl sh_3 (m_46 (d := d + 1) t hs336.1 hs336.2.1 ht (by first | omega | assumption | (simp only [hf337, hf339]; assumption))) (fun z341 w342 p343 hs345 hE346 => ?_)
                have hs347 := st_tr hs336 hs345 (subS_c (fun _ _ _ _ _ _ => inS_0 (by omega) (by omega) (by omega) (by omega)) (subS_c (fun _ _ _ _ _ _ => inS_s (inS_0 (by omega) (by omega) (by omega) (by omega))) (subS_c (fun _ _ _ _ _ _ => inS_s (inS_s (inS_0 (by omega) (by omega) (by omega) (by omega)))) (subS_c (fun _ _ _ _ _ _ => inS_s (inS_s (inS_s (inS_0 (by omega) (by omega) (by omega) (by omega))))) (subS_c (fun _ _ _ _ _ _ => inS_s (inS_s (inS_s (inS_s (inS_0 (by omega) (by omega) (by omega) (by omega)))))) subS_n)))))
                obtain ⟨rfl, hE346⟩ := hE346
                have hb348 := rd_3_7 hs347.1
                have hb349 := rd_3_9 hs347.1
                have hb350 := rd_3_0 hst.1
                have hf351 : z341 3 0 = z 3 0 := ((hs345.2.2.1 _ _ (notS_c (by omega) (notS_c (by omega) (notS_c (by omega) (notS_c (by omega) (notS_c (by omega) notS_n)))))).trans ((congrFun (congrFun hq335 _) _).trans (mu_ne (by omega))))
                have hb352 := rd_3_5 hz
                have hf353 : z341 3 5 = z0 3 5 := ((hs345.2.2.1 _ _ (notS_c (by omega) (notS_c (by omega) (notS_c (by omega) (notS_c (by omega) (notS_c (by omega) notS_n)))))).trans (((congrFun (congrFun hq335 _) _).trans (mu_ne (by omega))).trans (hst.2.2.1 _ _ (notS_c (by omega) (notS_c (by omega) (notS_c (by omega) (notS_c (by omega) (notS_c (by omega) (notS_c (by omega) (notS_c (by omega) (notS_c (by omega) (notS_c (by omega) (notS_c (by omega) notS_n)))))))))))))
                have hb354 := rd_T_0 ht hz
                have hf355 : z341 t 0 = z0 t 0 := ((hs345.2.2.1 _ _ (notS_c (by omega) (notS_c (by omega) (notS_c (by omega) (notS_c (by omega) (notS_c (by omega) notS_n)))))).trans (((congrFun (congrFun hq335 _) _).trans (mu_ne (by omega))).trans (hst.2.2.1 _ _ (notS_c (by omega) (notS_c (by omega) (notS_c (by omega) (notS_c (by omega) (notS_c (by omega) (notS_c (by omega) (notS_c (by omega) (notS_c (by omega) (notS_c (by omega) (notS_c (by omega) notS_n)))))))))))))
                have hf356 : z341 t 1 = z0 t 1 := ((hs345.2.2.1 _ _ (notS_c (by omega) (notS_c (by omega) (notS_c (by omega) (notS_c (by omega) (notS_c (by omega) notS_n)))))).trans (((congrFun (congrFun hq335 _) _).trans (mu_ne (by omega))).trans (hst.2.2.1 _ _ (notS_c (by omega) (notS_c (by omega) (notS_c (by omega) (notS_c (by omega) (notS_c (by omega) (notS_c (by omega) (notS_c (by omega) (notS_c (by omega) (notS_c (by omega) (notS_c (by omega) notS_n)))))))))))))
                have hf357 : z341 t 3 = (z0 t 3) + 1 := ((hs345.2.2.1 _ _ (notS_c (by omega) (notS_c (by omega) (notS_c (by omega) (notS_c (by omega) (notS_c (by omega) notS_n)))))).trans ((congrFun (congrFun hq335 _) _).trans mu_eq))
                have hF358 : z341 (t + 1) = z0 (t + 1) := ((funext fun _ => hs345.2.2.1 _ _ (notS_c (by omega) (notS_c (by omega) (notS_c (by omega) (notS_c (by omega) (notS_c (by omega) notS_n)))))).trans (((congrFun hq335 _).trans (mu_fn (by omega))).trans (funext fun _ => hst.2.2.1 _ _ (notS_c (by omega) (notS_c (by omega) (notS_c (by omega) (notS_c (by omega) (notS_c (by omega) (notS_c (by omega) (notS_c (by omega) (notS_c (by omega) (notS_c (by omega) (notS_c (by omega) notS_n)))))))))))))
                have hF359 : z341 (t + 2) = z0 (t + 2) := ((funext fun _ => hs345.2.2.1 _ _ (notS_c (by omega) (notS_c (by omega) (notS_c (by omega) (notS_c (by omega) (notS_c (by omega) notS_n)))))).trans (((congrFun hq335 _).trans (mu_fn (by omega))).trans (funext fun _ => hst.2.2.1 _ _ (notS_c (by omega) (notS_c (by omega) (notS_c (by omega) (notS_c (by omega) (notS_c (by omega) (notS_c (by omega) (notS_c (by omega) (notS_c (by omega) (notS_c (by omega) (notS_c (by omega) notS_n)))))))))))))
                have hF360 : z341 (t + 5) = z0 (t + 5) := ((funext fun _ => hs345.2.2.1 _ _ (notS_c (by omega) (notS_c (by omega) (notS_c (by omega) (notS_c (by omega) (notS_c (by omega) notS_n)))))).trans (((congrFun hq335 _).trans (mu_fn (by omega))).trans (funext fun _ => hst.2.2.1 _ _ (notS_c (by omega) (notS_c (by omega) (notS_c (by omega) (notS_c (by omega) (notS_c (by omega) (notS_c (by omega) (notS_c (by omega) (notS_c (by omega) (notS_c (by omega) (notS_c (by omega) notS_n)))))))))))))
                exact r_ret rfl (po_V hs347 ⟨rfl, (by refine ⟨by omega, ?_⟩; first | (intro h; exfalso; omega) | (intro _; exact RL_end hrd h51 (by omega) (by omega) (by omega) (by omega) (by omega) (by omega) (by simp only [hF358, hF359, hF360, hf351, hf353, hf355, hf356, hf357]) (by simp only [hF358, hF359, hF360, hf351, hf353, hf355, hf356, hf357]) (by simp only [hF358, hF359, hF360, hf351, hf353, hf355, hf356, hf357]) (fun l hl hne => funext fun i => (((hs345.2.2.2 _ _ (notS_c (by omega) (notS_c (by omega) (notS_c (by omega) (notS_c (by omega) (notS_c (by omega) notS_n)))))).trans ((congrFun (congrFun hq332 _) _).trans (mu_ne (by omega))))).trans (congrFun (as4 l hl hne) i)) (by rw [← as2.1, show w342 (t + 8 + x1.toNat) = w (t + 8 + x1.toNat) from funext fun i => ((hs345.2.2.2 _ _ (notS_c (by omega) (notS_c (by omega) (notS_c (by omega) (notS_c (by omega) (notS_c (by omega) notS_n)))))).trans ((congrFun (congrFun hq332 _) _).trans (mu_ne (by omega))))]; exact hfn (by omega))))⟩)
              · skip
                refine r_ld (pc' := 190) rfl rfl rfl rfl ?_
                refine r_cb (pc' := 192) rfl (by decide) rfl ?_
                refine r_ld (pc' := 193) rfl rfl rfl rfl ?_
                have hb361 := rd_3_8 hst.1
                refine r_gi (pc' := 196) rfl rfl sh_3 rfl rfl ?_
                refine r_cVV (pc' := 199) rfl rfl rfl rfl rfl sh_3 (m_33 (d := d + 3) 6 (z 3 8) hst.1 hst.2.1 ⟨by omega, by omega⟩ ⟨by omega, by omega⟩) (fun z363 w364 p365 hs367 hE368 => ?_)
                have hs369 := st_tr hst hs367 (subS_c (fun _ _ _ _ _ _ => inS_s (inS_s (inS_s (inS_s (inS_s (inS_0 (by omega) (by omega) (by omega) (by omega))))))) (subS_c (fun _ _ _ _ _ _ => inS_s (inS_s (inS_s (inS_s (inS_s (inS_s (inS_0 (by omega) (by omega) (by omega) (by omega)))))))) subS_n))
                obtain ⟨rfl, hE368⟩ := hE368
                have hf370 : z363 3 7 = z 3 7 := (hs367.2.2.1 _ _ (notS_c (by omega) (notS_c (by omega) notS_n)))
                have hb371 := rd_3_9 hst.1
                have hf372 : z363 3 9 = z 3 9 := (hs367.2.2.1 _ _ (notS_c (by omega) (notS_c (by omega) notS_n)))
                have hb373 := rd_3_0 hs369.1
                have hb374 := rd_3_5 hz
                have hf375 : z363 3 5 = z0 3 5 := ((hs367.2.2.1 _ _ (notS_c (by omega) (notS_c (by omega) notS_n))).trans (hst.2.2.1 _ _ (notS_c (by omega) (notS_c (by omega) (notS_c (by omega) (notS_c (by omega) (notS_c (by omega) (notS_c (by omega) (notS_c (by omega) (notS_c (by omega) (notS_c (by omega) (notS_c (by omega) notS_n))))))))))))
                have hb376 := rd_T_0 ht hz
                have hf377 : z363 t 0 = z0 t 0 := ((hs367.2.2.1 _ _ (notS_c (by omega) (notS_c (by omega) notS_n))).trans (hst.2.2.1 _ _ (notS_c (by omega) (notS_c (by omega) (notS_c (by omega) (notS_c (by omega) (notS_c (by omega) (notS_c (by omega) (notS_c (by omega) (notS_c (by omega) (notS_c (by omega) (notS_c (by omega) notS_n))))))))))))
                have hf378 : z363 t 1 = z0 t 1 := ((hs367.2.2.1 _ _ (notS_c (by omega) (notS_c (by omega) notS_n))).trans (hst.2.2.1 _ _ (notS_c (by omega) (notS_c (by omega) (notS_c (by omega) (notS_c (by omega) (notS_c (by omega) (notS_c (by omega) (notS_c (by omega) (notS_c (by omega) (notS_c (by omega) (notS_c (by omega) notS_n))))))))))))
                have hf379 : z363 t 3 = z0 t 3 := ((hs367.2.2.1 _ _ (notS_c (by omega) (notS_c (by omega) notS_n))).trans un_z_t_3)
                have hF380 : z363 (t + 1) = z0 (t + 1) := ((funext fun _ => hs367.2.2.1 _ _ (notS_c (by omega) (notS_c (by omega) notS_n))).trans (funext fun _ => hst.2.2.1 _ _ (notS_c (by omega) (notS_c (by omega) (notS_c (by omega) (notS_c (by omega) (notS_c (by omega) (notS_c (by omega) (notS_c (by omega) (notS_c (by omega) (notS_c (by omega) (notS_c (by omega) notS_n))))))))))))
                have hF381 : z363 (t + 2) = z0 (t + 2) := ((funext fun _ => hs367.2.2.1 _ _ (notS_c (by omega) (notS_c (by omega) notS_n))).trans (funext fun _ => hst.2.2.1 _ _ (notS_c (by omega) (notS_c (by omega) (notS_c (by omega) (notS_c (by omega) (notS_c (by omega) (notS_c (by omega) (notS_c (by omega) (notS_c (by omega) (notS_c (by omega) (notS_c (by omega) notS_n))))))))))))
                have hF382 : z363 (t + 5) = z0 (t + 5) := ((funext fun _ => hs367.2.2.1 _ _ (notS_c (by omega) (notS_c (by omega) notS_n))).trans (funext fun _ => hst.2.2.1 _ _ (notS_c (by omega) (notS_c (by omega) (notS_c (by omega) (notS_c (by omega) (notS_c (by omega) (notS_c (by omega) (notS_c (by omega) (notS_c (by omega) (notS_c (by omega) (notS_c (by omega) notS_n))))))))))))
                exact r_ret rfl (po_V hs369 ⟨rfl, (by refine ⟨by omega, ?_⟩; first | (intro h; exfalso; omega) | (intro _; exact RL_end hrd h51 (by omega) (by omega) (by omega) (by omega) (by omega) (by omega) (by simp only [hF380, hF381, hF382, hf370, hf372, hf375, hf377, hf378, hf379]) (by simp only [hF380, hF381, hF382, hf370, hf372, hf375, hf377, hf378, hf379]) (by simp only [hF380, hF381, hF382, hf370, hf372, hf375, hf377, hf378, hf379]) (fun l hl hne => funext fun i => ((hs367.2.2.2 _ _ (notS_c (by omega) (notS_c (by omega) notS_n)))).trans (congrFun (as4 l hl hne) i)) (by rw [← as2.1, show w364 (t + 8 + x1.toNat) = w (t + 8 + x1.toNat) from funext fun i => (hs367.2.2.2 _ _ (notS_c (by omega) (notS_c (by omega) notS_n)))]; exact hfn (by omega))))⟩)
            · skip
              have hb383 := rd_3_9 hst.1
              exact w_lv (sub_c rfl sub_n) rfl (ih2 z w ⟨by omega, by omega⟩ hst (un_z_t_3) (by first | omega | assumption) (by omega))
      · intro  z w  hz0_0 hst un_z_t_3 as1 hM
        refine r_ld (pc' := 172) rfl rfl rfl rfl ?_
        refine r_cVI (pc' := 175) rfl rfl rfl rfl rfl sh_3 (m_34 (d := d + 2)  hst.1 hst.2.1 ) (fun v384 z385 w386 p387 h388 hs389 hE390 => ?_)
        have hs391 := st_tr hst hs389 (subS_c (fun _ _ _ _ _ _ => inS_s (inS_s (inS_s (inS_s (inS_s (inS_0 (by omega) (by omega) (by omega) (by omega))))))) (subS_c (fun _ _ _ _ _ _ => inS_s (inS_s (inS_s (inS_s (inS_s (inS_s (inS_0 (by omega) (by omega) (by omega) (by omega)))))))) subS_n))
        obtain ⟨rfl, hE390⟩ := hE390
        refine r_al (pc' := 176) rfl rfl rfl rfl ?_
        have hb392 := rd_3_7 hst.1
        have hf393 : z385 3 7 = z 3 7 := (hs389.2.2.1 _ _ (notS_c (by omega) (notS_c (by omega) notS_n)))
        have hb394 := rd_3_9 hst.1
        have hf395 : z385 3 9 = z 3 9 := (hs389.2.2.1 _ _ (notS_c (by omega) (notS_c (by omega) notS_n)))
        have hb396 := rd_3_0 hs391.1
        have hb397 := rd_3_5 hz
        have hf398 : z385 3 5 = z0 3 5 := ((hs389.2.2.1 _ _ (notS_c (by omega) (notS_c (by omega) notS_n))).trans (hst.2.2.1 _ _ (notS_c (by omega) (notS_c (by omega) (notS_c (by omega) (notS_c (by omega) (notS_c (by omega) (notS_c (by omega) (notS_c (by omega) (notS_c (by omega) (notS_c (by omega) (notS_c (by omega) notS_n))))))))))))
        have hb399 := rd_T_0 ht hz
        have hf400 : z385 t 0 = z0 t 0 := ((hs389.2.2.1 _ _ (notS_c (by omega) (notS_c (by omega) notS_n))).trans (hst.2.2.1 _ _ (notS_c (by omega) (notS_c (by omega) (notS_c (by omega) (notS_c (by omega) (notS_c (by omega) (notS_c (by omega) (notS_c (by omega) (notS_c (by omega) (notS_c (by omega) (notS_c (by omega) notS_n))))))))))))
        have hb401 := rd_T_1 ht hz
        have hf402 : z385 t 1 = z0 t 1 := ((hs389.2.2.1 _ _ (notS_c (by omega) (notS_c (by omega) notS_n))).trans (hst.2.2.1 _ _ (notS_c (by omega) (notS_c (by omega) (notS_c (by omega) (notS_c (by omega) (notS_c (by omega) (notS_c (by omega) (notS_c (by omega) (notS_c (by omega) (notS_c (by omega) (notS_c (by omega) notS_n))))))))))))
        have hf403 : z385 t 3 = z0 t 3 := ((hs389.2.2.1 _ _ (notS_c (by omega) (notS_c (by omega) notS_n))).trans un_z_t_3)
        have hF404 : z385 (t + 1) = z0 (t + 1) := ((funext fun _ => hs389.2.2.1 _ _ (notS_c (by omega) (notS_c (by omega) notS_n))).trans (funext fun _ => hst.2.2.1 _ _ (notS_c (by omega) (notS_c (by omega) (notS_c (by omega) (notS_c (by omega) (notS_c (by omega) (notS_c (by omega) (notS_c (by omega) (notS_c (by omega) (notS_c (by omega) (notS_c (by omega) notS_n))))))))))))
        have hF405 : z385 (t + 2) = z0 (t + 2) := ((funext fun _ => hs389.2.2.1 _ _ (notS_c (by omega) (notS_c (by omega) notS_n))).trans (funext fun _ => hst.2.2.1 _ _ (notS_c (by omega) (notS_c (by omega) (notS_c (by omega) (notS_c (by omega) (notS_c (by omega) (notS_c (by omega) (notS_c (by omega) (notS_c (by omega) (notS_c (by omega) (notS_c (by omega) notS_n))))))))))))
        have hF406 : z385 (t + 5) = z0 (t + 5) := ((funext fun _ => hs389.2.2.1 _ _ (notS_c (by omega) (notS_c (by omega) notS_n))).trans (funext fun _ => hst.2.2.1 _ _ (notS_c (by omega) (notS_c (by omega) (notS_c (by omega) (notS_c (by omega) (notS_c (by omega) (notS_c (by omega) (notS_c (by omega) (notS_c (by omega) (notS_c (by omega) (notS_c (by omega) notS_n))))))))))))
        exact r_ret rfl (po_V hs391 ⟨rfl, (by refine ⟨by omega, ?_⟩; first | (intro h; exfalso; omega) | (intro _; exact RL_end hrd h51 (by omega) (by omega) (by omega) (by omega) (by omega) (by omega) (by simp only [hF404, hF405, hF406, hf393, hf395, hf398, hf400, hf402, hf403]) (by simp only [hF404, hF405, hF406, hf393, hf395, hf398, hf400, hf402, hf403]) (by simp only [hF404, hF405, hF406, hf393, hf395, hf398, hf400, hf402, hf403]) (fun l hl hne => funext fun i => (NOMARK).trans (congrFun (as4 l hl hne) i)) (by rw [← as2.1, show w386 (t + 8 + x1.toNat) = NOMARK (t + 8 + x1.toNat) from funext fun i => NOMARK]; exact hfn (by omega))))⟩)
  refine w_m rfl rfl ?_
  refine r_ld (pc' := 1) rfl rfl rfl rfl ?_
  refine r_gr (b := t) (pc' := 4) rfl rfl sh_3 rfl pp_3_4 ?_
  have hb407 := rd_T_3 ht hz
  refine r_gi (pc' := 7) rfl rfl (sh_T ht) rfl rfl ?_
  refine r_st (pc' := 8) (lv' := [(1, _), (0, _)]) rfl rfl rfl rfl ?_
  refine r_ld (pc' := 9) rfl rfl rfl rfl ?_
  refine r_cb (pc' := 11) rfl (by decide) rfl ?_
  refine r_ilt (pc' := 14) rfl rfl ⟨by omega, by omega⟩ ⟨by decide, by decide⟩ (fun hc408 => ?_) (fun hc408 => ?_)
  · skip
    refine r_ld (pc' := 21) rfl rfl rfl rfl ?_
    have hb409 := rd_3_7 hz
    have hb410 := rd_3_9 hz
    refine r_cVV (pc' := 24) rfl rfl rfl rfl rfl sh_3 (m_46 (d := d + 1) t hst.1 hst.2.1 ht (by first | omega | assumption)) (fun z412 w413 p414 hs416 hE417 => ?_)
    have hs418 := st_tr hst hs416 (subS_c (fun _ _ _ _ _ _ => inS_0 (by omega) (by omega) (by omega) (by omega)) (subS_c (fun _ _ _ _ _ _ => inS_s (inS_0 (by omega) (by omega) (by omega) (by omega))) (subS_c (fun _ _ _ _ _ _ => inS_s (inS_s (inS_0 (by omega) (by omega) (by omega) (by omega)))) (subS_c (fun _ _ _ _ _ _ => inS_s (inS_s (inS_s (inS_0 (by omega) (by omega) (by omega) (by omega))))) (subS_c (fun _ _ _ _ _ _ => inS_s (inS_s (inS_s (inS_s (inS_0 (by omega) (by omega) (by omega) (by omega)))))) subS_n)))))
    obtain ⟨rfl, hE417⟩ := hE417
    refine r_ld (pc' := 25) rfl rfl rfl rfl ?_
    have hb419 := rd_3_10 hs418.2.1
    refine r_gl (pc' := 28) rfl rfl sh_3 rfl rfl ?_
    refine r_st (pc' := 29) (lv' := [(2, _), (1, _), (0, _)]) rfl rfl rfl rfl ?_
    refine r_ld (pc' := 30) rfl rfl rfl rfl ?_
    refine r_ld (pc' := 31) rfl rfl rfl rfl ?_
    refine r_gr (b := t) (pc' := 34) rfl rfl sh_3 rfl pp_3_4 ?_
    refine r_ld (pc' := 35) rfl rfl rfl rfl ?_
    have hf420 : z412 t 3 = z0 t 3 := (hs416.2.2.1 _ _ (notS_c (by omega) (notS_c (by omega) (notS_c (by omega) (notS_c (by omega) (notS_c (by omega) notS_n))))))
    refine r_cVI (pc' := 38) rfl rfl rfl rfl rfl (sh_T ht) (m_82 (d := d + 2) t (w413 3 10) hs418.1 hs418.2.1 ⟨by omega, by omega⟩ ht) (fun v421 z422 w423 p424 h425 hs426 hE427 => ?_)
    obtain ⟨rfl, rfl, rfl, hE427⟩ := hE427
    have hb429 := rd_3_7 hs418.1
    have hb430 := rd_3_9 hs418.1
    have hb431 := rd_3_0 hz
    have hf432 : z412 3 0 = z0 3 0 := (hs416.2.2.1 _ _ (notS_c (by omega) (notS_c (by omega) (notS_c (by omega) (notS_c (by omega) (notS_c (by omega) notS_n))))))
    refine r_cVI (pc' := 41) rfl rfl rfl rfl rfl sh_3 (m_41 (d := d) t v421 hs418.1 hs418.2.1 ⟨by omega, by omega⟩ ht (by first | omega | assumption | (simp only [hf432]; assumption))) (fun v433 z434 w435 p436 h437 hs438 hE439 => ?_)
    have hs440 := st_tr hs418 hs438 (subS_c (fun _ _ _ _ _ _ => inS_0 (by omega) (by omega) (by omega) (by omega)) (subS_c (fun _ _ _ _ _ _ => inS_s (inS_0 (by omega) (by omega) (by omega) (by omega))) (subS_c (fun _ _ _ _ _ _ => inS_s (inS_s (inS_0 (by omega) (by omega) (by omega) (by omega)))) (subS_c (fun _ _ _ _ _ _ => inS_s (inS_s (inS_s (inS_0 (by omega) (by omega) (by omega) (by omega))))) (subS_c (fun _ _ _ _ _ _ => inS_s (inS_s (inS_s (inS_s (inS_0 (by omega) (by omega) (by omega) (by omega)))))) (subS_c (fun _ _ _ _ _ _ => inS_s (inS_s (inS_s (inS_s (inS_s (inS_0 (by omega) (by omega) (by omega) (by omega))))))) (subS_c (fun _ _ _ _ _ _ => inS_s (inS_s (inS_s (inS_s (inS_s (inS_s (inS_0 (by omega) (by omega) (by omega) (by omega)))))))) subS_n)))))))
    obtain ⟨rfl, hE439⟩ := hE439
    refine r_zeq (pc' := 44) rfl rfl ⟨by omega, by omega⟩ (fun hc441 => ?_) (fun hc441 => ?_)
    · skip
      have hb442 := rd_3_7 hs440.1
      have hb443 := rd_3_9 hs440.1
      have hb444 := rd_3_0 hs440.1
      have hb445 := rd_3_5 hz
      have hf446 : z434 3 5 = z0 3 5 := ((hs438.2.2.1 _ _ (notS_c (by omega) (notS_c (by omega) (notS_c (by omega) (notS_c (by omega) (notS_c (by omega) (notS_c (by omega) (notS_c (by omega) notS_n)))))))).trans (hs416.2.2.1 _ _ (notS_c (by omega) (notS_c (by omega) (notS_c (by omega) (notS_c (by omega) (notS_c (by omega) notS_n)))))))
      have hb447 := rd_T_0 ht hz
      have hf448 : z434 t 0 = z0 t 0 := ((hs438.2.2.1 _ _ (notS_c (by omega) (notS_c (by omega) (notS_c (by omega) (notS_c (by omega) (notS_c (by omega) (notS_c (by omega) (notS_c (by omega) notS_n)))))))).trans (hs416.2.2.1 _ _ (notS_c (by omega) (notS_c (by omega) (notS_c (by omega) (notS_c (by omega) (notS_c (by omega) notS_n)))))))
      have hb449 := rd_T_1 ht hz
      have hf450 : z434 t 1 = z0 t 1 := ((hs438.2.2.1 _ _ (notS_c (by omega) (notS_c (by omega) (notS_c (by omega) (notS_c (by omega) (notS_c (by omega) (notS_c (by omega) (notS_c (by omega) notS_n)))))))).trans (hs416.2.2.1 _ _ (notS_c (by omega) (notS_c (by omega) (notS_c (by omega) (notS_c (by omega) (notS_c (by omega) notS_n)))))))
      have hf451 : z434 t 3 = z0 t 3 := ((hs438.2.2.1 _ _ (notS_c (by omega) (notS_c (by omega) (notS_c (by omega) (notS_c (by omega) (notS_c (by omega) (notS_c (by omega) (notS_c (by omega) notS_n)))))))).trans (hs416.2.2.1 _ _ (notS_c (by omega) (notS_c (by omega) (notS_c (by omega) (notS_c (by omega) (notS_c (by omega) notS_n)))))))
      have hF452 : z434 (t + 1) = z0 (t + 1) := ((funext fun _ => hs438.2.2.1 _ _ (notS_c (by omega) (notS_c (by omega) (notS_c (by omega) (notS_c (by omega) (notS_c (by omega) (notS_c (by omega) (notS_c (by omega) notS_n)))))))).trans (funext fun _ => hs416.2.2.1 _ _ (notS_c (by omega) (notS_c (by omega) (notS_c (by omega) (notS_c (by omega) (notS_c (by omega) notS_n)))))))
      have hF453 : z434 (t + 2) = z0 (t + 2) := ((funext fun _ => hs438.2.2.1 _ _ (notS_c (by omega) (notS_c (by omega) (notS_c (by omega) (notS_c (by omega) (notS_c (by omega) (notS_c (by omega) (notS_c (by omega) notS_n)))))))).trans (funext fun _ => hs416.2.2.1 _ _ (notS_c (by omega) (notS_c (by omega) (notS_c (by omega) (notS_c (by omega) (notS_c (by omega) notS_n)))))))
      have hF454 : z434 (t + 5) = z0 (t + 5) := ((funext fun _ => hs438.2.2.1 _ _ (notS_c (by omega) (notS_c (by omega) (notS_c (by omega) (notS_c (by omega) (notS_c (by omega) (notS_c (by omega) (notS_c (by omega) notS_n)))))))).trans (funext fun _ => hs416.2.2.1 _ _ (notS_c (by omega) (notS_c (by omega) (notS_c (by omega) (notS_c (by omega) (notS_c (by omega) notS_n)))))))
      exact r_ret rfl (po_V hs440 ⟨rfl, (by refine ⟨by omega, ?_⟩; first | (intro h; exfalso; omega) | (intro _; exact RL_end hrd h51 (by omega) (by omega) (by omega) (by omega) (by omega) (by omega) (by simp only [hF452, hF453, hF454, hf446, hf448, hf450, hf451]) (by simp only [hF452, hF453, hF454, hf446, hf448, hf450, hf451]) (by simp only [hF452, hF453, hF454, hf446, hf448, hf450, hf451]) (fun l hl hne => funext fun i => (NOMARK).trans (congrFun (as4 l hl hne) i)) (by rw [← as2.1, show w435 (t + 8 + x1.toNat) = NOMARK (t + 8 + x1.toNat) from funext fun i => NOMARK]; exact hfn (by omega))))⟩)
    · skip
      refine r_ld (pc' := 45) rfl rfl rfl rfl ?_
      refine r_cb (pc' := 47) rfl (by decide) rfl ?_
      have hb455 := rd_3_7 hs440.1
      have hb456 := rd_3_9 hs440.1
      have hb457 := rd_3_0 hs440.1
      refine r_cVI (pc' := 50) rfl rfl rfl rfl rfl sh_3 (m_42 (d := d) t 8 hs440.1 hs440.2.1 ⟨by omega, by omega⟩ ht (by first | omega | assumption)) (fun v458 z459 w460 p461 h462 hs463 hE464 => ?_)
      have hs465 := st_tr hs440 hs463 (subS_c (fun _ _ _ _ _ _ => inS_0 (by omega) (by omega) (by omega) (by omega)) (subS_c (fun _ _ _ _ _ _ => inS_s (inS_0 (by omega) (by omega) (by omega) (by omega))) (subS_c (fun _ _ _ _ _ _ => inS_s (inS_s (inS_0 (by omega) (by omega) (by omega) (by omega)))) (subS_c (fun _ _ _ _ _ _ => inS_s (inS_s (inS_s (inS_0 (by omega) (by omega) (by omega) (by omega))))) (subS_c (fun _ _ _ _ _ _ => inS_s (inS_s (inS_s (inS_s (inS_0 (by omega) (by omega) (by omega) (by omega)))))) (subS_c (fun _ _ _ _ _ _ => inS_s (inS_s (inS_s (inS_s (inS_s (inS_0 (by omega) (by omega) (by omega) (by omega))))))) (subS_c (fun _ _ _ _ _ _ => inS_s (inS_s (inS_s (inS_s (inS_s (inS_s (inS_0 (by omega) (by omega) (by omega) (by omega)))))))) subS_n)))))))
      obtain ⟨rfl, hE464⟩ := hE464
      refine r_zne (pc' := 53) rfl rfl ⟨by omega, by omega⟩ (fun hc466 => ?_) (fun hc466 => ?_)
      · skip
        refine r_ld (pc' := 55) rfl rfl rfl rfl ?_
        refine r_gr (b := t) (pc' := 58) rfl rfl sh_3 rfl pp_3_4 ?_
        refine r_gr (b := t + 7) (pc' := 61) rfl rfl (sh_T ht) rfl (pp_T_11 ht) ?_
        refine r_ld (pc' := 62) rfl rfl rfl rfl ?_
        refine r_aa (b := t + 8 + (z0 t 3).toNat) (pc' := 63) rfl rfl (sh_T7 ht) (Or.inl rfl) rfl (by omega) (by omega) (pa_T7 ht (by omega)) ?_
        refine r_st (pc' := 65) (lv' := [(4, _), (2, _), (1, _), (0, _)]) rfl rfl rfl rfl ?_
        refine r_c0 (pc' := 66) rfl rfl ?_
        refine r_st (pc' := 68) (lv' := [(5, _), (4, _), (2, _), (1, _), (0, _)]) rfl rfl rfl rfl ?_
        refine r_c0 (pc' := 69) rfl rfl ?_
        refine r_st (pc' := 71) (lv' := [(6, _), (5, _), (4, _), (2, _), (1, _), (0, _)]) rfl rfl rfl rfl ?_
        have hb467 := rd_3_7 hs465.1
        have hb468 := rd_3_9 hs465.1
        exact w_lv (sub_c rfl (sub_c rfl (sub_c rfl (sub_c rfl (sub_c rfl (sub_c rfl sub_n)))))) rfl ((key ((117 * (18 - 0) + 79 : Int).toNat + 1)).1 (z0 t 3) (w413 3 10) 0 0 z459 w460 ⟨by omega, by omega⟩ ⟨by omega, by omega⟩ ⟨by omega, by omega⟩ ⟨by omega, by omega⟩ ⟨by omega, by omega⟩ hs465 (((hs463.2.2.1 _ _ (notS_c (by omega) (notS_c (by omega) (notS_c (by omega) (notS_c (by omega) (notS_c (by omega) (notS_c (by omega) (notS_c (by omega) notS_n)))))))).trans ((hs438.2.2.1 _ _ (notS_c (by omega) (notS_c (by omega) (notS_c (by omega) (notS_c (by omega) (notS_c (by omega) (notS_c (by omega) (notS_c (by omega) notS_n)))))))).trans (hs416.2.2.1 _ _ (notS_c (by omega) (notS_c (by omega) (notS_c (by omega) (notS_c (by omega) (notS_c (by omega) notS_n))))))))) (by first | omega | assumption) (by first | omega | assumption) (by first | (intro l hl hne; funext i; exact (((hs463.2.2.2 _ _ (notS_c (by omega) (notS_c (by omega) (notS_c (by omega) (notS_c (by omega) (notS_c (by omega) (notS_c (by omega) (notS_c (by omega) notS_n)))))))).trans ((hs438.2.2.2 _ _ (notS_c (by omega) (notS_c (by omega) (notS_c (by omega) (notS_c (by omega) (notS_c (by omega) (notS_c (by omega) (notS_c (by omega) notS_n)))))))).trans (hs416.2.2.2 _ _ (notS_c (by omega) (notS_c (by omega) (notS_c (by omega) (notS_c (by omega) (notS_c (by omega) notS_n))))))))).trans (congrFun (as4 l hl hne) i)) | (intro l hl hne; funext i; exact ((hs463.2.2.2 _ _ (notS_c (by omega) (notS_c (by omega) (notS_c (by omega) (notS_c (by omega) (notS_c (by omega) (notS_c (by omega) (notS_c (by omega) notS_n)))))))).trans ((hs438.2.2.2 _ _ (notS_c (by omega) (notS_c (by omega) (notS_c (by omega) (notS_c (by omega) (notS_c (by omega) (notS_c (by omega) (notS_c (by omega) notS_n)))))))).trans (hs416.2.2.2 _ _ (notS_c (by omega) (notS_c (by omega) (notS_c (by omega) (notS_c (by omega) (notS_c (by omega) notS_n))))))))) | exact as4) (by omega))
      · skip
        have hb469 := rd_3_7 hs465.1
        have hb470 := rd_3_9 hs465.1
        have hb471 := rd_3_0 hs465.1
        have hb472 := rd_3_5 hz
        have hf473 : z459 3 5 = z0 3 5 := ((hs463.2.2.1 _ _ (notS_c (by omega) (notS_c (by omega) (notS_c (by omega) (notS_c (by omega) (notS_c (by omega) (notS_c (by omega) (notS_c (by omega) notS_n)))))))).trans ((hs438.2.2.1 _ _ (notS_c (by omega) (notS_c (by omega) (notS_c (by omega) (notS_c (by omega) (notS_c (by omega) (notS_c (by omega) (notS_c (by omega) notS_n)))))))).trans (hs416.2.2.1 _ _ (notS_c (by omega) (notS_c (by omega) (notS_c (by omega) (notS_c (by omega) (notS_c (by omega) notS_n))))))))
        have hb474 := rd_T_0 ht hz
        have hf475 : z459 t 0 = z0 t 0 := ((hs463.2.2.1 _ _ (notS_c (by omega) (notS_c (by omega) (notS_c (by omega) (notS_c (by omega) (notS_c (by omega) (notS_c (by omega) (notS_c (by omega) notS_n)))))))).trans ((hs438.2.2.1 _ _ (notS_c (by omega) (notS_c (by omega) (notS_c (by omega) (notS_c (by omega) (notS_c (by omega) (notS_c (by omega) (notS_c (by omega) notS_n)))))))).trans (hs416.2.2.1 _ _ (notS_c (by omega) (notS_c (by omega) (notS_c (by omega) (notS_c (by omega) (notS_c (by omega) notS_n))))))))
        have hb476 := rd_T_1 ht hz
        have hf477 : z459 t 1 = z0 t 1 := ((hs463.2.2.1 _ _ (notS_c (by omega) (notS_c (by omega) (notS_c (by omega) (notS_c (by omega) (notS_c (by omega) (notS_c (by omega) (notS_c (by omega) notS_n)))))))).trans ((hs438.2.2.1 _ _ (notS_c (by omega) (notS_c (by omega) (notS_c (by omega) (notS_c (by omega) (notS_c (by omega) (notS_c (by omega) (notS_c (by omega) notS_n)))))))).trans (hs416.2.2.1 _ _ (notS_c (by omega) (notS_c (by omega) (notS_c (by omega) (notS_c (by omega) (notS_c (by omega) notS_n))))))))
        have hf478 : z459 t 3 = z0 t 3 := ((hs463.2.2.1 _ _ (notS_c (by omega) (notS_c (by omega) (notS_c (by omega) (notS_c (by omega) (notS_c (by omega) (notS_c (by omega) (notS_c (by omega) notS_n)))))))).trans ((hs438.2.2.1 _ _ (notS_c (by omega) (notS_c (by omega) (notS_c (by omega) (notS_c (by omega) (notS_c (by omega) (notS_c (by omega) (notS_c (by omega) notS_n)))))))).trans (hs416.2.2.1 _ _ (notS_c (by omega) (notS_c (by omega) (notS_c (by omega) (notS_c (by omega) (notS_c (by omega) notS_n))))))))
        have hF479 : z459 (t + 1) = z0 (t + 1) := ((funext fun _ => hs463.2.2.1 _ _ (notS_c (by omega) (notS_c (by omega) (notS_c (by omega) (notS_c (by omega) (notS_c (by omega) (notS_c (by omega) (notS_c (by omega) notS_n)))))))).trans ((funext fun _ => hs438.2.2.1 _ _ (notS_c (by omega) (notS_c (by omega) (notS_c (by omega) (notS_c (by omega) (notS_c (by omega) (notS_c (by omega) (notS_c (by omega) notS_n)))))))).trans (funext fun _ => hs416.2.2.1 _ _ (notS_c (by omega) (notS_c (by omega) (notS_c (by omega) (notS_c (by omega) (notS_c (by omega) notS_n))))))))
        have hF480 : z459 (t + 2) = z0 (t + 2) := ((funext fun _ => hs463.2.2.1 _ _ (notS_c (by omega) (notS_c (by omega) (notS_c (by omega) (notS_c (by omega) (notS_c (by omega) (notS_c (by omega) (notS_c (by omega) notS_n)))))))).trans ((funext fun _ => hs438.2.2.1 _ _ (notS_c (by omega) (notS_c (by omega) (notS_c (by omega) (notS_c (by omega) (notS_c (by omega) (notS_c (by omega) (notS_c (by omega) notS_n)))))))).trans (funext fun _ => hs416.2.2.1 _ _ (notS_c (by omega) (notS_c (by omega) (notS_c (by omega) (notS_c (by omega) (notS_c (by omega) notS_n))))))))
        have hF481 : z459 (t + 5) = z0 (t + 5) := ((funext fun _ => hs463.2.2.1 _ _ (notS_c (by omega) (notS_c (by omega) (notS_c (by omega) (notS_c (by omega) (notS_c (by omega) (notS_c (by omega) (notS_c (by omega) notS_n)))))))).trans ((funext fun _ => hs438.2.2.1 _ _ (notS_c (by omega) (notS_c (by omega) (notS_c (by omega) (notS_c (by omega) (notS_c (by omega) (notS_c (by omega) (notS_c (by omega) notS_n)))))))).trans (funext fun _ => hs416.2.2.1 _ _ (notS_c (by omega) (notS_c (by omega) (notS_c (by omega) (notS_c (by omega) (notS_c (by omega) notS_n))))))))
        exact r_ret rfl (po_V hs465 ⟨rfl, (by refine ⟨by omega, ?_⟩; first | (intro h; exfalso; omega) | (intro _; exact RL_end hrd h51 (by omega) (by omega) (by omega) (by omega) (by omega) (by omega) (by simp only [hF479, hF480, hF481, hf473, hf475, hf477, hf478]) (by simp only [hF479, hF480, hF481, hf473, hf475, hf477, hf478]) (by simp only [hF479, hF480, hF481, hf473, hf475, hf477, hf478]) (fun l hl hne => funext fun i => (NOMARK).trans (congrFun (as4 l hl hne) i)) (by rw [← as2.1, show w460 (t + 8 + x1.toNat) = NOMARK (t + 8 + x1.toNat) from funext fun i => NOMARK]; exact hfn (by omega))))⟩)
  · skip
    refine r_ld (pc' := 15) rfl rfl rfl rfl ?_
    refine r_cVI (pc' := 18) rfl rfl rfl rfl rfl sh_3 (m_34 (d := d + 2)  hst.1 hst.2.1 ) (fun v482 z483 w484 p485 h486 hs487 hE488 => ?_)
    have hs489 := st_tr hst hs487 (subS_c (fun _ _ _ _ _ _ => inS_s (inS_s (inS_s (inS_s (inS_s (inS_0 (by omega) (by omega) (by omega) (by omega))))))) (subS_c (fun _ _ _ _ _ _ => inS_s (inS_s (inS_s (inS_s (inS_s (inS_s (inS_0 (by omega) (by omega) (by omega) (by omega)))))))) subS_n))
    obtain ⟨rfl, hE488⟩ := hE488
    refine r_al (pc' := 19) rfl rfl rfl rfl ?_
    have hb490 := rd_3_7 hz
    have hf491 : z483 3 7 = z0 3 7 := (hs487.2.2.1 _ _ (notS_c (by omega) (notS_c (by omega) notS_n)))
    have hb492 := rd_3_9 hz
    have hf493 : z483 3 9 = z0 3 9 := (hs487.2.2.1 _ _ (notS_c (by omega) (notS_c (by omega) notS_n)))
    have hb494 := rd_3_0 hs489.1
    have hb495 := rd_3_5 hz
    have hf496 : z483 3 5 = z0 3 5 := (hs487.2.2.1 _ _ (notS_c (by omega) (notS_c (by omega) notS_n)))
    have hb497 := rd_T_0 ht hz
    have hf498 : z483 t 0 = z0 t 0 := (hs487.2.2.1 _ _ (notS_c (by omega) (notS_c (by omega) notS_n)))
    have hb499 := rd_T_1 ht hz
    have hf500 : z483 t 1 = z0 t 1 := (hs487.2.2.1 _ _ (notS_c (by omega) (notS_c (by omega) notS_n)))
    have hf501 : z483 t 3 = z0 t 3 := (hs487.2.2.1 _ _ (notS_c (by omega) (notS_c (by omega) notS_n)))
    have hF502 : z483 (t + 1) = z0 (t + 1) := (funext fun _ => hs487.2.2.1 _ _ (notS_c (by omega) (notS_c (by omega) notS_n)))
    have hF503 : z483 (t + 2) = z0 (t + 2) := (funext fun _ => hs487.2.2.1 _ _ (notS_c (by omega) (notS_c (by omega) notS_n)))
    have hF504 : z483 (t + 5) = z0 (t + 5) := (funext fun _ => hs487.2.2.1 _ _ (notS_c (by omega) (notS_c (by omega) notS_n)))
    exact r_ret rfl (po_V hs489 ⟨rfl, (by refine ⟨by omega, ?_⟩; first | (intro h; exfalso; omega) | (intro _; exact RL_end hrd h51 (by omega) (by omega) (by omega) (by omega) (by omega) (by omega) (by simp only [hF502, hF503, hF504, hf491, hf493, hf496, hf498, hf500, hf501]) (by simp only [hF502, hF503, hF504, hf491, hf493, hf496, hf498, hf500, hf501]) (by simp only [hF502, hF503, hF504, hf491, hf493, hf496, hf498, hf500, hf501]) (fun l hl hne => funext fun i => (NOMARK).trans (congrFun (as4 l hl hne) i)) (by rw [← as2.1, show w484 (t + 8 + x1.toNat) = NOMARK (t + 8 + x1.toNat) from funext fun i => NOMARK]; exact hfn (by omega))))⟩)
/-- Reader readTwists -/
abbrev S_39 (t : Nat) : mS := [(3, 3, 6, 6), (3, 3, 8, 8), (3, 3, 7, 7), (3, 3, 9, 9), (3, 3, 10, 10), (3, 3, 0, 0), (3, 3, 1, 1), (t + 20, t + 25, 0, 7), (t + 27, t + 32, 0, 7), (t + 17, t + 17, 0, 5), (t + 18, t + 18, 0, 5), (t, t, 4, 4)]
abbrev E_39 (t : Nat) (z0 w0 : mZ) (x y mt tt ct : Option Nat) : mZ → mZ → mP → Prop := fun z w p => p = (pq x y (some 2) (some t) mt tt ct) ∧ ((z 3 7 = 2 → 0 ≤ z 3 9 ∧ z 3 9 ≤ 9999) ∧ RD z w t)
theorem m_39 {d : Nat} {z0 w0 : mZ} {x y mt tt ct : Option Nat} (t : Nat) (hz : rz z0) (hw : rw_ w0) (ht : isT t) (hkn : (z0 3 7 = 2 → 0 ≤ z0 3 9 ∧ z0 3 9 ≤ 9999)) (hrd : RD z0 w0 t) : wc (d + 5) 39 [.ref 3] (mk z0 w0 (pq x y (some 2) (some t) mt tt ct)) (poV (S_39 t) z0 w0 (E_39 t z0 w0 x y mt tt ct)) := by
  have hst : st_ (S_39 t) z0 w0 z0 w0 := st_rf hz hw
  have htb : 159 ≤ t ∧ t ≤ 192 := by have := ht; unfold isT at this; omega
  have hz108 := rd_3_7 hz
  have hz109 := rd_3_9 hz
  have hz38 := rd_T_3 ht hz
  have key : ∀ N : Nat, (∀ (x1 x2 x4 x5 : Int) (z w : mZ), 0 ≤ x1 ∧ x1 ≤ 5 → (-9223372036854775808) ≤ x2 ∧ x2 ≤ 9223372036854775807 → 0 ≤ x4 ∧ x4 ≤ 8 → 0 ≤ x5 ∧ x5 ≤ 8 → 0 ≤ z0 t 4 ∧ z0 t 4 ≤ 5 → st_ (S_39 t) z0 w0 z w → z t 4 = z0 t 4 → ((z 3 7 = 2 → 0 ≤ z 3 9 ∧ z 3 9 ≤ 9999)) → (x4 = x5) → 74 * (8 - x4) + 42 < (N : Int) → wp_ (d + 4) 39 6 none (60, [(0, .ref 3), (1, .int (Int32.ofInt x1)), (2, .long (Int64.ofInt x2)), (4, .int (Int32.ofInt x4)), (5, .int (Int32.ofInt x5))], [], mk z w (pq x y (some 2) (some t) mt tt ct)) (poV (S_39 t) z0 w0 (E_39 t z0 w0 x y mt tt ct))) ∧ (∀ (x1 x2 x4 x5 : Int) (z w : mZ), 0 ≤ x1 ∧ x1 ≤ 5 → (-9223372036854775808) ≤ x2 ∧ x2 ≤ 9223372036854775807 → 0 ≤ x4 ∧ x4 ≤ 8 → 0 ≤ x5 ∧ x5 ≤ 8 → 0 ≤ z0 t 4 ∧ z0 t 4 ≤ 5 → st_ (S_39 t) z0 w0 z w → z t 4 = z0 t 4 → ((z 3 7 = 2 → 0 ≤ z 3 9 ∧ z 3 9 ≤ 9999)) → (x4 = x5) → 74 * (8 - x4) + 33 < (N : Int) → wp_ (d + 4) 39 6 none (80, [(0, .ref 3), (1, .int (Int32.ofInt x1)), (2, .long (Int64.ofInt x2)), (4, .int (Int32.ofInt x4)), (5, .int (Int32.ofInt x5))], [], mk z w (pq x y (some 2) (some t) mt tt ct)) (poV (S_39 t) z0 w0 (E_39 t z0 w0 x y mt tt ct))) ∧ (∀ (x1 x2 x4 : Int) (z w : mZ), 0 ≤ x1 ∧ x1 ≤ 5 → (-9223372036854775808) ≤ x2 ∧ x2 ≤ 9223372036854775807 → 0 ≤ x4 ∧ x4 ≤ 8 → 0 ≤ z0 t 4 ∧ z0 t 4 ≤ 5 → st_ (S_39 t) z0 w0 z w → z t 4 = z0 t 4 → ((z 3 7 = 2 → 0 ≤ z 3 9 ∧ z 3 9 ≤ 9999)) → 24 < (N : Int) → wp_ (d + 4) 39 6 none (100, [(0, .ref 3), (1, .int (Int32.ofInt x1)), (2, .long (Int64.ofInt x2)), (4, .int (Int32.ofInt x4))], [], mk z w (pq x y (some 2) (some t) mt tt ct)) (poV (S_39 t) z0 w0 (E_39 t z0 w0 x y mt tt ct))) := by
    intro N
    induction N with
    | zero =>
      refine ⟨?_, ?_, ?_⟩
      · intro x1 x2 x4 x5 z w
        intros; exfalso; omega
      · intro x1 x2 x4 x5 z w
        intros; exfalso; omega
      · intro x1 x2 x4 z w
        intros; exfalso; omega
    | succ N ih =>
      obtain ⟨ih0, ih1, ih2⟩ := ih
      refine ⟨?_, ?_, ?_⟩
      · intro x1 x2 x4 x5 z w  hx1 hx2 hx4 hx5 hz0_0 hst un_z_t_4 as1 as2 hM
        refine r_ld (pc' := 62) rfl rfl rfl rfl ?_
        refine r_cb (pc' := 64) rfl (by decide) rfl ?_
        refine r_igt (pc' := 67) rfl rfl ⟨by omega, by omega⟩ ⟨by decide, by decide⟩ (fun hc110 => ?_) (fun hc110 => ?_)
        · exfalso; omega
        · skip
          refine r_ld (pc' := 69) rfl rfl rfl rfl ?_
          refine r_zeq (pc' := 72) rfl rfl ⟨by omega, by omega⟩ (fun hc111 => ?_) (fun hc111 => ?_)
          · skip
            have hb112 := rd_3_7 hst.1
            have hb113 := rd_3_9 hst.1
            exact w_lv (sub_c rfl (sub_c rfl (sub_c rfl (sub_c rfl (sub_c rfl sub_n))))) rfl (ih1 x1 x2 x4 x5 z w ⟨by omega, by omega⟩ ⟨by omega, by omega⟩ ⟨by omega, by omega⟩ ⟨by omega, by omega⟩ ⟨by omega, by omega⟩ hst (un_z_t_4) (by first | omega | assumption) (by first | omega | assumption) (by omega))
          · skip
            refine r_ld (pc' := 73) rfl rfl rfl rfl ?_
            have hb114 := rd_3_7 hst.1
            refine r_gi (pc' := 76) rfl rfl sh_3 rfl rfl ?_
            refine r_c0 (pc' := 77) rfl rfl ?_
            refine r_ieq (pc' := 80) rfl rfl ⟨by omega, by omega⟩ ⟨by decide, by decide⟩ (fun hc115 => ?_) (fun hc115 => ?_)
            · skip
              have hb116 := rd_3_9 hst.1
              exact w_lv (sub_c rfl (sub_c rfl (sub_c rfl (sub_c rfl sub_n)))) rfl (ih2 x1 x2 x4 z w ⟨by omega, by omega⟩ ⟨by omega, by omega⟩ ⟨by omega, by omega⟩ ⟨by omega, by omega⟩ hst (un_z_t_4) (by first | omega | assumption) (by omega))
            · skip
              have hb117 := rd_3_9 hst.1
              exact w_lv (sub_c rfl (sub_c rfl (sub_c rfl (sub_c rfl (sub_c rfl sub_n))))) rfl (ih1 x1 x2 x4 x5 z w ⟨by omega, by omega⟩ ⟨by omega, by omega⟩ ⟨by omega, by omega⟩ ⟨by omega, by omega⟩ ⟨by omega, by omega⟩ hst (un_z_t_4) (by first | omega | assumption) (by first | omega | assumption) (by omega))
      · intro x1 x2 x4 x5 z w  hx1 hx2 hx4 hx5 hz0_0 hst un_z_t_4 as1 as2 hM
        refine r_ld (pc' := 81) rfl rfl rfl rfl ?_
        refine r_ld (pc' := 82) rfl rfl rfl rfl ?_
        refine r_ld (pc' := 84) rfl rfl rfl rfl ?_
        have hb118 := rd_3_7 hst.1
        have hb119 := rd_3_9 hst.1
        refine r_cVI (pc' := 87) rfl rfl rfl rfl rfl sh_3 (m_40 (d := d) t x1 x4 hst.1 hst.2.1 ⟨by omega, by omega⟩ ⟨by omega, by omega⟩ ht (by first | omega | assumption)) (fun v120 z121 w122 p123 h124 hs125 hE126 => ?_)
        have hs127 := st_tr hst hs125 (subS_c (fun _ _ _ _ _ _ => inS_0 (by omega) (by omega) (by omega) (by omega)) (subS_c (fun _ _ _ _ _ _ => inS_s (inS_0 (by omega) (by omega) (by omega) (by omega))) (subS_c (fun _ _ _ _ _ _ => inS_s (inS_s (inS_0 (by omega) (by omega) (by omega) (by omega)))) (subS_c (fun _ _ _ _ _ _ => inS_s (inS_s (inS_s (inS_0 (by omega) (by omega) (by omega) (by omega))))) (subS_c (fun _ _ _ _ _ _ => inS_s (inS_s (inS_s (inS_s (inS_0 (by omega) (by omega) (by omega) (by omega)))))) (subS_c (fun _ _ _ _ _ _ => inS_s (inS_s (inS_s (inS_s (inS_s (inS_0 (by omega) (by omega) (by omega) (by omega))))))) (subS_c (fun _ _ _ _ _ _ => inS_s (inS_s (inS_s (inS_s (inS_s (inS_s (inS_0 (by omega) (by omega) (by omega) (by omega)))))))) (subS_c (fun _ _ _ _ _ _ => inS_s (inS_s (inS_s (inS_s (inS_s (inS_s (inS_s (inS_0 (by omega) (by omega) (by omega) (by omega))))))))) (subS_c (fun _ _ _ _ _ _ => inS_s (inS_s (inS_s (inS_s (inS_s (inS_s (inS_s (inS_s (inS_0 (by omega) (by omega) (by omega) (by omega)))))))))) subS_n)))))))))
        obtain ⟨rfl, hE126⟩ := hE126
        refine r_zne (pc' := 90) rfl rfl ⟨by omega, by omega⟩ (fun hc128 => ?_) (fun hc128 => ?_)
        · skip
          refine r_inc (pc' := 94) (lv' := [(0, _), (1, _), (2, _), (5, _)]) rfl rfl rfl rfl rfl ?_
          refine r_inc (pc' := 97) (lv' := [(4, _), (0, _), (1, _), (2, _)]) rfl rfl rfl rfl rfl ?_
          refine r_go rfl ?_
          have hb129 := rd_3_7 hs127.1
          have hb130 := rd_3_9 hs127.1
          exact w_lv (sub_c rfl (sub_c rfl (sub_c rfl (sub_c rfl (sub_c rfl sub_n))))) rfl (ih0 x1 x2 (x4 + 1) (x5 + 1) z121 w122 ⟨by omega, by omega⟩ ⟨by omega, by omega⟩ ⟨by omega, by omega⟩ ⟨by omega, by omega⟩ ⟨by omega, by omega⟩ hs127 (((hs125.2.2.1 _ _ (notS_c (by omega) (notS_c (by omega) (notS_c (by omega) (notS_c (by omega) (notS_c (by omega) (notS_c (by omega) (notS_c (by omega) (notS_c (by omega) (notS_c (by omega) notS_n)))))))))).trans un_z_t_4)) (by first | omega | assumption) (by first | omega | assumption) (by omega))
        · skip
          have hb131 := rd_3_7 hs127.1
          have hb132 := rd_3_9 hs127.1
          exact r_ret rfl (po_V hs127 ⟨rfl, (by exact ⟨by omega, RD_f hs127 (by omega) (notS_c (by omega) (notS_c (by omega) (notS_c (by omega) (notS_c (by omega) (notS_c (by omega) (notS_c (by omega) (notS_c (by omega) (notS_c (by omega) (notS_c (by omega) (notS_c (by omega) (notS_c (by omega) (notS_c (by omega) (notS_n))))))))))))) (notS_c (by omega) (notS_c (by omega) (notS_c (by omega) (notS_c (by omega) (notS_c (by omega) (notS_c (by omega) (notS_c (by omega) (notS_c (by omega) (notS_c (by omega) (notS_c (by omega) (notS_c (by omega) (notS_c (by omega) (notS_n))))))))))))) (notS_c (by omega) (notS_c (by omega) (notS_c (by omega) (notS_c (by omega) (notS_c (by omega) (notS_c (by omega) (notS_c (by omega) (notS_c (by omega) (notS_c (by omega) (notS_c (by omega) (notS_c (by omega) (notS_c (by omega) (notS_n))))))))))))) (notS_c (by omega) (notS_c (by omega) (notS_c (by omega) (notS_c (by omega) (notS_c (by omega) (notS_c (by omega) (notS_c (by omega) (notS_c (by omega) (notS_c (by omega) (notS_c (by omega) (notS_c (by omega) (notS_c (by omega) (notS_n))))))))))))) (fun a h1 h2 i => (notS_c (by omega) (notS_c (by omega) (notS_c (by omega) (notS_c (by omega) (notS_c (by omega) (notS_c (by omega) (notS_c (by omega) (notS_c (by omega) (notS_c (by omega) (notS_c (by omega) (notS_c (by omega) (notS_c (by omega) (notS_n)))))))))))))) (fun a h1 h2 i => (notS_c (by omega) (notS_c (by omega) (notS_c (by omega) (notS_c (by omega) (notS_c (by omega) (notS_c (by omega) (notS_c (by omega) (notS_c (by omega) (notS_c (by omega) (notS_c (by omega) (notS_c (by omega) (notS_c (by omega) (notS_n)))))))))))))) (fun a h1 h2 i => (notS_c (by omega) (notS_c (by omega) (notS_c (by omega) (notS_c (by omega) (notS_c (by omega) (notS_c (by omega) (notS_c (by omega) (notS_c (by omega) (notS_c (by omega) (notS_c (by omega) (notS_c (by omega) (notS_c (by omega) (notS_n)))))))))))))) hrd⟩)⟩)
      · intro x1 x2 x4 z w  hx1 hx2 hx4 hz0_0 hst un_z_t_4 as1 hM
        refine r_ld (pc' := 101) rfl rfl rfl rfl ?_
        refine r_c0 (pc' := 102) rfl rfl ?_
        have hb133 := rd_3_7 hst.1
        have hb134 := rd_3_9 hst.1
        have hb135 := rd_3_0 hst.1
        refine r_cVI (pc' := 105) rfl rfl rfl rfl rfl sh_3 (m_42 (d := d) t 3 hst.1 hst.2.1 ⟨by omega, by omega⟩ ht (by first | omega | assumption)) (fun v136 z137 w138 p139 h140 hs141 hE142 => ?_)
        have hs143 := st_tr hst hs141 (subS_c (fun _ _ _ _ _ _ => inS_0 (by omega) (by omega) (by omega) (by omega)) (subS_c (fun _ _ _ _ _ _ => inS_s (inS_0 (by omega) (by omega) (by omega) (by omega))) (subS_c (fun _ _ _ _ _ _ => inS_s (inS_s (inS_0 (by omega) (by omega) (by omega) (by omega)))) (subS_c (fun _ _ _ _ _ _ => inS_s (inS_s (inS_s (inS_0 (by omega) (by omega) (by omega) (by omega))))) (subS_c (fun _ _ _ _ _ _ => inS_s (inS_s (inS_s (inS_s (inS_0 (by omega) (by omega) (by omega) (by omega)))))) (subS_c (fun _ _ _ _ _ _ => inS_s (inS_s (inS_s (inS_s (inS_s (inS_0 (by omega) (by omega) (by omega) (by omega))))))) (subS_c (fun _ _ _ _ _ _ => inS_s (inS_s (inS_s (inS_s (inS_s (inS_s (inS_0 (by omega) (by omega) (by omega) (by omega)))))))) subS_n)))))))
        obtain ⟨rfl, hE142⟩ := hE142
        refine r_zeq (pc' := 108) rfl rfl ⟨by omega, by omega⟩ (fun hc144 => ?_) (fun hc144 => ?_)
        · skip
          have hb145 := rd_3_7 hs143.1
          have hb146 := rd_3_9 hs143.1
          exact r_ret rfl (po_V hs143 ⟨rfl, (by exact ⟨by omega, RD_f hs143 (by omega) (notS_c (by omega) (notS_c (by omega) (notS_c (by omega) (notS_c (by omega) (notS_c (by omega) (notS_c (by omega) (notS_c (by omega) (notS_c (by omega) (notS_c (by omega) (notS_c (by omega) (notS_c (by omega) (notS_c (by omega) (notS_n))))))))))))) (notS_c (by omega) (notS_c (by omega) (notS_c (by omega) (notS_c (by omega) (notS_c (by omega) (notS_c (by omega) (notS_c (by omega) (notS_c (by omega) (notS_c (by omega) (notS_c (by omega) (notS_c (by omega) (notS_c (by omega) (notS_n))))))))))))) (notS_c (by omega) (notS_c (by omega) (notS_c (by omega) (notS_c (by omega) (notS_c (by omega) (notS_c (by omega) (notS_c (by omega) (notS_c (by omega) (notS_c (by omega) (notS_c (by omega) (notS_c (by omega) (notS_c (by omega) (notS_n))))))))))))) (notS_c (by omega) (notS_c (by omega) (notS_c (by omega) (notS_c (by omega) (notS_c (by omega) (notS_c (by omega) (notS_c (by omega) (notS_c (by omega) (notS_c (by omega) (notS_c (by omega) (notS_c (by omega) (notS_c (by omega) (notS_n))))))))))))) (fun a h1 h2 i => (notS_c (by omega) (notS_c (by omega) (notS_c (by omega) (notS_c (by omega) (notS_c (by omega) (notS_c (by omega) (notS_c (by omega) (notS_c (by omega) (notS_c (by omega) (notS_c (by omega) (notS_c (by omega) (notS_c (by omega) (notS_n)))))))))))))) (fun a h1 h2 i => (notS_c (by omega) (notS_c (by omega) (notS_c (by omega) (notS_c (by omega) (notS_c (by omega) (notS_c (by omega) (notS_c (by omega) (notS_c (by omega) (notS_c (by omega) (notS_c (by omega) (notS_c (by omega) (notS_c (by omega) (notS_n)))))))))))))) (fun a h1 h2 i => (notS_c (by omega) (notS_c (by omega) (notS_c (by omega) (notS_c (by omega) (notS_c (by omega) (notS_c (by omega) (notS_c (by omega) (notS_c (by omega) (notS_c (by omega) (notS_c (by omega) (notS_c (by omega) (notS_c (by omega) (notS_n)))))))))))))) hrd⟩)⟩)
        · skip
          refine r_ld (pc' := 109) rfl rfl rfl rfl ?_
          refine r_gr (b := t) (pc' := 112) rfl rfl sh_3 rfl pp_3_4 ?_
          refine r_gr (b := t + 17) (pc' := 115) rfl rfl (sh_T ht) rfl (pp_T_13 ht) ?_
          refine r_ld (pc' := 116) rfl rfl rfl rfl ?_
          refine r_ld (pc' := 117) rfl rfl rfl rfl ?_
          refine r_ls (pc' := 118) rfl rfl (sh_T17 ht) rfl (by omega) (by omega) hs143 (inS_s (inS_s (inS_s (inS_s (inS_s (inS_s (inS_s (inS_s (inS_s (inS_0 (by omega) (by omega) (by omega) (by omega))))))))))) (wr_T17 ht ⟨by omega, by omega⟩) (fun w147 hq148 hs149 => ?_)
          refine r_ld (pc' := 119) rfl rfl rfl rfl ?_
          refine r_gr (b := t) (pc' := 122) rfl rfl sh_3 rfl pp_3_4 ?_
          refine r_gr (b := t + 18) (pc' := 125) rfl rfl (sh_T ht) rfl (pp_T_14 ht) ?_
          refine r_ld (pc' := 126) rfl rfl rfl rfl ?_
          refine r_ld (pc' := 128) rfl rfl rfl rfl ?_
          refine r_is (pc' := 129) rfl rfl (sh_T18 ht) rfl (by omega) (by omega) hs149 (inS_s (inS_s (inS_s (inS_s (inS_s (inS_s (inS_s (inS_s (inS_s (inS_s (inS_0 (by omega) (by omega) (by omega) (by omega)))))))))))) (wr_T18 ht ⟨by omega, by omega⟩) (fun z150 hq151 hs152 => ?_)
          refine r_ld (pc' := 130) rfl rfl rfl rfl ?_
          refine r_gr (b := t) (pc' := 133) rfl rfl sh_3 rfl pp_3_4 ?_
          refine r_al (pc' := 134) rfl rfl rfl rfl ?_
          refine r_gi (pc' := 137) rfl rfl (sh_T ht) rfl (((congrFun (congrFun hq151 _) _).trans (mu_ne (by omega))).trans ((hs141.2.2.1 _ _ (notS_c (by omega) (notS_c (by omega) (notS_c (by omega) (notS_c (by omega) (notS_c (by omega) (notS_c (by omega) (notS_c (by omega) notS_n)))))))).trans un_z_t_4)) ?_
          refine r_c0 (pc' := 138) rfl rfl ?_
          refine r_add (pc' := 139) rfl rfl ?_
          refine r_pi (pc' := 142) rfl rfl (sh_T ht) rfl rfl hs152 (inS_s (inS_s (inS_s (inS_s (inS_s (inS_s (inS_s (inS_s (inS_s (inS_s (inS_s (inS_0 (by omega) (by omega) (by omega) (by omega))))))))))))) (wr_T_4 ht ⟨by omega, by omega⟩) (fun z153 hq154 hs155 => ?_)
          have hb156 := rd_3_7 hs143.1
          have hf157 : z153 3 7 = z137 3 7 := (((congrFun (congrFun hq154 _) _).trans (mu_ne (by omega))).trans ((congrFun (congrFun hq151 _) _).trans (mu_ne (by omega))))
          have hb158 := rd_3_9 hs143.1
          have hf159 : z153 3 9 = z137 3 9 := (((congrFun (congrFun hq154 _) _).trans (mu_ne (by omega))).trans ((congrFun (congrFun hq151 _) _).trans (mu_ne (by omega))))
          exact r_ret rfl (po_V hs155 ⟨rfl, (by exact ⟨by omega, RD_f hs155 (by omega) (notS_c (by omega) (notS_c (by omega) (notS_c (by omega) (notS_c (by omega) (notS_c (by omega) (notS_c (by omega) (notS_c (by omega) (notS_c (by omega) (notS_c (by omega) (notS_c (by omega) (notS_c (by omega) (notS_c (by omega) (notS_n))))))))))))) (notS_c (by omega) (notS_c (by omega) (notS_c (by omega) (notS_c (by omega) (notS_c (by omega) (notS_c (by omega) (notS_c (by omega) (notS_c (by omega) (notS_c (by omega) (notS_c (by omega) (notS_c (by omega) (notS_c (by omega) (notS_n))))))))))))) (notS_c (by omega) (notS_c (by omega) (notS_c (by omega) (notS_c (by omega) (notS_c (by omega) (notS_c (by omega) (notS_c (by omega) (notS_c (by omega) (notS_c (by omega) (notS_c (by omega) (notS_c (by omega) (notS_c (by omega) (notS_n))))))))))))) (notS_c (by omega) (notS_c (by omega) (notS_c (by omega) (notS_c (by omega) (notS_c (by omega) (notS_c (by omega) (notS_c (by omega) (notS_c (by omega) (notS_c (by omega) (notS_c (by omega) (notS_c (by omega) (notS_c (by omega) (notS_n))))))))))))) (fun a h1 h2 i => (notS_c (by omega) (notS_c (by omega) (notS_c (by omega) (notS_c (by omega) (notS_c (by omega) (notS_c (by omega) (notS_c (by omega) (notS_c (by omega) (notS_c (by omega) (notS_c (by omega) (notS_c (by omega) (notS_c (by omega) (notS_n)))))))))))))) (fun a h1 h2 i => (notS_c (by omega) (notS_c (by omega) (notS_c (by omega) (notS_c (by omega) (notS_c (by omega) (notS_c (by omega) (notS_c (by omega) (notS_c (by omega) (notS_c (by omega) (notS_c (by omega) (notS_c (by omega) (notS_c (by omega) (notS_n)))))))))))))) (fun a h1 h2 i => (notS_c (by omega) (notS_c (by omega) (notS_c (by omega) (notS_c (by omega) (notS_c (by omega) (notS_c (by omega) (notS_c (by omega) (notS_c (by omega) (notS_c (by omega) (notS_c (by omega) (notS_c (by omega) (notS_c (by omega) (notS_n)))))))))))))) hrd⟩)⟩)
  refine w_m rfl rfl ?_
  refine r_ld (pc' := 1) rfl rfl rfl rfl ?_
  refine r_gr (b := t) (pc' := 4) rfl rfl sh_3 rfl pp_3_4 ?_
  have hb160 := rd_T_4 ht hz
  refine r_gi (pc' := 7) rfl rfl (sh_T ht) rfl rfl ?_
  refine r_st (pc' := 8) (lv' := [(1, _), (0, _)]) rfl rfl rfl rfl ?_
  refine r_ld (pc' := 9) rfl rfl rfl rfl ?_
  refine r_cb (pc' := 11) rfl (by decide) rfl ?_
  refine r_ilt (pc' := 14) rfl rfl ⟨by omega, by omega⟩ ⟨by decide, by decide⟩ (fun hc161 => ?_) (fun hc161 => ?_)
  · skip
    refine r_ld (pc' := 21) rfl rfl rfl rfl ?_
    have hb162 := rd_3_7 hz
    have hb163 := rd_3_9 hz
    refine r_cVV (pc' := 24) rfl rfl rfl rfl rfl sh_3 (m_46 (d := d + 1) t hst.1 hst.2.1 ht (by first | omega | assumption)) (fun z165 w166 p167 hs169 hE170 => ?_)
    have hs171 := st_tr hst hs169 (subS_c (fun _ _ _ _ _ _ => inS_0 (by omega) (by omega) (by omega) (by omega)) (subS_c (fun _ _ _ _ _ _ => inS_s (inS_0 (by omega) (by omega) (by omega) (by omega))) (subS_c (fun _ _ _ _ _ _ => inS_s (inS_s (inS_0 (by omega) (by omega) (by omega) (by omega)))) (subS_c (fun _ _ _ _ _ _ => inS_s (inS_s (inS_s (inS_0 (by omega) (by omega) (by omega) (by omega))))) (subS_c (fun _ _ _ _ _ _ => inS_s (inS_s (inS_s (inS_s (inS_0 (by omega) (by omega) (by omega) (by omega)))))) subS_n)))))
    obtain ⟨rfl, hE170⟩ := hE170
    refine r_ld (pc' := 25) rfl rfl rfl rfl ?_
    have hb172 := rd_3_10 hs171.2.1
    refine r_gl (pc' := 28) rfl rfl sh_3 rfl rfl ?_
    refine r_st (pc' := 29) (lv' := [(2, _), (1, _), (0, _)]) rfl rfl rfl rfl ?_
    refine r_ld (pc' := 30) rfl rfl rfl rfl ?_
    refine r_ld (pc' := 31) rfl rfl rfl rfl ?_
    refine r_gr (b := t) (pc' := 34) rfl rfl sh_3 rfl pp_3_4 ?_
    refine r_ld (pc' := 35) rfl rfl rfl rfl ?_
    have hf173 : z165 t 4 = z0 t 4 := (hs169.2.2.1 _ _ (notS_c (by omega) (notS_c (by omega) (notS_c (by omega) (notS_c (by omega) (notS_c (by omega) notS_n))))))
    refine r_cVI (pc' := 38) rfl rfl rfl rfl rfl (sh_T ht) (m_83 (d := d + 2) t (w166 3 10) hs171.1 hs171.2.1 ⟨by omega, by omega⟩ ht) (fun v174 z175 w176 p177 h178 hs179 hE180 => ?_)
    obtain ⟨rfl, rfl, rfl, hE180⟩ := hE180
    have hb182 := rd_3_7 hs171.1
    have hb183 := rd_3_9 hs171.1
    have hb184 := rd_3_0 hz
    have hf185 : z165 3 0 = z0 3 0 := (hs169.2.2.1 _ _ (notS_c (by omega) (notS_c (by omega) (notS_c (by omega) (notS_c (by omega) (notS_c (by omega) notS_n))))))
    refine r_cVI (pc' := 41) rfl rfl rfl rfl rfl sh_3 (m_41 (d := d) t v174 hs171.1 hs171.2.1 ⟨by omega, by omega⟩ ht (by first | omega | assumption | (simp only [hf185]; assumption))) (fun v186 z187 w188 p189 h190 hs191 hE192 => ?_)
    have hs193 := st_tr hs171 hs191 (subS_c (fun _ _ _ _ _ _ => inS_0 (by omega) (by omega) (by omega) (by omega)) (subS_c (fun _ _ _ _ _ _ => inS_s (inS_0 (by omega) (by omega) (by omega) (by omega))) (subS_c (fun _ _ _ _ _ _ => inS_s (inS_s (inS_0 (by omega) (by omega) (by omega) (by omega)))) (subS_c (fun _ _ _ _ _ _ => inS_s (inS_s (inS_s (inS_0 (by omega) (by omega) (by omega) (by omega))))) (subS_c (fun _ _ _ _ _ _ => inS_s (inS_s (inS_s (inS_s (inS_0 (by omega) (by omega) (by omega) (by omega)))))) (subS_c (fun _ _ _ _ _ _ => inS_s (inS_s (inS_s (inS_s (inS_s (inS_0 (by omega) (by omega) (by omega) (by omega))))))) (subS_c (fun _ _ _ _ _ _ => inS_s (inS_s (inS_s (inS_s (inS_s (inS_s (inS_0 (by omega) (by omega) (by omega) (by omega)))))))) subS_n)))))))
    obtain ⟨rfl, hE192⟩ := hE192
    refine r_zeq (pc' := 44) rfl rfl ⟨by omega, by omega⟩ (fun hc194 => ?_) (fun hc194 => ?_)
    · skip
      have hb195 := rd_3_7 hs193.1
      have hb196 := rd_3_9 hs193.1
      exact r_ret rfl (po_V hs193 ⟨rfl, (by exact ⟨by omega, RD_f hs193 (by omega) (notS_c (by omega) (notS_c (by omega) (notS_c (by omega) (notS_c (by omega) (notS_c (by omega) (notS_c (by omega) (notS_c (by omega) (notS_c (by omega) (notS_c (by omega) (notS_c (by omega) (notS_c (by omega) (notS_c (by omega) (notS_n))))))))))))) (notS_c (by omega) (notS_c (by omega) (notS_c (by omega) (notS_c (by omega) (notS_c (by omega) (notS_c (by omega) (notS_c (by omega) (notS_c (by omega) (notS_c (by omega) (notS_c (by omega) (notS_c (by omega) (notS_c (by omega) (notS_n))))))))))))) (notS_c (by omega) (notS_c (by omega) (notS_c (by omega) (notS_c (by omega) (notS_c (by omega) (notS_c (by omega) (notS_c (by omega) (notS_c (by omega) (notS_c (by omega) (notS_c (by omega) (notS_c (by omega) (notS_c (by omega) (notS_n))))))))))))) (notS_c (by omega) (notS_c (by omega) (notS_c (by omega) (notS_c (by omega) (notS_c (by omega) (notS_c (by omega) (notS_c (by omega) (notS_c (by omega) (notS_c (by omega) (notS_c (by omega) (notS_c (by omega) (notS_c (by omega) (notS_n))))))))))))) (fun a h1 h2 i => (notS_c (by omega) (notS_c (by omega) (notS_c (by omega) (notS_c (by omega) (notS_c (by omega) (notS_c (by omega) (notS_c (by omega) (notS_c (by omega) (notS_c (by omega) (notS_c (by omega) (notS_c (by omega) (notS_c (by omega) (notS_n)))))))))))))) (fun a h1 h2 i => (notS_c (by omega) (notS_c (by omega) (notS_c (by omega) (notS_c (by omega) (notS_c (by omega) (notS_c (by omega) (notS_c (by omega) (notS_c (by omega) (notS_c (by omega) (notS_c (by omega) (notS_c (by omega) (notS_c (by omega) (notS_n)))))))))))))) (fun a h1 h2 i => (notS_c (by omega) (notS_c (by omega) (notS_c (by omega) (notS_c (by omega) (notS_c (by omega) (notS_c (by omega) (notS_c (by omega) (notS_c (by omega) (notS_c (by omega) (notS_c (by omega) (notS_c (by omega) (notS_c (by omega) (notS_n)))))))))))))) hrd⟩)⟩)
    · skip
      refine r_ld (pc' := 45) rfl rfl rfl rfl ?_
      refine r_cb (pc' := 47) rfl (by decide) rfl ?_
      have hb197 := rd_3_7 hs193.1
      have hb198 := rd_3_9 hs193.1
      have hb199 := rd_3_0 hs193.1
      refine r_cVI (pc' := 50) rfl rfl rfl rfl rfl sh_3 (m_42 (d := d) t 10 hs193.1 hs193.2.1 ⟨by omega, by omega⟩ ht (by first | omega | assumption)) (fun v200 z201 w202 p203 h204 hs205 hE206 => ?_)
      have hs207 := st_tr hs193 hs205 (subS_c (fun _ _ _ _ _ _ => inS_0 (by omega) (by omega) (by omega) (by omega)) (subS_c (fun _ _ _ _ _ _ => inS_s (inS_0 (by omega) (by omega) (by omega) (by omega))) (subS_c (fun _ _ _ _ _ _ => inS_s (inS_s (inS_0 (by omega) (by omega) (by omega) (by omega)))) (subS_c (fun _ _ _ _ _ _ => inS_s (inS_s (inS_s (inS_0 (by omega) (by omega) (by omega) (by omega))))) (subS_c (fun _ _ _ _ _ _ => inS_s (inS_s (inS_s (inS_s (inS_0 (by omega) (by omega) (by omega) (by omega)))))) (subS_c (fun _ _ _ _ _ _ => inS_s (inS_s (inS_s (inS_s (inS_s (inS_0 (by omega) (by omega) (by omega) (by omega))))))) (subS_c (fun _ _ _ _ _ _ => inS_s (inS_s (inS_s (inS_s (inS_s (inS_s (inS_0 (by omega) (by omega) (by omega) (by omega)))))))) subS_n)))))))
      obtain ⟨rfl, hE206⟩ := hE206
      refine r_zne (pc' := 53) rfl rfl ⟨by omega, by omega⟩ (fun hc208 => ?_) (fun hc208 => ?_)
      · skip
        refine r_c0 (pc' := 55) rfl rfl ?_
        refine r_st (pc' := 57) (lv' := [(4, _), (2, _), (1, _), (0, _)]) rfl rfl rfl rfl ?_
        refine r_c0 (pc' := 58) rfl rfl ?_
        refine r_st (pc' := 60) (lv' := [(5, _), (4, _), (2, _), (1, _), (0, _)]) rfl rfl rfl rfl ?_
        have hb209 := rd_3_7 hs207.1
        have hb210 := rd_3_9 hs207.1
        exact w_lv (sub_c rfl (sub_c rfl (sub_c rfl (sub_c rfl (sub_c rfl sub_n))))) rfl ((key ((74 * (8 - 0) + 42 : Int).toNat + 1)).1 (z0 t 4) (w166 3 10) 0 0 z201 w202 ⟨by omega, by omega⟩ ⟨by omega, by omega⟩ ⟨by omega, by omega⟩ ⟨by omega, by omega⟩ ⟨by omega, by omega⟩ hs207 (((hs205.2.2.1 _ _ (notS_c (by omega) (notS_c (by omega) (notS_c (by omega) (notS_c (by omega) (notS_c (by omega) (notS_c (by omega) (notS_c (by omega) notS_n)))))))).trans ((hs191.2.2.1 _ _ (notS_c (by omega) (notS_c (by omega) (notS_c (by omega) (notS_c (by omega) (notS_c (by omega) (notS_c (by omega) (notS_c (by omega) notS_n)))))))).trans (hs169.2.2.1 _ _ (notS_c (by omega) (notS_c (by omega) (notS_c (by omega) (notS_c (by omega) (notS_c (by omega) notS_n))))))))) (by first | omega | assumption) (by first | omega | assumption) (by omega))
      · skip
        have hb211 := rd_3_7 hs207.1
        have hb212 := rd_3_9 hs207.1
        exact r_ret rfl (po_V hs207 ⟨rfl, (by exact ⟨by omega, RD_f hs207 (by omega) (notS_c (by omega) (notS_c (by omega) (notS_c (by omega) (notS_c (by omega) (notS_c (by omega) (notS_c (by omega) (notS_c (by omega) (notS_c (by omega) (notS_c (by omega) (notS_c (by omega) (notS_c (by omega) (notS_c (by omega) (notS_n))))))))))))) (notS_c (by omega) (notS_c (by omega) (notS_c (by omega) (notS_c (by omega) (notS_c (by omega) (notS_c (by omega) (notS_c (by omega) (notS_c (by omega) (notS_c (by omega) (notS_c (by omega) (notS_c (by omega) (notS_c (by omega) (notS_n))))))))))))) (notS_c (by omega) (notS_c (by omega) (notS_c (by omega) (notS_c (by omega) (notS_c (by omega) (notS_c (by omega) (notS_c (by omega) (notS_c (by omega) (notS_c (by omega) (notS_c (by omega) (notS_c (by omega) (notS_c (by omega) (notS_n))))))))))))) (notS_c (by omega) (notS_c (by omega) (notS_c (by omega) (notS_c (by omega) (notS_c (by omega) (notS_c (by omega) (notS_c (by omega) (notS_c (by omega) (notS_c (by omega) (notS_c (by omega) (notS_c (by omega) (notS_c (by omega) (notS_n))))))))))))) (fun a h1 h2 i => (notS_c (by omega) (notS_c (by omega) (notS_c (by omega) (notS_c (by omega) (notS_c (by omega) (notS_c (by omega) (notS_c (by omega) (notS_c (by omega) (notS_c (by omega) (notS_c (by omega) (notS_c (by omega) (notS_c (by omega) (notS_n)))))))))))))) (fun a h1 h2 i => (notS_c (by omega) (notS_c (by omega) (notS_c (by omega) (notS_c (by omega) (notS_c (by omega) (notS_c (by omega) (notS_c (by omega) (notS_c (by omega) (notS_c (by omega) (notS_c (by omega) (notS_c (by omega) (notS_c (by omega) (notS_n)))))))))))))) (fun a h1 h2 i => (notS_c (by omega) (notS_c (by omega) (notS_c (by omega) (notS_c (by omega) (notS_c (by omega) (notS_c (by omega) (notS_c (by omega) (notS_c (by omega) (notS_c (by omega) (notS_c (by omega) (notS_c (by omega) (notS_c (by omega) (notS_n)))))))))))))) hrd⟩)⟩)
  · skip
    refine r_ld (pc' := 15) rfl rfl rfl rfl ?_
    refine r_cVI (pc' := 18) rfl rfl rfl rfl rfl sh_3 (m_34 (d := d + 2)  hst.1 hst.2.1 ) (fun v213 z214 w215 p216 h217 hs218 hE219 => ?_)
    have hs220 := st_tr hst hs218 (subS_c (fun _ _ _ _ _ _ => inS_s (inS_s (inS_s (inS_s (inS_s (inS_0 (by omega) (by omega) (by omega) (by omega))))))) (subS_c (fun _ _ _ _ _ _ => inS_s (inS_s (inS_s (inS_s (inS_s (inS_s (inS_0 (by omega) (by omega) (by omega) (by omega)))))))) subS_n))
    obtain ⟨rfl, hE219⟩ := hE219
    refine r_al (pc' := 19) rfl rfl rfl rfl ?_
    have hb221 := rd_3_7 hz
    have hf222 : z214 3 7 = z0 3 7 := (hs218.2.2.1 _ _ (notS_c (by omega) (notS_c (by omega) notS_n)))
    have hb223 := rd_3_9 hz
    have hf224 : z214 3 9 = z0 3 9 := (hs218.2.2.1 _ _ (notS_c (by omega) (notS_c (by omega) notS_n)))
    exact r_ret rfl (po_V hs220 ⟨rfl, (by exact ⟨by omega, RD_f hs220 (by omega) (notS_c (by omega) (notS_c (by omega) (notS_c (by omega) (notS_c (by omega) (notS_c (by omega) (notS_c (by omega) (notS_c (by omega) (notS_c (by omega) (notS_c (by omega) (notS_c (by omega) (notS_c (by omega) (notS_c (by omega) (notS_n))))))))))))) (notS_c (by omega) (notS_c (by omega) (notS_c (by omega) (notS_c (by omega) (notS_c (by omega) (notS_c (by omega) (notS_c (by omega) (notS_c (by omega) (notS_c (by omega) (notS_c (by omega) (notS_c (by omega) (notS_c (by omega) (notS_n))))))))))))) (notS_c (by omega) (notS_c (by omega) (notS_c (by omega) (notS_c (by omega) (notS_c (by omega) (notS_c (by omega) (notS_c (by omega) (notS_c (by omega) (notS_c (by omega) (notS_c (by omega) (notS_c (by omega) (notS_c (by omega) (notS_n))))))))))))) (notS_c (by omega) (notS_c (by omega) (notS_c (by omega) (notS_c (by omega) (notS_c (by omega) (notS_c (by omega) (notS_c (by omega) (notS_c (by omega) (notS_c (by omega) (notS_c (by omega) (notS_c (by omega) (notS_c (by omega) (notS_n))))))))))))) (fun a h1 h2 i => (notS_c (by omega) (notS_c (by omega) (notS_c (by omega) (notS_c (by omega) (notS_c (by omega) (notS_c (by omega) (notS_c (by omega) (notS_c (by omega) (notS_c (by omega) (notS_c (by omega) (notS_c (by omega) (notS_c (by omega) (notS_n)))))))))))))) (fun a h1 h2 i => (notS_c (by omega) (notS_c (by omega) (notS_c (by omega) (notS_c (by omega) (notS_c (by omega) (notS_c (by omega) (notS_c (by omega) (notS_c (by omega) (notS_c (by omega) (notS_c (by omega) (notS_c (by omega) (notS_c (by omega) (notS_n)))))))))))))) (fun a h1 h2 i => (notS_c (by omega) (notS_c (by omega) (notS_c (by omega) (notS_c (by omega) (notS_c (by omega) (notS_c (by omega) (notS_c (by omega) (notS_c (by omega) (notS_c (by omega) (notS_c (by omega) (notS_c (by omega) (notS_c (by omega) (notS_n)))))))))))))) hrd⟩)⟩)
/-- Reader readGround -/
abbrev S_32 (t : Nat) : mS := [(3, 3, 3, 3), (t, t, 0, 0), (t, t, 1, 1), (t, t, 2, 2), (t, t, 3, 3), (t, t, 4, 4), (t + 4, t + 4, 0, 17), (t + 8, t + 15, 0, 17), (3, 3, 0, 0), (3, 3, 1, 1), (3, 3, 5, 5), (3, 3, 6, 6), (3, 3, 8, 8), (3, 3, 7, 7), (3, 3, 9, 9), (3, 3, 10, 10), (t + 1, t + 1, 0, 35), (t + 6, t + 6, 0, 17), (t + 5, t + 5, 0, 17), (t + 3, t + 3, 0, 35), (t + 2, t + 2, 0, 35), (t + 20, t + 25, 0, 7), (t + 27, t + 32, 0, 7), (t + 17, t + 17, 0, 5), (t + 18, t + 18, 0, 5), (t + 16, t + 16, 0, 7)]
abbrev E_32 (a2 : Int) (t : Nat) (z0 w0 : mZ) (x y tx it mt tt ct : Option Nat) : Int → mZ → mZ → mP → Prop := fun v z w p => p = (pq x y (some 2) (some t) mt tt ct) ∧ 0 ≤ v ∧ v ≤ 1 ∧ ((z 3 7 = 2 → 0 ≤ z 3 9 ∧ z 3 9 ≤ 9999) ∧ (v = 1 → WTt z t ∧ LF z w t))
theorem m_32 {d : Nat} {z0 w0 : mZ} {x y tx it mt tt ct : Option Nat} (a2 : Int) (t : Nat) (hz : rz z0) (hw : rw_ w0) (ha2 : 0 ≤ a2 ∧ a2 ≤ 1600) (ht : isT t) (hkn : (z0 3 7 = 2 → 0 ≤ z0 3 9 ∧ z0 3 9 ≤ 9999)) : wc (d + 6) 32 [.ref 3, .ref 2, .int (Int32.ofInt a2), .ref t] (mk z0 w0 (pq x y tx it mt tt ct)) (poI (S_32 t) z0 w0 (E_32 a2 t z0 w0 x y tx it mt tt ct)) := by
  have hst : st_ (S_32 t) z0 w0 z0 w0 := st_rf hz hw
  have htb : 159 ≤ t ∧ t ≤ 192 := by have := ht; unfold isT at this; omega
  have hz135 := rd_3_7 hz
  have hz136 := rd_3_9 hz
  have key : ∀ N : Nat, (∀ (x4 : Int) (z w : mZ), 0 ≤ x4 ∧ x4 ≤ 1600 → st_ (S_32 t) z0 w0 z w → ((z 3 7 = 2 → 0 ≤ z 3 9 ∧ z 3 9 ≤ 9999)) → ((z 3 0 = 0 → RD z w t)) → 91 * (1600 - x4) + 59 < (N : Int) → wp_ (d + 5) 32 5 (some .boolean) (54, [(0, .ref 3), (4, .int (Int32.ofInt x4))], [], mk z w (pq x y (some 2) (some t) mt tt ct)) (poI (S_32 t) z0 w0 (E_32 a2 t z0 w0 x y tx it mt tt ct))) ∧ (∀ (x4 : Int) (z w : mZ), 0 ≤ x4 ∧ x4 ≤ 1599 → st_ (S_32 t) z0 w0 z w → ((z 3 7 = 2 → 0 ≤ z 3 9 ∧ z 3 9 ≤ 9999)) → (RD z w t) → 91 * (1600 - x4) + 31 < (N : Int) → wp_ (d + 5) 32 5 (some .boolean) (118, [(0, .ref 3), (4, .int (Int32.ofInt x4))], [], mk z w (pq x y (some 2) (some t) mt tt ct)) (poI (S_32 t) z0 w0 (E_32 a2 t z0 w0 x y tx it mt tt ct))) ∧ (∀ (x4 : Int) (z w : mZ), 0 ≤ x4 ∧ x4 ≤ 1599 → st_ (S_32 t) z0 w0 z w → ((z 3 7 = 2 → 0 ≤ z 3 9 ∧ z 3 9 ≤ 9999)) → (RD z w t ∧ z 3 5 = 1) → 91 * (1600 - x4) + 23 < (N : Int) → wp_ (d + 5) 32 5 (some .boolean) (134, [(0, .ref 3), (4, .int (Int32.ofInt x4))], [], mk z w (pq x y (some 2) (some t) mt tt ct)) (poI (S_32 t) z0 w0 (E_32 a2 t z0 w0 x y tx it mt tt ct))) ∧ (∀ (z w : mZ), st_ (S_32 t) z0 w0 z w → ((z 3 7 = 2 → 0 ≤ z 3 9 ∧ z 3 9 ≤ 9999)) → ((z 3 0 = 0 → RD z w t)) → 12 < (N : Int) → wp_ (d + 5) 32 5 (some .boolean) (160, [(0, .ref 3)], [], mk z w (pq x y (some 2) (some t) mt tt ct)) (poI (S_32 t) z0 w0 (E_32 a2 t z0 w0 x y tx it mt tt ct))) := by
    intro N
    induction N with
    | zero =>
      refine ⟨?_, ?_, ?_, ?_⟩
      · intro x4 z w
        intros; exfalso; omega
      · intro x4 z w
        intros; exfalso; omega
      · intro x4 z w
        intros; exfalso; omega
      · intro  z w
        intros; exfalso; omega
    | succ N ih =>
      obtain ⟨ih0, ih1, ih2, ih3⟩ := ih
      refine ⟨?_, ?_, ?_, ?_⟩
      · intro x4 z w  hx4 hst as1 as2 hM
        refine r_ld (pc' := 56) rfl rfl rfl rfl ?_
        refine r_cs (pc' := 59) rfl (by decide) rfl ?_
        refine r_ige (pc' := 62) rfl rfl ⟨by omega, by omega⟩ ⟨by decide, by decide⟩ (fun hc137 => ?_) (fun hc137 => ?_)
        · skip
          have hb138 := rd_3_7 hst.1
          have hb139 := rd_3_9 hst.1
          have hb140 := rd_3_0 hst.1
          exact w_lv (sub_c rfl sub_n) rfl (ih3 z w hst (by first | omega | assumption) (by exact as2) (by omega))
        · skip
          refine r_ld (pc' := 63) rfl rfl rfl rfl ?_
          have hb141 := rd_3_0 hst.1
          refine r_gi (pc' := 66) rfl rfl sh_3 rfl rfl ?_
          refine r_zne (pc' := 69) rfl rfl ⟨by omega, by omega⟩ (fun hc142 => ?_) (fun hc142 => ?_)
          · skip
            have hb143 := rd_3_7 hst.1
            have hb144 := rd_3_9 hst.1
            exact w_lv (sub_c rfl sub_n) rfl (ih3 z w hst (by first | omega | assumption) (by exact as2) (by omega))
          · skip
            refine r_ld (pc' := 70) rfl rfl rfl rfl ?_
            have hb145 := rd_3_7 hst.1
            refine r_gi (pc' := 73) rfl rfl sh_3 rfl rfl ?_
            refine r_zeq (pc' := 76) rfl rfl ⟨by omega, by omega⟩ (fun hc146 => ?_) (fun hc146 => ?_)
            · skip
              have hb147 := rd_3_9 hst.1
              exact w_lv (sub_c rfl sub_n) rfl (ih3 z w hst (by first | omega | assumption) (by exact as2) (by omega))
            · skip
              refine r_ld (pc' := 77) rfl rfl rfl rfl ?_
              refine r_gi (pc' := 80) rfl rfl sh_3 rfl rfl ?_
              refine r_cb (pc' := 82) rfl (by decide) rfl ?_
              refine r_ine (pc' := 85) rfl rfl ⟨by omega, by omega⟩ ⟨by decide, by decide⟩ (fun hc148 => ?_) (fun hc148 => ?_)
              · skip
                refine r_ld (pc' := 93) rfl rfl rfl rfl ?_
                refine r_gi (pc' := 96) rfl rfl sh_3 rfl rfl ?_
                refine r_cb (pc' := 98) rfl (by decide) rfl ?_
                refine r_ieq (pc' := 101) rfl rfl ⟨by omega, by omega⟩ ⟨by decide, by decide⟩ (fun hc149 => ?_) (fun hc149 => ?_)
                · skip
                  have hb150 := rd_3_9 hst.1
                  exact w_lv (sub_c rfl (sub_c rfl sub_n)) rfl (ih1 x4 z w ⟨by omega, by omega⟩ hst (by first | omega | assumption) (by exact as2 (by omega)) (by omega))
                · skip
                  refine r_ld (pc' := 102) rfl rfl rfl rfl ?_
                  refine r_gi (pc' := 105) rfl rfl sh_3 rfl rfl ?_
                  refine r_cb (pc' := 107) rfl (by decide) rfl ?_
                  refine r_ieq (pc' := 110) rfl rfl ⟨by omega, by omega⟩ ⟨by decide, by decide⟩ (fun hc151 => ?_) (fun hc151 => ?_)
                  · skip
                    have hb152 := rd_3_9 hst.1
                    exact w_lv (sub_c rfl (sub_c rfl sub_n)) rfl (ih1 x4 z w ⟨by omega, by omega⟩ hst (by first | omega | assumption) (by exact as2 (by omega)) (by omega))
                  · skip
                    refine r_ld (pc' := 111) rfl rfl rfl rfl ?_
                    refine r_cVI (pc' := 114) rfl rfl rfl rfl rfl sh_3 (m_34 (d := d + 3)  hst.1 hst.2.1 ) (fun v153 z154 w155 p156 h157 hs158 hE159 => ?_)
                    have hs160 := st_tr hst hs158 (subS_c (fun _ _ _ _ _ _ => inS_s (inS_s (inS_s (inS_s (inS_s (inS_s (inS_s (inS_s (inS_0 (by omega) (by omega) (by omega) (by omega)))))))))) (subS_c (fun _ _ _ _ _ _ => inS_s (inS_s (inS_s (inS_s (inS_s (inS_s (inS_s (inS_s (inS_s (inS_0 (by omega) (by omega) (by omega) (by omega))))))))))) subS_n))
                    obtain ⟨rfl, hE159⟩ := hE159
                    refine r_al (pc' := 115) rfl rfl rfl rfl ?_
                    refine r_go rfl ?_
                    refine r_inc (pc' := 157) (lv' := [(0, _)]) rfl rfl rfl rfl rfl ?_
                    refine r_go rfl ?_
                    have hf161 : z154 3 7 = z 3 7 := (hs158.2.2.1 _ _ (notS_c (by omega) (notS_c (by omega) notS_n)))
                    have hb162 := rd_3_9 hst.1
                    have hf163 : z154 3 9 = z 3 9 := (hs158.2.2.1 _ _ (notS_c (by omega) (notS_c (by omega) notS_n)))
                    have hb164 := rd_3_0 hs160.1
                    have hb165 := rd_3_5 hst.1
                    have hf166 : z154 3 5 = z 3 5 := (hs158.2.2.1 _ _ (notS_c (by omega) (notS_c (by omega) notS_n)))
                    have hb167 := rd_T_3 ht hst.1
                    have hf168 : z154 t 3 = z t 3 := (hs158.2.2.1 _ _ (notS_c (by omega) (notS_c (by omega) notS_n)))
                    have hb169 := rd_T_0 ht hst.1
                    have hf170 : z154 t 0 = z t 0 := (hs158.2.2.1 _ _ (notS_c (by omega) (notS_c (by omega) notS_n)))
                    exact w_lv (sub_c rfl (sub_c rfl sub_n)) rfl (ih0 (x4 + 1) z154 w155 ⟨by omega, by omega⟩ hs160 (by first | omega | assumption | (simp only [hf161, hf163, hf166, hf168, hf170]; assumption)) (by first | (intro h; exfalso; omega) | exact hrr.2 | (intro _; exact hrr.2) | (intro _; exact RD_p (by omega) (PI_c (PI_n (fun e he => (NOMARK).trans (hcl.2.2 e he))) (by omega)) (by omega))) (by omega))
              · skip
                refine r_ld (pc' := 86) rfl rfl rfl rfl ?_
                have hb171 := rd_3_9 hst.1
                refine r_cVV (pc' := 89) rfl rfl rfl rfl rfl sh_3 (m_36 (d := d) t hst.1 hst.2.1 ht (by first | omega | assumption) (by exact as2 (by omega))) (fun z173 w174 p175 hs177 hE178 => ?_)
                have hs179 := st_tr hst hs177 (subS_c (fun _ _ _ _ _ _ => inS_s (inS_s (inS_s (inS_s (inS_s (inS_s (inS_s (inS_s (inS_s (inS_s (inS_s (inS_0 (by omega) (by omega) (by omega) (by omega))))))))))))) (subS_c (fun _ _ _ _ _ _ => inS_s (inS_s (inS_s (inS_s (inS_s (inS_s (inS_s (inS_s (inS_s (inS_s (inS_s (inS_s (inS_0 (by omega) (by omega) (by omega) (by omega)))))))))))))) (subS_c (fun _ _ _ _ _ _ => inS_s (inS_s (inS_s (inS_s (inS_s (inS_s (inS_s (inS_s (inS_s (inS_s (inS_s (inS_s (inS_s (inS_0 (by omega) (by omega) (by omega) (by omega))))))))))))))) (subS_c (fun _ _ _ _ _ _ => inS_s (inS_s (inS_s (inS_s (inS_s (inS_s (inS_s (inS_s (inS_s (inS_s (inS_s (inS_s (inS_s (inS_s (inS_0 (by omega) (by omega) (by omega) (by omega)))))))))))))))) (subS_c (fun _ _ _ _ _ _ => inS_s (inS_s (inS_s (inS_s (inS_s (inS_s (inS_s (inS_s (inS_s (inS_s (inS_s (inS_s (inS_s (inS_s (inS_s (inS_0 (by omega) (by omega) (by omega) (by omega))))))))))))))))) (subS_c (fun _ _ _ _ _ _ => inS_s (inS_s (inS_s (inS_s (inS_s (inS_s (inS_s (inS_s (inS_0 (by omega) (by omega) (by omega) (by omega)))))))))) (subS_c (fun _ _ _ _ _ _ => inS_s (inS_s (inS_s (inS_s (inS_s (inS_s (inS_s (inS_s (inS_s (inS_0 (by omega) (by omega) (by omega) (by omega))))))))))) (subS_c (fun _ _ _ _ _ _ => inS_s (inS_s (inS_s (inS_s (inS_s (inS_s (inS_s (inS_s (inS_s (inS_s (inS_s (inS_s (inS_s (inS_s (inS_s (inS_s (inS_0 (by omega) (by omega) (by omega) (by omega)))))))))))))))))) (subS_c (fun _ _ _ _ _ _ => inS_s (inS_s (inS_s (inS_s (inS_s (inS_s (inS_s (inS_s (inS_s (inS_s (inS_s (inS_s (inS_s (inS_s (inS_s (inS_s (inS_s (inS_0 (by omega) (by omega) (by omega) (by omega))))))))))))))))))) (subS_c (fun _ _ _ _ _ _ => inS_s (inS_s (inS_s (inS_s (inS_s (inS_s (inS_0 (by omega) (by omega) (by omega) (by omega)))))))) (subS_c (fun _ _ _ _ _ _ => inS_s (inS_s (inS_s (inS_s (inS_s (inS_s (inS_s (inS_s (inS_s (inS_s (inS_s (inS_s (inS_s (inS_s (inS_s (inS_s (inS_s (inS_s (inS_0 (by omega) (by omega) (by omega) (by omega)))))))))))))))))))) (subS_c (fun _ _ _ _ _ _ => inS_s (inS_0 (by omega) (by omega) (by omega) (by omega))) subS_n))))))))))))
                obtain ⟨rfl, hE178⟩ := hE178
                have hrr := hE178
                refine r_go rfl ?_
                refine r_inc (pc' := 157) (lv' := [(0, _)]) rfl rfl rfl rfl rfl ?_
                refine r_go rfl ?_
                have hb180 := rd_3_7 hs179.1
                have hb181 := rd_3_9 hs179.1
                have hb182 := rd_3_0 hs179.1
                have hb183 := rd_3_5 hst.1
                have hf184 : z173 3 5 = z 3 5 := (hs177.2.2.1 _ _ (notS_c (by omega) (notS_c (by omega) (notS_c (by omega) (notS_c (by omega) (notS_c (by omega) (notS_c (by omega) (notS_c (by omega) (notS_c (by omega) (notS_c (by omega) (notS_c (by omega) (notS_c (by omega) (notS_c (by omega) notS_n)))))))))))))
                have hb185 := rd_T_3 ht hst.1
                have hf186 : z173 t 3 = z t 3 := (hs177.2.2.1 _ _ (notS_c (by omega) (notS_c (by omega) (notS_c (by omega) (notS_c (by omega) (notS_c (by omega) (notS_c (by omega) (notS_c (by omega) (notS_c (by omega) (notS_c (by omega) (notS_c (by omega) (notS_c (by omega) (notS_c (by omega) notS_n)))))))))))))
                have hb187 := rd_T_0 ht hs179.1
                exact w_lv (sub_c rfl (sub_c rfl sub_n)) rfl (ih0 (x4 + 1) z173 w174 ⟨by omega, by omega⟩ hs179 (by first | omega | assumption | (simp only [hf184, hf186]; assumption)) (by first | (intro h; exfalso; omega) | exact hrr.2 | (intro _; exact hrr.2) | (intro _; exact RD_p (by omega) (PI_c (PI_n (fun e he => (NOMARK).trans (hcl.2.2 e he))) (by omega)) (by omega))) (by omega))
      · intro x4 z w  hx4 hst as1 as2 hM
        refine r_ld (pc' := 119) rfl rfl rfl rfl ?_
        have hb188 := rd_3_5 hst.1
        refine r_gi (pc' := 122) rfl rfl sh_3 rfl rfl ?_
        refine r_zne (pc' := 125) rfl rfl ⟨by omega, by omega⟩ (fun hc189 => ?_) (fun hc189 => ?_)
        · skip
          have hb190 := rd_3_7 hst.1
          have hb191 := rd_3_9 hst.1
          exact w_lv (sub_c rfl (sub_c rfl sub_n)) rfl (ih2 x4 z w ⟨by omega, by omega⟩ hst (by first | omega | assumption) (by first | exact ⟨as2, by omega⟩ | exact ⟨(hcp.2 (by omega)).2.2, by omega⟩) (by omega))
        · skip
          refine r_ld (pc' := 126) rfl rfl rfl rfl ?_
          have hb192 := rd_3_0 hst.1
          refine r_cVI (pc' := 129) rfl rfl rfl rfl rfl sh_3 (m_35 (d := d + 1) t hst.1 hst.2.1 ht (by exact as2) (by first | omega | assumption)) (fun v193 z194 w195 p196 h197 hs198 hE199 => ?_)
          have hs200 := st_tr hst hs198 (subS_c (fun _ _ _ _ _ _ => inS_s (inS_s (inS_s (inS_s (inS_s (inS_s (inS_s (inS_s (inS_s (inS_s (inS_0 (by omega) (by omega) (by omega) (by omega)))))))))))) (subS_c (fun _ _ _ _ _ _ => inS_s (inS_s (inS_0 (by omega) (by omega) (by omega) (by omega)))) (subS_c (fun _ _ _ _ _ _ => inS_s (inS_s (inS_s (inS_s (inS_s (inS_s (inS_s (inS_s (inS_s (inS_s (inS_s (inS_s (inS_s (inS_s (inS_s (inS_s (inS_s (inS_s (inS_s (inS_0 (by omega) (by omega) (by omega) (by omega))))))))))))))))))))) (subS_c (fun _ _ _ _ _ _ => inS_s (inS_s (inS_s (inS_0 (by omega) (by omega) (by omega) (by omega))))) (subS_c (fun _ _ _ _ _ _ => inS_s (inS_s (inS_s (inS_s (inS_s (inS_s (inS_s (inS_s (inS_s (inS_s (inS_s (inS_s (inS_s (inS_s (inS_s (inS_s (inS_s (inS_s (inS_s (inS_s (inS_0 (by omega) (by omega) (by omega) (by omega)))))))))))))))))))))) (subS_c (fun _ _ _ _ _ _ => inS_s (inS_s (inS_s (inS_s (inS_s (inS_s (inS_s (inS_s (inS_0 (by omega) (by omega) (by omega) (by omega)))))))))) (subS_c (fun _ _ _ _ _ _ => inS_s (inS_s (inS_s (inS_s (inS_s (inS_s (inS_s (inS_s (inS_s (inS_0 (by omega) (by omega) (by omega) (by omega))))))))))) subS_n)))))))
          obtain ⟨rfl, hE199⟩ := hE199
          have hcp := hE199.2.2
          refine r_zne (pc' := 132) rfl rfl ⟨by omega, by omega⟩ (fun hc201 => ?_) (fun hc201 => ?_)
          · skip
            have hb202 := rd_3_7 hst.1
            have hf203 : z194 3 7 = z 3 7 := (hs198.2.2.1 _ _ (notS_c (by omega) (notS_c (by omega) (notS_c (by omega) (notS_c (by omega) (notS_c (by omega) (notS_c (by omega) (notS_c (by omega) notS_n))))))))
            have hb204 := rd_3_9 hst.1
            have hf205 : z194 3 9 = z 3 9 := (hs198.2.2.1 _ _ (notS_c (by omega) (notS_c (by omega) (notS_c (by omega) (notS_c (by omega) (notS_c (by omega) (notS_c (by omega) (notS_c (by omega) notS_n))))))))
            have hb206 := rd_3_5 hs200.1
            exact w_lv (sub_c rfl (sub_c rfl sub_n)) rfl (ih2 x4 z194 w195 ⟨by omega, by omega⟩ hs200 (by first | omega | assumption | (simp only [hf203, hf205]; assumption)) (by first | exact ⟨as2, by omega⟩ | exact ⟨(hcp.2 (by omega)).2.2, by omega⟩) (by omega))
          · skip
            refine r_c0 (pc' := 133) rfl rfl ?_
            have hb207 := rd_3_7 hst.1
            have hf208 : z194 3 7 = z 3 7 := (hs198.2.2.1 _ _ (notS_c (by omega) (notS_c (by omega) (notS_c (by omega) (notS_c (by omega) (notS_c (by omega) (notS_c (by omega) (notS_c (by omega) notS_n))))))))
            have hb209 := rd_3_9 hst.1
            have hf210 : z194 3 9 = z 3 9 := (hs198.2.2.1 _ _ (notS_c (by omega) (notS_c (by omega) (notS_c (by omega) (notS_c (by omega) (notS_c (by omega) (notS_c (by omega) (notS_c (by omega) notS_n))))))))
            have hb211 := rd_3_5 hs200.1
            exact r_rz rfl (by omega) (po_I hs200 ⟨by decide, by decide⟩ ⟨rfl, by omega, by omega, (by refine ⟨by omega, ?_⟩; intro h; first | (exfalso; omega) | exact (as2 (by omega)).2 (by omega) | exact ((hcp.2 (by omega)).2.2).2 (by omega))⟩)
      · intro x4 z w  hx4 hst as1 as2 hM
        refine r_ld (pc' := 135) rfl rfl rfl rfl ?_
        have hb212 := rd_3_7 hst.1
        refine r_gi (pc' := 138) rfl rfl sh_3 rfl rfl ?_
        refine r_cb (pc' := 140) rfl (by decide) rfl ?_
        refine r_ine (pc' := 143) rfl rfl ⟨by omega, by omega⟩ ⟨by decide, by decide⟩ (fun hc213 => ?_) (fun hc213 => ?_)
        · skip
          refine r_ld (pc' := 151) rfl rfl rfl rfl ?_
          have hb214 := rd_3_9 hst.1
          refine r_cVV (pc' := 154) rfl rfl rfl rfl rfl sh_3 (m_39 (d := d) t hst.1 hst.2.1 ht (by first | omega | assumption) (by exact as2.1)) (fun z216 w217 p218 hs220 hE221 => ?_)
          have hs222 := st_tr hst hs220 (subS_c (fun _ _ _ _ _ _ => inS_s (inS_s (inS_s (inS_s (inS_s (inS_s (inS_s (inS_s (inS_s (inS_s (inS_s (inS_0 (by omega) (by omega) (by omega) (by omega))))))))))))) (subS_c (fun _ _ _ _ _ _ => inS_s (inS_s (inS_s (inS_s (inS_s (inS_s (inS_s (inS_s (inS_s (inS_s (inS_s (inS_s (inS_0 (by omega) (by omega) (by omega) (by omega)))))))))))))) (subS_c (fun _ _ _ _ _ _ => inS_s (inS_s (inS_s (inS_s (inS_s (inS_s (inS_s (inS_s (inS_s (inS_s (inS_s (inS_s (inS_s (inS_0 (by omega) (by omega) (by omega) (by omega))))))))))))))) (subS_c (fun _ _ _ _ _ _ => inS_s (inS_s (inS_s (inS_s (inS_s (inS_s (inS_s (inS_s (inS_s (inS_s (inS_s (inS_s (inS_s (inS_s (inS_0 (by omega) (by omega) (by omega) (by omega)))))))))))))))) (subS_c (fun _ _ _ _ _ _ => inS_s (inS_s (inS_s (inS_s (inS_s (inS_s (inS_s (inS_s (inS_s (inS_s (inS_s (inS_s (inS_s (inS_s (inS_s (inS_0 (by omega) (by omega) (by omega) (by omega))))))))))))))))) (subS_c (fun _ _ _ _ _ _ => inS_s (inS_s (inS_s (inS_s (inS_s (inS_s (inS_s (inS_s (inS_0 (by omega) (by omega) (by omega) (by omega)))))))))) (subS_c (fun _ _ _ _ _ _ => inS_s (inS_s (inS_s (inS_s (inS_s (inS_s (inS_s (inS_s (inS_s (inS_0 (by omega) (by omega) (by omega) (by omega))))))))))) (subS_c (fun _ _ _ _ _ _ => inS_s (inS_s (inS_s (inS_s (inS_s (inS_s (inS_s (inS_s (inS_s (inS_s (inS_s (inS_s (inS_s (inS_s (inS_s (inS_s (inS_s (inS_s (inS_s (inS_s (inS_s (inS_0 (by omega) (by omega) (by omega) (by omega))))))))))))))))))))))) (subS_c (fun _ _ _ _ _ _ => inS_s (inS_s (inS_s (inS_s (inS_s (inS_s (inS_s (inS_s (inS_s (inS_s (inS_s (inS_s (inS_s (inS_s (inS_s (inS_s (inS_s (inS_s (inS_s (inS_s (inS_s (inS_s (inS_0 (by omega) (by omega) (by omega) (by omega)))))))))))))))))))))))) (subS_c (fun _ _ _ _ _ _ => inS_s (inS_s (inS_s (inS_s (inS_s (inS_s (inS_s (inS_s (inS_s (inS_s (inS_s (inS_s (inS_s (inS_s (inS_s (inS_s (inS_s (inS_s (inS_s (inS_s (inS_s (inS_s (inS_s (inS_0 (by omega) (by omega) (by omega) (by omega))))))))))))))))))))))))) (subS_c (fun _ _ _ _ _ _ => inS_s (inS_s (inS_s (inS_s (inS_s (inS_s (inS_s (inS_s (inS_s (inS_s (inS_s (inS_s (inS_s (inS_s (inS_s (inS_s (inS_s (inS_s (inS_s (inS_s (inS_s (inS_s (inS_s (inS_s (inS_0 (by omega) (by omega) (by omega) (by omega)))))))))))))))))))))))))) (subS_c (fun _ _ _ _ _ _ => inS_s (inS_s (inS_s (inS_s (inS_s (inS_0 (by omega) (by omega) (by omega) (by omega))))))) subS_n))))))))))))
          obtain ⟨rfl, hE221⟩ := hE221
          have hrr := hE221
          refine r_inc (pc' := 157) (lv' := [(0, _)]) rfl rfl rfl rfl rfl ?_
          refine r_go rfl ?_
          have hb223 := rd_3_7 hs222.1
          have hb224 := rd_3_9 hs222.1
          have hb225 := rd_3_0 hs222.1
          have hb226 := rd_3_5 hst.1
          have hf227 : z216 3 5 = z 3 5 := (hs220.2.2.1 _ _ (notS_c (by omega) (notS_c (by omega) (notS_c (by omega) (notS_c (by omega) (notS_c (by omega) (notS_c (by omega) (notS_c (by omega) (notS_c (by omega) (notS_c (by omega) (notS_c (by omega) (notS_c (by omega) (notS_c (by omega) notS_n)))))))))))))
          have hb228 := rd_T_3 ht hst.1
          have hf229 : z216 t 3 = z t 3 := (hs220.2.2.1 _ _ (notS_c (by omega) (notS_c (by omega) (notS_c (by omega) (notS_c (by omega) (notS_c (by omega) (notS_c (by omega) (notS_c (by omega) (notS_c (by omega) (notS_c (by omega) (notS_c (by omega) (notS_c (by omega) (notS_c (by omega) notS_n)))))))))))))
          have hb230 := rd_T_0 ht hst.1
          have hf231 : z216 t 0 = z t 0 := (hs220.2.2.1 _ _ (notS_c (by omega) (notS_c (by omega) (notS_c (by omega) (notS_c (by omega) (notS_c (by omega) (notS_c (by omega) (notS_c (by omega) (notS_c (by omega) (notS_c (by omega) (notS_c (by omega) (notS_c (by omega) (notS_c (by omega) notS_n)))))))))))))
          exact w_lv (sub_c rfl (sub_c rfl sub_n)) rfl (ih0 (x4 + 1) z216 w217 ⟨by omega, by omega⟩ hs222 (by first | omega | assumption | (simp only [hf227, hf229, hf231]; assumption)) (by first | (intro h; exfalso; omega) | exact hrr.2 | (intro _; exact hrr.2) | (intro _; exact RD_p (by omega) (PI_c (PI_n (fun e he => (NOMARK).trans (hcl.2.2 e he))) (by omega)) (by omega))) (by omega))
        · skip
          refine r_ld (pc' := 144) rfl rfl rfl rfl ?_
          have hb232 := rd_3_9 hst.1
          have hb233 := rd_3_5 hst.1
          refine r_cVV (pc' := 147) rfl rfl rfl rfl rfl sh_3 (m_38 (d := d) t hst.1 hst.2.1 ht (by first | omega | assumption) (by exact as2.1) (by first | omega | assumption)) (fun z235 w236 p237 hs239 hE240 => ?_)
          have hs241 := st_tr hst hs239 (subS_c (fun _ _ _ _ _ _ => inS_s (inS_s (inS_s (inS_s (inS_s (inS_s (inS_s (inS_s (inS_s (inS_s (inS_s (inS_0 (by omega) (by omega) (by omega) (by omega))))))))))))) (subS_c (fun _ _ _ _ _ _ => inS_s (inS_s (inS_s (inS_s (inS_s (inS_s (inS_s (inS_s (inS_s (inS_s (inS_s (inS_s (inS_0 (by omega) (by omega) (by omega) (by omega)))))))))))))) (subS_c (fun _ _ _ _ _ _ => inS_s (inS_s (inS_s (inS_s (inS_s (inS_s (inS_s (inS_s (inS_s (inS_s (inS_s (inS_s (inS_s (inS_0 (by omega) (by omega) (by omega) (by omega))))))))))))))) (subS_c (fun _ _ _ _ _ _ => inS_s (inS_s (inS_s (inS_s (inS_s (inS_s (inS_s (inS_s (inS_s (inS_s (inS_s (inS_s (inS_s (inS_s (inS_0 (by omega) (by omega) (by omega) (by omega)))))))))))))))) (subS_c (fun _ _ _ _ _ _ => inS_s (inS_s (inS_s (inS_s (inS_s (inS_s (inS_s (inS_s (inS_s (inS_s (inS_s (inS_s (inS_s (inS_s (inS_s (inS_0 (by omega) (by omega) (by omega) (by omega))))))))))))))))) (subS_c (fun _ _ _ _ _ _ => inS_s (inS_s (inS_s (inS_s (inS_s (inS_s (inS_s (inS_s (inS_0 (by omega) (by omega) (by omega) (by omega)))))))))) (subS_c (fun _ _ _ _ _ _ => inS_s (inS_s (inS_s (inS_s (inS_s (inS_s (inS_s (inS_s (inS_s (inS_0 (by omega) (by omega) (by omega) (by omega))))))))))) (subS_c (fun _ _ _ _ _ _ => inS_s (inS_s (inS_s (inS_s (inS_s (inS_s (inS_s (inS_0 (by omega) (by omega) (by omega) (by omega))))))))) (subS_c (fun _ _ _ _ _ _ => inS_s (inS_s (inS_s (inS_s (inS_s (inS_s (inS_s (inS_s (inS_s (inS_s (inS_s (inS_s (inS_s (inS_s (inS_s (inS_s (inS_s (inS_s (inS_s (inS_s (inS_s (inS_s (inS_s (inS_s (inS_s (inS_0 (by omega) (by omega) (by omega) (by omega))))))))))))))))))))))))))) (subS_c (fun _ _ _ _ _ _ => inS_s (inS_s (inS_s (inS_s (inS_0 (by omega) (by omega) (by omega) (by omega)))))) subS_n))))))))))
          obtain ⟨rfl, hE240⟩ := hE240
          have hrr := hE240
          refine r_go rfl ?_
          refine r_inc (pc' := 157) (lv' := [(0, _)]) rfl rfl rfl rfl rfl ?_
          refine r_go rfl ?_
          have hb242 := rd_3_7 hs241.1
          have hb243 := rd_3_9 hs241.1
          have hb244 := rd_3_0 hs241.1
          have hf245 : z235 3 5 = z 3 5 := (hs239.2.2.1 _ _ (notS_c (by omega) (notS_c (by omega) (notS_c (by omega) (notS_c (by omega) (notS_c (by omega) (notS_c (by omega) (notS_c (by omega) (notS_c (by omega) (notS_c (by omega) (notS_c (by omega) notS_n)))))))))))
          have hb246 := rd_T_3 ht hs241.1
          have hb247 := rd_T_0 ht hst.1
          have hf248 : z235 t 0 = z t 0 := (hs239.2.2.1 _ _ (notS_c (by omega) (notS_c (by omega) (notS_c (by omega) (notS_c (by omega) (notS_c (by omega) (notS_c (by omega) (notS_c (by omega) (notS_c (by omega) (notS_c (by omega) (notS_c (by omega) notS_n)))))))))))
          exact w_lv (sub_c rfl (sub_c rfl sub_n)) rfl (ih0 (x4 + 1) z235 w236 ⟨by omega, by omega⟩ hs241 (by first | omega | assumption | (simp only [hf245, hf248]; assumption)) (by first | (intro h; exfalso; omega) | exact hrr.2 | (intro _; exact hrr.2) | (intro _; exact RD_p (by omega) (PI_c (PI_n (fun e he => (NOMARK).trans (hcl.2.2 e he))) (by omega)) (by omega))) (by omega))
      · intro  z w  hst as1 as2 hM
        refine r_ld (pc' := 161) rfl rfl rfl rfl ?_
        have hb249 := rd_3_0 hst.1
        refine r_gi (pc' := 164) rfl rfl sh_3 rfl rfl ?_
        refine r_zne (pc' := 167) rfl rfl ⟨by omega, by omega⟩ (fun hc250 => ?_) (fun hc250 => ?_)
        · skip
          refine r_c0 (pc' := 186) rfl rfl ?_
          have hb251 := rd_3_7 hst.1
          have hb252 := rd_3_9 hst.1
          have hb253 := rd_3_5 hst.1
          exact r_rz rfl (by omega) (po_I hst ⟨by decide, by decide⟩ ⟨rfl, by omega, by omega, (by refine ⟨by omega, ?_⟩; intro h; first | (exfalso; omega) | exact (as2 (by omega)).2 (by omega) | exact ((hcp.2 (by omega)).2.2).2 (by omega))⟩)
        · skip
          refine r_ld (pc' := 168) rfl rfl rfl rfl ?_
          have hb254 := rd_3_5 hst.1
          refine r_gi (pc' := 171) rfl rfl sh_3 rfl rfl ?_
          refine r_zne (pc' := 174) rfl rfl ⟨by omega, by omega⟩ (fun hc255 => ?_) (fun hc255 => ?_)
          · skip
            refine r_c0 (pc' := 182) rfl rfl ?_
            refine r_go rfl ?_
            have hb256 := rd_3_7 hst.1
            have hb257 := rd_3_9 hst.1
            exact r_rz rfl (by omega) (po_I hst ⟨by decide, by decide⟩ ⟨rfl, by omega, by omega, (by refine ⟨by omega, ?_⟩; intro h; first | (exfalso; omega) | exact (as2 (by omega)).2 (by omega) | exact ((hcp.2 (by omega)).2.2).2 (by omega))⟩)
          · skip
            refine r_ld (pc' := 175) rfl rfl rfl rfl ?_
            refine r_cVI (pc' := 178) rfl rfl rfl rfl rfl sh_3 (m_35 (d := d + 1) t hst.1 hst.2.1 ht (by exact as2 (by omega)) (by first | omega | assumption)) (fun v258 z259 w260 p261 h262 hs263 hE264 => ?_)
            have hs265 := st_tr hst hs263 (subS_c (fun _ _ _ _ _ _ => inS_s (inS_s (inS_s (inS_s (inS_s (inS_s (inS_s (inS_s (inS_s (inS_s (inS_0 (by omega) (by omega) (by omega) (by omega)))))))))))) (subS_c (fun _ _ _ _ _ _ => inS_s (inS_s (inS_0 (by omega) (by omega) (by omega) (by omega)))) (subS_c (fun _ _ _ _ _ _ => inS_s (inS_s (inS_s (inS_s (inS_s (inS_s (inS_s (inS_s (inS_s (inS_s (inS_s (inS_s (inS_s (inS_s (inS_s (inS_s (inS_s (inS_s (inS_s (inS_0 (by omega) (by omega) (by omega) (by omega))))))))))))))))))))) (subS_c (fun _ _ _ _ _ _ => inS_s (inS_s (inS_s (inS_0 (by omega) (by omega) (by omega) (by omega))))) (subS_c (fun _ _ _ _ _ _ => inS_s (inS_s (inS_s (inS_s (inS_s (inS_s (inS_s (inS_s (inS_s (inS_s (inS_s (inS_s (inS_s (inS_s (inS_s (inS_s (inS_s (inS_s (inS_s (inS_s (inS_0 (by omega) (by omega) (by omega) (by omega)))))))))))))))))))))) (subS_c (fun _ _ _ _ _ _ => inS_s (inS_s (inS_s (inS_s (inS_s (inS_s (inS_s (inS_s (inS_0 (by omega) (by omega) (by omega) (by omega)))))))))) (subS_c (fun _ _ _ _ _ _ => inS_s (inS_s (inS_s (inS_s (inS_s (inS_s (inS_s (inS_s (inS_s (inS_0 (by omega) (by omega) (by omega) (by omega))))))))))) subS_n)))))))
            obtain ⟨rfl, hE264⟩ := hE264
            have hcp := hE264.2.2
            refine r_zeq (pc' := 181) rfl rfl ⟨by omega, by omega⟩ (fun hc266 => ?_) (fun hc266 => ?_)
            · skip
              refine r_c0 (pc' := 186) rfl rfl ?_
              have hb267 := rd_3_7 hst.1
              have hf268 : z259 3 7 = z 3 7 := (hs263.2.2.1 _ _ (notS_c (by omega) (notS_c (by omega) (notS_c (by omega) (notS_c (by omega) (notS_c (by omega) (notS_c (by omega) (notS_c (by omega) notS_n))))))))
              have hb269 := rd_3_9 hst.1
              have hf270 : z259 3 9 = z 3 9 := (hs263.2.2.1 _ _ (notS_c (by omega) (notS_c (by omega) (notS_c (by omega) (notS_c (by omega) (notS_c (by omega) (notS_c (by omega) (notS_c (by omega) notS_n))))))))
              have hb271 := rd_3_5 hs265.1
              exact r_rz rfl (by omega) (po_I hs265 ⟨by decide, by decide⟩ ⟨rfl, by omega, by omega, (by refine ⟨by omega, ?_⟩; intro h; first | (exfalso; omega) | exact (as2 (by omega)).2 (by omega) | exact ((hcp.2 (by omega)).2.2).2 (by omega))⟩)
            · skip
              refine r_c0 (pc' := 182) rfl rfl ?_
              refine r_go rfl ?_
              have hb272 := rd_3_7 hst.1
              have hf273 : z259 3 7 = z 3 7 := (hs263.2.2.1 _ _ (notS_c (by omega) (notS_c (by omega) (notS_c (by omega) (notS_c (by omega) (notS_c (by omega) (notS_c (by omega) (notS_c (by omega) notS_n))))))))
              have hb274 := rd_3_9 hst.1
              have hf275 : z259 3 9 = z 3 9 := (hs263.2.2.1 _ _ (notS_c (by omega) (notS_c (by omega) (notS_c (by omega) (notS_c (by omega) (notS_c (by omega) (notS_c (by omega) (notS_c (by omega) notS_n))))))))
              have hb276 := rd_3_5 hs265.1
              exact r_rz rfl (by omega) (po_I hs265 ⟨by decide, by decide⟩ ⟨rfl, by omega, by omega, (by refine ⟨by omega, ?_⟩; intro h; first | (exfalso; omega) | exact (as2 (by omega)).2 (by omega) | exact ((hcp.2 (by omega)).2.2).2 (by omega))⟩)
  refine w_m rfl rfl ?_
  refine r_ld (pc' := 1) rfl rfl rfl rfl ?_
  refine r_ld (pc' := 2) rfl rfl rfl rfl ?_
  refine r_pr (b := some 2) (pc' := 5) rfl rfl sh_3 rfl rfl pq_u2 ?_
  refine r_ld (pc' := 6) rfl rfl rfl rfl ?_
  refine r_ld (pc' := 7) rfl rfl rfl rfl ?_
  refine r_ld (pc' := 8) rfl rfl rfl rfl ?_
  refine r_len (pc' := 9) rfl rfl sh_2 (by decide) ?_
  refine r_cSI (pc' := 12) rfl rfl rfl rfl rfl (m_263 (d := d + 4) a2 (((1600 : Nat) : Int)) hst.1 hst.2.1 ⟨by omega, by omega⟩ ⟨by omega, by omega⟩) (fun v277 z278 w279 p280 h281 hs282 hE283 => ?_)
  obtain ⟨rfl, rfl, rfl, hE283⟩ := hE283
  refine r_pi (pc' := 15) rfl rfl sh_3 rfl rfl hst (inS_0 (by omega) (by omega) (by omega) (by omega)) (wr_3_3 ⟨by omega, by omega⟩) (fun z285 hq286 hs287 => ?_)
  refine r_ld (pc' := 16) rfl rfl rfl rfl ?_
  refine r_ld (pc' := 17) rfl rfl rfl rfl ?_
  refine r_pr (b := some t) (pc' := 20) rfl rfl sh_3 rfl rfl pq_u3 ?_
  refine r_ld (pc' := 21) rfl rfl rfl rfl ?_
  refine r_gr (b := t) (pc' := 24) rfl rfl sh_3 rfl pp_3_4 ?_
  refine r_cVV (pc' := 27) rfl rfl rfl rfl rfl (sh_T ht) (m_74 (d := d + 4) t hs287.1 hs287.2.1 ht) (fun z289 w290 p291 hs293 hE294 => ?_)
  have hs295 := st_tr hs287 hs293 (subS_c (fun _ _ _ _ _ _ => inS_s (inS_0 (by omega) (by omega) (by omega) (by omega))) (subS_c (fun _ _ _ _ _ _ => inS_s (inS_s (inS_0 (by omega) (by omega) (by omega) (by omega)))) (subS_c (fun _ _ _ _ _ _ => inS_s (inS_s (inS_s (inS_0 (by omega) (by omega) (by omega) (by omega))))) (subS_c (fun _ _ _ _ _ _ => inS_s (inS_s (inS_s (inS_s (inS_0 (by omega) (by omega) (by omega) (by omega)))))) (subS_c (fun _ _ _ _ _ _ => inS_s (inS_s (inS_s (inS_s (inS_s (inS_0 (by omega) (by omega) (by omega) (by omega))))))) (subS_c (fun _ _ _ _ _ _ => inS_s (inS_s (inS_s (inS_s (inS_s (inS_s (inS_0 (by omega) (by omega) (by omega) (by omega)))))))) (subS_c (fun _ _ _ _ _ _ => inS_s (inS_s (inS_s (inS_s (inS_s (inS_s (inS_s (inS_0 (by omega) (by omega) (by omega) (by omega))))))))) subS_n)))))))
  obtain ⟨rfl, hE294⟩ := hE294
  have hcl := hE294
  refine r_ld (pc' := 28) rfl rfl rfl rfl ?_
  refine r_c0 (pc' := 29) rfl rfl ?_
  refine r_pi (pc' := 32) rfl rfl sh_3 rfl rfl hs295 (inS_s (inS_s (inS_s (inS_s (inS_s (inS_s (inS_s (inS_s (inS_0 (by omega) (by omega) (by omega) (by omega)))))))))) (wr_3_0 ⟨by omega, by omega⟩) (fun z296 hq297 hs298 => ?_)
  refine r_ld (pc' := 33) rfl rfl rfl rfl ?_
  refine r_c0 (pc' := 34) rfl rfl ?_
  refine r_pi (pc' := 37) rfl rfl sh_3 rfl rfl hs298 (inS_s (inS_s (inS_s (inS_s (inS_s (inS_s (inS_s (inS_s (inS_s (inS_0 (by omega) (by omega) (by omega) (by omega))))))))))) (wr_3_1 ⟨by omega, by omega⟩) (fun z299 hq300 hs301 => ?_)
  refine r_ld (pc' := 38) rfl rfl rfl rfl ?_
  refine r_c0 (pc' := 39) rfl rfl ?_
  refine r_pi (pc' := 42) rfl rfl sh_3 rfl (fit_b (by omega)) hs301 (inS_s (inS_s (inS_s (inS_s (inS_s (inS_s (inS_s (inS_s (inS_s (inS_s (inS_0 (by omega) (by omega) (by omega) (by omega)))))))))))) (wr_3_5 ⟨by omega, by omega⟩) (fun z302 hq303 hs304 => ?_)
  refine r_ld (pc' := 43) rfl rfl rfl rfl ?_
  refine r_c0 (pc' := 44) rfl rfl ?_
  refine r_pi (pc' := 47) rfl rfl sh_3 rfl rfl hs304 (inS_s (inS_s (inS_s (inS_s (inS_s (inS_s (inS_s (inS_s (inS_s (inS_s (inS_s (inS_0 (by omega) (by omega) (by omega) (by omega))))))))))))) (wr_3_6 ⟨by omega, by omega⟩) (fun z305 hq306 hs307 => ?_)
  refine r_ld (pc' := 48) rfl rfl rfl rfl ?_
  have hb308 := rd_3_7 hz
  have hf309 : z305 3 7 = z0 3 7 := (((congrFun (congrFun hq306 _) _).trans (mu_ne (by omega))).trans (((congrFun (congrFun hq303 _) _).trans (mu_ne (by omega))).trans (((congrFun (congrFun hq300 _) _).trans (mu_ne (by omega))).trans (((congrFun (congrFun hq297 _) _).trans (mu_ne (by omega))).trans ((hs293.2.2.1 _ _ (notS_c (by omega) (notS_c (by omega) (notS_c (by omega) (notS_c (by omega) (notS_c (by omega) (notS_c (by omega) (notS_c (by omega) notS_n)))))))).trans ((congrFun (congrFun hq286 _) _).trans (mu_ne (by omega))))))))
  have hb310 := rd_3_9 hz
  have hf311 : z305 3 9 = z0 3 9 := (((congrFun (congrFun hq306 _) _).trans (mu_ne (by omega))).trans (((congrFun (congrFun hq303 _) _).trans (mu_ne (by omega))).trans (((congrFun (congrFun hq300 _) _).trans (mu_ne (by omega))).trans (((congrFun (congrFun hq297 _) _).trans (mu_ne (by omega))).trans ((hs293.2.2.1 _ _ (notS_c (by omega) (notS_c (by omega) (notS_c (by omega) (notS_c (by omega) (notS_c (by omega) (notS_c (by omega) (notS_c (by omega) notS_n)))))))).trans ((congrFun (congrFun hq286 _) _).trans (mu_ne (by omega))))))))
  refine r_cVV (pc' := 51) rfl rfl rfl rfl rfl sh_3 (m_46 (d := d + 2) t hs307.1 hs307.2.1 ht (by first | omega | assumption | (simp only [hf309, hf311]; assumption))) (fun z313 w314 p315 hs317 hE318 => ?_)
  have hs319 := st_tr hs307 hs317 (subS_c (fun _ _ _ _ _ _ => inS_s (inS_s (inS_s (inS_s (inS_s (inS_s (inS_s (inS_s (inS_s (inS_s (inS_s (inS_0 (by omega) (by omega) (by omega) (by omega))))))))))))) (subS_c (fun _ _ _ _ _ _ => inS_s (inS_s (inS_s (inS_s (inS_s (inS_s (inS_s (inS_s (inS_s (inS_s (inS_s (inS_s (inS_0 (by omega) (by omega) (by omega) (by omega)))))))))))))) (subS_c (fun _ _ _ _ _ _ => inS_s (inS_s (inS_s (inS_s (inS_s (inS_s (inS_s (inS_s (inS_s (inS_s (inS_s (inS_s (inS_s (inS_0 (by omega) (by omega) (by omega) (by omega))))))))))))))) (subS_c (fun _ _ _ _ _ _ => inS_s (inS_s (inS_s (inS_s (inS_s (inS_s (inS_s (inS_s (inS_s (inS_s (inS_s (inS_s (inS_s (inS_s (inS_0 (by omega) (by omega) (by omega) (by omega)))))))))))))))) (subS_c (fun _ _ _ _ _ _ => inS_s (inS_s (inS_s (inS_s (inS_s (inS_s (inS_s (inS_s (inS_s (inS_s (inS_s (inS_s (inS_s (inS_s (inS_s (inS_0 (by omega) (by omega) (by omega) (by omega))))))))))))))))) subS_n)))))
  obtain ⟨rfl, hE318⟩ := hE318
  refine r_c0 (pc' := 52) rfl rfl ?_
  refine r_st (pc' := 54) (lv' := [(4, _), (0, _), (1, _), (2, _), (3, _)]) rfl rfl rfl rfl ?_
  have hb320 := rd_3_7 hs319.1
  have hb321 := rd_3_9 hs319.1
  have hf322 : z313 3 0 = 0 := ((hs317.2.2.1 _ _ (notS_c (by omega) (notS_c (by omega) (notS_c (by omega) (notS_c (by omega) (notS_c (by omega) notS_n)))))).trans (((congrFun (congrFun hq306 _) _).trans (mu_ne (by omega))).trans (((congrFun (congrFun hq303 _) _).trans (mu_ne (by omega))).trans (((congrFun (congrFun hq300 _) _).trans (mu_ne (by omega))).trans ((congrFun (congrFun hq297 _) _).trans mu_eq)))))
  have hf323 : z313 3 5 = 0 := ((hs317.2.2.1 _ _ (notS_c (by omega) (notS_c (by omega) (notS_c (by omega) (notS_c (by omega) (notS_c (by omega) notS_n)))))).trans (((congrFun (congrFun hq306 _) _).trans (mu_ne (by omega))).trans ((congrFun (congrFun hq303 _) _).trans mu_eq)))
  have hb324 := rd_T_3 ht hs295.1
  have hf325 : z313 t 3 = z289 t 3 := ((hs317.2.2.1 _ _ (notS_c (by omega) (notS_c (by omega) (notS_c (by omega) (notS_c (by omega) (notS_c (by omega) notS_n)))))).trans (((congrFun (congrFun hq306 _) _).trans (mu_ne (by omega))).trans (((congrFun (congrFun hq303 _) _).trans (mu_ne (by omega))).trans (((congrFun (congrFun hq300 _) _).trans (mu_ne (by omega))).trans ((congrFun (congrFun hq297 _) _).trans (mu_ne (by omega)))))))
  have hb326 := rd_T_0 ht hs295.1
  have hf327 : z313 t 0 = z289 t 0 := ((hs317.2.2.1 _ _ (notS_c (by omega) (notS_c (by omega) (notS_c (by omega) (notS_c (by omega) (notS_c (by omega) notS_n)))))).trans (((congrFun (congrFun hq306 _) _).trans (mu_ne (by omega))).trans (((congrFun (congrFun hq303 _) _).trans (mu_ne (by omega))).trans (((congrFun (congrFun hq300 _) _).trans (mu_ne (by omega))).trans ((congrFun (congrFun hq297 _) _).trans (mu_ne (by omega)))))))
  exact w_lv (sub_c rfl (sub_c rfl sub_n)) rfl ((key ((91 * (1600 - 0) + 59 : Int).toNat + 1)).1 0 z313 w314 ⟨by omega, by omega⟩ hs319 (by first | omega | assumption | (simp only [hf322, hf323, hf325, hf327]; assumption)) (by first | (intro h; exfalso; omega) | exact hrr.2 | (intro _; exact hrr.2) | (intro _; exact RD_p (by omega) (PI_c (PI_n (fun e he => (((hs317.2.2.1 _ _ (notS_c (by omega) (notS_c (by omega) (notS_c (by omega) (notS_c (by omega) (notS_c (by omega) notS_n)))))).trans (((congrFun (congrFun hq306 _) _).trans (mu_ne (by omega))).trans (((congrFun (congrFun hq303 _) _).trans (mu_ne (by omega))).trans (((congrFun (congrFun hq300 _) _).trans (mu_ne (by omega))).trans ((congrFun (congrFun hq297 _) _).trans (mu_ne (by omega)))))))).trans (hcl.2.2 e he))) (by omega)) (by omega))) (by omega))

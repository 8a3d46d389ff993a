/-! methods, printed by wip/tools/vcg.py -/
/-- Reader closePieces -/
abbrev S_35p (t : Nat) : mS := [(3, 3, 5, 5), (t, t, 1, 1), (t + 3, t + 3, 0, 35), (t, t, 2, 2), (t + 2, t + 2, 0, 35), (3, 3, 0, 0), (3, 3, 1, 1)]
abbrev E_35p (t : Nat) (z0 w0 : mZ) (x y mt tt ct : Option Nat) : Int → mZ → mZ → mP → Prop := fun v z w p => p = (pq x y (some 2) (some t) mt tt ct) ∧ 0 ≤ v ∧ v ≤ 1 ∧ ((v = 0 → z 3 0 ≠ 0) ∧ (v = 1 → z 3 0 = z0 3 0 ∧ z 3 5 = 1 ∧ RD z w t ∧ PTz z t))
theorem m_35p {d : Nat} {z0 w0 : mZ} {x y mt tt ct : Option Nat} (t : Nat) (hz : rz z0) (hw : rw_ w0) (ht : isT t) (hrd : RD z0 w0 t) (h5 : z0 3 5 = 0) (h2 : z0 t 2 = 0) : wc (d + 4) 35 [.ref 3] (mk z0 w0 (pq x y (some 2) (some t) mt tt ct)) (poI (S_35p t) z0 w0 (E_35p t z0 w0 x y mt tt ct)) := by
  have hst : st_ (S_35p t) z0 w0 z0 w0 := st_rf hz hw
  have htb : 159 ≤ t ∧ t ≤ 192 := by have := ht; unfold isT at this; omega
  have hz39 := rd_3_0 hz
  have hz40 := rd_3_5 hz
  have hz41 := rd_T_2 ht hz
  have h03 := (hrd.1 h5).2
  refine w_m rfl rfl ?_
  refine r_ld (pc' := 1) rfl rfl rfl rfl ?_
  refine r_c0 (pc' := 2) rfl rfl ?_
  refine r_pi (pc' := 5) rfl rfl sh_3 rfl (fit_b (by omega)) hst (inS_0 (by omega) (by omega) (by omega) (by omega)) (wr_3_5 ⟨by omega, by omega⟩) (fun z42 hq43 hs44 => ?_)
  refine r_ld (pc' := 6) rfl rfl rfl rfl ?_
  refine r_gr (b := t) (pc' := 9) rfl rfl sh_3 rfl pp_3_4 ?_
  have hb45 := rd_T_0 ht hz
  have hf46 : z42 t 0 = z0 t 0 := ((congrFun (congrFun hq43 _) _).trans (mu_ne (by omega)))
  have hb47 := rd_T_2 ht hz
  have hf48 : z42 t 2 = z0 t 2 := ((congrFun (congrFun hq43 _) _).trans (mu_ne (by omega)))
  have hF49 : z42 (t + 1) = z0 (t + 1) := ((congrFun hq43 _).trans (mu_fn (by omega)))
  have hF50 : z42 (t + 4) = z0 (t + 4) := ((congrFun hq43 _).trans (mu_fn (by omega)))
  have hF51 : z42 (t + 5) = z0 (t + 5) := ((congrFun hq43 _).trans (mu_fn (by omega)))
  have hF52 : z42 (t + 6) = z0 (t + 6) := ((congrFun hq43 _).trans (mu_fn (by omega)))
  refine r_cVI (pc' := 12) rfl rfl rfl rfl rfl (sh_T ht) (m_76p (d := d) t hs44.1 hs44.2.1 ht (by simp only [hF49, hF50, hF51, hF52, hf46, hf48]; exact PI_c (hrd.1 h5).1 (by omega)) (by exact (((congrFun (congrFun hq43 _) _).trans (mu_ne (by omega)))).trans h2)) (fun v53 z54 w55 p56 h57 hs58 hE59 => ?_)
  have hs60 := st_tr hs44 hs58 (subS_c (fun _ _ _ _ _ _ => inS_s (inS_0 (by omega) (by omega) (by omega) (by omega))) (subS_c (fun _ _ _ _ _ _ => inS_s (inS_s (inS_0 (by omega) (by omega) (by omega) (by omega)))) (subS_c (fun _ _ _ _ _ _ => inS_s (inS_s (inS_s (inS_0 (by omega) (by omega) (by omega) (by omega))))) (subS_c (fun _ _ _ _ _ _ => inS_s (inS_s (inS_s (inS_s (inS_0 (by omega) (by omega) (by omega) (by omega)))))) subS_n))))
  obtain ⟨rfl, hE59⟩ := hE59
  have hgl := hE59
  refine r_zne (pc' := 15) rfl rfl ⟨by omega, by omega⟩ (fun hc61 => ?_) (fun hc61 => ?_)
  · skip
    refine r_c0 (pc' := 28) rfl rfl ?_
    have hb62 := rd_3_0 hz
    have hf63 : z54 3 0 = z0 3 0 := ((hs58.2.2.1 _ _ (notS_c (by omega) (notS_c (by omega) (notS_c (by omega) (notS_c (by omega) notS_n))))).trans ((congrFun (congrFun hq43 _) _).trans (mu_ne (by omega))))
    have hf64 : z54 3 5 = 1 := ((hs58.2.2.1 _ _ (notS_c (by omega) (notS_c (by omega) (notS_c (by omega) (notS_c (by omega) notS_n))))).trans ((congrFun (congrFun hq43 _) _).trans mu_eq))
    have hb65 := rd_T_3 ht hz
    have hf66 : z54 t 3 = z0 t 3 := ((hs58.2.2.1 _ _ (notS_c (by omega) (notS_c (by omega) (notS_c (by omega) (notS_c (by omega) notS_n))))).trans ((congrFun (congrFun hq43 _) _).trans (mu_ne (by omega))))
    exact r_rz rfl (by omega) (po_I hs60 ⟨by decide, by decide⟩ ⟨rfl, by omega, by omega, (by constructor; (intro h; first | omega | (exfalso; omega)); (intro h; first | (exfalso; omega) | exact ⟨by omega, by omega, RD_c (by omega) (hgl.2.2.1 (by omega)) (by omega), hgl.2.2.2 (by omega)⟩))⟩)
  · skip
    refine r_ld (pc' := 16) rfl rfl rfl rfl ?_
    refine r_cb (pc' := 18) rfl (by decide) rfl ?_
    refine r_ld (pc' := 19) rfl rfl rfl rfl ?_
    have hb67 := rd_3_8 hz
    refine r_gi (pc' := 22) rfl rfl sh_3 rfl ((hs58.2.2.1 _ _ (notS_c (by omega) (notS_c (by omega) (notS_c (by omega) (notS_c (by omega) notS_n))))).trans ((congrFun (congrFun hq43 _) _).trans (mu_ne (by omega)))) ?_
    refine r_cVV (pc' := 25) rfl rfl rfl rfl rfl sh_3 (m_33 (d := d + 2) 6 (z0 3 8) hs60.1 hs60.2.1 ⟨by omega, by omega⟩ ⟨by omega, by omega⟩) (fun z69 w70 p71 hs73 hE74 => ?_)
    have hs75 := st_tr hs60 hs73 (subS_c (fun _ _ _ _ _ _ => inS_s (inS_s (inS_s (inS_s (inS_s (inS_0 (by omega) (by omega) (by omega) (by omega))))))) (subS_c (fun _ _ _ _ _ _ => inS_s (inS_s (inS_s (inS_s (inS_s (inS_s (inS_0 (by omega) (by omega) (by omega) (by omega)))))))) subS_n))
    obtain ⟨rfl, hE74⟩ := hE74
    refine r_c0 (pc' := 26) rfl rfl ?_
    have hb76 := rd_3_0 hs75.1
    have hf77 : z69 3 5 = 1 := ((hs73.2.2.1 _ _ (notS_c (by omega) (notS_c (by omega) notS_n))).trans ((hs58.2.2.1 _ _ (notS_c (by omega) (notS_c (by omega) (notS_c (by omega) (notS_c (by omega) notS_n))))).trans ((congrFun (congrFun hq43 _) _).trans mu_eq)))
    have hb78 := rd_T_3 ht hz
    have hf79 : z69 t 3 = z0 t 3 := ((hs73.2.2.1 _ _ (notS_c (by omega) (notS_c (by omega) notS_n))).trans ((hs58.2.2.1 _ _ (notS_c (by omega) (notS_c (by omega) (notS_c (by omega) (notS_c (by omega) notS_n))))).trans ((congrFun (congrFun hq43 _) _).trans (mu_ne (by omega)))))
    exact r_rz rfl (by omega) (po_I hs75 ⟨by decide, by decide⟩ ⟨rfl, by omega, by omega, (by constructor; (intro h; first | omega | (exfalso; omega)); (intro h; first | (exfalso; omega) | exact ⟨by omega, by omega, RD_c (by omega) (hgl.2.2.1 (by omega)) (by omega), hgl.2.2.2 (by omega)⟩))⟩)
/-- Reader readPiece -/
abbrev S_36p (t : Nat) : mS := [(3, 3, 6, 6), (3, 3, 8, 8), (3, 3, 7, 7), (3, 3, 9, 9), (3, 3, 10, 10), (3, 3, 0, 0), (3, 3, 1, 1), (t + 1, t + 1, 0, 35), (t + 6, t + 6, 0, 17), (t + 4, t + 4, 0, 17), (t + 5, t + 5, 0, 17), (t, t, 0, 0)]
abbrev E_36p (t : Nat) (z0 w0 : mZ) (x y mt tt ct : Option Nat) : mZ → mZ → mP → Prop := fun z w p => p = (pq x y (some 2) (some t) mt tt ct) ∧ ((z 3 7 = 2 → 0 ≤ z 3 9 ∧ z 3 9 ≤ 9999) ∧ (z 3 0 = 0 → RD z w t) ∧ (z 3 0 = 0 → z0 3 5 = 0))
theorem m_36p {d : Nat} {z0 w0 : mZ} {x y mt tt ct : Option Nat} (t : Nat) (hz : rz z0) (hw : rw_ w0) (ht : isT t) (hkn : (z0 3 7 = 2 → 0 ≤ z0 3 9 ∧ z0 3 9 ≤ 9999)) (hrd : RD z0 w0 t) : wc (d + 5) 36 [.ref 3] (mk z0 w0 (pq x y (some 2) (some t) mt tt ct)) (poV (S_36p t) z0 w0 (E_36p t z0 w0 x y mt tt ct)) := by
  have hst : st_ (S_36p t) z0 w0 z0 w0 := st_rf hz hw
  have htb : 159 ≤ t ∧ t ≤ 192 := by have := ht; unfold isT at this; omega
  have hz98 := rd_3_5 hz
  have hz99 := rd_3_7 hz
  have hz100 := rd_3_9 hz
  have hrq := hrd.1
  have key : ∀ N : Nat, (∀ (z w : mZ), st_ (S_36p t) z0 w0 z w → w 3 10 = w0 3 10 → z 3 0 = z0 3 0 → z 3 1 = z0 3 1 → z 3 6 = z0 3 6 → z 3 7 = z0 3 7 → z 3 8 = z0 3 8 → z 3 9 = z0 3 9 → z t 0 = z0 t 0 → ((z 3 7 = 2 → 0 ≤ z 3 9 ∧ z 3 9 ≤ 9999)) → 3 < (N : Int) → wp_ (d + 4) 36 3 none (21, [(0, .ref 3)], [], mk z w (pq x y (some 2) (some t) mt tt ct)) (poV (S_36p t) z0 w0 (E_36p t z0 w0 x y mt tt ct))) ∧ (∀ (x1 x2 : Int) (z w : mZ), 0 ≤ x1 ∧ x1 ≤ 11 → 0 ≤ x2 ∧ x2 ≤ 3 → 0 ≤ z0 3 5 ∧ z0 3 5 ≤ 0 → 0 ≤ z0 t 0 ∧ z0 t 0 ≤ 11 → st_ (S_36p t) z0 w0 z w → z t 0 = z0 t 0 → ((z 3 7 = 2 → 0 ≤ z 3 9 ∧ z 3 9 ≤ 9999)) → (z 3 5 = 0 ∧ z t 3 = 0 ∧ x1 = z t 0 ∧ x1 ≤ 11) → (PI (z (t + 1)) (z (t + 4)) (z (t + 5)) (z (t + 6)) (3 * x1 + x2)) → 44 * (3 - x2) + 29 < (N : Int) → wp_ (d + 4) 36 3 none (33, [(0, .ref 3), (1, .int (Int32.ofInt x1)), (2, .int (Int32.ofInt x2))], [], mk z w (pq x y (some 2) (some t) mt tt ct)) (poV (S_36p t) z0 w0 (E_36p t z0 w0 x y mt tt ct))) := by
    intro N
    induction N with
    | zero =>
      refine ⟨?_, ?_⟩
      · intro  z w
        intros; exfalso; omega
      · intro x1 x2 z w
        intros; exfalso; omega
    | succ N ih =>
      obtain ⟨ih0, ih1⟩ := ih
      refine ⟨?_, ?_⟩
      · intro  z w  hst un_w_3_10 un_z_3_0 un_z_3_1 un_z_3_6 un_z_3_7 un_z_3_8 un_z_3_9 un_z_t_0 as1 hM
        refine r_ld (pc' := 22) rfl rfl rfl rfl ?_
        refine r_cVI (pc' := 25) rfl rfl rfl rfl rfl sh_3 (m_34 (d := d + 2)  hst.1 hst.2.1 ) (fun v101 z102 w103 p104 h105 hs106 hE107 => ?_)
        have hs108 := st_tr hst hs106 (subS_c (fun _ _ _ _ _ _ => inS_s (inS_s (inS_s (inS_s (inS_s (inS_0 (by omega) (by omega) (by omega) (by omega))))))) (subS_c (fun _ _ _ _ _ _ => inS_s (inS_s (inS_s (inS_s (inS_s (inS_s (inS_0 (by omega) (by omega) (by omega) (by omega)))))))) subS_n))
        obtain ⟨rfl, hE107⟩ := hE107
        refine r_al (pc' := 26) rfl rfl rfl rfl ?_
        have hb109 := rd_3_7 hz
        have hf110 : z102 3 7 = z0 3 7 := ((hs106.2.2.1 _ _ (notS_c (by omega) (notS_c (by omega) notS_n))).trans un_z_3_7)
        have hb111 := rd_3_9 hz
        have hf112 : z102 3 9 = z0 3 9 := ((hs106.2.2.1 _ _ (notS_c (by omega) (notS_c (by omega) notS_n))).trans un_z_3_9)
        have hb113 := rd_3_0 hs108.1
        have hb114 := rd_3_5 hz
        have hf115 : z102 3 5 = z0 3 5 := ((hs106.2.2.1 _ _ (notS_c (by omega) (notS_c (by omega) notS_n))).trans (hst.2.2.1 _ _ (notS_c (by omega) (notS_c (by omega) (notS_c (by omega) (notS_c (by omega) (notS_c (by omega) (notS_c (by omega) (notS_c (by omega) (notS_c (by omega) (notS_c (by omega) (notS_c (by omega) (notS_c (by omega) (notS_c (by omega) notS_n))))))))))))))
        have hb116 := rd_T_3 ht hz
        have hf117 : z102 t 3 = z0 t 3 := ((hs106.2.2.1 _ _ (notS_c (by omega) (notS_c (by omega) notS_n))).trans (hst.2.2.1 _ _ (notS_c (by omega) (notS_c (by omega) (notS_c (by omega) (notS_c (by omega) (notS_c (by omega) (notS_c (by omega) (notS_c (by omega) (notS_c (by omega) (notS_c (by omega) (notS_c (by omega) (notS_c (by omega) (notS_c (by omega) notS_n))))))))))))))
        have hb118 := rd_T_0 ht hz
        have hf119 : z102 t 0 = z0 t 0 := ((hs106.2.2.1 _ _ (notS_c (by omega) (notS_c (by omega) notS_n))).trans un_z_t_0)
        have hF120 : z102 (t + 1) = z (t + 1) := (funext fun _ => hs106.2.2.1 _ _ (notS_c (by omega) (notS_c (by omega) notS_n)))
        have hF121 : z102 (t + 4) = z (t + 4) := (funext fun _ => hs106.2.2.1 _ _ (notS_c (by omega) (notS_c (by omega) notS_n)))
        have hF122 : z102 (t + 5) = z (t + 5) := (funext fun _ => hs106.2.2.1 _ _ (notS_c (by omega) (notS_c (by omega) notS_n)))
        have hF123 : z102 (t + 6) = z (t + 6) := (funext fun _ => hs106.2.2.1 _ _ (notS_c (by omega) (notS_c (by omega) notS_n)))
        exact r_ret rfl (po_V hs108 ⟨rfl, (by refine ⟨by omega, ?_, ?_⟩; (first | (intro h; exfalso; omega) | (intro _; exact RD_p (by omega) (by simp only [hF120, hF121, hF122, hF123, hf110, hf112, hf115, hf117, hf119]; exact PI_c as3 (by omega)) (by omega))); (intro h; omega))⟩)
      · intro x1 x2 z w  hx1 hx2 hz0_0 hz0_1 hst un_z_t_0 as1 as2 as3 hM
        refine r_ld (pc' := 34) rfl rfl rfl rfl ?_
        refine r_c0 (pc' := 35) rfl rfl ?_
        refine r_ige (pc' := 38) rfl rfl ⟨by omega, by omega⟩ ⟨by decide, by decide⟩ (fun hc124 => ?_) (fun hc124 => ?_)
        · skip
          refine r_ld (pc' := 58) rfl rfl rfl rfl ?_
          refine r_c0 (pc' := 59) rfl rfl ?_
          have hb125 := rd_3_7 hst.1
          have hb126 := rd_3_9 hst.1
          have hb127 := rd_3_0 hst.1
          refine r_cVI (pc' := 62) rfl rfl rfl rfl rfl sh_3 (m_42 (d := d) t 3 hst.1 hst.2.1 ⟨by omega, by omega⟩ ht (by first | omega | assumption)) (fun v128 z129 w130 p131 h132 hs133 hE134 => ?_)
          have hs135 := st_tr hst hs133 (subS_c (fun _ _ _ _ _ _ => inS_0 (by omega) (by omega) (by omega) (by omega)) (subS_c (fun _ _ _ _ _ _ => inS_s (inS_0 (by omega) (by omega) (by omega) (by omega))) (subS_c (fun _ _ _ _ _ _ => inS_s (inS_s (inS_0 (by omega) (by omega) (by omega) (by omega)))) (subS_c (fun _ _ _ _ _ _ => inS_s (inS_s (inS_s (inS_0 (by omega) (by omega) (by omega) (by omega))))) (subS_c (fun _ _ _ _ _ _ => inS_s (inS_s (inS_s (inS_s (inS_0 (by omega) (by omega) (by omega) (by omega)))))) (subS_c (fun _ _ _ _ _ _ => inS_s (inS_s (inS_s (inS_s (inS_s (inS_0 (by omega) (by omega) (by omega) (by omega))))))) (subS_c (fun _ _ _ _ _ _ => inS_s (inS_s (inS_s (inS_s (inS_s (inS_s (inS_0 (by omega) (by omega) (by omega) (by omega)))))))) subS_n)))))))
          obtain ⟨rfl, hE134⟩ := hE134
          refine r_zeq (pc' := 65) rfl rfl ⟨by omega, by omega⟩ (fun hc136 => ?_) (fun hc136 => ?_)
          · skip
            have hb137 := rd_3_7 hs135.1
            have hb138 := rd_3_9 hs135.1
            have hb139 := rd_3_0 hs135.1
            have hf140 : z129 3 5 = z0 3 5 := ((hs133.2.2.1 _ _ (notS_c (by omega) (notS_c (by omega) (notS_c (by omega) (notS_c (by omega) (notS_c (by omega) (notS_c (by omega) (notS_c (by omega) notS_n)))))))).trans (hst.2.2.1 _ _ (notS_c (by omega) (notS_c (by omega) (notS_c (by omega) (notS_c (by omega) (notS_c (by omega) (notS_c (by omega) (notS_c (by omega) (notS_c (by omega) (notS_c (by omega) (notS_c (by omega) (notS_c (by omega) (notS_c (by omega) notS_n))))))))))))))
            have hb141 := rd_T_3 ht hz
            have hf142 : z129 t 3 = z0 t 3 := ((hs133.2.2.1 _ _ (notS_c (by omega) (notS_c (by omega) (notS_c (by omega) (notS_c (by omega) (notS_c (by omega) (notS_c (by omega) (notS_c (by omega) notS_n)))))))).trans (hst.2.2.1 _ _ (notS_c (by omega) (notS_c (by omega) (notS_c (by omega) (notS_c (by omega) (notS_c (by omega) (notS_c (by omega) (notS_c (by omega) (notS_c (by omega) (notS_c (by omega) (notS_c (by omega) (notS_c (by omega) (notS_c (by omega) notS_n))))))))))))))
            have hf143 : z129 t 0 = z0 t 0 := ((hs133.2.2.1 _ _ (notS_c (by omega) (notS_c (by omega) (notS_c (by omega) (notS_c (by omega) (notS_c (by omega) (notS_c (by omega) (notS_c (by omega) notS_n)))))))).trans un_z_t_0)
            have hF144 : z129 (t + 1) = z (t + 1) := (funext fun _ => hs133.2.2.1 _ _ (notS_c (by omega) (notS_c (by omega) (notS_c (by omega) (notS_c (by omega) (notS_c (by omega) (notS_c (by omega) (notS_c (by omega) notS_n))))))))
            have hF145 : z129 (t + 4) = z (t + 4) := (funext fun _ => hs133.2.2.1 _ _ (notS_c (by omega) (notS_c (by omega) (notS_c (by omega) (notS_c (by omega) (notS_c (by omega) (notS_c (by omega) (notS_c (by omega) notS_n))))))))
            have hF146 : z129 (t + 5) = z (t + 5) := (funext fun _ => hs133.2.2.1 _ _ (notS_c (by omega) (notS_c (by omega) (notS_c (by omega) (notS_c (by omega) (notS_c (by omega) (notS_c (by omega) (notS_c (by omega) notS_n))))))))
            have hF147 : z129 (t + 6) = z (t + 6) := (funext fun _ => hs133.2.2.1 _ _ (notS_c (by omega) (notS_c (by omega) (notS_c (by omega) (notS_c (by omega) (notS_c (by omega) (notS_c (by omega) (notS_c (by omega) notS_n))))))))
            exact r_ret rfl (po_V hs135 ⟨rfl, (by refine ⟨by omega, ?_, ?_⟩; (first | (intro h; exfalso; omega) | (intro _; exact RD_p (by omega) (by simp only [hF144, hF145, hF146, hF147, hf140, hf142, hf143]; exact PI_c as3 (by omega)) (by omega))); (intro h; omega))⟩)
          · skip
            refine r_ld (pc' := 66) rfl rfl rfl rfl ?_
            refine r_gr (b := t) (pc' := 69) rfl rfl sh_3 rfl pp_3_4 ?_
            refine r_al (pc' := 70) rfl rfl rfl rfl ?_
            refine r_gi (pc' := 73) rfl rfl (sh_T ht) rfl ((hs133.2.2.1 _ _ (notS_c (by omega) (notS_c (by omega) (notS_c (by omega) (notS_c (by omega) (notS_c (by omega) (notS_c (by omega) (notS_c (by omega) notS_n)))))))).trans un_z_t_0) ?_
            refine r_c0 (pc' := 74) rfl rfl ?_
            refine r_add (pc' := 75) rfl rfl ?_
            refine r_pi (pc' := 78) rfl rfl (sh_T ht) rfl rfl hs135 (inS_s (inS_s (inS_s (inS_s (inS_s (inS_s (inS_s (inS_s (inS_s (inS_s (inS_s (inS_0 (by omega) (by omega) (by omega) (by omega))))))))))))) (wr_T_0 ht ⟨by omega, by omega⟩) (fun z148 hq149 hs150 => ?_)
            have hb151 := rd_3_7 hs135.1
            have hf152 : z148 3 7 = z129 3 7 := ((congrFun (congrFun hq149 _) _).trans (mu_ne (by omega)))
            have hb153 := rd_3_9 hs135.1
            have hf154 : z148 3 9 = z129 3 9 := ((congrFun (congrFun hq149 _) _).trans (mu_ne (by omega)))
            have hb155 := rd_3_0 hs135.1
            have hf156 : z148 3 0 = z129 3 0 := ((congrFun (congrFun hq149 _) _).trans (mu_ne (by omega)))
            have hf157 : z148 3 5 = z0 3 5 := (((congrFun (congrFun hq149 _) _).trans (mu_ne (by omega))).trans ((hs133.2.2.1 _ _ (notS_c (by omega) (notS_c (by omega) (notS_c (by omega) (notS_c (by omega) (notS_c (by omega) (notS_c (by omega) (notS_c (by omega) notS_n)))))))).trans (hst.2.2.1 _ _ (notS_c (by omega) (notS_c (by omega) (notS_c (by omega) (notS_c (by omega) (notS_c (by omega) (notS_c (by omega) (notS_c (by omega) (notS_c (by omega) (notS_c (by omega) (notS_c (by omega) (notS_c (by omega) (notS_c (by omega) notS_n)))))))))))))))
            have hb158 := rd_T_3 ht hz
            have hf159 : z148 t 3 = z0 t 3 := (((congrFun (congrFun hq149 _) _).trans (mu_ne (by omega))).trans ((hs133.2.2.1 _ _ (notS_c (by omega) (notS_c (by omega) (notS_c (by omega) (notS_c (by omega) (notS_c (by omega) (notS_c (by omega) (notS_c (by omega) notS_n)))))))).trans (hst.2.2.1 _ _ (notS_c (by omega) (notS_c (by omega) (notS_c (by omega) (notS_c (by omega) (notS_c (by omega) (notS_c (by omega) (notS_c (by omega) (notS_c (by omega) (notS_c (by omega) (notS_c (by omega) (notS_c (by omega) (notS_c (by omega) notS_n)))))))))))))))
            have hf160 : z148 t 0 = (z0 t 0) + 1 := ((congrFun (congrFun hq149 _) _).trans mu_eq)
            have hF161 : z148 (t + 1) = z (t + 1) := (((congrFun hq149 _).trans (mu_fn (by omega))).trans (funext fun _ => hs133.2.2.1 _ _ (notS_c (by omega) (notS_c (by omega) (notS_c (by omega) (notS_c (by omega) (notS_c (by omega) (notS_c (by omega) (notS_c (by omega) notS_n)))))))))
            have hF162 : z148 (t + 4) = z (t + 4) := (((congrFun hq149 _).trans (mu_fn (by omega))).trans (funext fun _ => hs133.2.2.1 _ _ (notS_c (by omega) (notS_c (by omega) (notS_c (by omega) (notS_c (by omega) (notS_c (by omega) (notS_c (by omega) (notS_c (by omega) notS_n)))))))))
            have hF163 : z148 (t + 5) = z (t + 5) := (((congrFun hq149 _).trans (mu_fn (by omega))).trans (funext fun _ => hs133.2.2.1 _ _ (notS_c (by omega) (notS_c (by omega) (notS_c (by omega) (notS_c (by omega) (notS_c (by omega) (notS_c (by omega) (notS_c (by omega) notS_n)))))))))
            have hF164 : z148 (t + 6) = z (t + 6) := (((congrFun hq149 _).trans (mu_fn (by omega))).trans (funext fun _ => hs133.2.2.1 _ _ (notS_c (by omega) (notS_c (by omega) (notS_c (by omega) (notS_c (by omega) (notS_c (by omega) (notS_c (by omega) (notS_c (by omega) notS_n)))))))))
            exact r_ret rfl (po_V hs150 ⟨rfl, (by refine ⟨by omega, ?_, ?_⟩; (first | (intro h; exfalso; omega) | (intro _; exact RD_p (by omega) (by simp only [hF161, hF162, hF163, hF164, hf152, hf154, hf156, hf157, hf159, hf160]; exact PI_c as3 (by omega)) (by omega))); (intro h; omega))⟩)
        · skip
          refine r_ld (pc' := 39) rfl rfl rfl rfl ?_
          refine r_c0 (pc' := 40) rfl rfl ?_
          refine r_ld (pc' := 41) rfl rfl rfl rfl ?_
          refine r_mul (pc' := 42) rfl rfl ?_
          refine r_ld (pc' := 43) rfl rfl rfl rfl ?_
          refine r_add (pc' := 44) rfl rfl ?_
          have hb165 := rd_3_7 hst.1
          have hb166 := rd_3_9 hst.1
          have hb167 := rd_3_0 hst.1
          refine r_cVI (pc' := 47) rfl rfl rfl rfl rfl sh_3 (m_37 (d := d) t ((3 * x1) + x2) hst.1 hst.2.1 ⟨by omega, by omega⟩ ht (by first | omega | assumption) (by exact as3)) (fun v168 z169 w170 p171 h172 hs173 hE174 => ?_)
          have hs175 := st_tr hst hs173 (subS_c (fun _ _ _ _ _ _ => inS_s (inS_s (inS_s (inS_s (inS_s (inS_s (inS_s (inS_0 (by omega) (by omega) (by omega) (by omega))))))))) (subS_c (fun _ _ _ _ _ _ => inS_s (inS_s (inS_s (inS_s (inS_s (inS_s (inS_s (inS_s (inS_0 (by omega) (by omega) (by omega) (by omega)))))))))) (subS_c (fun _ _ _ _ _ _ => inS_s (inS_s (inS_s (inS_s (inS_s (inS_s (inS_s (inS_s (inS_s (inS_0 (by omega) (by omega) (by omega) (by omega))))))))))) (subS_c (fun _ _ _ _ _ _ => inS_s (inS_s (inS_s (inS_s (inS_s (inS_s (inS_s (inS_s (inS_s (inS_s (inS_0 (by omega) (by omega) (by omega) (by omega)))))))))))) (subS_c (fun _ _ _ _ _ _ => inS_0 (by omega) (by omega) (by omega) (by omega)) (subS_c (fun _ _ _ _ _ _ => inS_s (inS_0 (by omega) (by omega) (by omega) (by omega))) (subS_c (fun _ _ _ _ _ _ => inS_s (inS_s (inS_0 (by omega) (by omega) (by omega) (by omega)))) (subS_c (fun _ _ _ _ _ _ => inS_s (inS_s (inS_s (inS_0 (by omega) (by omega) (by omega) (by omega))))) (subS_c (fun _ _ _ _ _ _ => inS_s (inS_s (inS_s (inS_s (inS_0 (by omega) (by omega) (by omega) (by omega)))))) (subS_c (fun _ _ _ _ _ _ => inS_s (inS_s (inS_s (inS_s (inS_s (inS_0 (by omega) (by omega) (by omega) (by omega))))))) (subS_c (fun _ _ _ _ _ _ => inS_s (inS_s (inS_s (inS_s (inS_s (inS_s (inS_0 (by omega) (by omega) (by omega) (by omega)))))))) subS_n)))))))))))
          obtain ⟨rfl, hE174⟩ := hE174
          have hre := hE174.2.2.2.2.2
          refine r_zne (pc' := 50) rfl rfl ⟨by omega, by omega⟩ (fun hc176 => ?_) (fun hc176 => ?_)
          · skip
            refine r_inc (pc' := 54) (lv' := [(0, _), (1, _)]) rfl rfl rfl rfl rfl ?_
            refine r_go rfl ?_
            have hb177 := rd_3_7 hs175.1
            have hb178 := rd_3_9 hs175.1
            have hf179 : z169 3 5 = z0 3 5 := ((hs173.2.2.1 _ _ (notS_c (by omega) (notS_c (by omega) (notS_c (by omega) (notS_c (by omega) (notS_c (by omega) (notS_c (by omega) (notS_c (by omega) (notS_c (by omega) (notS_c (by omega) (notS_c (by omega) (notS_c (by omega) notS_n)))))))))))).trans (hst.2.2.1 _ _ (notS_c (by omega) (notS_c (by omega) (notS_c (by omega) (notS_c (by omega) (notS_c (by omega) (notS_c (by omega) (notS_c (by omega) (notS_c (by omega) (notS_c (by omega) (notS_c (by omega) (notS_c (by omega) (notS_c (by omega) notS_n))))))))))))))
            have hb180 := rd_T_3 ht hz
            have hf181 : z169 t 3 = z0 t 3 := ((hs173.2.2.1 _ _ (notS_c (by omega) (notS_c (by omega) (notS_c (by omega) (notS_c (by omega) (notS_c (by omega) (notS_c (by omega) (notS_c (by omega) (notS_c (by omega) (notS_c (by omega) (notS_c (by omega) (notS_c (by omega) notS_n)))))))))))).trans (hst.2.2.1 _ _ (notS_c (by omega) (notS_c (by omega) (notS_c (by omega) (notS_c (by omega) (notS_c (by omega) (notS_c (by omega) (notS_c (by omega) (notS_c (by omega) (notS_c (by omega) (notS_c (by omega) (notS_c (by omega) (notS_c (by omega) notS_n))))))))))))))
            have hf182 : z169 t 0 = z0 t 0 := ((hs173.2.2.1 _ _ (notS_c (by omega) (notS_c (by omega) (notS_c (by omega) (notS_c (by omega) (notS_c (by omega) (notS_c (by omega) (notS_c (by omega) (notS_c (by omega) (notS_c (by omega) (notS_c (by omega) (notS_c (by omega) notS_n)))))))))))).trans un_z_t_0)
            exact w_lv (sub_c rfl (sub_c rfl (sub_c rfl sub_n))) rfl (ih1 x1 (x2 + 1) z169 w170 ⟨by omega, by omega⟩ ⟨by omega, by omega⟩ ⟨by omega, by omega⟩ ⟨by omega, by omega⟩ hs175 (((hs173.2.2.1 _ _ (notS_c (by omega) (notS_c (by omega) (notS_c (by omega) (notS_c (by omega) (notS_c (by omega) (notS_c (by omega) (notS_c (by omega) (notS_c (by omega) (notS_c (by omega) (notS_c (by omega) (notS_c (by omega) notS_n)))))))))))).trans un_z_t_0)) (by first | omega | assumption | (simp only [hf179, hf181, hf182]; assumption)) (by first | omega | assumption | (simp only [hf179, hf181, hf182]; assumption)) (by first | exact PI_c (hre (by omega)) (by omega) | (simp only [hf179, hf181, hf182]; exact PI_c (hrq (by omega)).1 (by omega))) (by omega))
          · skip
            have hb183 := rd_3_7 hs175.1
            have hb184 := rd_3_9 hs175.1
            have hb185 := rd_3_0 hs175.1
            have hf186 : z169 3 5 = z0 3 5 := ((hs173.2.2.1 _ _ (notS_c (by omega) (notS_c (by omega) (notS_c (by omega) (notS_c (by omega) (notS_c (by omega) (notS_c (by omega) (notS_c (by omega) (notS_c (by omega) (notS_c (by omega) (notS_c (by omega) (notS_c (by omega) notS_n)))))))))))).trans (hst.2.2.1 _ _ (notS_c (by omega) (notS_c (by omega) (notS_c (by omega) (notS_c (by omega) (notS_c (by omega) (notS_c (by omega) (notS_c (by omega) (notS_c (by omega) (notS_c (by omega) (notS_c (by omega) (notS_c (by omega) (notS_c (by omega) notS_n))))))))))))))
            have hb187 := rd_T_3 ht hz
            have hf188 : z169 t 3 = z0 t 3 := ((hs173.2.2.1 _ _ (notS_c (by omega) (notS_c (by omega) (notS_c (by omega) (notS_c (by omega) (notS_c (by omega) (notS_c (by omega) (notS_c (by omega) (notS_c (by omega) (notS_c (by omega) (notS_c (by omega) (notS_c (by omega) notS_n)))))))))))).trans (hst.2.2.1 _ _ (notS_c (by omega) (notS_c (by omega) (notS_c (by omega) (notS_c (by omega) (notS_c (by omega) (notS_c (by omega) (notS_c (by omega) (notS_c (by omega) (notS_c (by omega) (notS_c (by omega) (notS_c (by omega) (notS_c (by omega) notS_n))))))))))))))
            have hf189 : z169 t 0 = z0 t 0 := ((hs173.2.2.1 _ _ (notS_c (by omega) (notS_c (by omega) (notS_c (by omega) (notS_c (by omega) (notS_c (by omega) (notS_c (by omega) (notS_c (by omega) (notS_c (by omega) (notS_c (by omega) (notS_c (by omega) (notS_c (by omega) notS_n)))))))))))).trans un_z_t_0)
            exact r_ret rfl (po_V hs175 ⟨rfl, (by refine ⟨by omega, ?_, ?_⟩; (first | (intro h; exfalso; omega) | (intro _; exact RD_p (by omega) (by simp only [hf186, hf188, hf189]; exact PI_c as3 (by omega)) (by omega))); (intro h; omega))⟩)
  refine w_m rfl rfl ?_
  refine r_ld (pc' := 1) rfl rfl rfl rfl ?_
  refine r_gr (b := t) (pc' := 4) rfl rfl sh_3 rfl pp_3_4 ?_
  have hb190 := rd_T_0 ht hz
  refine r_gi (pc' := 7) rfl rfl (sh_T ht) rfl rfl ?_
  refine r_st (pc' := 8) (lv' := [(1, _), (0, _)]) rfl rfl rfl rfl ?_
  refine r_ld (pc' := 9) rfl rfl rfl rfl ?_
  have hb191 := rd_3_5 hz
  refine r_gi (pc' := 12) rfl rfl sh_3 rfl rfl ?_
  refine r_zne (pc' := 15) rfl rfl ⟨by omega, by omega⟩ (fun hc192 => ?_) (fun hc192 => ?_)
  · skip
    have hb193 := rd_3_7 hz
    have hb194 := rd_3_9 hz
    have hb195 := rd_3_10 hw
    have hb196 := rd_3_0 hz
    have hb197 := rd_3_1 hz
    have hb198 := rd_3_6 hz
    have hb199 := rd_3_8 hz
    exact w_lv (sub_c rfl sub_n) rfl ((key ((3 : Int).toNat + 1)).1 z0 w0 hst (rfl) (rfl) (rfl) (rfl) (rfl) (rfl) (rfl) (rfl) (by first | omega | assumption) (by omega))
  · skip
    refine r_ld (pc' := 16) rfl rfl rfl rfl ?_
    refine r_cb (pc' := 18) rfl (by decide) rfl ?_
    refine r_ilt (pc' := 21) rfl rfl ⟨by omega, by omega⟩ ⟨by decide, by decide⟩ (fun hc200 => ?_) (fun hc200 => ?_)
    · skip
      refine r_ld (pc' := 28) rfl rfl rfl rfl ?_
      have hb201 := rd_3_7 hz
      have hb202 := rd_3_9 hz
      refine r_cVV (pc' := 31) rfl rfl rfl rfl rfl sh_3 (m_46 (d := d + 1) t hst.1 hst.2.1 ht (by first | omega | assumption)) (fun z204 w205 p206 hs208 hE209 => ?_)
      have hs210 := st_tr hst hs208 (subS_c (fun _ _ _ _ _ _ => inS_0 (by omega) (by omega) (by omega) (by omega)) (subS_c (fun _ _ _ _ _ _ => inS_s (inS_0 (by omega) (by omega) (by omega) (by omega))) (subS_c (fun _ _ _ _ _ _ => inS_s (inS_s (inS_0 (by omega) (by omega) (by omega) (by omega)))) (subS_c (fun _ _ _ _ _ _ => inS_s (inS_s (inS_s (inS_0 (by omega) (by omega) (by omega) (by omega))))) (subS_c (fun _ _ _ _ _ _ => inS_s (inS_s (inS_s (inS_s (inS_0 (by omega) (by omega) (by omega) (by omega)))))) subS_n)))))
      obtain ⟨rfl, hE209⟩ := hE209
      have h03 := (hrq (by omega)).2
      refine r_c0 (pc' := 32) rfl rfl ?_
      refine r_st (pc' := 33) (lv' := [(2, _), (1, _), (0, _)]) rfl rfl rfl rfl ?_
      have hb211 := rd_3_7 hs210.1
      have hb212 := rd_3_9 hs210.1
      have hf213 : z204 3 5 = z0 3 5 := (hs208.2.2.1 _ _ (notS_c (by omega) (notS_c (by omega) (notS_c (by omega) (notS_c (by omega) (notS_c (by omega) notS_n))))))
      have hb214 := rd_T_3 ht hz
      have hf215 : z204 t 3 = z0 t 3 := (hs208.2.2.1 _ _ (notS_c (by omega) (notS_c (by omega) (notS_c (by omega) (notS_c (by omega) (notS_c (by omega) notS_n))))))
      have hf216 : z204 t 0 = z0 t 0 := (hs208.2.2.1 _ _ (notS_c (by omega) (notS_c (by omega) (notS_c (by omega) (notS_c (by omega) (notS_c (by omega) notS_n))))))
      have hF217 : z204 (t + 1) = z0 (t + 1) := (funext fun _ => hs208.2.2.1 _ _ (notS_c (by omega) (notS_c (by omega) (notS_c (by omega) (notS_c (by omega) (notS_c (by omega) notS_n))))))
      have hF218 : z204 (t + 4) = z0 (t + 4) := (funext fun _ => hs208.2.2.1 _ _ (notS_c (by omega) (notS_c (by omega) (notS_c (by omega) (notS_c (by omega) (notS_c (by omega) notS_n))))))
      have hF219 : z204 (t + 5) = z0 (t + 5) := (funext fun _ => hs208.2.2.1 _ _ (notS_c (by omega) (notS_c (by omega) (notS_c (by omega) (notS_c (by omega) (notS_c (by omega) notS_n))))))
      have hF220 : z204 (t + 6) = z0 (t + 6) := (funext fun _ => hs208.2.2.1 _ _ (notS_c (by omega) (notS_c (by omega) (notS_c (by omega) (notS_c (by omega) (notS_c (by omega) notS_n))))))
      exact w_lv (sub_c rfl (sub_c rfl (sub_c rfl sub_n))) rfl ((key ((44 * (3 - 0) + 29 : Int).toNat + 1)).2 (z0 t 0) 0 z204 w205 ⟨by omega, by omega⟩ ⟨by omega, by omega⟩ ⟨by omega, by omega⟩ ⟨by omega, by omega⟩ hs210 ((hs208.2.2.1 _ _ (notS_c (by omega) (notS_c (by omega) (notS_c (by omega) (notS_c (by omega) (notS_c (by omega) notS_n))))))) (by first | omega | assumption | (simp only [hF217, hF218, hF219, hF220, hf213, hf215, hf216]; assumption)) (by first | omega | assumption | (simp only [hF217, hF218, hF219, hF220, hf213, hf215, hf216]; assumption)) (by first | exact PI_c (hre (by omega)) (by omega) | (simp only [hF217, hF218, hF219, hF220, hf213, hf215, hf216]; exact PI_c (hrq (by omega)).1 (by omega))) (by omega))
    · skip
      have hb221 := rd_3_7 hz
      have hb222 := rd_3_9 hz
      have hb223 := rd_3_10 hw
      have hb224 := rd_3_0 hz
      have hb225 := rd_3_1 hz
      have hb226 := rd_3_6 hz
      have hb227 := rd_3_8 hz
      exact w_lv (sub_c rfl sub_n) rfl ((key ((3 : Int).toNat + 1)).1 z0 w0 hst (rfl) (rfl) (rfl) (rfl) (rfl) (rfl) (rfl) (rfl) (by first | omega | assumption) (by omega))
/-- Reader readGround -/
abbrev S_32p (t : Nat) : mS := [(3, 3, 3, 3), (t, t, 0, 0), (t, t, 1, 1), (t, t, 2, 2), (t, t, 3, 3), (t, t, 4, 4), (t + 4, t + 4, 0, 17), (t + 8, t + 15, 0, 17), (3, 3, 0, 0), (3, 3, 1, 1), (3, 3, 5, 5), (3, 3, 6, 6), (3, 3, 8, 8), (3, 3, 7, 7), (3, 3, 9, 9), (3, 3, 10, 10), (t + 1, t + 1, 0, 35), (t + 6, t + 6, 0, 17), (t + 5, t + 5, 0, 17), (t + 3, t + 3, 0, 35), (t + 2, t + 2, 0, 35), (t + 20, t + 25, 0, 7), (t + 27, t + 32, 0, 7), (t + 17, t + 17, 0, 5), (t + 18, t + 18, 0, 5), (t + 16, t + 16, 0, 7)]
abbrev E_32p (a2 : Int) (t : Nat) (z0 w0 : mZ) (x y tx it mt tt ct : Option Nat) : Int → mZ → mZ → mP → Prop := fun v z w p => p = (pq x y (some 2) (some t) mt tt ct) ∧ 0 ≤ v ∧ v ≤ 1 ∧ ((z 3 7 = 2 → 0 ≤ z 3 9 ∧ z 3 9 ≤ 9999) ∧ (v = 1 → WTt z t ∧ LF z w t) ∧ (v = 1 → PTz z t))
theorem m_32p {d : Nat} {z0 w0 : mZ} {x y tx it mt tt ct : Option Nat} (a2 : Int) (t : Nat) (hz : rz z0) (hw : rw_ w0) (ha2 : 0 ≤ a2 ∧ a2 ≤ 1600) (ht : isT t) (hkn : (z0 3 7 = 2 → 0 ≤ z0 3 9 ∧ z0 3 9 ≤ 9999)) : wc (d + 6) 32 [.ref 3, .ref 2, .int (Int32.ofInt a2), .ref t] (mk z0 w0 (pq x y tx it mt tt ct)) (poI (S_32p t) z0 w0 (E_32p a2 t z0 w0 x y tx it mt tt ct)) := by
  have hst : st_ (S_32p t) z0 w0 z0 w0 := st_rf hz hw
  have htb : 159 ≤ t ∧ t ≤ 192 := by have := ht; unfold isT at this; omega
  have hz138 := rd_3_7 hz
  have hz139 := rd_3_9 hz
  have key : ∀ N : Nat, (∀ (x4 : Int) (z w : mZ), 0 ≤ x4 ∧ x4 ≤ 1600 → st_ (S_32p t) z0 w0 z w → ((z 3 7 = 2 → 0 ≤ z 3 9 ∧ z 3 9 ≤ 9999)) → ((z 3 0 = 0 → RD z w t)) → (z 3 0 = 0 → (z 3 5 = 0 → z t 2 = 0) ∧ (z 3 5 = 1 → PTz z t)) → 91 * (1600 - x4) + 59 < (N : Int) → wp_ (d + 5) 32 5 (some .boolean) (54, [(0, .ref 3), (4, .int (Int32.ofInt x4))], [], mk z w (pq x y (some 2) (some t) mt tt ct)) (poI (S_32p t) z0 w0 (E_32p a2 t z0 w0 x y tx it mt tt ct))) ∧ (∀ (x4 : Int) (z w : mZ), 0 ≤ x4 ∧ x4 ≤ 1599 → st_ (S_32p t) z0 w0 z w → ((z 3 7 = 2 → 0 ≤ z 3 9 ∧ z 3 9 ≤ 9999)) → (RD z w t) → ((z 3 5 = 0 → z t 2 = 0) ∧ (z 3 5 = 1 → PTz z t)) → 91 * (1600 - x4) + 31 < (N : Int) → wp_ (d + 5) 32 5 (some .boolean) (118, [(0, .ref 3), (4, .int (Int32.ofInt x4))], [], mk z w (pq x y (some 2) (some t) mt tt ct)) (poI (S_32p t) z0 w0 (E_32p a2 t z0 w0 x y tx it mt tt ct))) ∧ (∀ (x4 : Int) (z w : mZ), 0 ≤ x4 ∧ x4 ≤ 1599 → st_ (S_32p t) z0 w0 z w → ((z 3 7 = 2 → 0 ≤ z 3 9 ∧ z 3 9 ≤ 9999)) → (RD z w t ∧ z 3 5 = 1) → (PTz z t) → 91 * (1600 - x4) + 23 < (N : Int) → wp_ (d + 5) 32 5 (some .boolean) (134, [(0, .ref 3), (4, .int (Int32.ofInt x4))], [], mk z w (pq x y (some 2) (some t) mt tt ct)) (poI (S_32p t) z0 w0 (E_32p a2 t z0 w0 x y tx it mt tt ct))) ∧ (∀ (z w : mZ), st_ (S_32p t) z0 w0 z w → ((z 3 7 = 2 → 0 ≤ z 3 9 ∧ z 3 9 ≤ 9999)) → ((z 3 0 = 0 → RD z w t)) → (z 3 0 = 0 → (z 3 5 = 0 → z t 2 = 0) ∧ (z 3 5 = 1 → PTz z t)) → 12 < (N : Int) → wp_ (d + 5) 32 5 (some .boolean) (160, [(0, .ref 3)], [], mk z w (pq x y (some 2) (some t) mt tt ct)) (poI (S_32p t) z0 w0 (E_32p a2 t z0 w0 x y tx it mt tt ct))) := by
    intro N
    induction N with
    | zero =>
      refine ⟨?_, ?_, ?_, ?_⟩
      · intro x4 z w
        intros; exfalso; omega
      · intro x4 z w
        intros; exfalso; omega
      · intro x4 z w
        intros; exfalso; omega
      · intro  z w
        intros; exfalso; omega
    | succ N ih =>
      obtain ⟨ih0, ih1, ih2, ih3⟩ := ih
      refine ⟨?_, ?_, ?_, ?_⟩
      · intro x4 z w  hx4 hst as1 as2 asp hM
        refine r_ld (pc' := 56) rfl rfl rfl rfl ?_
        refine r_cs (pc' := 59) rfl (by decide) rfl ?_
        refine r_ige (pc' := 62) rfl rfl ⟨by omega, by omega⟩ ⟨by decide, by decide⟩ (fun hc140 => ?_) (fun hc140 => ?_)
        · skip
          have hb141 := rd_3_7 hst.1
          have hb142 := rd_3_9 hst.1
          have hb143 := rd_3_0 hst.1
          have hb144 := rd_3_5 hst.1
          have hb145 := rd_T_2 ht hst.1
          exact w_lv (sub_c rfl sub_n) rfl (ih3 z w hst (by first | omega | assumption) (by exact as2) (by exact asp) (by omega))
        · skip
          refine r_ld (pc' := 63) rfl rfl rfl rfl ?_
          have hb146 := rd_3_0 hst.1
          refine r_gi (pc' := 66) rfl rfl sh_3 rfl rfl ?_
          refine r_zne (pc' := 69) rfl rfl ⟨by omega, by omega⟩ (fun hc147 => ?_) (fun hc147 => ?_)
          · skip
            have hb148 := rd_3_7 hst.1
            have hb149 := rd_3_9 hst.1
            have hb150 := rd_3_5 hst.1
            have hb151 := rd_T_2 ht hst.1
            exact w_lv (sub_c rfl sub_n) rfl (ih3 z w hst (by first | omega | assumption) (by exact as2) (by exact asp) (by omega))
          · skip
            refine r_ld (pc' := 70) rfl rfl rfl rfl ?_
            have hb152 := rd_3_7 hst.1
            refine r_gi (pc' := 73) rfl rfl sh_3 rfl rfl ?_
            refine r_zeq (pc' := 76) rfl rfl ⟨by omega, by omega⟩ (fun hc153 => ?_) (fun hc153 => ?_)
            · skip
              have hb154 := rd_3_9 hst.1
              have hb155 := rd_3_5 hst.1
              have hb156 := rd_T_2 ht hst.1
              exact w_lv (sub_c rfl sub_n) rfl (ih3 z w hst (by first | omega | assumption) (by exact as2) (by exact asp) (by omega))
            · skip
              refine r_ld (pc' := 77) rfl rfl rfl rfl ?_
              refine r_gi (pc' := 80) rfl rfl sh_3 rfl rfl ?_
              refine r_cb (pc' := 82) rfl (by decide) rfl ?_
              refine r_ine (pc' := 85) rfl rfl ⟨by omega, by omega⟩ ⟨by decide, by decide⟩ (fun hc157 => ?_) (fun hc157 => ?_)
              · skip
                refine r_ld (pc' := 93) rfl rfl rfl rfl ?_
                refine r_gi (pc' := 96) rfl rfl sh_3 rfl rfl ?_
                refine r_cb (pc' := 98) rfl (by decide) rfl ?_
                refine r_ieq (pc' := 101) rfl rfl ⟨by omega, by omega⟩ ⟨by decide, by decide⟩ (fun hc158 => ?_) (fun hc158 => ?_)
                · skip
                  have hb159 := rd_3_9 hst.1
                  have hb160 := rd_3_5 hst.1
                  have hb161 := rd_T_2 ht hst.1
                  exact w_lv (sub_c rfl (sub_c rfl sub_n)) rfl (ih1 x4 z w ⟨by omega, by omega⟩ hst (by first | omega | assumption) (by exact as2 (by omega)) (by exact asp (by omega)) (by omega))
                · skip
                  refine r_ld (pc' := 102) rfl rfl rfl rfl ?_
                  refine r_gi (pc' := 105) rfl rfl sh_3 rfl rfl ?_
                  refine r_cb (pc' := 107) rfl (by decide) rfl ?_
                  refine r_ieq (pc' := 110) rfl rfl ⟨by omega, by omega⟩ ⟨by decide, by decide⟩ (fun hc162 => ?_) (fun hc162 => ?_)
                  · skip
                    have hb163 := rd_3_9 hst.1
                    have hb164 := rd_3_5 hst.1
                    have hb165 := rd_T_2 ht hst.1
                    exact w_lv (sub_c rfl (sub_c rfl sub_n)) rfl (ih1 x4 z w ⟨by omega, by omega⟩ hst (by first | omega | assumption) (by exact as2 (by omega)) (by exact asp (by omega)) (by omega))
                  · skip
                    refine r_ld (pc' := 111) rfl rfl rfl rfl ?_
                    refine r_cVI (pc' := 114) rfl rfl rfl rfl rfl sh_3 (m_34 (d := d + 3)  hst.1 hst.2.1 ) (fun v166 z167 w168 p169 h170 hs171 hE172 => ?_)
                    have hs173 := st_tr hst hs171 (subS_c (fun _ _ _ _ _ _ => inS_s (inS_s (inS_s (inS_s (inS_s (inS_s (inS_s (inS_s (inS_0 (by omega) (by omega) (by omega) (by omega)))))))))) (subS_c (fun _ _ _ _ _ _ => inS_s (inS_s (inS_s (inS_s (inS_s (inS_s (inS_s (inS_s (inS_s (inS_0 (by omega) (by omega) (by omega) (by omega))))))))))) subS_n))
                    obtain ⟨rfl, hE172⟩ := hE172
                    refine r_al (pc' := 115) rfl rfl rfl rfl ?_
                    refine r_go rfl ?_
                    refine r_inc (pc' := 157) (lv' := [(0, _)]) rfl rfl rfl rfl rfl ?_
                    refine r_go rfl ?_
                    have hf174 : z167 3 7 = z 3 7 := (hs171.2.2.1 _ _ (notS_c (by omega) (notS_c (by omega) notS_n)))
                    have hb175 := rd_3_9 hst.1
                    have hf176 : z167 3 9 = z 3 9 := (hs171.2.2.1 _ _ (notS_c (by omega) (notS_c (by omega) notS_n)))
                    have hb177 := rd_3_0 hs173.1
                    have hb178 := rd_3_5 hst.1
                    have hf179 : z167 3 5 = z 3 5 := (hs171.2.2.1 _ _ (notS_c (by omega) (notS_c (by omega) notS_n)))
                    have hb180 := rd_T_2 ht hst.1
                    have hf181 : z167 t 2 = z t 2 := (hs171.2.2.1 _ _ (notS_c (by omega) (notS_c (by omega) notS_n)))
                    have hb182 := rd_T_3 ht hst.1
                    have hf183 : z167 t 3 = z t 3 := (hs171.2.2.1 _ _ (notS_c (by omega) (notS_c (by omega) notS_n)))
                    have hb184 := rd_T_0 ht hst.1
                    have hf185 : z167 t 0 = z t 0 := (hs171.2.2.1 _ _ (notS_c (by omega) (notS_c (by omega) notS_n)))
                    exact w_lv (sub_c rfl (sub_c rfl sub_n)) rfl (ih0 (x4 + 1) z167 w168 ⟨by omega, by omega⟩ hs173 (by first | omega | assumption | (simp only [hf174, hf176, hf179, hf181, hf183, hf185]; assumption)) (by first | (intro h; exfalso; omega) | exact hrr.2.1 | exact hrr.2 | (intro _; exact hrr.2) | (intro _; exact RD_p (by omega) (PI_c (PI_n (fun e he => (NOMARK).trans (hcl e he))) (by omega)) (by omega))) (by first | (intro q9; exfalso; omega) | (intro q9; have c5 := hr5 q9; exact ⟨fun _ => ((hs171.2.2.1 _ _ (notS_c (by omega) (notS_c (by omega) notS_n)))).trans ((asp (by omega)).1 c5), fun q => absurd q (by omega)⟩) | exact fun _ => ⟨fun _ => (NOMARK).trans hc2, fun q => absurd q (by omega)⟩ | exact fun _ => ⟨fun q => absurd q (by omega), fun _ => PTz_f ((hs171.2.2.1 _ _ (notS_c (by omega) (notS_c (by omega) notS_n)))) ((hs171.2.2.1 _ _ (notS_c (by omega) (notS_c (by omega) notS_n)))) (fun i => (hs171.2.2.1 _ _ (notS_c (by omega) (notS_c (by omega) notS_n)))) (fun i => (hs171.2.2.1 _ _ (notS_c (by omega) (notS_c (by omega) notS_n)))) (fun i => (hs171.2.2.1 _ _ (notS_c (by omega) (notS_c (by omega) notS_n)))) asp⟩) (by omega))
              · skip
                refine r_ld (pc' := 86) rfl rfl rfl rfl ?_
                have hb186 := rd_3_9 hst.1
                have hb187 := rd_3_5 hst.1
                refine r_cVV (pc' := 89) rfl rfl rfl rfl rfl sh_3 (m_36p (d := d) t hst.1 hst.2.1 ht (by first | omega | assumption) (by exact as2 (by omega))) (fun z189 w190 p191 hs193 hE194 => ?_)
                have hs195 := st_tr hst hs193 (subS_c (fun _ _ _ _ _ _ => inS_s (inS_s (inS_s (inS_s (inS_s (inS_s (inS_s (inS_s (inS_s (inS_s (inS_s (inS_0 (by omega) (by omega) (by omega) (by omega))))))))))))) (subS_c (fun _ _ _ _ _ _ => inS_s (inS_s (inS_s (inS_s (inS_s (inS_s (inS_s (inS_s (inS_s (inS_s (inS_s (inS_s (inS_0 (by omega) (by omega) (by omega) (by omega)))))))))))))) (subS_c (fun _ _ _ _ _ _ => inS_s (inS_s (inS_s (inS_s (inS_s (inS_s (inS_s (inS_s (inS_s (inS_s (inS_s (inS_s (inS_s (inS_0 (by omega) (by omega) (by omega) (by omega))))))))))))))) (subS_c (fun _ _ _ _ _ _ => inS_s (inS_s (inS_s (inS_s (inS_s (inS_s (inS_s (inS_s (inS_s (inS_s (inS_s (inS_s (inS_s (inS_s (inS_0 (by omega) (by omega) (by omega) (by omega)))))))))))))))) (subS_c (fun _ _ _ _ _ _ => inS_s (inS_s (inS_s (inS_s (inS_s (inS_s (inS_s (inS_s (inS_s (inS_s (inS_s (inS_s (inS_s (inS_s (inS_s (inS_0 (by omega) (by omega) (by omega) (by omega))))))))))))))))) (subS_c (fun _ _ _ _ _ _ => inS_s (inS_s (inS_s (inS_s (inS_s (inS_s (inS_s (inS_s (inS_0 (by omega) (by omega) (by omega) (by omega)))))))))) (subS_c (fun _ _ _ _ _ _ => inS_s (inS_s (inS_s (inS_s (inS_s (inS_s (inS_s (inS_s (inS_s (inS_0 (by omega) (by omega) (by omega) (by omega))))))))))) (subS_c (fun _ _ _ _ _ _ => inS_s (inS_s (inS_s (inS_s (inS_s (inS_s (inS_s (inS_s (inS_s (inS_s (inS_s (inS_s (inS_s (inS_s (inS_s (inS_s (inS_0 (by omega) (by omega) (by omega) (by omega)))))))))))))))))) (subS_c (fun _ _ _ _ _ _ => inS_s (inS_s (inS_s (inS_s (inS_s (inS_s (inS_s (inS_s (inS_s (inS_s (inS_s (inS_s (inS_s (inS_s (inS_s (inS_s (inS_s (inS_0 (by omega) (by omega) (by omega) (by omega))))))))))))))))))) (subS_c (fun _ _ _ _ _ _ => inS_s (inS_s (inS_s (inS_s (inS_s (inS_s (inS_0 (by omega) (by omega) (by omega) (by omega)))))))) (subS_c (fun _ _ _ _ _ _ => inS_s (inS_s (inS_s (inS_s (inS_s (inS_s (inS_s (inS_s (inS_s (inS_s (inS_s (inS_s (inS_s (inS_s (inS_s (inS_s (inS_s (inS_s (inS_0 (by omega) (by omega) (by omega) (by omega)))))))))))))))))))) (subS_c (fun _ _ _ _ _ _ => inS_s (inS_0 (by omega) (by omega) (by omega) (by omega))) subS_n))))))))))))
                obtain ⟨rfl, hE194⟩ := hE194
                have hrr := hE194
                have hr5 := hrr.2.2
                refine r_go rfl ?_
                refine r_inc (pc' := 157) (lv' := [(0, _)]) rfl rfl rfl rfl rfl ?_
                refine r_go rfl ?_
                have hb196 := rd_3_7 hs195.1
                have hb197 := rd_3_9 hs195.1
                have hb198 := rd_3_0 hs195.1
                have hf199 : z189 3 5 = z 3 5 := (hs193.2.2.1 _ _ (notS_c (by omega) (notS_c (by omega) (notS_c (by omega) (notS_c (by omega) (notS_c (by omega) (notS_c (by omega) (notS_c (by omega) (notS_c (by omega) (notS_c (by omega) (notS_c (by omega) (notS_c (by omega) (notS_c (by omega) notS_n)))))))))))))
                have hb200 := rd_T_2 ht hst.1
                have hf201 : z189 t 2 = z t 2 := (hs193.2.2.1 _ _ (notS_c (by omega) (notS_c (by omega) (notS_c (by omega) (notS_c (by omega) (notS_c (by omega) (notS_c (by omega) (notS_c (by omega) (notS_c (by omega) (notS_c (by omega) (notS_c (by omega) (notS_c (by omega) (notS_c (by omega) notS_n)))))))))))))
                have hb202 := rd_T_3 ht hst.1
                have hf203 : z189 t 3 = z t 3 := (hs193.2.2.1 _ _ (notS_c (by omega) (notS_c (by omega) (notS_c (by omega) (notS_c (by omega) (notS_c (by omega) (notS_c (by omega) (notS_c (by omega) (notS_c (by omega) (notS_c (by omega) (notS_c (by omega) (notS_c (by omega) (notS_c (by omega) notS_n)))))))))))))
                have hb204 := rd_T_0 ht hs195.1
                exact w_lv (sub_c rfl (sub_c rfl sub_n)) rfl (ih0 (x4 + 1) z189 w190 ⟨by omega, by omega⟩ hs195 (by first | omega | assumption | (simp only [hf199, hf201, hf203]; assumption)) (by first | (intro h; exfalso; omega) | exact hrr.2.1 | exact hrr.2 | (intro _; exact hrr.2) | (intro _; exact RD_p (by omega) (PI_c (PI_n (fun e he => (NOMARK).trans (hcl e he))) (by omega)) (by omega))) (by first | (intro q9; exfalso; omega) | (intro q9; have c5 := hr5 q9; exact ⟨fun _ => ((hs193.2.2.1 _ _ (notS_c (by omega) (notS_c (by omega) (notS_c (by omega) (notS_c (by omega) (notS_c (by omega) (notS_c (by omega) (notS_c (by omega) (notS_c (by omega) (notS_c (by omega) (notS_c (by omega) (notS_c (by omega) (notS_c (by omega) notS_n)))))))))))))).trans ((asp (by omega)).1 c5), fun q => absurd q (by omega)⟩) | exact fun _ => ⟨fun _ => (NOMARK).trans hc2, fun q => absurd q (by omega)⟩ | exact fun _ => ⟨fun q => absurd q (by omega), fun _ => PTz_f ((hs193.2.2.1 _ _ (notS_c (by omega) (notS_c (by omega) (notS_c (by omega) (notS_c (by omega) (notS_c (by omega) (notS_c (by omega) (notS_c (by omega) (notS_c (by omega) (notS_c (by omega) (notS_c (by omega) (notS_c (by omega) (notS_c (by omega) notS_n)))))))))))))) ((hs193.2.2.1 _ _ (notS_c (by omega) (notS_c (by omega) (notS_c (by omega) (notS_c (by omega) (notS_c (by omega) (notS_c (by omega) (notS_c (by omega) (notS_c (by omega) (notS_c (by omega) (notS_c (by omega) (notS_c (by omega) (notS_c (by omega) notS_n)))))))))))))) (fun i => (hs193.2.2.1 _ _ (notS_c (by omega) (notS_c (by omega) (notS_c (by omega) (notS_c (by omega) (notS_c (by omega) (notS_c (by omega) (notS_c (by omega) (notS_c (by omega) (notS_c (by omega) (notS_c (by omega) (notS_c (by omega) (notS_c (by omega) notS_n)))))))))))))) (fun i => (hs193.2.2.1 _ _ (notS_c (by omega) (notS_c (by omega) (notS_c (by omega) (notS_c (by omega) (notS_c (by omega) (notS_c (by omega) (notS_c (by omega) (notS_c (by omega) (notS_c (by omega) (notS_c (by omega) (notS_c (by omega) (notS_c (by omega) notS_n)))))))))))))) (fun i => (hs193.2.2.1 _ _ (notS_c (by omega) (notS_c (by omega) (notS_c (by omega) (notS_c (by omega) (notS_c (by omega) (notS_c (by omega) (notS_c (by omega) (notS_c (by omega) (notS_c (by omega) (notS_c (by omega) (notS_c (by omega) (notS_c (by omega) notS_n)))))))))))))) asp⟩) (by omega))
      · intro x4 z w  hx4 hst as1 as2 asp hM
        refine r_ld (pc' := 119) rfl rfl rfl rfl ?_
        have hb205 := rd_3_5 hst.1
        refine r_gi (pc' := 122) rfl rfl sh_3 rfl rfl ?_
        refine r_zne (pc' := 125) rfl rfl ⟨by omega, by omega⟩ (fun hc206 => ?_) (fun hc206 => ?_)
        · skip
          have hb207 := rd_3_7 hst.1
          have hb208 := rd_3_9 hst.1
          exact w_lv (sub_c rfl (sub_c rfl sub_n)) rfl (ih2 x4 z w ⟨by omega, by omega⟩ hst (by first | omega | assumption) (by first | exact ⟨as2, by omega⟩ | exact ⟨(hcp.2 (by omega)).2.2.1, by omega⟩) (by first | exact asp.2 (by omega) | exact (hcp.2 (by omega)).2.2.2) (by omega))
        · skip
          refine r_ld (pc' := 126) rfl rfl rfl rfl ?_
          have hb209 := rd_T_2 ht hst.1
          have hb210 := rd_3_0 hst.1
          refine r_cVI (pc' := 129) rfl rfl rfl rfl rfl sh_3 (m_35p (d := d + 1) t hst.1 hst.2.1 ht (by exact as2) (by first | omega | assumption) (by exact asp.1 (by omega))) (fun v211 z212 w213 p214 h215 hs216 hE217 => ?_)
          have hs218 := st_tr hst hs216 (subS_c (fun _ _ _ _ _ _ => inS_s (inS_s (inS_s (inS_s (inS_s (inS_s (inS_s (inS_s (inS_s (inS_s (inS_0 (by omega) (by omega) (by omega) (by omega)))))))))))) (subS_c (fun _ _ _ _ _ _ => inS_s (inS_s (inS_0 (by omega) (by omega) (by omega) (by omega)))) (subS_c (fun _ _ _ _ _ _ => inS_s (inS_s (inS_s (inS_s (inS_s (inS_s (inS_s (inS_s (inS_s (inS_s (inS_s (inS_s (inS_s (inS_s (inS_s (inS_s (inS_s (inS_s (inS_s (inS_0 (by omega) (by omega) (by omega) (by omega))))))))))))))))))))) (subS_c (fun _ _ _ _ _ _ => inS_s (inS_s (inS_s (inS_0 (by omega) (by omega) (by omega) (by omega))))) (subS_c (fun _ _ _ _ _ _ => inS_s (inS_s (inS_s (inS_s (inS_s (inS_s (inS_s (inS_s (inS_s (inS_s (inS_s (inS_s (inS_s (inS_s (inS_s (inS_s (inS_s (inS_s (inS_s (inS_s (inS_0 (by omega) (by omega) (by omega) (by omega)))))))))))))))))))))) (subS_c (fun _ _ _ _ _ _ => inS_s (inS_s (inS_s (inS_s (inS_s (inS_s (inS_s (inS_s (inS_0 (by omega) (by omega) (by omega) (by omega)))))))))) (subS_c (fun _ _ _ _ _ _ => inS_s (inS_s (inS_s (inS_s (inS_s (inS_s (inS_s (inS_s (inS_s (inS_0 (by omega) (by omega) (by omega) (by omega))))))))))) subS_n)))))))
          obtain ⟨rfl, hE217⟩ := hE217
          have hcp := hE217.2.2
          refine r_zne (pc' := 132) rfl rfl ⟨by omega, by omega⟩ (fun hc219 => ?_) (fun hc219 => ?_)
          · skip
            have hb220 := rd_3_7 hst.1
            have hf221 : z212 3 7 = z 3 7 := (hs216.2.2.1 _ _ (notS_c (by omega) (notS_c (by omega) (notS_c (by omega) (notS_c (by omega) (notS_c (by omega) (notS_c (by omega) (notS_c (by omega) notS_n))))))))
            have hb222 := rd_3_9 hst.1
            have hf223 : z212 3 9 = z 3 9 := (hs216.2.2.1 _ _ (notS_c (by omega) (notS_c (by omega) (notS_c (by omega) (notS_c (by omega) (notS_c (by omega) (notS_c (by omega) (notS_c (by omega) notS_n))))))))
            have hb224 := rd_3_5 hs218.1
            exact w_lv (sub_c rfl (sub_c rfl sub_n)) rfl (ih2 x4 z212 w213 ⟨by omega, by omega⟩ hs218 (by first | omega | assumption | (simp only [hf221, hf223]; assumption)) (by first | exact ⟨as2, by omega⟩ | exact ⟨(hcp.2 (by omega)).2.2.1, by omega⟩) (by first | exact asp.2 (by omega) | exact (hcp.2 (by omega)).2.2.2) (by omega))
          · skip
            refine r_c0 (pc' := 133) rfl rfl ?_
            have hb225 := rd_3_7 hst.1
            have hf226 : z212 3 7 = z 3 7 := (hs216.2.2.1 _ _ (notS_c (by omega) (notS_c (by omega) (notS_c (by omega) (notS_c (by omega) (notS_c (by omega) (notS_c (by omega) (notS_c (by omega) notS_n))))))))
            have hb227 := rd_3_9 hst.1
            have hf228 : z212 3 9 = z 3 9 := (hs216.2.2.1 _ _ (notS_c (by omega) (notS_c (by omega) (notS_c (by omega) (notS_c (by omega) (notS_c (by omega) (notS_c (by omega) (notS_c (by omega) notS_n))))))))
            have hb229 := rd_3_5 hs218.1
            exact r_rz rfl (by omega) (po_I hs218 ⟨by decide, by decide⟩ ⟨rfl, by omega, by omega, (by refine ⟨by omega, ?_, ?_⟩; (intro h; first | (exfalso; omega) | exact (as2 (by omega)).2 (by omega) | exact ((hcp.2 (by omega)).2.2.1).2 (by omega)); (intro h; first | (exfalso; omega) | exact (asp (by omega)).2 (by omega) | exact (hcp.2 (by omega)).2.2.2))⟩)
      · intro x4 z w  hx4 hst as1 as2 asp hM
        refine r_ld (pc' := 135) rfl rfl rfl rfl ?_
        have hb230 := rd_3_7 hst.1
        refine r_gi (pc' := 138) rfl rfl sh_3 rfl rfl ?_
        refine r_cb (pc' := 140) rfl (by decide) rfl ?_
        refine r_ine (pc' := 143) rfl rfl ⟨by omega, by omega⟩ ⟨by decide, by decide⟩ (fun hc231 => ?_) (fun hc231 => ?_)
        · skip
          refine r_ld (pc' := 151) rfl rfl rfl rfl ?_
          have hb232 := rd_3_9 hst.1
          refine r_cVV (pc' := 154) rfl rfl rfl rfl rfl sh_3 (m_39 (d := d) t hst.1 hst.2.1 ht (by first | omega | assumption) (by exact as2.1)) (fun z234 w235 p236 hs238 hE239 => ?_)
          have hs240 := st_tr hst hs238 (subS_c (fun _ _ _ _ _ _ => inS_s (inS_s (inS_s (inS_s (inS_s (inS_s (inS_s (inS_s (inS_s (inS_s (inS_s (inS_0 (by omega) (by omega) (by omega) (by omega))))))))))))) (subS_c (fun _ _ _ _ _ _ => inS_s (inS_s (inS_s (inS_s (inS_s (inS_s (inS_s (inS_s (inS_s (inS_s (inS_s (inS_s (inS_0 (by omega) (by omega) (by omega) (by omega)))))))))))))) (subS_c (fun _ _ _ _ _ _ => inS_s (inS_s (inS_s (inS_s (inS_s (inS_s (inS_s (inS_s (inS_s (inS_s (inS_s (inS_s (inS_s (inS_0 (by omega) (by omega) (by omega) (by omega))))))))))))))) (subS_c (fun _ _ _ _ _ _ => inS_s (inS_s (inS_s (inS_s (inS_s (inS_s (inS_s (inS_s (inS_s (inS_s (inS_s (inS_s (inS_s (inS_s (inS_0 (by omega) (by omega) (by omega) (by omega)))))))))))))))) (subS_c (fun _ _ _ _ _ _ => inS_s (inS_s (inS_s (inS_s (inS_s (inS_s (inS_s (inS_s (inS_s (inS_s (inS_s (inS_s (inS_s (inS_s (inS_s (inS_0 (by omega) (by omega) (by omega) (by omega))))))))))))))))) (subS_c (fun _ _ _ _ _ _ => inS_s (inS_s (inS_s (inS_s (inS_s (inS_s (inS_s (inS_s (inS_0 (by omega) (by omega) (by omega) (by omega)))))))))) (subS_c (fun _ _ _ _ _ _ => inS_s (inS_s (inS_s (inS_s (inS_s (inS_s (inS_s (inS_s (inS_s (inS_0 (by omega) (by omega) (by omega) (by omega))))))))))) (subS_c (fun _ _ _ _ _ _ => inS_s (inS_s (inS_s (inS_s (inS_s (inS_s (inS_s (inS_s (inS_s (inS_s (inS_s (inS_s (inS_s (inS_s (inS_s (inS_s (inS_s (inS_s (inS_s (inS_s (inS_s (inS_0 (by omega) (by omega) (by omega) (by omega))))))))))))))))))))))) (subS_c (fun _ _ _ _ _ _ => inS_s (inS_s (inS_s (inS_s (inS_s (inS_s (inS_s (inS_s (inS_s (inS_s (inS_s (inS_s (inS_s (inS_s (inS_s (inS_s (inS_s (inS_s (inS_s (inS_s (inS_s (inS_s (inS_0 (by omega) (by omega) (by omega) (by omega)))))))))))))))))))))))) (subS_c (fun _ _ _ _ _ _ => inS_s (inS_s (inS_s (inS_s (inS_s (inS_s (inS_s (inS_s (inS_s (inS_s (inS_s (inS_s (inS_s (inS_s (inS_s (inS_s (inS_s (inS_s (inS_s (inS_s (inS_s (inS_s (inS_s (inS_0 (by omega) (by omega) (by omega) (by omega))))))))))))))))))))))))) (subS_c (fun _ _ _ _ _ _ => inS_s (inS_s (inS_s (inS_s (inS_s (inS_s (inS_s (inS_s (inS_s (inS_s (inS_s (inS_s (inS_s (inS_s (inS_s (inS_s (inS_s (inS_s (inS_s (inS_s (inS_s (inS_s (inS_s (inS_s (inS_0 (by omega) (by omega) (by omega) (by omega)))))))))))))))))))))))))) (subS_c (fun _ _ _ _ _ _ => inS_s (inS_s (inS_s (inS_s (inS_s (inS_0 (by omega) (by omega) (by omega) (by omega))))))) subS_n))))))))))))
          obtain ⟨rfl, hE239⟩ := hE239
          have hrr := hE239
          refine r_inc (pc' := 157) (lv' := [(0, _)]) rfl rfl rfl rfl rfl ?_
          refine r_go rfl ?_
          have hb241 := rd_3_7 hs240.1
          have hb242 := rd_3_9 hs240.1
          have hb243 := rd_3_0 hs240.1
          have hb244 := rd_3_5 hst.1
          have hf245 : z234 3 5 = z 3 5 := (hs238.2.2.1 _ _ (notS_c (by omega) (notS_c (by omega) (notS_c (by omega) (notS_c (by omega) (notS_c (by omega) (notS_c (by omega) (notS_c (by omega) (notS_c (by omega) (notS_c (by omega) (notS_c (by omega) (notS_c (by omega) (notS_c (by omega) notS_n)))))))))))))
          have hb246 := rd_T_2 ht hst.1
          have hf247 : z234 t 2 = z t 2 := (hs238.2.2.1 _ _ (notS_c (by omega) (notS_c (by omega) (notS_c (by omega) (notS_c (by omega) (notS_c (by omega) (notS_c (by omega) (notS_c (by omega) (notS_c (by omega) (notS_c (by omega) (notS_c (by omega) (notS_c (by omega) (notS_c (by omega) notS_n)))))))))))))
          have hb248 := rd_T_3 ht hst.1
          have hf249 : z234 t 3 = z t 3 := (hs238.2.2.1 _ _ (notS_c (by omega) (notS_c (by omega) (notS_c (by omega) (notS_c (by omega) (notS_c (by omega) (notS_c (by omega) (notS_c (by omega) (notS_c (by omega) (notS_c (by omega) (notS_c (by omega) (notS_c (by omega) (notS_c (by omega) notS_n)))))))))))))
          have hb250 := rd_T_0 ht hst.1
          have hf251 : z234 t 0 = z t 0 := (hs238.2.2.1 _ _ (notS_c (by omega) (notS_c (by omega) (notS_c (by omega) (notS_c (by omega) (notS_c (by omega) (notS_c (by omega) (notS_c (by omega) (notS_c (by omega) (notS_c (by omega) (notS_c (by omega) (notS_c (by omega) (notS_c (by omega) notS_n)))))))))))))
          exact w_lv (sub_c rfl (sub_c rfl sub_n)) rfl (ih0 (x4 + 1) z234 w235 ⟨by omega, by omega⟩ hs240 (by first | omega | assumption | (simp only [hf245, hf247, hf249, hf251]; assumption)) (by first | (intro h; exfalso; omega) | exact hrr.2.1 | exact hrr.2 | (intro _; exact hrr.2) | (intro _; exact RD_p (by omega) (PI_c (PI_n (fun e he => (NOMARK).trans (hcl e he))) (by omega)) (by omega))) (by first | (intro q9; exfalso; omega) | (intro q9; have c5 := hr5 q9; exact ⟨fun _ => ((hs238.2.2.1 _ _ (notS_c (by omega) (notS_c (by omega) (notS_c (by omega) (notS_c (by omega) (notS_c (by omega) (notS_c (by omega) (notS_c (by omega) (notS_c (by omega) (notS_c (by omega) (notS_c (by omega) (notS_c (by omega) (notS_c (by omega) notS_n)))))))))))))).trans ((asp (by omega)).1 c5), fun q => absurd q (by omega)⟩) | exact fun _ => ⟨fun _ => (NOMARK).trans hc2, fun q => absurd q (by omega)⟩ | exact fun _ => ⟨fun q => absurd q (by omega), fun _ => PTz_f ((hs238.2.2.1 _ _ (notS_c (by omega) (notS_c (by omega) (notS_c (by omega) (notS_c (by omega) (notS_c (by omega) (notS_c (by omega) (notS_c (by omega) (notS_c (by omega) (notS_c (by omega) (notS_c (by omega) (notS_c (by omega) (notS_c (by omega) notS_n)))))))))))))) ((hs238.2.2.1 _ _ (notS_c (by omega) (notS_c (by omega) (notS_c (by omega) (notS_c (by omega) (notS_c (by omega) (notS_c (by omega) (notS_c (by omega) (notS_c (by omega) (notS_c (by omega) (notS_c (by omega) (notS_c (by omega) (notS_c (by omega) notS_n)))))))))))))) (fun i => (hs238.2.2.1 _ _ (notS_c (by omega) (notS_c (by omega) (notS_c (by omega) (notS_c (by omega) (notS_c (by omega) (notS_c (by omega) (notS_c (by omega) (notS_c (by omega) (notS_c (by omega) (notS_c (by omega) (notS_c (by omega) (notS_c (by omega) notS_n)))))))))))))) (fun i => (hs238.2.2.1 _ _ (notS_c (by omega) (notS_c (by omega) (notS_c (by omega) (notS_c (by omega) (notS_c (by omega) (notS_c (by omega) (notS_c (by omega) (notS_c (by omega) (notS_c (by omega) (notS_c (by omega) (notS_c (by omega) (notS_c (by omega) notS_n)))))))))))))) (fun i => (hs238.2.2.1 _ _ (notS_c (by omega) (notS_c (by omega) (notS_c (by omega) (notS_c (by omega) (notS_c (by omega) (notS_c (by omega) (notS_c (by omega) (notS_c (by omega) (notS_c (by omega) (notS_c (by omega) (notS_c (by omega) (notS_c (by omega) notS_n)))))))))))))) asp⟩) (by omega))
        · skip
          refine r_ld (pc' := 144) rfl rfl rfl rfl ?_
          have hb252 := rd_3_9 hst.1
          have hb253 := rd_3_5 hst.1
          refine r_cVV (pc' := 147) rfl rfl rfl rfl rfl sh_3 (m_38 (d := d) t hst.1 hst.2.1 ht (by first | omega | assumption) (by exact as2.1) (by first | omega | assumption)) (fun z255 w256 p257 hs259 hE260 => ?_)
          have hs261 := st_tr hst hs259 (subS_c (fun _ _ _ _ _ _ => inS_s (inS_s (inS_s (inS_s (inS_s (inS_s (inS_s (inS_s (inS_s (inS_s (inS_s (inS_0 (by omega) (by omega) (by omega) (by omega))))))))))))) (subS_c (fun _ _ _ _ _ _ => inS_s (inS_s (inS_s (inS_s (inS_s (inS_s (inS_s (inS_s (inS_s (inS_s (inS_s (inS_s (inS_0 (by omega) (by omega) (by omega) (by omega)))))))))))))) (subS_c (fun _ _ _ _ _ _ => inS_s (inS_s (inS_s (inS_s (inS_s (inS_s (inS_s (inS_s (inS_s (inS_s (inS_s (inS_s (inS_s (inS_0 (by omega) (by omega) (by omega) (by omega))))))))))))))) (subS_c (fun _ _ _ _ _ _ => inS_s (inS_s (inS_s (inS_s (inS_s (inS_s (inS_s (inS_s (inS_s (inS_s (inS_s (inS_s (inS_s (inS_s (inS_0 (by omega) (by omega) (by omega) (by omega)))))))))))))))) (subS_c (fun _ _ _ _ _ _ => inS_s (inS_s (inS_s (inS_s (inS_s (inS_s (inS_s (inS_s (inS_s (inS_s (inS_s (inS_s (inS_s (inS_s (inS_s (inS_0 (by omega) (by omega) (by omega) (by omega))))))))))))))))) (subS_c (fun _ _ _ _ _ _ => inS_s (inS_s (inS_s (inS_s (inS_s (inS_s (inS_s (inS_s (inS_0 (by omega) (by omega) (by omega) (by omega)))))))))) (subS_c (fun _ _ _ _ _ _ => inS_s (inS_s (inS_s (inS_s (inS_s (inS_s (inS_s (inS_s (inS_s (inS_0 (by omega) (by omega) (by omega) (by omega))))))))))) (subS_c (fun _ _ _ _ _ _ => inS_s (inS_s (inS_s (inS_s (inS_s (inS_s (inS_s (inS_0 (by omega) (by omega) (by omega) (by omega))))))))) (subS_c (fun _ _ _ _ _ _ => inS_s (inS_s (inS_s (inS_s (inS_s (inS_s (inS_s (inS_s (inS_s (inS_s (inS_s (inS_s (inS_s (inS_s (inS_s (inS_s (inS_s (inS_s (inS_s (inS_s (inS_s (inS_s (inS_s (inS_s (inS_s (inS_0 (by omega) (by omega) (by omega) (by omega))))))))))))))))))))))))))) (subS_c (fun _ _ _ _ _ _ => inS_s (inS_s (inS_s (inS_s (inS_0 (by omega) (by omega) (by omega) (by omega)))))) subS_n))))))))))
          obtain ⟨rfl, hE260⟩ := hE260
          have hrr := hE260
          refine r_go rfl ?_
          refine r_inc (pc' := 157) (lv' := [(0, _)]) rfl rfl rfl rfl rfl ?_
          refine r_go rfl ?_
          have hb262 := rd_3_7 hs261.1
          have hb263 := rd_3_9 hs261.1
          have hb264 := rd_3_0 hs261.1
          have hf265 : z255 3 5 = z 3 5 := (hs259.2.2.1 _ _ (notS_c (by omega) (notS_c (by omega) (notS_c (by omega) (notS_c (by omega) (notS_c (by omega) (notS_c (by omega) (notS_c (by omega) (notS_c (by omega) (notS_c (by omega) (notS_c (by omega) notS_n)))))))))))
          have hb266 := rd_T_2 ht hst.1
          have hf267 : z255 t 2 = z t 2 := (hs259.2.2.1 _ _ (notS_c (by omega) (notS_c (by omega) (notS_c (by omega) (notS_c (by omega) (notS_c (by omega) (notS_c (by omega) (notS_c (by omega) (notS_c (by omega) (notS_c (by omega) (notS_c (by omega) notS_n)))))))))))
          have hb268 := rd_T_3 ht hs261.1
          have hb269 := rd_T_0 ht hst.1
          have hf270 : z255 t 0 = z t 0 := (hs259.2.2.1 _ _ (notS_c (by omega) (notS_c (by omega) (notS_c (by omega) (notS_c (by omega) (notS_c (by omega) (notS_c (by omega) (notS_c (by omega) (notS_c (by omega) (notS_c (by omega) (notS_c (by omega) notS_n)))))))))))
          exact w_lv (sub_c rfl (sub_c rfl sub_n)) rfl (ih0 (x4 + 1) z255 w256 ⟨by omega, by omega⟩ hs261 (by first | omega | assumption | (simp only [hf265, hf267, hf270]; assumption)) (by first | (intro h; exfalso; omega) | exact hrr.2.1 | exact hrr.2 | (intro _; exact hrr.2) | (intro _; exact RD_p (by omega) (PI_c (PI_n (fun e he => (NOMARK).trans (hcl e he))) (by omega)) (by omega))) (by first | (intro q9; exfalso; omega) | (intro q9; have c5 := hr5 q9; exact ⟨fun _ => ((hs259.2.2.1 _ _ (notS_c (by omega) (notS_c (by omega) (notS_c (by omega) (notS_c (by omega) (notS_c (by omega) (notS_c (by omega) (notS_c (by omega) (notS_c (by omega) (notS_c (by omega) (notS_c (by omega) notS_n)))))))))))).trans ((asp (by omega)).1 c5), fun q => absurd q (by omega)⟩) | exact fun _ => ⟨fun _ => (NOMARK).trans hc2, fun q => absurd q (by omega)⟩ | exact fun _ => ⟨fun q => absurd q (by omega), fun _ => PTz_f ((hs259.2.2.1 _ _ (notS_c (by omega) (notS_c (by omega) (notS_c (by omega) (notS_c (by omega) (notS_c (by omega) (notS_c (by omega) (notS_c (by omega) (notS_c (by omega) (notS_c (by omega) (notS_c (by omega) notS_n)))))))))))) ((hs259.2.2.1 _ _ (notS_c (by omega) (notS_c (by omega) (notS_c (by omega) (notS_c (by omega) (notS_c (by omega) (notS_c (by omega) (notS_c (by omega) (notS_c (by omega) (notS_c (by omega) (notS_c (by omega) notS_n)))))))))))) (fun i => (hs259.2.2.1 _ _ (notS_c (by omega) (notS_c (by omega) (notS_c (by omega) (notS_c (by omega) (notS_c (by omega) (notS_c (by omega) (notS_c (by omega) (notS_c (by omega) (notS_c (by omega) (notS_c (by omega) notS_n)))))))))))) (fun i => (hs259.2.2.1 _ _ (notS_c (by omega) (notS_c (by omega) (notS_c (by omega) (notS_c (by omega) (notS_c (by omega) (notS_c (by omega) (notS_c (by omega) (notS_c (by omega) (notS_c (by omega) (notS_c (by omega) notS_n)))))))))))) (fun i => (hs259.2.2.1 _ _ (notS_c (by omega) (notS_c (by omega) (notS_c (by omega) (notS_c (by omega) (notS_c (by omega) (notS_c (by omega) (notS_c (by omega) (notS_c (by omega) (notS_c (by omega) (notS_c (by omega) notS_n)))))))))))) asp⟩) (by omega))
      · intro  z w  hst as1 as2 asp hM
        refine r_ld (pc' := 161) rfl rfl rfl rfl ?_
        have hb271 := rd_3_0 hst.1
        refine r_gi (pc' := 164) rfl rfl sh_3 rfl rfl ?_
        refine r_zne (pc' := 167) rfl rfl ⟨by omega, by omega⟩ (fun hc272 => ?_) (fun hc272 => ?_)
        · skip
          refine r_c0 (pc' := 186) rfl rfl ?_
          have hb273 := rd_3_7 hst.1
          have hb274 := rd_3_9 hst.1
          have hb275 := rd_3_5 hst.1
          exact r_rz rfl (by omega) (po_I hst ⟨by decide, by decide⟩ ⟨rfl, by omega, by omega, (by refine ⟨by omega, ?_, ?_⟩; (intro h; first | (exfalso; omega) | exact (as2 (by omega)).2 (by omega) | exact ((hcp.2 (by omega)).2.2.1).2 (by omega)); (intro h; first | (exfalso; omega) | exact (asp (by omega)).2 (by omega) | exact (hcp.2 (by omega)).2.2.2))⟩)
        · skip
          refine r_ld (pc' := 168) rfl rfl rfl rfl ?_
          have hb276 := rd_3_5 hst.1
          refine r_gi (pc' := 171) rfl rfl sh_3 rfl rfl ?_
          refine r_zne (pc' := 174) rfl rfl ⟨by omega, by omega⟩ (fun hc277 => ?_) (fun hc277 => ?_)
          · skip
            refine r_c0 (pc' := 182) rfl rfl ?_
            refine r_go rfl ?_
            have hb278 := rd_3_7 hst.1
            have hb279 := rd_3_9 hst.1
            exact r_rz rfl (by omega) (po_I hst ⟨by decide, by decide⟩ ⟨rfl, by omega, by omega, (by refine ⟨by omega, ?_, ?_⟩; (intro h; first | (exfalso; omega) | exact (as2 (by omega)).2 (by omega) | exact ((hcp.2 (by omega)).2.2.1).2 (by omega)); (intro h; first | (exfalso; omega) | exact (asp (by omega)).2 (by omega) | exact (hcp.2 (by omega)).2.2.2))⟩)
          · skip
            refine r_ld (pc' := 175) rfl rfl rfl rfl ?_
            have hb280 := rd_T_2 ht hst.1
            refine r_cVI (pc' := 178) rfl rfl rfl rfl rfl sh_3 (m_35p (d := d + 1) t hst.1 hst.2.1 ht (by exact as2 (by omega)) (by first | omega | assumption) (by exact (asp (by omega)).1 (by omega))) (fun v281 z282 w283 p284 h285 hs286 hE287 => ?_)
            have hs288 := st_tr hst hs286 (subS_c (fun _ _ _ _ _ _ => inS_s (inS_s (inS_s (inS_s (inS_s (inS_s (inS_s (inS_s (inS_s (inS_s (inS_0 (by omega) (by omega) (by omega) (by omega)))))))))))) (subS_c (fun _ _ _ _ _ _ => inS_s (inS_s (inS_0 (by omega) (by omega) (by omega) (by omega)))) (subS_c (fun _ _ _ _ _ _ => inS_s (inS_s (inS_s (inS_s (inS_s (inS_s (inS_s (inS_s (inS_s (inS_s (inS_s (inS_s (inS_s (inS_s (inS_s (inS_s (inS_s (inS_s (inS_s (inS_0 (by omega) (by omega) (by omega) (by omega))))))))))))))))))))) (subS_c (fun _ _ _ _ _ _ => inS_s (inS_s (inS_s (inS_0 (by omega) (by omega) (by omega) (by omega))))) (subS_c (fun _ _ _ _ _ _ => inS_s (inS_s (inS_s (inS_s (inS_s (inS_s (inS_s (inS_s (inS_s (inS_s (inS_s (inS_s (inS_s (inS_s (inS_s (inS_s (inS_s (inS_s (inS_s (inS_s (inS_0 (by omega) (by omega) (by omega) (by omega)))))))))))))))))))))) (subS_c (fun _ _ _ _ _ _ => inS_s (inS_s (inS_s (inS_s (inS_s (inS_s (inS_s (inS_s (inS_0 (by omega) (by omega) (by omega) (by omega)))))))))) (subS_c (fun _ _ _ _ _ _ => inS_s (inS_s (inS_s (inS_s (inS_s (inS_s (inS_s (inS_s (inS_s (inS_0 (by omega) (by omega) (by omega) (by omega))))))))))) subS_n)))))))
            obtain ⟨rfl, hE287⟩ := hE287
            have hcp := hE287.2.2
            refine r_zeq (pc' := 181) rfl rfl ⟨by omega, by omega⟩ (fun hc289 => ?_) (fun hc289 => ?_)
            · skip
              refine r_c0 (pc' := 186) rfl rfl ?_
              have hb290 := rd_3_7 hst.1
              have hf291 : z282 3 7 = z 3 7 := (hs286.2.2.1 _ _ (notS_c (by omega) (notS_c (by omega) (notS_c (by omega) (notS_c (by omega) (notS_c (by omega) (notS_c (by omega) (notS_c (by omega) notS_n))))))))
              have hb292 := rd_3_9 hst.1
              have hf293 : z282 3 9 = z 3 9 := (hs286.2.2.1 _ _ (notS_c (by omega) (notS_c (by omega) (notS_c (by omega) (notS_c (by omega) (notS_c (by omega) (notS_c (by omega) (notS_c (by omega) notS_n))))))))
              have hb294 := rd_3_5 hs288.1
              exact r_rz rfl (by omega) (po_I hs288 ⟨by decide, by decide⟩ ⟨rfl, by omega, by omega, (by refine ⟨by omega, ?_, ?_⟩; (intro h; first | (exfalso; omega) | exact (as2 (by omega)).2 (by omega) | exact ((hcp.2 (by omega)).2.2.1).2 (by omega)); (intro h; first | (exfalso; omega) | exact (asp (by omega)).2 (by omega) | exact (hcp.2 (by omega)).2.2.2))⟩)
            · skip
              refine r_c0 (pc' := 182) rfl rfl ?_
              refine r_go rfl ?_
              have hb295 := rd_3_7 hst.1
              have hf296 : z282 3 7 = z 3 7 := (hs286.2.2.1 _ _ (notS_c (by omega) (notS_c (by omega) (notS_c (by omega) (notS_c (by omega) (notS_c (by omega) (notS_c (by omega) (notS_c (by omega) notS_n))))))))
              have hb297 := rd_3_9 hst.1
              have hf298 : z282 3 9 = z 3 9 := (hs286.2.2.1 _ _ (notS_c (by omega) (notS_c (by omega) (notS_c (by omega) (notS_c (by omega) (notS_c (by omega) (notS_c (by omega) (notS_c (by omega) notS_n))))))))
              have hb299 := rd_3_5 hs288.1
              exact r_rz rfl (by omega) (po_I hs288 ⟨by decide, by decide⟩ ⟨rfl, by omega, by omega, (by refine ⟨by omega, ?_, ?_⟩; (intro h; first | (exfalso; omega) | exact (as2 (by omega)).2 (by omega) | exact ((hcp.2 (by omega)).2.2.1).2 (by omega)); (intro h; first | (exfalso; omega) | exact (asp (by omega)).2 (by omega) | exact (hcp.2 (by omega)).2.2.2))⟩)
  refine w_m rfl rfl ?_
  refine r_ld (pc' := 1) rfl rfl rfl rfl ?_
  refine r_ld (pc' := 2) rfl rfl rfl rfl ?_
  refine r_pr (b := some 2) (pc' := 5) rfl rfl sh_3 rfl rfl pq_u2 ?_
  refine r_ld (pc' := 6) rfl rfl rfl rfl ?_
  refine r_ld (pc' := 7) rfl rfl rfl rfl ?_
  refine r_ld (pc' := 8) rfl rfl rfl rfl ?_
  refine r_len (pc' := 9) rfl rfl sh_2 (by decide) ?_
  refine r_cSI (pc' := 12) rfl rfl rfl rfl rfl (m_263 (d := d + 4) a2 (((1600 : Nat) : Int)) hst.1 hst.2.1 ⟨by omega, by omega⟩ ⟨by omega, by omega⟩) (fun v300 z301 w302 p303 h304 hs305 hE306 => ?_)
  obtain ⟨rfl, rfl, rfl, hE306⟩ := hE306
  refine r_pi (pc' := 15) rfl rfl sh_3 rfl rfl hst (inS_0 (by omega) (by omega) (by omega) (by omega)) (wr_3_3 ⟨by omega, by omega⟩) (fun z308 hq309 hs310 => ?_)
  refine r_ld (pc' := 16) rfl rfl rfl rfl ?_
  refine r_ld (pc' := 17) rfl rfl rfl rfl ?_
  refine r_pr (b := some t) (pc' := 20) rfl rfl sh_3 rfl rfl pq_u3 ?_
  refine r_ld (pc' := 21) rfl rfl rfl rfl ?_
  refine r_gr (b := t) (pc' := 24) rfl rfl sh_3 rfl pp_3_4 ?_
  refine r_cVV (pc' := 27) rfl rfl rfl rfl rfl (sh_T ht) (m_74p (d := d + 4) t hs310.1 hs310.2.1 ht) (fun z312 w313 p314 hs316 hE317 => ?_)
  have hs318 := st_tr hs310 hs316 (subS_c (fun _ _ _ _ _ _ => inS_s (inS_0 (by omega) (by omega) (by omega) (by omega))) (subS_c (fun _ _ _ _ _ _ => inS_s (inS_s (inS_0 (by omega) (by omega) (by omega) (by omega)))) (subS_c (fun _ _ _ _ _ _ => inS_s (inS_s (inS_s (inS_0 (by omega) (by omega) (by omega) (by omega))))) (subS_c (fun _ _ _ _ _ _ => inS_s (inS_s (inS_s (inS_s (inS_0 (by omega) (by omega) (by omega) (by omega)))))) (subS_c (fun _ _ _ _ _ _ => inS_s (inS_s (inS_s (inS_s (inS_s (inS_0 (by omega) (by omega) (by omega) (by omega))))))) (subS_c (fun _ _ _ _ _ _ => inS_s (inS_s (inS_s (inS_s (inS_s (inS_s (inS_0 (by omega) (by omega) (by omega) (by omega)))))))) (subS_c (fun _ _ _ _ _ _ => inS_s (inS_s (inS_s (inS_s (inS_s (inS_s (inS_s (inS_0 (by omega) (by omega) (by omega) (by omega))))))))) subS_n)))))))
  obtain ⟨rfl, hE317⟩ := hE317
  have hcl := hE317.2
  have hc2 := hE317.1.2.2
  refine r_ld (pc' := 28) rfl rfl rfl rfl ?_
  refine r_c0 (pc' := 29) rfl rfl ?_
  refine r_pi (pc' := 32) rfl rfl sh_3 rfl rfl hs318 (inS_s (inS_s (inS_s (inS_s (inS_s (inS_s (inS_s (inS_s (inS_0 (by omega) (by omega) (by omega) (by omega)))))))))) (wr_3_0 ⟨by omega, by omega⟩) (fun z319 hq320 hs321 => ?_)
  refine r_ld (pc' := 33) rfl rfl rfl rfl ?_
  refine r_c0 (pc' := 34) rfl rfl ?_
  refine r_pi (pc' := 37) rfl rfl sh_3 rfl rfl hs321 (inS_s (inS_s (inS_s (inS_s (inS_s (inS_s (inS_s (inS_s (inS_s (inS_0 (by omega) (by omega) (by omega) (by omega))))))))))) (wr_3_1 ⟨by omega, by omega⟩) (fun z322 hq323 hs324 => ?_)
  refine r_ld (pc' := 38) rfl rfl rfl rfl ?_
  refine r_c0 (pc' := 39) rfl rfl ?_
  refine r_pi (pc' := 42) rfl rfl sh_3 rfl (fit_b (by omega)) hs324 (inS_s (inS_s (inS_s (inS_s (inS_s (inS_s (inS_s (inS_s (inS_s (inS_s (inS_0 (by omega) (by omega) (by omega) (by omega)))))))))))) (wr_3_5 ⟨by omega, by omega⟩) (fun z325 hq326 hs327 => ?_)
  refine r_ld (pc' := 43) rfl rfl rfl rfl ?_
  refine r_c0 (pc' := 44) rfl rfl ?_
  refine r_pi (pc' := 47) rfl rfl sh_3 rfl rfl hs327 (inS_s (inS_s (inS_s (inS_s (inS_s (inS_s (inS_s (inS_s (inS_s (inS_s (inS_s (inS_0 (by omega) (by omega) (by omega) (by omega))))))))))))) (wr_3_6 ⟨by omega, by omega⟩) (fun z328 hq329 hs330 => ?_)
  refine r_ld (pc' := 48) rfl rfl rfl rfl ?_
  have hb331 := rd_3_7 hz
  have hf332 : z328 3 7 = z0 3 7 := (((congrFun (congrFun hq329 _) _).trans (mu_ne (by omega))).trans (((congrFun (congrFun hq326 _) _).trans (mu_ne (by omega))).trans (((congrFun (congrFun hq323 _) _).trans (mu_ne (by omega))).trans (((congrFun (congrFun hq320 _) _).trans (mu_ne (by omega))).trans ((hs316.2.2.1 _ _ (notS_c (by omega) (notS_c (by omega) (notS_c (by omega) (notS_c (by omega) (notS_c (by omega) (notS_c (by omega) (notS_c (by omega) notS_n)))))))).trans ((congrFun (congrFun hq309 _) _).trans (mu_ne (by omega))))))))
  have hb333 := rd_3_9 hz
  have hf334 : z328 3 9 = z0 3 9 := (((congrFun (congrFun hq329 _) _).trans (mu_ne (by omega))).trans (((congrFun (congrFun hq326 _) _).trans (mu_ne (by omega))).trans (((congrFun (congrFun hq323 _) _).trans (mu_ne (by omega))).trans (((congrFun (congrFun hq320 _) _).trans (mu_ne (by omega))).trans ((hs316.2.2.1 _ _ (notS_c (by omega) (notS_c (by omega) (notS_c (by omega) (notS_c (by omega) (notS_c (by omega) (notS_c (by omega) (notS_c (by omega) notS_n)))))))).trans ((congrFun (congrFun hq309 _) _).trans (mu_ne (by omega))))))))
  refine r_cVV (pc' := 51) rfl rfl rfl rfl rfl sh_3 (m_46 (d := d + 2) t hs330.1 hs330.2.1 ht (by first | omega | assumption | (simp only [hf332, hf334]; assumption))) (fun z336 w337 p338 hs340 hE341 => ?_)
  have hs342 := st_tr hs330 hs340 (subS_c (fun _ _ _ _ _ _ => inS_s (inS_s (inS_s (inS_s (inS_s (inS_s (inS_s (inS_s (inS_s (inS_s (inS_s (inS_0 (by omega) (by omega) (by omega) (by omega))))))))))))) (subS_c (fun _ _ _ _ _ _ => inS_s (inS_s (inS_s (inS_s (inS_s (inS_s (inS_s (inS_s (inS_s (inS_s (inS_s (inS_s (inS_0 (by omega) (by omega) (by omega) (by omega)))))))))))))) (subS_c (fun _ _ _ _ _ _ => inS_s (inS_s (inS_s (inS_s (inS_s (inS_s (inS_s (inS_s (inS_s (inS_s (inS_s (inS_s (inS_s (inS_0 (by omega) (by omega) (by omega) (by omega))))))))))))))) (subS_c (fun _ _ _ _ _ _ => inS_s (inS_s (inS_s (inS_s (inS_s (inS_s (inS_s (inS_s (inS_s (inS_s (inS_s (inS_s (inS_s (inS_s (inS_0 (by omega) (by omega) (by omega) (by omega)))))))))))))))) (subS_c (fun _ _ _ _ _ _ => inS_s (inS_s (inS_s (inS_s (inS_s (inS_s (inS_s (inS_s (inS_s (inS_s (inS_s (inS_s (inS_s (inS_s (inS_s (inS_0 (by omega) (by omega) (by omega) (by omega))))))))))))))))) subS_n)))))
  obtain ⟨rfl, hE341⟩ := hE341
  refine r_c0 (pc' := 52) rfl rfl ?_
  refine r_st (pc' := 54) (lv' := [(4, _), (0, _), (1, _), (2, _), (3, _)]) rfl rfl rfl rfl ?_
  have hb343 := rd_3_7 hs342.1
  have hb344 := rd_3_9 hs342.1
  have hf345 : z336 3 0 = 0 := ((hs340.2.2.1 _ _ (notS_c (by omega) (notS_c (by omega) (notS_c (by omega) (notS_c (by omega) (notS_c (by omega) notS_n)))))).trans (((congrFun (congrFun hq329 _) _).trans (mu_ne (by omega))).trans (((congrFun (congrFun hq326 _) _).trans (mu_ne (by omega))).trans (((congrFun (congrFun hq323 _) _).trans (mu_ne (by omega))).trans ((congrFun (congrFun hq320 _) _).trans mu_eq)))))
  have hf346 : z336 3 5 = 0 := ((hs340.2.2.1 _ _ (notS_c (by omega) (notS_c (by omega) (notS_c (by omega) (notS_c (by omega) (notS_c (by omega) notS_n)))))).trans (((congrFun (congrFun hq329 _) _).trans (mu_ne (by omega))).trans ((congrFun (congrFun hq326 _) _).trans mu_eq)))
  have hb347 := rd_T_2 ht hs318.1
  have hf348 : z336 t 2 = z312 t 2 := ((hs340.2.2.1 _ _ (notS_c (by omega) (notS_c (by omega) (notS_c (by omega) (notS_c (by omega) (notS_c (by omega) notS_n)))))).trans (((congrFun (congrFun hq329 _) _).trans (mu_ne (by omega))).trans (((congrFun (congrFun hq326 _) _).trans (mu_ne (by omega))).trans (((congrFun (congrFun hq323 _) _).trans (mu_ne (by omega))).trans ((congrFun (congrFun hq320 _) _).trans (mu_ne (by omega)))))))
  have hb349 := rd_T_3 ht hs318.1
  have hf350 : z336 t 3 = z312 t 3 := ((hs340.2.2.1 _ _ (notS_c (by omega) (notS_c (by omega) (notS_c (by omega) (notS_c (by omega) (notS_c (by omega) notS_n)))))).trans (((congrFun (congrFun hq329 _) _).trans (mu_ne (by omega))).trans (((congrFun (congrFun hq326 _) _).trans (mu_ne (by omega))).trans (((congrFun (congrFun hq323 _) _).trans (mu_ne (by omega))).trans ((congrFun (congrFun hq320 _) _).trans (mu_ne (by omega)))))))
  have hb351 := rd_T_0 ht hs318.1
  have hf352 : z336 t 0 = z312 t 0 := ((hs340.2.2.1 _ _ (notS_c (by omega) (notS_c (by omega) (notS_c (by omega) (notS_c (by omega) (notS_c (by omega) notS_n)))))).trans (((congrFun (congrFun hq329 _) _).trans (mu_ne (by omega))).trans (((congrFun (congrFun hq326 _) _).trans (mu_ne (by omega))).trans (((congrFun (congrFun hq323 _) _).trans (mu_ne (by omega))).trans ((congrFun (congrFun hq320 _) _).trans (mu_ne (by omega)))))))
  exact w_lv (sub_c rfl (sub_c rfl sub_n)) rfl ((key ((91 * (1600 - 0) + 59 : Int).toNat + 1)).1 0 z336 w337 ⟨by omega, by omega⟩ hs342 (by first | omega | assumption | (simp only [hf345, hf346, hf348, hf350, hf352]; assumption)) (by first | (intro h; exfalso; omega) | exact hrr.2.1 | exact hrr.2 | (intro _; exact hrr.2) | (intro _; exact RD_p (by omega) (PI_c (PI_n (fun e he => (((hs340.2.2.1 _ _ (notS_c (by omega) (notS_c (by omega) (notS_c (by omega) (notS_c (by omega) (notS_c (by omega) notS_n)))))).trans (((congrFun (congrFun hq329 _) _).trans (mu_ne (by omega))).trans (((congrFun (congrFun hq326 _) _).trans (mu_ne (by omega))).trans (((congrFun (congrFun hq323 _) _).trans (mu_ne (by omega))).trans ((congrFun (congrFun hq320 _) _).trans (mu_ne (by omega)))))))).trans (hcl e he))) (by omega)) (by omega))) (by first | (intro q9; exfalso; omega) | (intro q9; have c5 := hr5 q9; exact ⟨fun _ => (((hs340.2.2.1 _ _ (notS_c (by omega) (notS_c (by omega) (notS_c (by omega) (notS_c (by omega) (notS_c (by omega) notS_n)))))).trans (((congrFun (congrFun hq329 _) _).trans (mu_ne (by omega))).trans (((congrFun (congrFun hq326 _) _).trans (mu_ne (by omega))).trans (((congrFun (congrFun hq323 _) _).trans (mu_ne (by omega))).trans (((congrFun (congrFun hq320 _) _).trans (mu_ne (by omega))).trans ((hs316.2.2.1 _ _ (notS_c (by omega) (notS_c (by omega) (notS_c (by omega) (notS_c (by omega) (notS_c (by omega) (notS_c (by omega) (notS_c (by omega) notS_n)))))))).trans ((congrFun (congrFun hq309 _) _).trans (mu_ne (by omega)))))))))).trans ((asp (by omega)).1 c5), fun q => absurd q (by omega)⟩) | exact fun _ => ⟨fun _ => (((hs340.2.2.1 _ _ (notS_c (by omega) (notS_c (by omega) (notS_c (by omega) (notS_c (by omega) (notS_c (by omega) notS_n)))))).trans (((congrFun (congrFun hq329 _) _).trans (mu_ne (by omega))).trans (((congrFun (congrFun hq326 _) _).trans (mu_ne (by omega))).trans (((congrFun (congrFun hq323 _) _).trans (mu_ne (by omega))).trans ((congrFun (congrFun hq320 _) _).trans (mu_ne (by omega)))))))).trans hc2, fun q => absurd q (by omega)⟩ | exact fun _ => ⟨fun q => absurd q (by omega), fun _ => PTz_f (((hs340.2.2.1 _ _ (notS_c (by omega) (notS_c (by omega) (notS_c (by omega) (notS_c (by omega) (notS_c (by omega) notS_n)))))).trans (((congrFun (congrFun hq329 _) _).trans (mu_ne (by omega))).trans (((congrFun (congrFun hq326 _) _).trans (mu_ne (by omega))).trans (((congrFun (congrFun hq323 _) _).trans (mu_ne (by omega))).trans (((congrFun (congrFun hq320 _) _).trans (mu_ne (by omega))).trans ((hs316.2.2.1 _ _ (notS_c (by omega) (notS_c (by omega) (notS_c (by omega) (notS_c (by omega) (notS_c (by omega) (notS_c (by omega) (notS_c (by omega) notS_n)))))))).trans ((congrFun (congrFun hq309 _) _).trans (mu_ne (by omega)))))))))) (((hs340.2.2.1 _ _ (notS_c (by omega) (notS_c (by omega) (notS_c (by omega) (notS_c (by omega) (notS_c (by omega) notS_n)))))).trans (((congrFun (congrFun hq329 _) _).trans (mu_ne (by omega))).trans (((congrFun (congrFun hq326 _) _).trans (mu_ne (by omega))).trans (((congrFun (congrFun hq323 _) _).trans (mu_ne (by omega))).trans (((congrFun (congrFun hq320 _) _).trans (mu_ne (by omega))).trans ((hs316.2.2.1 _ _ (notS_c (by omega) (notS_c (by omega) (notS_c (by omega) (notS_c (by omega) (notS_c (by omega) (notS_c (by omega) (notS_c (by omega) notS_n)))))))).trans ((congrFun (congrFun hq309 _) _).trans (mu_ne (by omega)))))))))) (fun i => ((hs340.2.2.1 _ _ (notS_c (by omega) (notS_c (by omega) (notS_c (by omega) (notS_c (by omega) (notS_c (by omega) notS_n)))))).trans (((congrFun (congrFun hq329 _) _).trans (mu_ne (by omega))).trans (((congrFun (congrFun hq326 _) _).trans (mu_ne (by omega))).trans (((congrFun (congrFun hq323 _) _).trans (mu_ne (by omega))).trans (((congrFun (congrFun hq320 _) _).trans (mu_ne (by omega))).trans ((hs316.2.2.1 _ _ (notS_c (by omega) (notS_c (by omega) (notS_c (by omega) (notS_c (by omega) (notS_c (by omega) (notS_c (by omega) (notS_c (by omega) notS_n)))))))).trans ((congrFun (congrFun hq309 _) _).trans (mu_ne (by omega)))))))))) (fun i => ((hs340.2.2.1 _ _ (notS_c (by omega) (notS_c (by omega) (notS_c (by omega) (notS_c (by omega) (notS_c (by omega) notS_n)))))).trans (((congrFun (congrFun hq329 _) _).trans (mu_ne (by omega))).trans (((congrFun (congrFun hq326 _) _).trans (mu_ne (by omega))).trans (((congrFun (congrFun hq323 _) _).trans (mu_ne (by omega))).trans (((congrFun (congrFun hq320 _) _).trans (mu_ne (by omega))).trans ((hs316.2.2.1 _ _ (notS_c (by omega) (notS_c (by omega) (notS_c (by omega) (notS_c (by omega) (notS_c (by omega) (notS_c (by omega) (notS_c (by omega) notS_n)))))))).trans ((congrFun (congrFun hq309 _) _).trans (mu_ne (by omega)))))))))) (fun i => ((hs340.2.2.1 _ _ (notS_c (by omega) (notS_c (by omega) (notS_c (by omega) (notS_c (by omega) (notS_c (by omega) notS_n)))))).trans (((congrFun (congrFun hq329 _) _).trans (mu_ne (by omega))).trans (((congrFun (congrFun hq326 _) _).trans (mu_ne (by omega))).trans (((congrFun (congrFun hq323 _) _).trans (mu_ne (by omega))).trans (((congrFun (congrFun hq320 _) _).trans (mu_ne (by omega))).trans ((hs316.2.2.1 _ _ (notS_c (by omega) (notS_c (by omega) (notS_c (by omega) (notS_c (by omega) (notS_c (by omega) (notS_c (by omega) (notS_c (by omega) notS_n)))))))).trans ((congrFun (congrFun hq309 _) _).trans (mu_ne (by omega)))))))))) asp⟩) (by omega))

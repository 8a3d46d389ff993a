/-! methods, printed by wip/tools/vcg.py -/
/-- LoopGround point -/
abbrev S_107x  : mS := []
abbrev E_107x (t : Nat) (u : Nat) (a1 : Int) (a2 : Int) (z0 w0 : mZ) (tx it mt tt ct : Option Nat) : Int → mZ → mZ → mP → Prop := fun v z w p => p = (pq (some t) (some u) tx it mt tt ct) ∧ z0 = z ∧ w0 = w ∧ (-2147483648) ≤ v ∧ v ≤ 2147483647 ∧ (CV z w t ∧ (GA z0 z0 t → GA z z t) ∧ z 1 15 = z0 1 15 ∧ (0 ≤ a1 → a1 < z0 t 0 → 0 ≤ a2 → a2 ≤ 2 → v = z0 (t + 3) (3 * a1 + a2).toNat) ∧ ((a1 < 0 ∨ z0 t 0 ≤ a1 ∨ a2 < 0 ∨ 2 < a2) → v = -1))
theorem m_107x {d : Nat} {z0 w0 : mZ} {tx it mt tt ct : Option Nat} (t : Nat) (u : Nat) (a1 : Int) (a2 : Int) (hz : rz z0) (hw : rw_ w0) (ha1 : (-2147483648) ≤ a1 ∧ a1 ≤ 2147483647) (ha2 : (-2147483648) ≤ a2 ∧ a2 ≤ 2147483647) (ht : isT t) (hu : isT u) (hcv : CV z0 w0 t) : wc (d + 1) 107 [.ref 1, .int (Int32.ofInt a1), .int (Int32.ofInt a2)] (mk z0 w0 (pq (some t) (some u) tx it mt tt ct)) (poI S_107x z0 w0 (E_107x t u a1 a2 z0 w0 tx it mt tt ct)) := by
  have hst : st_ S_107x z0 w0 z0 w0 := st_rf hz hw
  have htb : 159 ≤ t ∧ t ≤ 192 := by have := ht; unfold isT at this; omega
  have hub : 159 ≤ u ∧ u ≤ 192 := by have := hu; unfold isT at this; omega
  have hz7 := rd_1_15 hz
  have hz8 := rd_T_0 ht hz
  refine w_m rfl rfl ?_
  refine r_ld (pc' := 1) rfl rfl rfl rfl ?_
  refine r_zlt (pc' := 4) rfl rfl ⟨by omega, by omega⟩ (fun hc9 => ?_) (fun hc9 => ?_)
  · skip
    refine r_c0 (pc' := 25) rfl rfl ?_
    exact r_ri rfl (po_I hst ⟨by decide, by decide⟩ ⟨rfl, rfl, rfl, by omega, by omega, (by exact ⟨hcv, fun q => q, rfl, fun _ _ _ _ => by exfalso; omega, fun _ => rfl⟩)⟩)
  · skip
    refine r_ld (pc' := 5) rfl rfl rfl rfl ?_
    refine r_ld (pc' := 6) rfl rfl rfl rfl ?_
    refine r_gr (b := t) (pc' := 9) rfl rfl sh_1 rfl pp_1_13 ?_
    have hb10 := rd_T_0 ht hz
    refine r_gi (pc' := 12) rfl rfl (sh_T ht) rfl rfl ?_
    refine r_ige (pc' := 15) rfl rfl ⟨by omega, by omega⟩ ⟨by omega, by omega⟩ (fun hc11 => ?_) (fun hc11 => ?_)
    · skip
      refine r_c0 (pc' := 25) rfl rfl ?_
      exact r_ri rfl (po_I hst ⟨by decide, by decide⟩ ⟨rfl, rfl, rfl, by omega, by omega, (by exact ⟨hcv, fun q => q, rfl, fun _ _ _ _ => by exfalso; omega, fun _ => rfl⟩)⟩)
    · skip
      refine r_ld (pc' := 16) rfl rfl rfl rfl ?_
      refine r_zlt (pc' := 19) rfl rfl ⟨by omega, by omega⟩ (fun hc12 => ?_) (fun hc12 => ?_)
      · skip
        refine r_c0 (pc' := 25) rfl rfl ?_
        exact r_ri rfl (po_I hst ⟨by decide, by decide⟩ ⟨rfl, rfl, rfl, by omega, by omega, (by exact ⟨hcv, fun q => q, rfl, fun _ _ _ _ => by exfalso; omega, fun _ => rfl⟩)⟩)
      · skip
        refine r_ld (pc' := 20) rfl rfl rfl rfl ?_
        refine r_c0 (pc' := 21) rfl rfl ?_
        refine r_ile (pc' := 24) rfl rfl ⟨by omega, by omega⟩ ⟨by decide, by decide⟩ (fun hc13 => ?_) (fun hc13 => ?_)
        · skip
          refine r_ld (pc' := 27) rfl rfl rfl rfl ?_
          refine r_gr (b := t) (pc' := 30) rfl rfl sh_1 rfl pp_1_13 ?_
          refine r_gr (b := t + 3) (pc' := 33) rfl rfl (sh_T ht) rfl (pp_T_7 ht) ?_
          refine r_c0 (pc' := 34) rfl rfl ?_
          refine r_ld (pc' := 35) rfl rfl rfl rfl ?_
          refine r_mul (pc' := 36) rfl rfl ?_
          refine r_ld (pc' := 37) rfl rfl rfl rfl ?_
          refine r_add (pc' := 38) rfl rfl ?_
          have hb14 := rd_T3 ht hz (i := ((3 * a1) + a2).toNat) (by omega)
          refine r_ia (pc' := 39) rfl rfl (sh_T3 ht) rfl (by omega) (by omega) rfl ?_
          exact r_ri rfl (po_I hst ⟨by omega, by omega⟩ ⟨rfl, rfl, rfl, by omega, by omega, (by exact ⟨hcv, fun q => q, rfl, fun _ _ _ _ => rfl, fun q => by exfalso; omega⟩)⟩)
        · skip
          refine r_c0 (pc' := 25) rfl rfl ?_
          exact r_ri rfl (po_I hst ⟨by decide, by decide⟩ ⟨rfl, rfl, rfl, by omega, by omega, (by exact ⟨hcv, fun q => q, rfl, fun _ _ _ _ => by exfalso; omega, fun _ => rfl⟩)⟩)
/-- Acts keep -/
abbrev S_3y  : mS := [(39, 39, 1, 1), (39, 39, 2, 2), (39, 39, 0, 0), (41, 101, 0, 17)]
abbrev E_3y (t : Nat) (n : Nat) (z0 w0 : mZ) (x y tx it mt tt ct : Option Nat) : mZ → mZ → mP → Prop := fun z w p => p = (pq x y tx it mt tt ct) ∧ (AK z w t ∧ (∀ j : Nat, j < 18 → w (aR z (z 39 0)) j = w0 n j) ∧ (z 39 1 = 0 ∧ ((z0 39 0 ≤ 59 ∧ z 39 0 = z0 39 0 + 1 ∧ z 39 2 = z0 39 2) ∨ (z0 39 0 = 60 ∧ z 39 0 = 60 ∧ z 39 2 = (z0 39 2 + 1) % 61))) ∧ (∀ a, 41 ≤ a → a ≤ 101 → a ≠ aR z (z 39 0) → w a = w0 a))
theorem m_3y {d : Nat} {z0 w0 : mZ} {x y tx it mt tt ct : Option Nat} (t : Nat) (n : Nat) (hz : rz z0) (hw : rw_ w0) (ht : isT t) (hwt : WTt z0 t) (hak : AK z0 w0 t) (hft : FTt z0 t (w0 n)) (hnb : ∀ e : Nat, e < 18 → 0 ≤ w0 n e ∧ w0 n e ≤ 100000000000000) (hno : 102 ≤ n) (hn : lr n) (b15n : 15 ≤ n) : wc (d + 2) 3 [.ref 39, .ref n] (mk z0 w0 (pq x y tx it mt tt ct)) (poV S_3y z0 w0 (E_3y t n z0 w0 x y tx it mt tt ct)) := by
  have hst : st_ S_3y z0 w0 z0 w0 := st_rf hz hw
  have htb : 159 ≤ t ∧ t ≤ 192 := by have := ht; unfold isT at this; omega
  have hz38 := rd_39_0 hz
  have hz39 := rd_39_2 hz
  have h390 := rd_39_0 hz
  have h391 := rd_39_1 hz
  have h392 := rd_39_2 hz
  have key : ∀ N : Nat, (∀ (z w : mZ), st_ S_3y z0 w0 z w → (z 39 1 = 0 ∧ ((z0 39 0 ≤ 59 ∧ z 39 0 = z0 39 0 + 1 ∧ z 39 2 = z0 39 2) ∨ (z0 39 0 = 60 ∧ z 39 0 = 60 ∧ z 39 2 = (z0 39 2 + 1) % 61))) → (∀ a, 41 ≤ a → a ≤ 101 → w a = w0 a) → 4 < (N : Int) → wp_ (d + 1) 3 2 none (40, [(0, .ref 39), (1, .ref n)], [], mk z w (pq x y tx it mt tt ct)) (poV S_3y z0 w0 (E_3y t n z0 w0 x y tx it mt tt ct))) := by
    intro N
    induction N with
    | zero =>
      intro  z w
      intros; exfalso; omega
    | succ N ih =>
      have ih0 := ih; clear ih
      intro  z w  hst as1 as2 hM
      have gwn : w n = w0 n := funext fun i => hst.2.2.2 _ _ (notS_c (by omega) (notS_c (by omega) (notS_c (by omega) (notS_c (by omega) (notS_n)))))
      refine r_ld (pc' := 41) rfl rfl rfl rfl ?_
      refine r_ld (pc' := 42) rfl rfl rfl rfl ?_
      refine r_cVR (pc' := 45) rfl rfl rfl rfl rfl sh_39 (m_2 (d := d)  hst.1 hst.2.1 ) (fun v40 z41 w42 p43 hs45 hE46 => ?_)
      rcases hE46 with ⟨rfl, rfl, rfl, rfl, hrw⟩
      have hb48 := rd_39_2 hst.1
      have hb49 := rd_39_0 hst.1
      refine r_cSV (pc' := 48) rfl rfl rfl rfl rfl (m_140b (d := d) n (41 + ((z 39 2 + (z 39 0)) % 61).toNat) hst.1 hst.2.1 (by first | omega | assumption) (by intro e he; rw [gwn]; exact hnb e he) hn (by first | omega | assumption) (lr_41 (k := ((z 39 2 + (z 39 0)) % 61).toNat) (by omega) ) (wrb_41 (k := ((z 39 2 + (z 39 0)) % 61).toNat) (by omega) ) (by first | omega | assumption)) (fun z51 w52 p53 hs55 hE56 => ?_)
      have hs57 := st_tr hst hs55 (subS_c (fun _ _ _ _ _ _ => inS_s (inS_s (inS_s (inS_0 (by omega) (by omega) (by omega) (by omega))))) subS_n)
      obtain ⟨rfl, hE56⟩ := hE56
      have hcp := hE56
      have hf58 : z51 39 0 = z 39 0 := (hs55.2.2.1 _ _ (notS_c (by omega) notS_n))
      have hb59 := rd_39_1 hst.1
      have hf60 : z51 39 1 = z 39 1 := (hs55.2.2.1 _ _ (notS_c (by omega) notS_n))
      have hf61 : z51 39 2 = z 39 2 := (hs55.2.2.1 _ _ (notS_c (by omega) notS_n))
      have hb62 := rd_T_0 ht hz
      have hf63 : z51 t 0 = z0 t 0 := ((hs55.2.2.1 _ _ (notS_c (by omega) notS_n)).trans (hst.2.2.1 _ _ (notS_c (by omega) (notS_c (by omega) (notS_c (by omega) (notS_c (by omega) notS_n))))))
      have hF64 : z51 (t + 1) = z0 (t + 1) := ((funext fun _ => hs55.2.2.1 _ _ (notS_c (by omega) notS_n)).trans (funext fun _ => hst.2.2.1 _ _ (notS_c (by omega) (notS_c (by omega) (notS_c (by omega) (notS_c (by omega) notS_n))))))
      exact r_ret rfl (po_V hs57 ⟨rfl, (by have p3 : ∀ j : Nat, j < 18 → w52 (aR z51 (z51 39 0)) j = w0 n j := (fun j hj => by unfold aR; rw [show z51 39 2 = z 39 2 by omega, show z51 39 0 = z 39 0 by omega, hcp j hj, gwn]) ; have p4 : ∀ a, 41 ≤ a → a ≤ 101 → a ≠ aR z51 (z51 39 0) → w52 a = w0 a := (by intro a h1 h2 hne; unfold aR at hne; rw [show z51 39 2 = z 39 2 by omega, show z51 39 0 = z 39 0 by omega] at hne; exact (funext fun i => (hs55.2.2.2 _ _ (notS_c (by omega) notS_n))).trans (as2 a h1 h2)); exact ⟨AK_k hwt hak (hs57.2.2.1 _ _ (notS_c (by omega) (notS_c (by omega) (notS_c (by omega) (notS_c (by omega) (notS_n)))))) (funext fun i => hs57.2.2.1 _ _ (notS_c (by omega) (notS_c (by omega) (notS_c (by omega) (notS_c (by omega) (notS_n)))))) hft (by omega) (by omega) (by omega) (by omega) (by omega) (by omega) (by omega) p3 p4, p3, ⟨by omega, by omega⟩, p4⟩)⟩)
  refine w_m rfl rfl ?_
  refine r_ld (pc' := 1) rfl rfl rfl rfl ?_
  refine r_c0 (pc' := 2) rfl rfl ?_
  refine r_pi (pc' := 5) rfl rfl sh_39 rfl rfl hst (inS_0 (by omega) (by omega) (by omega) (by omega)) (wr_39_1 ⟨by omega, by omega⟩) (fun z65 hq66 hs67 => ?_)
  refine r_ld (pc' := 6) rfl rfl rfl rfl ?_
  have hb68 := rd_39_0 hz
  refine r_gi (pc' := 9) rfl rfl sh_39 rfl ((congrFun (congrFun hq66 _) _).trans (mu_ne (by omega))) ?_
  refine r_cb (pc' := 11) rfl (by decide) rfl ?_
  refine r_ige (pc' := 14) rfl rfl ⟨by omega, by omega⟩ ⟨by decide, by decide⟩ (fun hc69 => ?_) (fun hc69 => ?_)
  · skip
    refine r_ld (pc' := 28) rfl rfl rfl rfl ?_
    refine r_ld (pc' := 29) rfl rfl rfl rfl ?_
    have hb70 := rd_39_2 hz
    refine r_gi (pc' := 32) rfl rfl sh_39 rfl ((congrFun (congrFun hq66 _) _).trans (mu_ne (by omega))) ?_
    refine r_c0 (pc' := 33) rfl rfl ?_
    refine r_add (pc' := 34) rfl rfl ?_
    refine r_cb (pc' := 36) rfl (by decide) rfl ?_
    refine r_rm (pc' := 37) (v := ((z0 39 2) + 1) % 61) rfl rfl ⟨by omega, by omega⟩ ⟨by decide, by decide⟩ (by decide) (tmod_n (by omega)) ?_
    refine r_pi (pc' := 40) rfl rfl sh_39 rfl rfl hs67 (inS_s (inS_0 (by omega) (by omega) (by omega) (by omega))) (wr_39_2 ⟨by omega, by omega⟩) (fun z71 hq72 hs73 => ?_)
    have hf74 : z71 39 1 = 0 := (((congrFun (congrFun hq72 _) _).trans (mu_ne (by omega))).trans ((congrFun (congrFun hq66 _) _).trans mu_eq))
    have hf75 : z71 39 0 = z0 39 0 := (((congrFun (congrFun hq72 _) _).trans (mu_ne (by omega))).trans ((congrFun (congrFun hq66 _) _).trans (mu_ne (by omega))))
    have hf76 : z71 39 2 = ((z0 39 2) + 1) % 61 := ((congrFun (congrFun hq72 _) _).trans mu_eq)
    exact w_lv (sub_c rfl (sub_c rfl sub_n)) rfl ((key ((4 : Int).toNat + 1)) z71 w0 hs73 (by first | omega | assumption | (simp only [hf74, hf75, hf76]; assumption)) (by exact fun a h1 h2 => rfl) (by omega))
  · skip
    refine r_ld (pc' := 15) rfl rfl rfl rfl ?_
    refine r_al (pc' := 16) rfl rfl rfl rfl ?_
    refine r_gi (pc' := 19) rfl rfl sh_39 rfl ((congrFun (congrFun hq66 _) _).trans (mu_ne (by omega))) ?_
    refine r_c0 (pc' := 20) rfl rfl ?_
    refine r_add (pc' := 21) rfl rfl ?_
    refine r_pi (pc' := 24) rfl rfl sh_39 rfl rfl hs67 (inS_s (inS_s (inS_0 (by omega) (by omega) (by omega) (by omega)))) (wr_39_0 ⟨by omega, by omega⟩) (fun z77 hq78 hs79 => ?_)
    refine r_go rfl ?_
    have hf80 : z77 39 1 = 0 := (((congrFun (congrFun hq78 _) _).trans (mu_ne (by omega))).trans ((congrFun (congrFun hq66 _) _).trans mu_eq))
    have hf81 : z77 39 0 = (z0 39 0) + 1 := ((congrFun (congrFun hq78 _) _).trans mu_eq)
    have hb82 := rd_39_2 hz
    have hf83 : z77 39 2 = z0 39 2 := (((congrFun (congrFun hq78 _) _).trans (mu_ne (by omega))).trans ((congrFun (congrFun hq66 _) _).trans (mu_ne (by omega))))
    exact w_lv (sub_c rfl (sub_c rfl sub_n)) rfl ((key ((4 : Int).toNat + 1)) z77 w0 hs79 (by first | omega | assumption | (simp only [hf80, hf81, hf83]; assumption)) (by exact fun a h1 h2 => rfl) (by omega))

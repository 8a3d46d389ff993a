/-! methods, printed by wip/tools/vcg.py -/
/-- LoopGround canStretch -/
abbrev S_138s  : mS := []
abbrev E_138s (t : Nat) (u : Nat) (a1 : Int) (a2 : Int) (z0 w0 : mZ) (tx it tt ct : Option Nat) : Int → mZ → mZ → mP → Prop := fun v z w p => p = (pq (some t) (some u) tx it (some t) tt ct) ∧ z0 = z ∧ w0 = w ∧ 0 ≤ v ∧ v ≤ 1 ∧ ((v = 1 → 0 ≤ a1 ∧ a1 ≤ 5 ∧ FW z0 t a1.toNat ∧ 0 ≤ a2 ∧ a2 < z0 t 3 ∧ a2 ≤ 7))
theorem m_138s {d : Nat} {z0 w0 : mZ} {tx it tt ct : Option Nat} (t : Nat) (u : Nat) (a1 : Int) (a2 : Int) (hz : rz z0) (hw : rw_ w0) (ha1 : (-2147483648) ≤ a1 ∧ a1 ≤ 2147483647) (ha2 : (-2147483648) ≤ a2 ∧ a2 ≤ 2147483647) (ht : isT t) (hu : isT u) : wc (d + 4) 138 [.ref 1, .int (Int32.ofInt a1), .int (Int32.ofInt a2)] (mk z0 w0 (pq (some t) (some u) tx it (some t) tt ct)) (poI S_138s z0 w0 (E_138s t u a1 a2 z0 w0 tx it tt ct)) := by
  have hst : st_ S_138s z0 w0 z0 w0 := st_rf hz hw
  have htb : 159 ≤ t ∧ t ≤ 192 := by have := ht; unfold isT at this; omega
  have hub : 159 ≤ u ∧ u ≤ 192 := by have := hu; unfold isT at this; omega
  have hz30 := rd_T_3 ht hz
  have hzt3 := rd_T_3 ht hz
  refine w_m rfl rfl ?_
  refine r_ld (pc' := 1) rfl rfl rfl rfl ?_
  refine r_gr (b := 10) (pc' := 4) rfl rfl sh_1 rfl pp_1_3 ?_
  refine r_ld (pc' := 5) rfl rfl rfl rfl ?_
  have hb31 := rd_T_4 ht hz
  refine r_cVI (pc' := 8) rfl rfl rfl rfl rfl sh_10 (m_24s (d := d) t a1 hst.1 hst.2.1 ⟨by omega, by omega⟩ ht) (fun v32 z33 w34 p35 h36 hs37 hE38 => ?_)
  obtain ⟨rfl, rfl, rfl, hE38⟩ := hE38
  have hfv := hE38.2.2
  refine r_zeq (pc' := 11) rfl rfl ⟨by omega, by omega⟩ (fun hc40 => ?_) (fun hc40 => ?_)
  · skip
    refine r_c0 (pc' := 41) rfl rfl ?_
    exact r_rz rfl (by omega) (po_I hst ⟨by decide, by decide⟩ ⟨rfl, rfl, rfl, by omega, by omega, (by first | (intro h; exfalso; omega) | (intro _; exact ⟨by omega, by omega, (hfv (by omega)).2.2.2, by omega, by omega, by omega⟩))⟩)
  · skip
    refine r_ld (pc' := 12) rfl rfl rfl rfl ?_
    refine r_ld (pc' := 13) rfl rfl rfl rfl ?_
    have hb41 := rd_T_3 ht hz
    refine r_cVI (pc' := 16) rfl rfl rfl rfl rfl sh_1 (m_134 (d := d + 2) t u a2 hst.1 hst.2.1 ⟨by omega, by omega⟩ ht hu) (fun v42 z43 w44 p45 h46 hs47 hE48 => ?_)
    obtain ⟨rfl, rfl, rfl, hE48⟩ := hE48
    refine r_zeq (pc' := 19) rfl rfl ⟨by omega, by omega⟩ (fun hc50 => ?_) (fun hc50 => ?_)
    · skip
      refine r_c0 (pc' := 41) rfl rfl ?_
      exact r_rz rfl (by omega) (po_I hst ⟨by decide, by decide⟩ ⟨rfl, rfl, rfl, by omega, by omega, (by first | (intro h; exfalso; omega) | (intro _; exact ⟨by omega, by omega, (hfv (by omega)).2.2.2, by omega, by omega, by omega⟩))⟩)
    · skip
      refine r_ld (pc' := 20) rfl rfl rfl rfl ?_
      refine r_gr (b := t) (pc' := 23) rfl rfl sh_1 rfl pp_1_13 ?_
      refine r_gr (b := t + 7) (pc' := 26) rfl rfl (sh_T ht) rfl (pp_T_11 ht) ?_
      refine r_ld (pc' := 27) rfl rfl rfl rfl ?_
      refine r_aa (b := t + 8 + a2.toNat) (pc' := 28) rfl rfl (sh_T7 ht) (Or.inl rfl) rfl (by omega) (by omega) (pa_T7 ht (by omega)) ?_
      refine r_cSL (pc' := 31) rfl rfl rfl rfl rfl (m_142 (d := d + 2) (t + 8 + a2.toNat) hst.1 hst.2.1 (lr_T8 ht (k := a2.toNat) (by omega) ) (by first | omega | assumption)) (fun v51 z52 w53 p54 h55 hs56 hE57 => ?_)
      obtain ⟨rfl, rfl, rfl, hE57⟩ := hE57
      refine r_lc0 (pc' := 32) rfl rfl ?_
      refine r_lle (pc' := 36) rfl rfl rfl ⟨by omega, by omega⟩ ⟨by decide, by decide⟩ (fun hc59 => ?_) (fun hc59 => ?_)
      · skip
        refine r_c0 (pc' := 41) rfl rfl ?_
        exact r_rz rfl (by omega) (po_I hst ⟨by decide, by decide⟩ ⟨rfl, rfl, rfl, by omega, by omega, (by first | (intro h; exfalso; omega) | (intro _; exact ⟨by omega, by omega, (hfv (by omega)).2.2.2, by omega, by omega, by omega⟩))⟩)
      · skip
        refine r_c0 (pc' := 37) rfl rfl ?_
        refine r_go rfl ?_
        exact r_rz rfl (by omega) (po_I hst ⟨by decide, by decide⟩ ⟨rfl, rfl, rfl, by omega, by omega, (by first | (intro h; exfalso; omega) | (intro _; exact ⟨by omega, by omega, (hfv (by omega)).2.2.2, by omega, by omega, by omega⟩))⟩)
/-- LoopGround canStretch -/
abbrev S_138z  : mS := []
abbrev E_138z (t : Nat) (u : Nat) (a1 : Int) (a2 : Int) (z0 w0 : mZ) (tx it tt ct : Option Nat) : Int → mZ → mZ → mP → Prop := fun v z w p => p = (pq (some t) (some u) tx it none tt ct) ∧ z0 = z ∧ w0 = w ∧ 0 ≤ v ∧ v ≤ 0
theorem m_138z {d : Nat} {z0 w0 : mZ} {tx it tt ct : Option Nat} (t : Nat) (u : Nat) (a1 : Int) (a2 : Int) (hz : rz z0) (hw : rw_ w0) (ha1 : (-2147483648) ≤ a1 ∧ a1 ≤ 2147483647) (ha2 : (-2147483648) ≤ a2 ∧ a2 ≤ 2147483647) (ht : isT t) (hu : isT u) : wc (d + 4) 138 [.ref 1, .int (Int32.ofInt a1), .int (Int32.ofInt a2)] (mk z0 w0 (pq (some t) (some u) tx it none tt ct)) (poI S_138z z0 w0 (E_138z t u a1 a2 z0 w0 tx it tt ct)) := by
  have hst : st_ S_138z z0 w0 z0 w0 := st_rf hz hw
  have htb : 159 ≤ t ∧ t ≤ 192 := by have := ht; unfold isT at this; omega
  have hub : 159 ≤ u ∧ u ≤ 192 := by have := hu; unfold isT at this; omega
  refine w_m rfl rfl ?_
  refine r_ld (pc' := 1) rfl rfl rfl rfl ?_
  refine r_gr (b := 10) (pc' := 4) rfl rfl sh_1 rfl pp_1_3 ?_
  refine r_ld (pc' := 5) rfl rfl rfl rfl ?_
  refine r_cVI (pc' := 8) rfl rfl rfl rfl rfl sh_10 (m_24z (d := d) a1 hst.1 hst.2.1 ⟨by omega, by omega⟩) (fun v10 z11 w12 p13 h14 hs15 hE16 => ?_)
  obtain ⟨rfl, rfl, rfl, hE16⟩ := hE16
  refine r_zeq (pc' := 11) rfl rfl ⟨by omega, by omega⟩ (fun hc18 => ?_) (fun hc18 => ?_)
  · skip
    refine r_c0 (pc' := 41) rfl rfl ?_
    exact r_rz rfl (by omega) (po_I hst ⟨by decide, by decide⟩ ⟨rfl, rfl, rfl, by omega, by omega⟩)
  · exfalso; omega
/-- LoopGround hasLoop -/
abbrev S_137  : mS := [(4, 4, 8, 8), (7, 7, 0, 17), (6, 6, 0, 17), (4, 4, 0, 0), (4, 4, 1, 1), (5, 5, 0, 281), (4, 4, 9, 9), (4, 4, 10, 10), (4, 4, 11, 11), (4, 4, 12, 12), (4, 4, 13, 13)]
abbrev E_137 (t : Nat) (u : Nat) (n : Nat) (z0 w0 : mZ) (tx it mt tt ct : Option Nat) : Int → mZ → mZ → mP → Prop := fun v z w p => p = (pq (some t) (some u) tx it mt (some t) ct) ∧ 0 ≤ v ∧ v ≤ 1
theorem m_137 {d : Nat} {z0 w0 : mZ} {tx it mt tt ct : Option Nat} (t : Nat) (u : Nat) (n : Nat) (hz : rz z0) (hw : rw_ w0) (ht : isT t) (hu : isT u) (hwt : WTt z0 t) (hft : FTt z0 t (w0 n)) (hn : lr n) (b15n : 15 ≤ n) (hnb : ∀ e : Nat, e < 18 → 0 ≤ w0 n e ∧ w0 n e ≤ 100000000000000) : wc (d + 5) 137 [.ref 1, .ref n] (mk z0 w0 (pq (some t) (some u) tx it mt tt ct)) (poI S_137 z0 w0 (E_137 t u n z0 w0 tx it mt tt ct)) := by
  have hst : st_ S_137 z0 w0 z0 w0 := st_rf hz hw
  have htb : 159 ≤ t ∧ t ≤ 192 := by have := ht; unfold isT at this; omega
  have hub : 159 ≤ u ∧ u ≤ 192 := by have := hu; unfold isT at this; omega
  refine w_m rfl rfl ?_
  refine r_ld (pc' := 1) rfl rfl rfl rfl ?_
  refine r_gr (b := 4) (pc' := 4) rfl rfl sh_1 rfl pp_1_2 ?_
  refine r_ld (pc' := 5) rfl rfl rfl rfl ?_
  refine r_gr (b := t) (pc' := 8) rfl rfl sh_1 rfl pp_1_13 ?_
  refine r_ld (pc' := 9) rfl rfl rfl rfl ?_
  refine r_cVI (pc' := 12) rfl rfl rfl rfl rfl sh_4 (m_86 (d := d + 2) t n hst.1 hst.2.1 ht (by exact hwt) (by exact hft) hn (by first | omega | assumption) (by exact hnb)) (fun v27 z28 w29 p30 h31 hs32 hE33 => ?_)
  have hs34 := st_tr hst hs32 (sub_B rfl)
  obtain ⟨rfl, hE33⟩ := hE33
  have hld := hE33.2.2
  refine r_zne (pc' := 15) rfl rfl ⟨by omega, by omega⟩ (fun hc35 => ?_) (fun hc35 => ?_)
  · skip
    refine r_ld (pc' := 18) rfl rfl rfl rfl ?_
    refine r_gr (b := 4) (pc' := 21) rfl rfl sh_1 rfl pp_1_2 ?_
    have hb36 := rd_T_0 ht hz
    have hf37 : z28 t 0 = z0 t 0 := (hs32.2.2.1 _ _ (notS_c (by omega) (notS_c (by omega) (notS_c (by omega) notS_n))))
    have hb38 := rd_T_1 ht hz
    have hf39 : z28 t 1 = z0 t 1 := (hs32.2.2.1 _ _ (notS_c (by omega) (notS_c (by omega) (notS_c (by omega) notS_n))))
    have hF40 : z28 (t + 1) = z0 (t + 1) := (funext fun _ => hs32.2.2.1 _ _ (notS_c (by omega) (notS_c (by omega) (notS_c (by omega) notS_n))))
    have hF41 : z28 (t + 5) = z0 (t + 5) := (funext fun _ => hs32.2.2.1 _ _ (notS_c (by omega) (notS_c (by omega) (notS_c (by omega) notS_n))))
    refine r_cVV (pc' := 24) rfl rfl rfl rfl rfl sh_4 (m_93 (d := d) t hs34.1 hs34.2.1 ht (by exact WTt_f hs34 (notS_c (by omega) (notS_c (by omega) (notS_c (by omega) (notS_c (by omega) (notS_c (by omega) (notS_c (by omega) (notS_c (by omega) (notS_c (by omega) (notS_c (by omega) (notS_c (by omega) (notS_c (by omega) (notS_n)))))))))))) (notS_c (by omega) (notS_c (by omega) (notS_c (by omega) (notS_c (by omega) (notS_c (by omega) (notS_c (by omega) (notS_c (by omega) (notS_c (by omega) (notS_c (by omega) (notS_c (by omega) (notS_c (by omega) (notS_n)))))))))))) (fun i => (notS_c (by omega) (notS_c (by omega) (notS_c (by omega) (notS_c (by omega) (notS_c (by omega) (notS_c (by omega) (notS_c (by omega) (notS_c (by omega) (notS_c (by omega) (notS_c (by omega) (notS_c (by omega) (notS_n))))))))))))) (fun i => (notS_c (by omega) (notS_c (by omega) (notS_c (by omega) (notS_c (by omega) (notS_c (by omega) (notS_c (by omega) (notS_c (by omega) (notS_c (by omega) (notS_c (by omega) (notS_c (by omega) (notS_c (by omega) (notS_n))))))))))))) (fun i => (notS_c (by omega) (notS_c (by omega) (notS_c (by omega) (notS_c (by omega) (notS_c (by omega) (notS_c (by omega) (notS_c (by omega) (notS_c (by omega) (notS_c (by omega) (notS_c (by omega) (notS_c (by omega) (notS_n))))))))))))) hwt) (by exact (hld (by omega)).1)) (fun z43 w44 p45 hs47 hE48 => ?_)
    have hs49 := st_tr hs34 hs47 (sub_B rfl)
    obtain ⟨rfl, hE48⟩ := hE48
    refine r_ld (pc' := 25) rfl rfl rfl rfl ?_
    refine r_gr (b := 4) (pc' := 28) rfl rfl sh_1 rfl pp_1_2 ?_
    have hb50 := rd_4_0 hs49.1
    refine r_gi (pc' := 31) rfl rfl sh_4 rfl rfl ?_
    refine r_ld (pc' := 32) rfl rfl rfl rfl ?_
    refine r_gr (b := 4) (pc' := 35) rfl rfl sh_1 rfl pp_1_2 ?_
    have hb51 := rd_4_1 hs49.1
    refine r_gi (pc' := 38) rfl rfl sh_4 rfl rfl ?_
    refine r_ile (pc' := 41) rfl rfl ⟨by omega, by omega⟩ ⟨by omega, by omega⟩ (fun hc52 => ?_) (fun hc52 => ?_)
    · skip
      refine r_c0 (pc' := 46) rfl rfl ?_
      exact r_rz rfl (by omega) (po_I hs49 ⟨by decide, by decide⟩ ⟨rfl, by omega, by omega⟩)
    · skip
      refine r_c0 (pc' := 42) rfl rfl ?_
      refine r_go rfl ?_
      exact r_rz rfl (by omega) (po_I hs49 ⟨by decide, by decide⟩ ⟨rfl, by omega, by omega⟩)
  · skip
    refine r_c0 (pc' := 16) rfl rfl ?_
    exact r_rz rfl (by omega) (po_I hs34 ⟨by decide, by decide⟩ ⟨rfl, by omega, by omega⟩)
/-- LoopGround alike -/
abbrev S_116s  : mS := [(157, 157, 0, 17), (149, 156, 0, 17)]
abbrev E_116s (t : Nat) (u : Nat) (a1 : Int) (a2 : Int) (z0 w0 : mZ) (tx it tt ct : Option Nat) : Int → mZ → mZ → mP → Prop := fun v z w p => p = (pq (some t) (some u) tx it (some t) tt ct) ∧ (-1) ≤ v ∧ v ≤ 1 ∧ (CV z w t ∧ (GA z0 z0 t → GA z z t) ∧ z 1 15 = z0 1 15)
theorem m_116s {d : Nat} {z0 w0 : mZ} {tx it tt ct : Option Nat} (t : Nat) (u : Nat) (a1 : Int) (a2 : Int) (hz : rz z0) (hw : rw_ w0) (ha1 : (-2147483648) ≤ a1 ∧ a1 ≤ 2147483647) (ha2 : (-2147483648) ≤ a2 ∧ a2 ≤ 2147483647) (ht : isT t) (hu : isT u) (hcv : CV z0 w0 t) (hga : GA z0 z0 t) : wc (d + 6) 116 [.ref 1, .int (Int32.ofInt a1), .int (Int32.ofInt a2)] (mk z0 w0 (pq (some t) (some u) tx it (some t) tt ct)) (poI S_116s z0 w0 (E_116s t u a1 a2 z0 w0 tx it tt ct)) := by
  have hst : st_ S_116s z0 w0 z0 w0 := st_rf hz hw
  have htb : 159 ≤ t ∧ t ≤ 192 := by have := ht; unfold isT at this; omega
  have hub : 159 ≤ u ∧ u ≤ 192 := by have := hu; unfold isT at this; omega
  have hz75 := rd_1_15 hz
  have hwt := hcv.1
  have hzt3 := rd_T_3 ht hz
  have h390 := rd_39_0 hz
  have h391 := rd_39_1 hz
  have h392 := rd_39_2 hz
  have key : ∀ N : Nat, (∀ (x3 : Int) (z w : mZ), 0 ≤ x3 ∧ x3 ≤ 8 → 0 ≤ a1 ∧ a1 ≤ 5 → 0 ≤ a2 ∧ a2 ≤ 5 → st_ S_116s z0 w0 z w → (FW z0 t a1.toNat) → (FW z0 t a2.toNat) → 74 * (8 - x3) + 61 < (N : Int) → wp_ (d + 5) 116 6 (some .int) (26, [(0, .ref 1), (1, .int (Int32.ofInt a1)), (2, .int (Int32.ofInt a2)), (3, .int (Int32.ofInt x3))], [], mk z w (pq (some t) (some u) tx it (some t) tt ct)) (poI S_116s z0 w0 (E_116s t u a1 a2 z0 w0 tx it tt ct))) := by
    intro N
    induction N with
    | zero =>
      intro x3 z w
      intros; exfalso; omega
    | succ N ih =>
      have ih0 := ih; clear ih
      intro x3 z w  hx3 hpa1 hpa2 hst as1 as2 hM
      have gr : w (t + 8 + x3.toNat) = w0 (t + 8 + x3.toNat) := funext fun i => hst.2.2.2 _ _ (notS_c (by omega) (notS_c (by omega) (notS_n)))
      refine r_ld (pc' := 27) rfl rfl rfl rfl ?_
      refine r_ld (pc' := 28) rfl rfl rfl rfl ?_
      refine r_gr (b := t) (pc' := 31) rfl rfl sh_1 rfl pp_1_13 ?_
      have hb76 := rd_T_3 ht hz
      refine r_gi (pc' := 34) rfl rfl (sh_T ht) rfl (hst.2.2.1 _ _ (notS_c (by omega) (notS_c (by omega) notS_n))) ?_
      refine r_ige (pc' := 37) rfl rfl ⟨by omega, by omega⟩ ⟨by omega, by omega⟩ (fun hc77 => ?_) (fun hc77 => ?_)
      · skip
        refine r_c0 (pc' := 140) rfl rfl ?_
        have hb78 := rd_1_15 hz
        have hf79 : z 1 15 = z0 1 15 := (hst.2.2.1 _ _ (notS_c (by omega) (notS_c (by omega) notS_n)))
        exact r_ri rfl (po_I hst ⟨by decide, by decide⟩ ⟨rfl, by omega, by omega, (by exact ⟨CV_f ht hz hst (notS_c (by omega) (notS_c (by omega) (notS_n))) (notS_c (by omega) (notS_c (by omega) (notS_n))) (notS_c (by omega) (notS_c (by omega) (notS_n))) (notS_c (by omega) (notS_c (by omega) (notS_n))) (notS_c (by omega) (notS_c (by omega) (notS_n))) (fun i => (notS_c (by omega) (notS_c (by omega) (notS_n)))) (fun i => (notS_c (by omega) (notS_c (by omega) (notS_n)))) (fun i => (notS_c (by omega) (notS_c (by omega) (notS_n)))) (fun a h1 h2 i => (notS_c (by omega) (notS_c (by omega) (notS_n)))) (notS_c (by omega) (notS_c (by omega) (notS_n))) (notS_c (by omega) (notS_c (by omega) (notS_n))) (notS_c (by omega) (notS_c (by omega) (notS_n))) (fun a h1 h2 i => (notS_c (by omega) (notS_c (by omega) (notS_n)))) (fun a h1 h2 i => (notS_c (by omega) (notS_c (by omega) (notS_n)))) hcv, (fun hq => GA_f ht hz hst (notS_c (by omega) (notS_c (by omega) (notS_n))) (notS_c (by omega) (notS_c (by omega) (notS_n))) (fun i => (notS_c (by omega) (notS_c (by omega) (notS_n)))) (fun a h1 h2 i => (notS_c (by omega) (notS_c (by omega) (notS_n)))) hq), hst.2.2.1 _ _ (notS_c (by omega) (notS_c (by omega) (notS_n)))⟩)⟩)
      · skip
        refine r_ld (pc' := 38) rfl rfl rfl rfl ?_
        refine r_gr (b := t) (pc' := 41) rfl rfl sh_1 rfl pp_1_13 ?_
        refine r_gr (b := t + 7) (pc' := 44) rfl rfl (sh_T ht) rfl (pp_T_11 ht) ?_
        refine r_ld (pc' := 45) rfl rfl rfl rfl ?_
        refine r_aa (b := t + 8 + x3.toNat) (pc' := 46) rfl rfl (sh_T7 ht) (Or.inl rfl) rfl (by omega) (by omega) (pa_T7 ht (by omega)) ?_
        refine r_ld (pc' := 47) rfl rfl rfl rfl ?_
        refine r_gr (b := 157) (pc' := 50) rfl rfl sh_1 rfl pp_1_11 ?_
        refine r_cSV (pc' := 53) rfl rfl rfl rfl rfl (m_140 (d := d + 4) (t + 8 + x3.toNat) 157 hst.1 hst.2.1 (by first | omega | assumption) (lr_T8 ht (k := x3.toNat) (by omega) ) (by first | omega | assumption) lr_157 (by first | omega | assumption) wrr_157) (fun z81 w82 p83 hs85 hE86 => ?_)
        have hs87 := st_tr hst hs85 (sub_B rfl)
        obtain ⟨rfl, hE86⟩ := hE86
        have hc1 := hE86
        have gr1 : w82 (t + 8 + x3.toNat) = w0 (t + 8 + x3.toNat) := funext fun i => hs87.2.2.2 _ _ (notS_c (by omega) (notS_c (by omega) (notS_n)))
        refine r_ld (pc' := 54) rfl rfl rfl rfl ?_
        refine r_gr (b := t) (pc' := 57) rfl rfl sh_1 rfl pp_1_13 ?_
        refine r_gr (b := t + 7) (pc' := 60) rfl rfl (sh_T ht) rfl (pp_T_11 ht) ?_
        refine r_ld (pc' := 61) rfl rfl rfl rfl ?_
        refine r_aa (b := t + 8 + x3.toNat) (pc' := 62) rfl rfl (sh_T7 ht) (Or.inl rfl) rfl (by omega) (by omega) (pa_T7 ht (by omega)) ?_
        refine r_ld (pc' := 63) rfl rfl rfl rfl ?_
        refine r_gr (b := 148) (pc' := 66) rfl rfl sh_1 rfl pp_1_10 ?_
        refine r_ld (pc' := 67) rfl rfl rfl rfl ?_
        refine r_aa (b := 149 + x3.toNat) (pc' := 68) rfl rfl sh_148 (Or.inl rfl) rfl (by omega) (by omega) (pa_148 (by omega)) ?_
        refine r_cSV (pc' := 71) rfl rfl rfl rfl rfl (m_140 (d := d + 4) (t + 8 + x3.toNat) (149 + x3.toNat) hs87.1 hs87.2.1 (by first | omega | assumption) (lr_T8 ht (k := x3.toNat) (by omega) ) (by first | omega | assumption) (lr_149 (k := x3.toNat) (by omega) ) (by first | omega | assumption) (wrr_149 (k := x3.toNat) (by omega) )) (fun z89 w90 p91 hs93 hE94 => ?_)
        have hs95 := st_tr hs87 hs93 (subS_c (fun _ _ _ _ _ _ => inS_s (inS_0 (by omega) (by omega) (by omega) (by omega))) subS_n)
        obtain ⟨rfl, hE94⟩ := hE94
        have hc2 := hE94
        refine r_ld (pc' := 72) rfl rfl rfl rfl ?_
        refine r_gr (b := 10) (pc' := 75) rfl rfl sh_1 rfl pp_1_3 ?_
        refine r_ld (pc' := 76) rfl rfl rfl rfl ?_
        refine r_gr (b := 157) (pc' := 79) rfl rfl sh_1 rfl pp_1_11 ?_
        refine r_ld (pc' := 80) rfl rfl rfl rfl ?_
        refine r_al (pc' := 81) rfl rfl rfl rfl ?_
        have k1 : ∀ e : Nat, e < 18 → w90 157 e = w0 (t + 8 + x3.toNat) e := fun e he => by rw [show w90 157 e = w82 157 e from (hs93.2.2.2 _ _ (notS_c (by omega) notS_n)), hc1 e he, gr]
        have k2 : ∀ e : Nat, e < 18 → w90 (149 + x3.toNat) e = w0 (t + 8 + x3.toNat) e := fun e he => by rw [hc2 e he, gr1]
        have hF96 : w90 157 = w82 157 := (funext fun _ => hs93.2.2.2 _ _ (notS_c (by omega) notS_n))
        refine r_cVI (pc' := 84) rfl rfl rfl rfl rfl sh_10 (m_26n (d := d) t 157 a1 hs95.1 hs95.2.1 ⟨by omega, by omega⟩ ht (by exact NB_c k1 (NB_T ht (by omega) hw)) (by exact FTt_fr (hs95.2.2.1 _ _ (notS_c (by omega) (notS_c (by omega) (notS_n)))) (funext fun i => hs95.2.2.1 _ _ (notS_c (by omega) (notS_c (by omega) (notS_n)))) (FTt_cg hwt k1 (hcv.2.1 x3.toNat (by omega)))) (by exact GA_f ht hz hs95 (notS_c (by omega) (notS_c (by omega) (notS_n))) (notS_c (by omega) (notS_c (by omega) (notS_n))) (fun i => (notS_c (by omega) (notS_c (by omega) (notS_n)))) (fun a h1 h2 i => (notS_c (by omega) (notS_c (by omega) (notS_n)))) hga) (by exact FW_f ht hz hs95 (by omega) (notS_c (by omega) (notS_c (by omega) (notS_n))) (fun i => (notS_c (by omega) (notS_c (by omega) (notS_n)))) (fun a h1 h2 i => (notS_c (by omega) (notS_c (by omega) (notS_n)))) (fun a h1 h2 i => (notS_c (by omega) (notS_c (by omega) (notS_n)))) as1) lr_157 (by first | omega | assumption | (simp only [hF96]; assumption)) wrr_157 (by first | omega | assumption | (simp only [hF96]; assumption))) (fun v97 z98 w99 p100 h101 hs102 hE103 => ?_)
        have hs104 := st_tr hs95 hs102 (sub_B rfl)
        obtain ⟨rfl, hE103⟩ := hE103
        refine r_st (pc' := 86) (lv' := [(4, _), (0, _), (1, _), (2, _), (3, _)]) rfl rfl rfl rfl ?_
        refine r_ld (pc' := 87) rfl rfl rfl rfl ?_
        refine r_gr (b := 10) (pc' := 90) rfl rfl sh_1 rfl pp_1_3 ?_
        refine r_ld (pc' := 91) rfl rfl rfl rfl ?_
        refine r_gr (b := 148) (pc' := 94) rfl rfl sh_1 rfl pp_1_10 ?_
        refine r_ld (pc' := 95) rfl rfl rfl rfl ?_
        refine r_aa (b := 149 + x3.toNat) (pc' := 96) rfl rfl sh_148 (Or.inl rfl) rfl (by omega) (by omega) (pa_148 (by omega)) ?_
        refine r_ld (pc' := 97) rfl rfl rfl rfl ?_
        refine r_al (pc' := 98) rfl rfl rfl rfl ?_
        have k3 : ∀ e : Nat, e < 18 → w99 (149 + x3.toNat) e = w0 (t + 8 + x3.toNat) e := fun e he => by rw [show w99 (149 + x3.toNat) e = w90 (149 + x3.toNat) e from (hs102.2.2.2 _ _ (notS_c (by omega) notS_n))]; exact k2 e he
        have hF105 : w99 (149 + x3.toNat) = w90 (149 + x3.toNat) := (funext fun _ => hs102.2.2.2 _ _ (notS_c (by omega) notS_n))
        refine r_cVI (pc' := 101) rfl rfl rfl rfl rfl sh_10 (m_26n (d := d) t (149 + x3.toNat) a2 hs104.1 hs104.2.1 ⟨by omega, by omega⟩ ht (by exact NB_c k3 (NB_T ht (by omega) hw)) (by exact FTt_fr (hs104.2.2.1 _ _ (notS_c (by omega) (notS_c (by omega) (notS_n)))) (funext fun i => hs104.2.2.1 _ _ (notS_c (by omega) (notS_c (by omega) (notS_n)))) (FTt_cg hwt k3 (hcv.2.1 x3.toNat (by omega)))) (by exact GA_f ht hz hs104 (notS_c (by omega) (notS_c (by omega) (notS_n))) (notS_c (by omega) (notS_c (by omega) (notS_n))) (fun i => (notS_c (by omega) (notS_c (by omega) (notS_n)))) (fun a h1 h2 i => (notS_c (by omega) (notS_c (by omega) (notS_n)))) hga) (by exact FW_f ht hz hs104 (by omega) (notS_c (by omega) (notS_c (by omega) (notS_n))) (fun i => (notS_c (by omega) (notS_c (by omega) (notS_n)))) (fun a h1 h2 i => (notS_c (by omega) (notS_c (by omega) (notS_n)))) (fun a h1 h2 i => (notS_c (by omega) (notS_c (by omega) (notS_n)))) as2) (lr_149 (k := x3.toNat) (by omega) ) (by first | omega | assumption | (simp only [hF105]; assumption)) (wrr_149 (k := x3.toNat) (by omega) ) (by first | omega | assumption | (simp only [hF105]; assumption))) (fun v106 z107 w108 p109 h110 hs111 hE112 => ?_)
        have hs113 := st_tr hs104 hs111 (subS_c (fun _ _ _ _ _ _ => inS_s (inS_0 (by omega) (by omega) (by omega) (by omega))) subS_n)
        obtain ⟨rfl, hE112⟩ := hE112
        refine r_st (pc' := 103) (lv' := [(5, _), (4, _), (0, _), (1, _), (2, _), (3, _)]) rfl rfl rfl rfl ?_
        refine r_ld (pc' := 105) rfl rfl rfl rfl ?_
        refine r_ld (pc' := 107) rfl rfl rfl rfl ?_
        refine r_ine (pc' := 110) rfl rfl ⟨by omega, by omega⟩ ⟨by omega, by omega⟩ (fun hc114 => ?_) (fun hc114 => ?_)
        · skip
          refine r_c0 (pc' := 132) rfl rfl ?_
          have hb115 := rd_1_15 hz
          have hf116 : z107 1 15 = z0 1 15 := ((hs111.2.2.1 _ _ (notS_c (by omega) notS_n)).trans ((hs102.2.2.1 _ _ (notS_c (by omega) notS_n)).trans ((hs93.2.2.1 _ _ (notS_c (by omega) notS_n)).trans ((hs85.2.2.1 _ _ (notS_c (by omega) notS_n)).trans (hst.2.2.1 _ _ (notS_c (by omega) (notS_c (by omega) notS_n)))))))
          exact r_ri rfl (po_I hs113 ⟨by decide, by decide⟩ ⟨rfl, by omega, by omega, (by exact ⟨CV_f ht hz hs113 (notS_c (by omega) (notS_c (by omega) (notS_n))) (notS_c (by omega) (notS_c (by omega) (notS_n))) (notS_c (by omega) (notS_c (by omega) (notS_n))) (notS_c (by omega) (notS_c (by omega) (notS_n))) (notS_c (by omega) (notS_c (by omega) (notS_n))) (fun i => (notS_c (by omega) (notS_c (by omega) (notS_n)))) (fun i => (notS_c (by omega) (notS_c (by omega) (notS_n)))) (fun i => (notS_c (by omega) (notS_c (by omega) (notS_n)))) (fun a h1 h2 i => (notS_c (by omega) (notS_c (by omega) (notS_n)))) (notS_c (by omega) (notS_c (by omega) (notS_n))) (notS_c (by omega) (notS_c (by omega) (notS_n))) (notS_c (by omega) (notS_c (by omega) (notS_n))) (fun a h1 h2 i => (notS_c (by omega) (notS_c (by omega) (notS_n)))) (fun a h1 h2 i => (notS_c (by omega) (notS_c (by omega) (notS_n)))) hcv, (fun hq => GA_f ht hz hs113 (notS_c (by omega) (notS_c (by omega) (notS_n))) (notS_c (by omega) (notS_c (by omega) (notS_n))) (fun i => (notS_c (by omega) (notS_c (by omega) (notS_n)))) (fun a h1 h2 i => (notS_c (by omega) (notS_c (by omega) (notS_n)))) hq), hs113.2.2.1 _ _ (notS_c (by omega) (notS_c (by omega) (notS_n)))⟩)⟩)
        · skip
          refine r_ld (pc' := 112) rfl rfl rfl rfl ?_
          refine r_zeq (pc' := 115) rfl rfl ⟨by omega, by omega⟩ (fun hc117 => ?_) (fun hc117 => ?_)
          · skip
            refine r_inc (pc' := 136) (lv' := [(5, _), (4, _), (0, _), (1, _), (2, _)]) rfl rfl rfl rfl rfl ?_
            refine r_go rfl ?_
            exact w_lv (sub_c rfl (sub_c rfl (sub_c rfl (sub_c rfl sub_n)))) rfl (ih0 (x3 + 1) z107 w108 ⟨by omega, by omega⟩ ⟨by omega, by omega⟩ ⟨by omega, by omega⟩ hs113 (by first | exact as1 | exact (hfv (by omega)).2.2.2) (by first | exact as2 | exact (hfu (by omega)).2.2.2) (by omega))
          · skip
            refine r_ld (pc' := 116) rfl rfl rfl rfl ?_
            refine r_gr (b := 157) (pc' := 119) rfl rfl sh_1 rfl pp_1_11 ?_
            refine r_ld (pc' := 120) rfl rfl rfl rfl ?_
            refine r_gr (b := 148) (pc' := 123) rfl rfl sh_1 rfl pp_1_10 ?_
            refine r_ld (pc' := 124) rfl rfl rfl rfl ?_
            refine r_aa (b := 149 + x3.toNat) (pc' := 125) rfl rfl sh_148 (Or.inl rfl) rfl (by omega) (by omega) (pa_148 (by omega)) ?_
            refine r_cSI (pc' := 128) rfl rfl rfl rfl rfl (m_141 (d := d + 4) 157 (149 + x3.toNat) hs113.1 hs113.2.1 lr_157 (by first | omega | assumption) (lr_149 (k := x3.toNat) (by omega) ) (by first | omega | assumption)) (fun v118 z119 w120 p121 h122 hs123 hE124 => ?_)
            obtain ⟨rfl, rfl, rfl, hE124⟩ := hE124
            refine r_zne (pc' := 131) rfl rfl ⟨by omega, by omega⟩ (fun hc126 => ?_) (fun hc126 => ?_)
            · skip
              refine r_inc (pc' := 136) (lv' := [(5, _), (4, _), (0, _), (1, _), (2, _)]) rfl rfl rfl rfl rfl ?_
              refine r_go rfl ?_
              exact w_lv (sub_c rfl (sub_c rfl (sub_c rfl (sub_c rfl sub_n)))) rfl (ih0 (x3 + 1) z107 w108 ⟨by omega, by omega⟩ ⟨by omega, by omega⟩ ⟨by omega, by omega⟩ hs113 (by first | exact as1 | exact (hfv (by omega)).2.2.2) (by first | exact as2 | exact (hfu (by omega)).2.2.2) (by omega))
            · skip
              refine r_c0 (pc' := 132) rfl rfl ?_
              have hb127 := rd_1_15 hz
              have hf128 : z107 1 15 = z0 1 15 := ((hs111.2.2.1 _ _ (notS_c (by omega) notS_n)).trans ((hs102.2.2.1 _ _ (notS_c (by omega) notS_n)).trans ((hs93.2.2.1 _ _ (notS_c (by omega) notS_n)).trans ((hs85.2.2.1 _ _ (notS_c (by omega) notS_n)).trans (hst.2.2.1 _ _ (notS_c (by omega) (notS_c (by omega) notS_n)))))))
              exact r_ri rfl (po_I hs113 ⟨by decide, by decide⟩ ⟨rfl, by omega, by omega, (by exact ⟨CV_f ht hz hs113 (notS_c (by omega) (notS_c (by omega) (notS_n))) (notS_c (by omega) (notS_c (by omega) (notS_n))) (notS_c (by omega) (notS_c (by omega) (notS_n))) (notS_c (by omega) (notS_c (by omega) (notS_n))) (notS_c (by omega) (notS_c (by omega) (notS_n))) (fun i => (notS_c (by omega) (notS_c (by omega) (notS_n)))) (fun i => (notS_c (by omega) (notS_c (by omega) (notS_n)))) (fun i => (notS_c (by omega) (notS_c (by omega) (notS_n)))) (fun a h1 h2 i => (notS_c (by omega) (notS_c (by omega) (notS_n)))) (notS_c (by omega) (notS_c (by omega) (notS_n))) (notS_c (by omega) (notS_c (by omega) (notS_n))) (notS_c (by omega) (notS_c (by omega) (notS_n))) (fun a h1 h2 i => (notS_c (by omega) (notS_c (by omega) (notS_n)))) (fun a h1 h2 i => (notS_c (by omega) (notS_c (by omega) (notS_n)))) hcv, (fun hq => GA_f ht hz hs113 (notS_c (by omega) (notS_c (by omega) (notS_n))) (notS_c (by omega) (notS_c (by omega) (notS_n))) (fun i => (notS_c (by omega) (notS_c (by omega) (notS_n)))) (fun a h1 h2 i => (notS_c (by omega) (notS_c (by omega) (notS_n)))) hq), hs113.2.2.1 _ _ (notS_c (by omega) (notS_c (by omega) (notS_n)))⟩)⟩)
  refine w_m rfl rfl ?_
  refine r_ld (pc' := 1) rfl rfl rfl rfl ?_
  refine r_gr (b := 10) (pc' := 4) rfl rfl sh_1 rfl pp_1_3 ?_
  refine r_ld (pc' := 5) rfl rfl rfl rfl ?_
  have hb129 := rd_T_4 ht hz
  refine r_cVI (pc' := 8) rfl rfl rfl rfl rfl sh_10 (m_24s (d := d + 2) t a1 hst.1 hst.2.1 ⟨by omega, by omega⟩ ht) (fun v130 z131 w132 p133 h134 hs135 hE136 => ?_)
  obtain ⟨rfl, rfl, rfl, hE136⟩ := hE136
  have hfv := hE136.2.2
  refine r_zeq (pc' := 11) rfl rfl ⟨by omega, by omega⟩ (fun hc138 => ?_) (fun hc138 => ?_)
  · skip
    refine r_c0 (pc' := 23) rfl rfl ?_
    have hb139 := rd_1_15 hz
    exact r_ri rfl (po_I hst ⟨by decide, by decide⟩ ⟨rfl, by omega, by omega, (by exact ⟨CV_f ht hz hst (notS_c (by omega) (notS_c (by omega) (notS_n))) (notS_c (by omega) (notS_c (by omega) (notS_n))) (notS_c (by omega) (notS_c (by omega) (notS_n))) (notS_c (by omega) (notS_c (by omega) (notS_n))) (notS_c (by omega) (notS_c (by omega) (notS_n))) (fun i => (notS_c (by omega) (notS_c (by omega) (notS_n)))) (fun i => (notS_c (by omega) (notS_c (by omega) (notS_n)))) (fun i => (notS_c (by omega) (notS_c (by omega) (notS_n)))) (fun a h1 h2 i => (notS_c (by omega) (notS_c (by omega) (notS_n)))) (notS_c (by omega) (notS_c (by omega) (notS_n))) (notS_c (by omega) (notS_c (by omega) (notS_n))) (notS_c (by omega) (notS_c (by omega) (notS_n))) (fun a h1 h2 i => (notS_c (by omega) (notS_c (by omega) (notS_n)))) (fun a h1 h2 i => (notS_c (by omega) (notS_c (by omega) (notS_n)))) hcv, (fun hq => GA_f ht hz hst (notS_c (by omega) (notS_c (by omega) (notS_n))) (notS_c (by omega) (notS_c (by omega) (notS_n))) (fun i => (notS_c (by omega) (notS_c (by omega) (notS_n)))) (fun a h1 h2 i => (notS_c (by omega) (notS_c (by omega) (notS_n)))) hq), hst.2.2.1 _ _ (notS_c (by omega) (notS_c (by omega) (notS_n)))⟩)⟩)
  · skip
    refine r_ld (pc' := 12) rfl rfl rfl rfl ?_
    refine r_gr (b := 10) (pc' := 15) rfl rfl sh_1 rfl pp_1_3 ?_
    refine r_ld (pc' := 16) rfl rfl rfl rfl ?_
    refine r_cVI (pc' := 19) rfl rfl rfl rfl rfl sh_10 (m_24s (d := d + 2) t a2 hst.1 hst.2.1 ⟨by omega, by omega⟩ ht) (fun v140 z141 w142 p143 h144 hs145 hE146 => ?_)
    obtain ⟨rfl, rfl, rfl, hE146⟩ := hE146
    have hfu := hE146.2.2
    refine r_zne (pc' := 22) rfl rfl ⟨by omega, by omega⟩ (fun hc148 => ?_) (fun hc148 => ?_)
    · skip
      refine r_c0 (pc' := 25) rfl rfl ?_
      refine r_st (pc' := 26) (lv' := [(3, _), (0, _), (1, _), (2, _)]) rfl rfl rfl rfl ?_
      exact w_lv (sub_c rfl (sub_c rfl (sub_c rfl (sub_c rfl sub_n)))) rfl ((key ((74 * (8 - 0) + 61 : Int).toNat + 1)) 0 z0 w0 ⟨by omega, by omega⟩ ⟨by omega, by omega⟩ ⟨by omega, by omega⟩ hst (by first | exact as1 | exact (hfv (by omega)).2.2.2) (by first | exact as2 | exact (hfu (by omega)).2.2.2) (by omega))
    · skip
      refine r_c0 (pc' := 23) rfl rfl ?_
      have hb149 := rd_1_15 hz
      exact r_ri rfl (po_I hst ⟨by decide, by decide⟩ ⟨rfl, by omega, by omega, (by exact ⟨CV_f ht hz hst (notS_c (by omega) (notS_c (by omega) (notS_n))) (notS_c (by omega) (notS_c (by omega) (notS_n))) (notS_c (by omega) (notS_c (by omega) (notS_n))) (notS_c (by omega) (notS_c (by omega) (notS_n))) (notS_c (by omega) (notS_c (by omega) (notS_n))) (fun i => (notS_c (by omega) (notS_c (by omega) (notS_n)))) (fun i => (notS_c (by omega) (notS_c (by omega) (notS_n)))) (fun i => (notS_c (by omega) (notS_c (by omega) (notS_n)))) (fun a h1 h2 i => (notS_c (by omega) (notS_c (by omega) (notS_n)))) (notS_c (by omega) (notS_c (by omega) (notS_n))) (notS_c (by omega) (notS_c (by omega) (notS_n))) (notS_c (by omega) (notS_c (by omega) (notS_n))) (fun a h1 h2 i => (notS_c (by omega) (notS_c (by omega) (notS_n)))) (fun a h1 h2 i => (notS_c (by omega) (notS_c (by omega) (notS_n)))) hcv, (fun hq => GA_f ht hz hst (notS_c (by omega) (notS_c (by omega) (notS_n))) (notS_c (by omega) (notS_c (by omega) (notS_n))) (fun i => (notS_c (by omega) (notS_c (by omega) (notS_n)))) (fun a h1 h2 i => (notS_c (by omega) (notS_c (by omega) (notS_n)))) hq), hst.2.2.1 _ _ (notS_c (by omega) (notS_c (by omega) (notS_n)))⟩)⟩)
/-- LoopGround alike -/
abbrev S_116z  : mS := []
abbrev E_116z (t : Nat) (u : Nat) (a1 : Int) (a2 : Int) (z0 w0 : mZ) (tx it tt ct : Option Nat) : Int → mZ → mZ → mP → Prop := fun v z w p => p = (pq (some t) (some u) tx it none tt ct) ∧ z0 = z ∧ w0 = w ∧ (-1) ≤ v ∧ v ≤ (-1) ∧ (CV z w t ∧ (GA z0 z0 t → GA z z t) ∧ z 1 15 = z0 1 15)
theorem m_116z {d : Nat} {z0 w0 : mZ} {tx it tt ct : Option Nat} (t : Nat) (u : Nat) (a1 : Int) (a2 : Int) (hz : rz z0) (hw : rw_ w0) (ha1 : (-2147483648) ≤ a1 ∧ a1 ≤ 2147483647) (ha2 : (-2147483648) ≤ a2 ∧ a2 ≤ 2147483647) (ht : isT t) (hu : isT u) (hcv : CV z0 w0 t) : wc (d + 6) 116 [.ref 1, .int (Int32.ofInt a1), .int (Int32.ofInt a2)] (mk z0 w0 (pq (some t) (some u) tx it none tt ct)) (poI S_116z z0 w0 (E_116z t u a1 a2 z0 w0 tx it tt ct)) := by
  have hst : st_ S_116z z0 w0 z0 w0 := st_rf hz hw
  have htb : 159 ≤ t ∧ t ≤ 192 := by have := ht; unfold isT at this; omega
  have hub : 159 ≤ u ∧ u ≤ 192 := by have := hu; unfold isT at this; omega
  have hz10 := rd_1_15 hz
  have hwt := hcv.1
  have hzt3 := rd_T_3 ht hz
  have h390 := rd_39_0 hz
  have h391 := rd_39_1 hz
  have h392 := rd_39_2 hz
  refine w_m rfl rfl ?_
  refine r_ld (pc' := 1) rfl rfl rfl rfl ?_
  refine r_gr (b := 10) (pc' := 4) rfl rfl sh_1 rfl pp_1_3 ?_
  refine r_ld (pc' := 5) rfl rfl rfl rfl ?_
  refine r_cVI (pc' := 8) rfl rfl rfl rfl rfl sh_10 (m_24z (d := d + 2) a1 hst.1 hst.2.1 ⟨by omega, by omega⟩) (fun v11 z12 w13 p14 h15 hs16 hE17 => ?_)
  obtain ⟨rfl, rfl, rfl, hE17⟩ := hE17
  refine r_zeq (pc' := 11) rfl rfl ⟨by omega, by omega⟩ (fun hc19 => ?_) (fun hc19 => ?_)
  · skip
    refine r_c0 (pc' := 23) rfl rfl ?_
    exact r_ri rfl (po_I hst ⟨by decide, by decide⟩ ⟨rfl, rfl, rfl, by omega, by omega, (by exact ⟨CV_f ht hz hst (notS_n) (notS_n) (notS_n) (notS_n) (notS_n) (fun i => (notS_n)) (fun i => (notS_n)) (fun i => (notS_n)) (fun a h1 h2 i => (notS_n)) (notS_n) (notS_n) (notS_n) (fun a h1 h2 i => (notS_n)) (fun a h1 h2 i => (notS_n)) hcv, (fun hq => GA_f ht hz hst (notS_n) (notS_n) (fun i => (notS_n)) (fun a h1 h2 i => (notS_n)) hq), hst.2.2.1 _ _ (notS_n)⟩)⟩)
  · exfalso; omega
/-- LoopGround order -/
abbrev S_117s  : mS := [(149, 156, 0, 17)]
abbrev E_117s (t : Nat) (u : Nat) (a1 : Int) (z0 w0 : mZ) (tx it tt ct : Option Nat) : Int → mZ → mZ → mP → Prop := fun v z w p => p = (pq (some t) (some u) tx it (some t) tt ct) ∧ (-1) ≤ v ∧ v ≤ 40 ∧ (CV z w t ∧ (GA z0 z0 t → GA z z t) ∧ z 1 15 = z0 1 15)
theorem m_117s {d : Nat} {z0 w0 : mZ} {tx it tt ct : Option Nat} (t : Nat) (u : Nat) (a1 : Int) (hz : rz z0) (hw : rw_ w0) (ha1 : (-2147483648) ≤ a1 ∧ a1 ≤ 2147483647) (ht : isT t) (hu : isT u) (hcv : CV z0 w0 t) (hga : GA z0 z0 t) : wc (d + 6) 117 [.ref 1, .int (Int32.ofInt a1)] (mk z0 w0 (pq (some t) (some u) tx it (some t) tt ct)) (poI S_117s z0 w0 (E_117s t u a1 z0 w0 tx it tt ct)) := by
  have hst : st_ S_117s z0 w0 z0 w0 := st_rf hz hw
  have htb : 159 ≤ t ∧ t ≤ 192 := by have := ht; unfold isT at this; omega
  have hub : 159 ≤ u ∧ u ≤ 192 := by have := hu; unfold isT at this; omega
  have hz51 := rd_1_15 hz
  have hz52 := rd_T_3 ht hz
  have hwt := hcv.1
  have hzt3 := rd_T_3 ht hz
  have h390 := rd_39_0 hz
  have h391 := rd_39_1 hz
  have h392 := rd_39_2 hz
  have key : ∀ N : Nat, (∀ (x2 : Int) (z w : mZ), 0 ≤ x2 ∧ x2 ≤ 8 → 0 ≤ a1 ∧ a1 ≤ 5 → st_ S_117s z0 w0 z w → (FW z0 t a1.toNat) → (∀ l : Nat, (l : Int) < x2 → FTt z0 t (w (149 + l)) ∧ NBr w (149 + l)) → 79 * (8 - x2) + 36567 < (N : Int) → wp_ (d + 5) 117 5 (some .int) (15, [(0, .ref 1), (1, .int (Int32.ofInt a1)), (2, .int (Int32.ofInt x2))], [], mk z w (pq (some t) (some u) tx it (some t) tt ct)) (poI S_117s z0 w0 (E_117s t u a1 z0 w0 tx it tt ct))) ∧ (∀ (x2 : Int) (z w : mZ), 1 ≤ x2 ∧ x2 ≤ 41 → 0 ≤ a1 ∧ a1 ≤ 5 → st_ S_117s z0 w0 z w → (FW z0 t a1.toNat) → (∀ l : Nat, (l : Int) < z0 t 3 → FTt z0 t (w (149 + l)) ∧ NBr w (149 + l)) → 869 * (41 - x2) + 840 < (N : Int) → wp_ (d + 5) 117 5 (some .int) (52, [(0, .ref 1), (1, .int (Int32.ofInt a1)), (2, .int (Int32.ofInt x2))], [], mk z w (pq (some t) (some u) tx it (some t) tt ct)) (poI S_117s z0 w0 (E_117s t u a1 z0 w0 tx it tt ct))) ∧ (∀ (x2 x3 x4 : Int) (z w : mZ), 1 ≤ x2 ∧ x2 ≤ 40 → 0 ≤ x3 ∧ x3 ≤ 1 → 0 ≤ x4 ∧ x4 ≤ 8 → 0 ≤ a1 ∧ a1 ≤ 5 → st_ S_117s z0 w0 z w → (FW z0 t a1.toNat) → (∀ l : Nat, (l : Int) < z0 t 3 → FTt z0 t (w (149 + l)) ∧ NBr w (149 + l)) → 869 * (41 - x2) + 79 * (8 - x4) + 43 < (N : Int) → wp_ (d + 5) 117 5 (some .int) (63, [(0, .ref 1), (1, .int (Int32.ofInt a1)), (2, .int (Int32.ofInt x2)), (3, .int (Int32.ofInt x3)), (4, .int (Int32.ofInt x4))], [], mk z w (pq (some t) (some u) tx it (some t) tt ct)) (poI S_117s z0 w0 (E_117s t u a1 z0 w0 tx it tt ct))) ∧ (∀ (x2 x4 : Int) (z w : mZ), 1 ≤ x2 ∧ x2 ≤ 40 → 0 ≤ x4 ∧ x4 ≤ 7 → 0 ≤ a1 ∧ a1 ≤ 5 → 1 ≤ z0 t 3 ∧ z0 t 3 ≤ 8 → st_ S_117s z0 w0 z w → (FW z0 t a1.toNat) → (∀ l : Nat, (l : Int) < z0 t 3 → FTt z0 t (w (149 + l)) ∧ NBr w (149 + l)) → (x4 < z0 t 3) → 869 * (41 - x2) + 79 * (8 - x4) + 11 < (N : Int) → wp_ (d + 5) 117 5 (some .int) (127, [(0, .ref 1), (1, .int (Int32.ofInt a1)), (2, .int (Int32.ofInt x2)), (4, .int (Int32.ofInt x4))], [], mk z w (pq (some t) (some u) tx it (some t) tt ct)) (poI S_117s z0 w0 (E_117s t u a1 z0 w0 tx it tt ct))) := by
    intro N
    induction N with
    | zero =>
      refine ⟨?_, ?_, ?_, ?_⟩
      · intro x2 z w
        intros; exfalso; omega
      · intro x2 z w
        intros; exfalso; omega
      · intro x2 x3 x4 z w
        intros; exfalso; omega
      · intro x2 x4 z w
        intros; exfalso; omega
    | succ N ih =>
      obtain ⟨ih0, ih1, ih2, ih3⟩ := ih
      refine ⟨?_, ?_, ?_, ?_⟩
      · intro x2 z w  hx2 hpa1 hst as1 as2 hM
        have gr : w (t + 8 + x2.toNat) = w0 (t + 8 + x2.toNat) := funext fun i => hst.2.2.2 _ _ (notS_c (by omega) (notS_n))
        refine r_ld (pc' := 16) rfl rfl rfl rfl ?_
        refine r_ld (pc' := 17) rfl rfl rfl rfl ?_
        refine r_gr (b := t) (pc' := 20) rfl rfl sh_1 rfl pp_1_13 ?_
        have hb53 := rd_T_3 ht hz
        refine r_gi (pc' := 23) rfl rfl (sh_T ht) rfl (hst.2.2.1 _ _ (notS_c (by omega) notS_n)) ?_
        refine r_ige (pc' := 26) rfl rfl ⟨by omega, by omega⟩ ⟨by omega, by omega⟩ (fun hc54 => ?_) (fun hc54 => ?_)
        · skip
          refine r_c0 (pc' := 51) rfl rfl ?_
          refine r_st (pc' := 52) (lv' := [(2, _), (0, _), (1, _)]) rfl rfl rfl rfl ?_
          exact w_lv (sub_c rfl (sub_c rfl (sub_c rfl sub_n))) rfl (ih1 1 z w ⟨by omega, by omega⟩ ⟨by omega, by omega⟩ hst (by exact as1) (by first | exact as2 | exact fun l hl => as2 l (by omega)) (by omega))
        · skip
          refine r_ld (pc' := 27) rfl rfl rfl rfl ?_
          refine r_gr (b := t) (pc' := 30) rfl rfl sh_1 rfl pp_1_13 ?_
          refine r_gr (b := t + 7) (pc' := 33) rfl rfl (sh_T ht) rfl (pp_T_11 ht) ?_
          refine r_ld (pc' := 34) rfl rfl rfl rfl ?_
          refine r_aa (b := t + 8 + x2.toNat) (pc' := 35) rfl rfl (sh_T7 ht) (Or.inl rfl) rfl (by omega) (by omega) (pa_T7 ht (by omega)) ?_
          refine r_ld (pc' := 36) rfl rfl rfl rfl ?_
          refine r_gr (b := 148) (pc' := 39) rfl rfl sh_1 rfl pp_1_10 ?_
          refine r_ld (pc' := 40) rfl rfl rfl rfl ?_
          refine r_aa (b := 149 + x2.toNat) (pc' := 41) rfl rfl sh_148 (Or.inl rfl) rfl (by omega) (by omega) (pa_148 (by omega)) ?_
          refine r_cSV (pc' := 44) rfl rfl rfl rfl rfl (m_140 (d := d + 4) (t + 8 + x2.toNat) (149 + x2.toNat) hst.1 hst.2.1 (by first | omega | assumption) (lr_T8 ht (k := x2.toNat) (by omega) ) (by first | omega | assumption) (lr_149 (k := x2.toNat) (by omega) ) (by first | omega | assumption) (wrr_149 (k := x2.toNat) (by omega) )) (fun z56 w57 p58 hs60 hE61 => ?_)
          have hs62 := st_tr hst hs60 (subS_c (fun _ _ _ _ _ _ => inS_0 (by omega) (by omega) (by omega) (by omega)) subS_n)
          obtain ⟨rfl, hE61⟩ := hE61
          have hcp := hE61
          have hnew : FTt z0 t (w57 (149 + x2.toNat)) ∧ NBr w57 (149 + x2.toNat) := ⟨FTt_cg hwt (fun e he => by rw [hcp e he, gr]) (hcv.2.1 x2.toNat (by omega)), NB_c (fun e he => by rw [hcp e he, gr]) (NB_T ht (by omega) hw)⟩
          refine r_inc (pc' := 47) (lv' := [(0, _), (1, _)]) rfl rfl rfl rfl rfl ?_
          refine r_go rfl ?_
          exact w_lv (sub_c rfl (sub_c rfl (sub_c rfl sub_n))) rfl (ih0 (x2 + 1) z56 w57 ⟨by omega, by omega⟩ ⟨by omega, by omega⟩ hs62 (by first | exact as1 | exact (hfv (by omega)).2.2.2) (by first | exact as2 | (intro l hl; exfalso; omega) | (intro l hl; by_cases c : l = x2.toNat; (subst c; exact hnew); (rw [show w57 (149 + l) = w (149 + l) from funext fun i => (hs60.2.2.2 _ _ (notS_c (by omega) notS_n))]; unfold NBr; rw [show w57 (149 + l) = w (149 + l) from funext fun i => (hs60.2.2.2 _ _ (notS_c (by omega) notS_n))]; exact as2 l (by omega)))) (by omega))
      · intro x2 z w  hx2 hpa1 hst as1 as2 hM
        refine r_ld (pc' := 53) rfl rfl rfl rfl ?_
        refine r_cb (pc' := 55) rfl (by decide) rfl ?_
        refine r_igt (pc' := 58) rfl rfl ⟨by omega, by omega⟩ ⟨by decide, by decide⟩ (fun hc63 => ?_) (fun hc63 => ?_)
        · skip
          refine r_c0 (pc' := 148) rfl rfl ?_
          have hb64 := rd_1_15 hz
          have hf65 : z 1 15 = z0 1 15 := (hst.2.2.1 _ _ (notS_c (by omega) notS_n))
          exact r_ri rfl (po_I hst ⟨by decide, by decide⟩ ⟨rfl, by omega, by omega, (by exact ⟨CV_f ht hz hst (notS_c (by omega) (notS_n)) (notS_c (by omega) (notS_n)) (notS_c (by omega) (notS_n)) (notS_c (by omega) (notS_n)) (notS_c (by omega) (notS_n)) (fun i => (notS_c (by omega) (notS_n))) (fun i => (notS_c (by omega) (notS_n))) (fun i => (notS_c (by omega) (notS_n))) (fun a h1 h2 i => (notS_c (by omega) (notS_n))) (notS_c (by omega) (notS_n)) (notS_c (by omega) (notS_n)) (notS_c (by omega) (notS_n)) (fun a h1 h2 i => (notS_c (by omega) (notS_n))) (fun a h1 h2 i => (notS_c (by omega) (notS_n))) hcv, (fun hq => GA_f ht hz hst (notS_c (by omega) (notS_n)) (notS_c (by omega) (notS_n)) (fun i => (notS_c (by omega) (notS_n))) (fun a h1 h2 i => (notS_c (by omega) (notS_n))) hq), hst.2.2.1 _ _ (notS_c (by omega) (notS_n))⟩)⟩)
        · skip
          refine r_c0 (pc' := 59) rfl rfl ?_
          refine r_st (pc' := 60) (lv' := [(3, _), (0, _), (1, _), (2, _)]) rfl rfl rfl rfl ?_
          refine r_c0 (pc' := 61) rfl rfl ?_
          refine r_st (pc' := 63) (lv' := [(4, _), (3, _), (0, _), (1, _), (2, _)]) rfl rfl rfl rfl ?_
          exact w_lv (sub_c rfl (sub_c rfl (sub_c rfl (sub_c rfl (sub_c rfl sub_n))))) rfl (ih2 x2 1 0 z w ⟨by omega, by omega⟩ ⟨by omega, by omega⟩ ⟨by omega, by omega⟩ ⟨by omega, by omega⟩ hst (by exact as1) (by first | exact as2 | (intro l hl; exfalso; omega) | (intro l hl; by_cases c : l = x4.toNat; (subst c; exact hnew (by omega)); (rw [show w (149 + l) = w (149 + l) from funext fun i => rfl]; unfold NBr; rw [show w (149 + l) = w (149 + l) from funext fun i => rfl]; exact as2 l (by omega)))) (by omega))
      · intro x2 x3 x4 z w  hx2 hx3 hx4 hpa1 hst as1 as2 hM
        refine r_ld (pc' := 65) rfl rfl rfl rfl ?_
        refine r_ld (pc' := 66) rfl rfl rfl rfl ?_
        refine r_gr (b := t) (pc' := 69) rfl rfl sh_1 rfl pp_1_13 ?_
        have hb66 := rd_T_3 ht hz
        refine r_gi (pc' := 72) rfl rfl (sh_T ht) rfl (hst.2.2.1 _ _ (notS_c (by omega) notS_n)) ?_
        refine r_ige (pc' := 75) rfl rfl ⟨by omega, by omega⟩ ⟨by omega, by omega⟩ (fun hc67 => ?_) (fun hc67 => ?_)
        · skip
          refine r_ld (pc' := 136) rfl rfl rfl rfl ?_
          refine r_zeq (pc' := 139) rfl rfl ⟨by omega, by omega⟩ (fun hc68 => ?_) (fun hc68 => ?_)
          · skip
            refine r_inc (pc' := 144) (lv' := [(0, _), (1, _), (3, _), (4, _)]) rfl rfl rfl rfl rfl ?_
            refine r_go rfl ?_
            exact w_lv (sub_c rfl (sub_c rfl (sub_c rfl sub_n))) rfl (ih1 (x2 + 1) z w ⟨by omega, by omega⟩ ⟨by omega, by omega⟩ hst (by exact as1) (by first | exact as2 | exact fun l hl => as2 l (by omega)) (by omega))
          · skip
            refine r_ld (pc' := 140) rfl rfl rfl rfl ?_
            have hb69 := rd_1_15 hz
            have hf70 : z 1 15 = z0 1 15 := (hst.2.2.1 _ _ (notS_c (by omega) notS_n))
            exact r_ri rfl (po_I hst ⟨by omega, by omega⟩ ⟨rfl, by omega, by omega, (by exact ⟨CV_f ht hz hst (notS_c (by omega) (notS_n)) (notS_c (by omega) (notS_n)) (notS_c (by omega) (notS_n)) (notS_c (by omega) (notS_n)) (notS_c (by omega) (notS_n)) (fun i => (notS_c (by omega) (notS_n))) (fun i => (notS_c (by omega) (notS_n))) (fun i => (notS_c (by omega) (notS_n))) (fun a h1 h2 i => (notS_c (by omega) (notS_n))) (notS_c (by omega) (notS_n)) (notS_c (by omega) (notS_n)) (notS_c (by omega) (notS_n)) (fun a h1 h2 i => (notS_c (by omega) (notS_n))) (fun a h1 h2 i => (notS_c (by omega) (notS_n))) hcv, (fun hq => GA_f ht hz hst (notS_c (by omega) (notS_n)) (notS_c (by omega) (notS_n)) (fun i => (notS_c (by omega) (notS_n))) (fun a h1 h2 i => (notS_c (by omega) (notS_n))) hq), hst.2.2.1 _ _ (notS_c (by omega) (notS_n))⟩)⟩)
        · skip
          refine r_ld (pc' := 76) rfl rfl rfl rfl ?_
          refine r_gr (b := 10) (pc' := 79) rfl rfl sh_1 rfl pp_1_3 ?_
          refine r_ld (pc' := 80) rfl rfl rfl rfl ?_
          refine r_gr (b := 148) (pc' := 83) rfl rfl sh_1 rfl pp_1_10 ?_
          refine r_ld (pc' := 85) rfl rfl rfl rfl ?_
          refine r_aa (b := 149 + x4.toNat) (pc' := 86) rfl rfl sh_148 (Or.inl rfl) rfl (by omega) (by omega) (pa_148 (by omega)) ?_
          refine r_ld (pc' := 87) rfl rfl rfl rfl ?_
          refine r_al (pc' := 88) rfl rfl rfl rfl ?_
          have e0 : z t 0 = z0 t 0 := hst.2.2.1 _ _ (notS_c (by omega) (notS_n))
          have e1 : z (t + 1) = z0 (t + 1) := funext fun i => hst.2.2.1 _ _ (notS_c (by omega) (notS_n))
          have hmy := as2 x4.toNat (by omega)
          refine r_cVI (pc' := 91) rfl rfl rfl rfl rfl sh_10 (m_26n (d := d) t (149 + x4.toNat) a1 hst.1 hst.2.1 ⟨by omega, by omega⟩ ht (by exact hmy.2) (by exact FTt_fr e0 e1 hmy.1) (by exact GA_f ht hz hst (notS_c (by omega) (notS_n)) (notS_c (by omega) (notS_n)) (fun i => (notS_c (by omega) (notS_n))) (fun a h1 h2 i => (notS_c (by omega) (notS_n))) hga) (by exact FW_f ht hz hst (by omega) (notS_c (by omega) (notS_n)) (fun i => (notS_c (by omega) (notS_n))) (fun a h1 h2 i => (notS_c (by omega) (notS_n))) (fun a h1 h2 i => (notS_c (by omega) (notS_n))) as1) (lr_149 (k := x4.toNat) (by omega) ) (by first | omega | assumption) (wrr_149 (k := x4.toNat) (by omega) ) (by first | omega | assumption)) (fun v71 z72 w73 p74 h75 hs76 hE77 => ?_)
          have hs78 := st_tr hst hs76 (subS_c (fun _ _ _ _ _ _ => inS_0 (by omega) (by omega) (by omega) (by omega)) subS_n)
          obtain ⟨rfl, hE77⟩ := hE77
          have hgt := hE77.2.2
          have hnew : v71 = 1 → FTt z0 t (w73 (149 + x4.toNat)) ∧ NBr w73 (149 + x4.toNat) := fun q => ⟨FTt_fr e0.symm e1.symm (hgt q).1, (hgt q).2⟩
          refine r_zne (pc' := 94) rfl rfl ⟨by omega, by omega⟩ (fun hc79 => ?_) (fun hc79 => ?_)
          · skip
            refine r_ld (pc' := 97) rfl rfl rfl rfl ?_
            refine r_zeq (pc' := 100) rfl rfl ⟨by omega, by omega⟩ (fun hc80 => ?_) (fun hc80 => ?_)
            · skip
              exact w_lv (sub_c rfl (sub_c rfl (sub_c rfl (sub_c rfl sub_n)))) rfl (ih3 x2 x4 z72 w73 ⟨by omega, by omega⟩ ⟨by omega, by omega⟩ ⟨by omega, by omega⟩ ⟨by omega, by omega⟩ hs78 (by exact as1) (by first | exact as2 | (intro l hl; exfalso; omega) | (intro l hl; by_cases c : l = x4.toNat; (subst c; exact hnew (by omega)); (rw [show w73 (149 + l) = w (149 + l) from funext fun i => (hs76.2.2.2 _ _ (notS_c (by omega) notS_n))]; unfold NBr; rw [show w73 (149 + l) = w (149 + l) from funext fun i => (hs76.2.2.2 _ _ (notS_c (by omega) notS_n))]; exact as2 l (by omega)))) (by first | omega | assumption) (by omega))
            · skip
              refine r_ld (pc' := 101) rfl rfl rfl rfl ?_
              refine r_gr (b := 148) (pc' := 104) rfl rfl sh_1 rfl pp_1_10 ?_
              refine r_ld (pc' := 106) rfl rfl rfl rfl ?_
              refine r_aa (b := 149 + x4.toNat) (pc' := 107) rfl rfl sh_148 (Or.inl rfl) rfl (by omega) (by omega) (pa_148 (by omega)) ?_
              refine r_ld (pc' := 108) rfl rfl rfl rfl ?_
              refine r_gr (b := t) (pc' := 111) rfl rfl sh_1 rfl pp_1_13 ?_
              refine r_gr (b := t + 7) (pc' := 114) rfl rfl (sh_T ht) rfl (pp_T_11 ht) ?_
              refine r_ld (pc' := 116) rfl rfl rfl rfl ?_
              refine r_aa (b := t + 8 + x4.toNat) (pc' := 117) rfl rfl (sh_T7 ht) (Or.inl rfl) rfl (by omega) (by omega) (pa_T7 ht (by omega)) ?_
              refine r_cSI (pc' := 120) rfl rfl rfl rfl rfl (m_141 (d := d + 4) (149 + x4.toNat) (t + 8 + x4.toNat) hs78.1 hs78.2.1 (lr_149 (k := x4.toNat) (by omega) ) (by first | omega | assumption) (lr_T8 ht (k := x4.toNat) (by omega) ) (by first | omega | assumption)) (fun v81 z82 w83 p84 h85 hs86 hE87 => ?_)
              obtain ⟨rfl, rfl, rfl, hE87⟩ := hE87
              refine r_zeq (pc' := 123) rfl rfl ⟨by omega, by omega⟩ (fun hc89 => ?_) (fun hc89 => ?_)
              · skip
                exact w_lv (sub_c rfl (sub_c rfl (sub_c rfl (sub_c rfl sub_n)))) rfl (ih3 x2 x4 z72 w73 ⟨by omega, by omega⟩ ⟨by omega, by omega⟩ ⟨by omega, by omega⟩ ⟨by omega, by omega⟩ hs78 (by exact as1) (by first | exact as2 | (intro l hl; exfalso; omega) | (intro l hl; by_cases c : l = x4.toNat; (subst c; exact hnew (by omega)); (rw [show w73 (149 + l) = w (149 + l) from funext fun i => (hs76.2.2.2 _ _ (notS_c (by omega) notS_n))]; unfold NBr; rw [show w73 (149 + l) = w (149 + l) from funext fun i => (hs76.2.2.2 _ _ (notS_c (by omega) notS_n))]; exact as2 l (by omega)))) (by first | omega | assumption) (by omega))
              · skip
                refine r_c0 (pc' := 124) rfl rfl ?_
                refine r_go rfl ?_
                refine r_st (pc' := 129) (lv' := [(3, _), (0, _), (1, _), (2, _), (4, _)]) rfl rfl rfl rfl ?_
                refine r_inc (pc' := 132) (lv' := [(3, _), (0, _), (1, _), (2, _)]) rfl rfl rfl rfl rfl ?_
                refine r_go rfl ?_
                exact w_lv (sub_c rfl (sub_c rfl (sub_c rfl (sub_c rfl (sub_c rfl sub_n))))) rfl (ih2 x2 1 (x4 + 1) z72 w73 ⟨by omega, by omega⟩ ⟨by omega, by omega⟩ ⟨by omega, by omega⟩ ⟨by omega, by omega⟩ hs78 (by exact as1) (by first | exact as2 | (intro l hl; exfalso; omega) | (intro l hl; by_cases c : l = x4.toNat; (subst c; exact hnew (by omega)); (rw [show w73 (149 + l) = w (149 + l) from funext fun i => (hs76.2.2.2 _ _ (notS_c (by omega) notS_n))]; unfold NBr; rw [show w73 (149 + l) = w (149 + l) from funext fun i => (hs76.2.2.2 _ _ (notS_c (by omega) notS_n))]; exact as2 l (by omega)))) (by omega))
          · skip
            refine r_c0 (pc' := 95) rfl rfl ?_
            have hb90 := rd_1_15 hz
            have hf91 : z72 1 15 = z0 1 15 := ((hs76.2.2.1 _ _ (notS_c (by omega) notS_n)).trans (hst.2.2.1 _ _ (notS_c (by omega) notS_n)))
            exact r_ri rfl (po_I hs78 ⟨by decide, by decide⟩ ⟨rfl, by omega, by omega, (by exact ⟨CV_f ht hz hs78 (notS_c (by omega) (notS_n)) (notS_c (by omega) (notS_n)) (notS_c (by omega) (notS_n)) (notS_c (by omega) (notS_n)) (notS_c (by omega) (notS_n)) (fun i => (notS_c (by omega) (notS_n))) (fun i => (notS_c (by omega) (notS_n))) (fun i => (notS_c (by omega) (notS_n))) (fun a h1 h2 i => (notS_c (by omega) (notS_n))) (notS_c (by omega) (notS_n)) (notS_c (by omega) (notS_n)) (notS_c (by omega) (notS_n)) (fun a h1 h2 i => (notS_c (by omega) (notS_n))) (fun a h1 h2 i => (notS_c (by omega) (notS_n))) hcv, (fun hq => GA_f ht hz hs78 (notS_c (by omega) (notS_n)) (notS_c (by omega) (notS_n)) (fun i => (notS_c (by omega) (notS_n))) (fun a h1 h2 i => (notS_c (by omega) (notS_n))) hq), hs78.2.2.1 _ _ (notS_c (by omega) (notS_n))⟩)⟩)
      · intro x2 x4 z w  hx2 hx4 hpa1 hz0_0 hst as1 as2 as3 hM
        refine r_c0 (pc' := 128) rfl rfl ?_
        refine r_st (pc' := 129) (lv' := [(3, _), (0, _), (1, _), (2, _), (4, _)]) rfl rfl rfl rfl ?_
        refine r_inc (pc' := 132) (lv' := [(3, _), (0, _), (1, _), (2, _)]) rfl rfl rfl rfl rfl ?_
        refine r_go rfl ?_
        exact w_lv (sub_c rfl (sub_c rfl (sub_c rfl (sub_c rfl (sub_c rfl sub_n))))) rfl (ih2 x2 0 (x4 + 1) z w ⟨by omega, by omega⟩ ⟨by omega, by omega⟩ ⟨by omega, by omega⟩ ⟨by omega, by omega⟩ hst (by exact as1) (by first | exact as2 | (intro l hl; exfalso; omega) | (intro l hl; by_cases c : l = x4.toNat; (subst c; exact hnew (by omega)); (rw [show w (149 + l) = w (149 + l) from funext fun i => rfl]; unfold NBr; rw [show w (149 + l) = w (149 + l) from funext fun i => rfl]; exact as2 l (by omega)))) (by omega))
  refine w_m rfl rfl ?_
  refine r_ld (pc' := 1) rfl rfl rfl rfl ?_
  refine r_gr (b := 10) (pc' := 4) rfl rfl sh_1 rfl pp_1_3 ?_
  refine r_ld (pc' := 5) rfl rfl rfl rfl ?_
  have hb92 := rd_T_4 ht hz
  refine r_cVI (pc' := 8) rfl rfl rfl rfl rfl sh_10 (m_24s (d := d + 2) t a1 hst.1 hst.2.1 ⟨by omega, by omega⟩ ht) (fun v93 z94 w95 p96 h97 hs98 hE99 => ?_)
  obtain ⟨rfl, rfl, rfl, hE99⟩ := hE99
  have hfv := hE99.2.2
  refine r_zne (pc' := 11) rfl rfl ⟨by omega, by omega⟩ (fun hc101 => ?_) (fun hc101 => ?_)
  · skip
    refine r_c0 (pc' := 14) rfl rfl ?_
    refine r_st (pc' := 15) (lv' := [(2, _), (0, _), (1, _)]) rfl rfl rfl rfl ?_
    exact w_lv (sub_c rfl (sub_c rfl (sub_c rfl sub_n))) rfl ((key ((79 * (8 - 0) + 36567 : Int).toNat + 1)).1 0 z0 w0 ⟨by omega, by omega⟩ ⟨by omega, by omega⟩ hst (by first | exact as1 | exact (hfv (by omega)).2.2.2) (by first | exact as2 | (intro l hl; exfalso; omega) | (intro l hl; by_cases c : l = x2.toNat; (subst c; exact hnew); (rw [show w0 (149 + l) = w (149 + l) from funext fun i => rfl]; unfold NBr; rw [show w0 (149 + l) = w (149 + l) from funext fun i => rfl]; exact as2 l (by omega)))) (by omega))
  · skip
    refine r_c0 (pc' := 12) rfl rfl ?_
    have hb102 := rd_1_15 hz
    exact r_ri rfl (po_I hst ⟨by decide, by decide⟩ ⟨rfl, by omega, by omega, (by exact ⟨CV_f ht hz hst (notS_c (by omega) (notS_n)) (notS_c (by omega) (notS_n)) (notS_c (by omega) (notS_n)) (notS_c (by omega) (notS_n)) (notS_c (by omega) (notS_n)) (fun i => (notS_c (by omega) (notS_n))) (fun i => (notS_c (by omega) (notS_n))) (fun i => (notS_c (by omega) (notS_n))) (fun a h1 h2 i => (notS_c (by omega) (notS_n))) (notS_c (by omega) (notS_n)) (notS_c (by omega) (notS_n)) (notS_c (by omega) (notS_n)) (fun a h1 h2 i => (notS_c (by omega) (notS_n))) (fun a h1 h2 i => (notS_c (by omega) (notS_n))) hcv, (fun hq => GA_f ht hz hst (notS_c (by omega) (notS_n)) (notS_c (by omega) (notS_n)) (fun i => (notS_c (by omega) (notS_n))) (fun a h1 h2 i => (notS_c (by omega) (notS_n))) hq), hst.2.2.1 _ _ (notS_c (by omega) (notS_n))⟩)⟩)
/-- LoopGround order -/
abbrev S_117z  : mS := []
abbrev E_117z (t : Nat) (u : Nat) (a1 : Int) (z0 w0 : mZ) (tx it tt ct : Option Nat) : Int → mZ → mZ → mP → Prop := fun v z w p => p = (pq (some t) (some u) tx it none tt ct) ∧ z0 = z ∧ w0 = w ∧ (-1) ≤ v ∧ v ≤ (-1) ∧ (CV z w t ∧ (GA z0 z0 t → GA z z t) ∧ z 1 15 = z0 1 15)
theorem m_117z {d : Nat} {z0 w0 : mZ} {tx it tt ct : Option Nat} (t : Nat) (u : Nat) (a1 : Int) (hz : rz z0) (hw : rw_ w0) (ha1 : (-2147483648) ≤ a1 ∧ a1 ≤ 2147483647) (ht : isT t) (hu : isT u) (hcv : CV z0 w0 t) : wc (d + 6) 117 [.ref 1, .int (Int32.ofInt a1)] (mk z0 w0 (pq (some t) (some u) tx it none tt ct)) (poI S_117z z0 w0 (E_117z t u a1 z0 w0 tx it tt ct)) := by
  have hst : st_ S_117z z0 w0 z0 w0 := st_rf hz hw
  have htb : 159 ≤ t ∧ t ≤ 192 := by have := ht; unfold isT at this; omega
  have hub : 159 ≤ u ∧ u ≤ 192 := by have := hu; unfold isT at this; omega
  have hz10 := rd_1_15 hz
  have hwt := hcv.1
  have hzt3 := rd_T_3 ht hz
  have h390 := rd_39_0 hz
  have h391 := rd_39_1 hz
  have h392 := rd_39_2 hz
  refine w_m rfl rfl ?_
  refine r_ld (pc' := 1) rfl rfl rfl rfl ?_
  refine r_gr (b := 10) (pc' := 4) rfl rfl sh_1 rfl pp_1_3 ?_
  refine r_ld (pc' := 5) rfl rfl rfl rfl ?_
  refine r_cVI (pc' := 8) rfl rfl rfl rfl rfl sh_10 (m_24z (d := d + 2) a1 hst.1 hst.2.1 ⟨by omega, by omega⟩) (fun v11 z12 w13 p14 h15 hs16 hE17 => ?_)
  obtain ⟨rfl, rfl, rfl, hE17⟩ := hE17
  refine r_zne (pc' := 11) rfl rfl ⟨by omega, by omega⟩ (fun hc19 => ?_) (fun hc19 => ?_)
  · exfalso; omega
  · skip
    refine r_c0 (pc' := 12) rfl rfl ?_
    exact r_ri rfl (po_I hst ⟨by decide, by decide⟩ ⟨rfl, rfl, rfl, by omega, by omega, (by exact ⟨CV_f ht hz hst (notS_n) (notS_n) (notS_n) (notS_n) (notS_n) (fun i => (notS_n)) (fun i => (notS_n)) (fun i => (notS_n)) (fun a h1 h2 i => (notS_n)) (notS_n) (notS_n) (notS_n) (fun a h1 h2 i => (notS_n)) (fun a h1 h2 i => (notS_n)) hcv, (fun hq => GA_f ht hz hst (notS_n) (notS_n) (fun i => (notS_n)) (fun a h1 h2 i => (notS_n)) hq), hst.2.2.1 _ _ (notS_n)⟩)⟩)
/-- LoopGround stretch -/
abbrev S_118s  : mS := [(157, 157, 0, 17)]
abbrev E_118s (t : Nat) (u : Nat) (a1 : Int) (a2 : Int) (a3 : Int) (z0 w0 : mZ) (tx it tt ct : Option Nat) : Int → mZ → mZ → mP → Prop := fun v z w p => p = (pq (some t) (some u) tx it (some t) tt ct) ∧ (-9223372036854775808) ≤ v ∧ v ≤ 9223372036854775807 ∧ (CV z w t ∧ (GA z0 z0 t → GA z z t) ∧ z 1 15 = z0 1 15)
theorem m_118s {d : Nat} {z0 w0 : mZ} {tx it tt ct : Option Nat} (t : Nat) (u : Nat) (a1 : Int) (a2 : Int) (a3 : Int) (hz : rz z0) (hw : rw_ w0) (ha1 : (-2147483648) ≤ a1 ∧ a1 ≤ 2147483647) (ha2 : (-2147483648) ≤ a2 ∧ a2 ≤ 2147483647) (ha3 : (-2147483648) ≤ a3 ∧ a3 ≤ 2147483647) (ht : isT t) (hu : isT u) (hcv : CV z0 w0 t) (hga : GA z0 z0 t) : wc (d + 6) 118 [.ref 1, .int (Int32.ofInt a1), .int (Int32.ofInt a2), .int (Int32.ofInt a3)] (mk z0 w0 (pq (some t) (some u) tx it (some t) tt ct)) (poL S_118s z0 w0 (E_118s t u a1 a2 a3 z0 w0 tx it tt ct)) := by
  have hst : st_ S_118s z0 w0 z0 w0 := st_rf hz hw
  have htb : 159 ≤ t ∧ t ≤ 192 := by have := ht; unfold isT at this; omega
  have hub : 159 ≤ u ∧ u ≤ 192 := by have := hu; unfold isT at this; omega
  have hz73 := rd_1_15 hz
  have hwt := hcv.1
  have hzt3 := rd_T_3 ht hz
  have h390 := rd_39_0 hz
  have h391 := rd_39_1 hz
  have h392 := rd_39_2 hz
  have key : ∀ N : Nat, (∀ (x4 : Int) (z w : mZ), 0 ≤ x4 ∧ x4 ≤ 20 → 0 ≤ a1 ∧ a1 ≤ 5 → 0 ≤ a2 ∧ a2 ≤ 7 → 0 ≤ a3 ∧ a3 ≤ 20 → st_ S_118s z0 w0 z w → (0 ≤ a1 ∧ a1 ≤ 5 ∧ FW z0 t a1.toNat) → (FTt z0 t (w 157) ∧ NBr w 157) → 65 * (20 - x4) + 44 < (N : Int) → wp_ (d + 5) 118 6 (some .long) (42, [(0, .ref 1), (1, .int (Int32.ofInt a1)), (3, .int (Int32.ofInt a3)), (4, .int (Int32.ofInt x4))], [], mk z w (pq (some t) (some u) tx it (some t) tt ct)) (poL S_118s z0 w0 (E_118s t u a1 a2 a3 z0 w0 tx it tt ct))) := by
    intro N
    induction N with
    | zero =>
      intro x4 z w
      intros; exfalso; omega
    | succ N ih =>
      have ih0 := ih; clear ih
      intro x4 z w  hx4 hpa1 hpa2 hpa3 hst as1 as2 hM
      have e0 : z t 0 = z0 t 0 := hst.2.2.1 _ _ (notS_c (by omega) (notS_n))
      have e1 : z (t + 1) = z0 (t + 1) := funext fun i => hst.2.2.1 _ _ (notS_c (by omega) (notS_n))
      refine r_ld (pc' := 44) rfl rfl rfl rfl ?_
      refine r_ld (pc' := 45) rfl rfl rfl rfl ?_
      refine r_ige (pc' := 48) rfl rfl ⟨by omega, by omega⟩ ⟨by omega, by omega⟩ (fun hc74 => ?_) (fun hc74 => ?_)
      · skip
        refine r_ld (pc' := 75) rfl rfl rfl rfl ?_
        refine r_gr (b := 157) (pc' := 78) rfl rfl sh_1 rfl pp_1_11 ?_
        refine r_cSL (pc' := 81) rfl rfl rfl rfl rfl (m_142 (d := d + 4) 157 hst.1 hst.2.1 lr_157 (by first | omega | assumption)) (fun v75 z76 w77 p78 h79 hs80 hE81 => ?_)
        obtain ⟨rfl, rfl, rfl, hE81⟩ := hE81
        refine r_st (pc' := 83) (lv' := [(4, _), (0, _), (1, _), (3, _)]) rfl rfl rfl rfl ?_
        refine r_ld (pc' := 84) rfl rfl rfl rfl ?_
        refine r_gr (b := 10) (pc' := 87) rfl rfl sh_1 rfl pp_1_3 ?_
        refine r_ld (pc' := 88) rfl rfl rfl rfl ?_
        refine r_gr (b := 157) (pc' := 91) rfl rfl sh_1 rfl pp_1_11 ?_
        refine r_ld (pc' := 92) rfl rfl rfl rfl ?_
        refine r_al (pc' := 93) rfl rfl rfl rfl ?_
        refine r_cVI (pc' := 96) rfl rfl rfl rfl rfl sh_10 (m_26n (d := d) t 157 a1 hst.1 hst.2.1 ⟨by omega, by omega⟩ ht (by exact as2.2) (by exact FTt_fr e0 e1 as2.1) (by exact GA_f ht hz hst (notS_c (by omega) (notS_n)) (notS_c (by omega) (notS_n)) (fun i => (notS_c (by omega) (notS_n))) (fun a h1 h2 i => (notS_c (by omega) (notS_n))) hga) (by exact FW_f ht hz hst (by omega) (notS_c (by omega) (notS_n)) (fun i => (notS_c (by omega) (notS_n))) (fun a h1 h2 i => (notS_c (by omega) (notS_n))) (fun a h1 h2 i => (notS_c (by omega) (notS_n))) as1.2.2) lr_157 (by first | omega | assumption) wrr_157 (by first | omega | assumption)) (fun v83 z84 w85 p86 h87 hs88 hE89 => ?_)
        have hs90 := st_tr hst hs88 (sub_B rfl)
        obtain ⟨rfl, hE89⟩ := hE89
        refine r_zne (pc' := 99) rfl rfl ⟨by omega, by omega⟩ (fun hc91 => ?_) (fun hc91 => ?_)
        · skip
          refine r_ld (pc' := 105) rfl rfl rfl rfl ?_
          refine r_lc0 (pc' := 106) rfl rfl ?_
          refine r_lle (pc' := 110) rfl rfl rfl ⟨by omega, by omega⟩ ⟨by decide, by decide⟩ (fun hc92 => ?_) (fun hc92 => ?_)
          · skip
            refine r_al (pc' := 130) rfl rfl rfl rfl ?_
            have hb93 := rd_1_15 hz
            have hf94 : z84 1 15 = z0 1 15 := ((hs88.2.2.1 _ _ (notS_c (by omega) notS_n)).trans (hst.2.2.1 _ _ (notS_c (by omega) notS_n)))
            exact r_rl rfl (po_L hs90 ⟨by decide, by decide⟩ ⟨rfl, by omega, by omega, (by exact ⟨CV_f ht hz hs90 (notS_c (by omega) (notS_n)) (notS_c (by omega) (notS_n)) (notS_c (by omega) (notS_n)) (notS_c (by omega) (notS_n)) (notS_c (by omega) (notS_n)) (fun i => (notS_c (by omega) (notS_n))) (fun i => (notS_c (by omega) (notS_n))) (fun i => (notS_c (by omega) (notS_n))) (fun a h1 h2 i => (notS_c (by omega) (notS_n))) (notS_c (by omega) (notS_n)) (notS_c (by omega) (notS_n)) (notS_c (by omega) (notS_n)) (fun a h1 h2 i => (notS_c (by omega) (notS_n))) (fun a h1 h2 i => (notS_c (by omega) (notS_n))) hcv, (fun hq => GA_f ht hz hs90 (notS_c (by omega) (notS_n)) (notS_c (by omega) (notS_n)) (fun i => (notS_c (by omega) (notS_n))) (fun a h1 h2 i => (notS_c (by omega) (notS_n))) hq), hs90.2.2.1 _ _ (notS_c (by omega) (notS_n))⟩)⟩)
          · skip
            refine r_ld (pc' := 111) rfl rfl rfl rfl ?_
            refine r_gr (b := 157) (pc' := 114) rfl rfl sh_1 rfl pp_1_11 ?_
            refine r_cSL (pc' := 117) rfl rfl rfl rfl rfl (m_142 (d := d + 4) 157 hs90.1 hs90.2.1 lr_157 (by first | omega | assumption)) (fun v95 z96 w97 p98 h99 hs100 hE101 => ?_)
            obtain ⟨rfl, rfl, rfl, hE101⟩ := hE101
            refine r_al (pc' := 120) rfl rfl rfl rfl ?_
            refine r_lmul (pc' := 121) rfl rfl ?_
            refine w_hxl (fun v103 h104 h105 => ?_)
            refine r_ld (pc' := 123) rfl rfl rfl rfl ?_
            refine r_ldvh (pc' := 124) rfl rfl ⟨by omega, by omega⟩ (by omega) (fun v106 h107 => ?_)
            unfold inL at h107
            refine r_go rfl ?_
            have hb108 := rd_1_15 hz
            have hf109 : z84 1 15 = z0 1 15 := ((hs88.2.2.1 _ _ (notS_c (by omega) notS_n)).trans (hst.2.2.1 _ _ (notS_c (by omega) notS_n)))
            exact r_rl rfl (po_L hs90 ⟨by omega, by omega⟩ ⟨rfl, by omega, by omega, (by exact ⟨CV_f ht hz hs90 (notS_c (by omega) (notS_n)) (notS_c (by omega) (notS_n)) (notS_c (by omega) (notS_n)) (notS_c (by omega) (notS_n)) (notS_c (by omega) (notS_n)) (fun i => (notS_c (by omega) (notS_n))) (fun i => (notS_c (by omega) (notS_n))) (fun i => (notS_c (by omega) (notS_n))) (fun a h1 h2 i => (notS_c (by omega) (notS_n))) (notS_c (by omega) (notS_n)) (notS_c (by omega) (notS_n)) (notS_c (by omega) (notS_n)) (fun a h1 h2 i => (notS_c (by omega) (notS_n))) (fun a h1 h2 i => (notS_c (by omega) (notS_n))) hcv, (fun hq => GA_f ht hz hs90 (notS_c (by omega) (notS_n)) (notS_c (by omega) (notS_n)) (fun i => (notS_c (by omega) (notS_n))) (fun a h1 h2 i => (notS_c (by omega) (notS_n))) hq), hs90.2.2.1 _ _ (notS_c (by omega) (notS_n))⟩)⟩)
        · skip
          refine r_al (pc' := 102) rfl rfl rfl rfl ?_
          have hb110 := rd_1_15 hz
          have hf111 : z84 1 15 = z0 1 15 := ((hs88.2.2.1 _ _ (notS_c (by omega) notS_n)).trans (hst.2.2.1 _ _ (notS_c (by omega) notS_n)))
          exact r_rl rfl (po_L hs90 ⟨by decide, by decide⟩ ⟨rfl, by omega, by omega, (by exact ⟨CV_f ht hz hs90 (notS_c (by omega) (notS_n)) (notS_c (by omega) (notS_n)) (notS_c (by omega) (notS_n)) (notS_c (by omega) (notS_n)) (notS_c (by omega) (notS_n)) (fun i => (notS_c (by omega) (notS_n))) (fun i => (notS_c (by omega) (notS_n))) (fun i => (notS_c (by omega) (notS_n))) (fun a h1 h2 i => (notS_c (by omega) (notS_n))) (notS_c (by omega) (notS_n)) (notS_c (by omega) (notS_n)) (notS_c (by omega) (notS_n)) (fun a h1 h2 i => (notS_c (by omega) (notS_n))) (fun a h1 h2 i => (notS_c (by omega) (notS_n))) hcv, (fun hq => GA_f ht hz hs90 (notS_c (by omega) (notS_n)) (notS_c (by omega) (notS_n)) (fun i => (notS_c (by omega) (notS_n))) (fun a h1 h2 i => (notS_c (by omega) (notS_n))) hq), hs90.2.2.1 _ _ (notS_c (by omega) (notS_n))⟩)⟩)
      · skip
        refine r_ld (pc' := 49) rfl rfl rfl rfl ?_
        refine r_gr (b := 10) (pc' := 52) rfl rfl sh_1 rfl pp_1_3 ?_
        refine r_ld (pc' := 53) rfl rfl rfl rfl ?_
        refine r_gr (b := 157) (pc' := 56) rfl rfl sh_1 rfl pp_1_11 ?_
        refine r_ld (pc' := 57) rfl rfl rfl rfl ?_
        refine r_al (pc' := 58) rfl rfl rfl rfl ?_
        refine r_cVI (pc' := 61) rfl rfl rfl rfl rfl sh_10 (m_26n (d := d) t 157 a1 hst.1 hst.2.1 ⟨by omega, by omega⟩ ht (by exact as2.2) (by exact FTt_fr e0 e1 as2.1) (by exact GA_f ht hz hst (notS_c (by omega) (notS_n)) (notS_c (by omega) (notS_n)) (fun i => (notS_c (by omega) (notS_n))) (fun a h1 h2 i => (notS_c (by omega) (notS_n))) hga) (by exact FW_f ht hz hst (by omega) (notS_c (by omega) (notS_n)) (fun i => (notS_c (by omega) (notS_n))) (fun a h1 h2 i => (notS_c (by omega) (notS_n))) (fun a h1 h2 i => (notS_c (by omega) (notS_n))) as1.2.2) lr_157 (by first | omega | assumption) wrr_157 (by first | omega | assumption)) (fun v112 z113 w114 p115 h116 hs117 hE118 => ?_)
        have hs119 := st_tr hst hs117 (sub_B rfl)
        obtain ⟨rfl, hE118⟩ := hE118
        have hgt := hE118.2.2
        refine r_zne (pc' := 64) rfl rfl ⟨by omega, by omega⟩ (fun hc120 => ?_) (fun hc120 => ?_)
        · skip
          refine r_inc (pc' := 71) (lv' := [(0, _), (1, _), (3, _)]) rfl rfl rfl rfl rfl ?_
          refine r_go rfl ?_
          exact w_lv (sub_c rfl (sub_c rfl (sub_c rfl (sub_c rfl sub_n)))) rfl (ih0 (x4 + 1) z113 w114 ⟨by omega, by omega⟩ ⟨by omega, by omega⟩ ⟨by omega, by omega⟩ ⟨by omega, by omega⟩ hs119 (by first | exact as1 | exact ⟨by omega, by omega, (hcs (by omega)).2.2.1⟩) (by first | exact ⟨FTt_cg hwt hcp (hcv.2.1 _ (by omega)), NB_c hcp (NB_T ht (by omega) hw)⟩ | exact ⟨FTt_fr e0.symm e1.symm (hgt (by omega)).1, (hgt (by omega)).2⟩) (by omega))
        · skip
          refine r_al (pc' := 67) rfl rfl rfl rfl ?_
          have hb121 := rd_1_15 hz
          have hf122 : z113 1 15 = z0 1 15 := ((hs117.2.2.1 _ _ (notS_c (by omega) notS_n)).trans (hst.2.2.1 _ _ (notS_c (by omega) notS_n)))
          exact r_rl rfl (po_L hs119 ⟨by decide, by decide⟩ ⟨rfl, by omega, by omega, (by exact ⟨CV_f ht hz hs119 (notS_c (by omega) (notS_n)) (notS_c (by omega) (notS_n)) (notS_c (by omega) (notS_n)) (notS_c (by omega) (notS_n)) (notS_c (by omega) (notS_n)) (fun i => (notS_c (by omega) (notS_n))) (fun i => (notS_c (by omega) (notS_n))) (fun i => (notS_c (by omega) (notS_n))) (fun a h1 h2 i => (notS_c (by omega) (notS_n))) (notS_c (by omega) (notS_n)) (notS_c (by omega) (notS_n)) (notS_c (by omega) (notS_n)) (fun a h1 h2 i => (notS_c (by omega) (notS_n))) (fun a h1 h2 i => (notS_c (by omega) (notS_n))) hcv, (fun hq => GA_f ht hz hs119 (notS_c (by omega) (notS_n)) (notS_c (by omega) (notS_n)) (fun i => (notS_c (by omega) (notS_n))) (fun a h1 h2 i => (notS_c (by omega) (notS_n))) hq), hs119.2.2.1 _ _ (notS_c (by omega) (notS_n))⟩)⟩)
  refine w_m rfl rfl ?_
  refine r_ld (pc' := 1) rfl rfl rfl rfl ?_
  refine r_ld (pc' := 2) rfl rfl rfl rfl ?_
  refine r_ld (pc' := 3) rfl rfl rfl rfl ?_
  have hb123 := rd_T_3 ht hz
  refine r_cVI (pc' := 6) rfl rfl rfl rfl rfl sh_1 (m_138s (d := d + 1) t u a1 a2 hst.1 hst.2.1 ⟨by omega, by omega⟩ ⟨by omega, by omega⟩ ht hu) (fun v124 z125 w126 p127 h128 hs129 hE130 => ?_)
  obtain ⟨rfl, rfl, rfl, hE130⟩ := hE130
  have hcs := hE130.2.2
  refine r_zeq (pc' := 9) rfl rfl ⟨by omega, by omega⟩ (fun hc132 => ?_) (fun hc132 => ?_)
  · skip
    refine r_al (pc' := 22) rfl rfl rfl rfl ?_
    have hb133 := rd_1_15 hz
    exact r_rl rfl (po_L hst ⟨by decide, by decide⟩ ⟨rfl, by omega, by omega, (by exact ⟨CV_f ht hz hst (notS_c (by omega) (notS_n)) (notS_c (by omega) (notS_n)) (notS_c (by omega) (notS_n)) (notS_c (by omega) (notS_n)) (notS_c (by omega) (notS_n)) (fun i => (notS_c (by omega) (notS_n))) (fun i => (notS_c (by omega) (notS_n))) (fun i => (notS_c (by omega) (notS_n))) (fun a h1 h2 i => (notS_c (by omega) (notS_n))) (notS_c (by omega) (notS_n)) (notS_c (by omega) (notS_n)) (notS_c (by omega) (notS_n)) (fun a h1 h2 i => (notS_c (by omega) (notS_n))) (fun a h1 h2 i => (notS_c (by omega) (notS_n))) hcv, (fun hq => GA_f ht hz hst (notS_c (by omega) (notS_n)) (notS_c (by omega) (notS_n)) (fun i => (notS_c (by omega) (notS_n))) (fun a h1 h2 i => (notS_c (by omega) (notS_n))) hq), hst.2.2.1 _ _ (notS_c (by omega) (notS_n))⟩)⟩)
  · skip
    refine r_ld (pc' := 10) rfl rfl rfl rfl ?_
    refine r_zlt (pc' := 13) rfl rfl ⟨by omega, by omega⟩ (fun hc134 => ?_) (fun hc134 => ?_)
    · skip
      refine r_al (pc' := 22) rfl rfl rfl rfl ?_
      have hb135 := rd_1_15 hz
      exact r_rl rfl (po_L hst ⟨by decide, by decide⟩ ⟨rfl, by omega, by omega, (by exact ⟨CV_f ht hz hst (notS_c (by omega) (notS_n)) (notS_c (by omega) (notS_n)) (notS_c (by omega) (notS_n)) (notS_c (by omega) (notS_n)) (notS_c (by omega) (notS_n)) (fun i => (notS_c (by omega) (notS_n))) (fun i => (notS_c (by omega) (notS_n))) (fun i => (notS_c (by omega) (notS_n))) (fun a h1 h2 i => (notS_c (by omega) (notS_n))) (notS_c (by omega) (notS_n)) (notS_c (by omega) (notS_n)) (notS_c (by omega) (notS_n)) (fun a h1 h2 i => (notS_c (by omega) (notS_n))) (fun a h1 h2 i => (notS_c (by omega) (notS_n))) hcv, (fun hq => GA_f ht hz hst (notS_c (by omega) (notS_n)) (notS_c (by omega) (notS_n)) (fun i => (notS_c (by omega) (notS_n))) (fun a h1 h2 i => (notS_c (by omega) (notS_n))) hq), hst.2.2.1 _ _ (notS_c (by omega) (notS_n))⟩)⟩)
    · skip
      refine r_ld (pc' := 14) rfl rfl rfl rfl ?_
      refine r_cb (pc' := 16) rfl (by decide) rfl ?_
      refine r_ile (pc' := 19) rfl rfl ⟨by omega, by omega⟩ ⟨by decide, by decide⟩ (fun hc136 => ?_) (fun hc136 => ?_)
      · skip
        refine r_ld (pc' := 24) rfl rfl rfl rfl ?_
        refine r_gr (b := t) (pc' := 27) rfl rfl sh_1 rfl pp_1_13 ?_
        refine r_gr (b := t + 7) (pc' := 30) rfl rfl (sh_T ht) rfl (pp_T_11 ht) ?_
        refine r_ld (pc' := 31) rfl rfl rfl rfl ?_
        refine r_aa (b := t + 8 + a2.toNat) (pc' := 32) rfl rfl (sh_T7 ht) (Or.inl rfl) rfl (by omega) (by omega) (pa_T7 ht (by omega)) ?_
        refine r_ld (pc' := 33) rfl rfl rfl rfl ?_
        refine r_gr (b := 157) (pc' := 36) rfl rfl sh_1 rfl pp_1_11 ?_
        refine r_cSV (pc' := 39) rfl rfl rfl rfl rfl (m_140 (d := d + 4) (t + 8 + a2.toNat) 157 hst.1 hst.2.1 (by first | omega | assumption) (lr_T8 ht (k := a2.toNat) (by omega) ) (by first | omega | assumption) lr_157 (by first | omega | assumption) wrr_157) (fun z138 w139 p140 hs142 hE143 => ?_)
        have hs144 := st_tr hst hs142 (sub_B rfl)
        obtain ⟨rfl, hE143⟩ := hE143
        have hcp := hE143
        refine r_c0 (pc' := 40) rfl rfl ?_
        refine r_st (pc' := 42) (lv' := [(4, _), (0, _), (1, _), (2, _), (3, _)]) rfl rfl rfl rfl ?_
        exact w_lv (sub_c rfl (sub_c rfl (sub_c rfl (sub_c rfl sub_n)))) rfl ((key ((65 * (20 - 0) + 44 : Int).toNat + 1)) 0 z138 w139 ⟨by omega, by omega⟩ ⟨by omega, by omega⟩ ⟨by omega, by omega⟩ ⟨by omega, by omega⟩ hs144 (by first | exact as1 | exact ⟨by omega, by omega, (hcs (by omega)).2.2.1⟩) (by first | exact ⟨FTt_cg hwt hcp (hcv.2.1 _ (by omega)), NB_c hcp (NB_T ht (by omega) hw)⟩ | exact ⟨FTt_fr e0.symm e1.symm (hgt (by omega)).1, (hgt (by omega)).2⟩) (by omega))
      · skip
        refine r_al (pc' := 22) rfl rfl rfl rfl ?_
        have hb145 := rd_1_15 hz
        exact r_rl rfl (po_L hst ⟨by decide, by decide⟩ ⟨rfl, by omega, by omega, (by exact ⟨CV_f ht hz hst (notS_c (by omega) (notS_n)) (notS_c (by omega) (notS_n)) (notS_c (by omega) (notS_n)) (notS_c (by omega) (notS_n)) (notS_c (by omega) (notS_n)) (fun i => (notS_c (by omega) (notS_n))) (fun i => (notS_c (by omega) (notS_n))) (fun i => (notS_c (by omega) (notS_n))) (fun a h1 h2 i => (notS_c (by omega) (notS_n))) (notS_c (by omega) (notS_n)) (notS_c (by omega) (notS_n)) (notS_c (by omega) (notS_n)) (fun a h1 h2 i => (notS_c (by omega) (notS_n))) (fun a h1 h2 i => (notS_c (by omega) (notS_n))) hcv, (fun hq => GA_f ht hz hst (notS_c (by omega) (notS_n)) (notS_c (by omega) (notS_n)) (fun i => (notS_c (by omega) (notS_n))) (fun a h1 h2 i => (notS_c (by omega) (notS_n))) hq), hst.2.2.1 _ _ (notS_c (by omega) (notS_n))⟩)⟩)
/-- LoopGround stretch -/
abbrev S_118z  : mS := []
abbrev E_118z (t : Nat) (u : Nat) (a1 : Int) (a2 : Int) (a3 : Int) (z0 w0 : mZ) (tx it tt ct : Option Nat) : Int → mZ → mZ → mP → Prop := fun v z w p => p = (pq (some t) (some u) tx it none tt ct) ∧ z0 = z ∧ w0 = w ∧ (-1) ≤ v ∧ v ≤ (-1) ∧ (CV z w t ∧ (GA z0 z0 t → GA z z t) ∧ z 1 15 = z0 1 15)
theorem m_118z {d : Nat} {z0 w0 : mZ} {tx it tt ct : Option Nat} (t : Nat) (u : Nat) (a1 : Int) (a2 : Int) (a3 : Int) (hz : rz z0) (hw : rw_ w0) (ha1 : (-2147483648) ≤ a1 ∧ a1 ≤ 2147483647) (ha2 : (-2147483648) ≤ a2 ∧ a2 ≤ 2147483647) (ha3 : (-2147483648) ≤ a3 ∧ a3 ≤ 2147483647) (ht : isT t) (hu : isT u) (hcv : CV z0 w0 t) : wc (d + 6) 118 [.ref 1, .int (Int32.ofInt a1), .int (Int32.ofInt a2), .int (Int32.ofInt a3)] (mk z0 w0 (pq (some t) (some u) tx it none tt ct)) (poL S_118z z0 w0 (E_118z t u a1 a2 a3 z0 w0 tx it tt ct)) := by
  have hst : st_ S_118z z0 w0 z0 w0 := st_rf hz hw
  have htb : 159 ≤ t ∧ t ≤ 192 := by have := ht; unfold isT at this; omega
  have hub : 159 ≤ u ∧ u ≤ 192 := by have := hu; unfold isT at this; omega
  have hz10 := rd_1_15 hz
  have hwt := hcv.1
  have hzt3 := rd_T_3 ht hz
  have h390 := rd_39_0 hz
  have h391 := rd_39_1 hz
  have h392 := rd_39_2 hz
  refine w_m rfl rfl ?_
  refine r_ld (pc' := 1) rfl rfl rfl rfl ?_
  refine r_ld (pc' := 2) rfl rfl rfl rfl ?_
  refine r_ld (pc' := 3) rfl rfl rfl rfl ?_
  refine r_cVI (pc' := 6) rfl rfl rfl rfl rfl sh_1 (m_138z (d := d + 1) t u a1 a2 hst.1 hst.2.1 ⟨by omega, by omega⟩ ⟨by omega, by omega⟩ ht hu) (fun v11 z12 w13 p14 h15 hs16 hE17 => ?_)
  obtain ⟨rfl, rfl, rfl, hE17⟩ := hE17
  refine r_zeq (pc' := 9) rfl rfl ⟨by omega, by omega⟩ (fun hc19 => ?_) (fun hc19 => ?_)
  · skip
    refine r_al (pc' := 22) rfl rfl rfl rfl ?_
    exact r_rl rfl (po_L hst ⟨by decide, by decide⟩ ⟨rfl, rfl, rfl, by omega, by omega, (by exact ⟨CV_f ht hz hst (notS_n) (notS_n) (notS_n) (notS_n) (notS_n) (fun i => (notS_n)) (fun i => (notS_n)) (fun i => (notS_n)) (fun a h1 h2 i => (notS_n)) (notS_n) (notS_n) (notS_n) (fun a h1 h2 i => (notS_n)) (fun a h1 h2 i => (notS_n)) hcv, (fun hq => GA_f ht hz hst (notS_n) (notS_n) (fun i => (notS_n)) (fun a h1 h2 i => (notS_n)) hq), hst.2.2.1 _ _ (notS_n)⟩)⟩)
  · exfalso; omega
/-- LoopGround leavesAsItIs -/
abbrev S_136  : mS := [(157, 157, 0, 17)]
abbrev E_136 (t : Nat) (a1 : Int) (n : Nat) (z0 w0 : mZ) (x y tx it tt ct : Option Nat) : Int → mZ → mZ → mP → Prop := fun v z w p => p = (pq x y tx it (some t) tt ct) ∧ 0 ≤ v ∧ v ≤ 1
theorem m_136 {d : Nat} {z0 w0 : mZ} {x y tx it tt ct : Option Nat} (t : Nat) (a1 : Int) (n : Nat) (hz : rz z0) (hw : rw_ w0) (ha1 : 0 ≤ a1 ∧ a1 ≤ 5) (ht : isT t) (hwt : WTt z0 t) (hft : FTt z0 t (w0 n)) (hga : GA z0 z0 t) (hfw : FW z0 t a1.toNat) (hn7 : 158 ≤ n ∨ n ≤ 148) (hn : lr n) (b15n : 15 ≤ n) (hnb : ∀ e : Nat, e < 18 → 0 ≤ w0 n e ∧ w0 n e ≤ 100000000000000) : wc (d + 6) 136 [.ref 1, .int (Int32.ofInt a1), .ref n] (mk z0 w0 (pq x y tx it (some t) tt ct)) (poI S_136 z0 w0 (E_136 t a1 n z0 w0 x y tx it tt ct)) := by
  have hst : st_ S_136 z0 w0 z0 w0 := st_rf hz hw
  have htb : 159 ≤ t ∧ t ≤ 192 := by have := ht; unfold isT at this; omega
  refine w_m rfl rfl ?_
  refine r_ld (pc' := 1) rfl rfl rfl rfl ?_
  refine r_ld (pc' := 2) rfl rfl rfl rfl ?_
  refine r_gr (b := 157) (pc' := 5) rfl rfl sh_1 rfl pp_1_11 ?_
  refine r_cSV (pc' := 8) rfl rfl rfl rfl rfl (m_140 (d := d + 4) n 157 hst.1 hst.2.1 (by first | omega | assumption) hn (by first | omega | assumption) lr_157 (by first | omega | assumption) wrr_157) (fun z28 w29 p30 hs32 hE33 => ?_)
  have hs34 := st_tr hst hs32 (sub_B rfl)
  obtain ⟨rfl, hE33⟩ := hE33
  have hcp := hE33
  refine r_ld (pc' := 9) rfl rfl rfl rfl ?_
  refine r_gr (b := 10) (pc' := 12) rfl rfl sh_1 rfl pp_1_3 ?_
  refine r_ld (pc' := 13) rfl rfl rfl rfl ?_
  refine r_gr (b := 157) (pc' := 16) rfl rfl sh_1 rfl pp_1_11 ?_
  refine r_ld (pc' := 17) rfl rfl rfl rfl ?_
  refine r_al (pc' := 18) rfl rfl rfl rfl ?_
  refine r_cVI (pc' := 21) rfl rfl rfl rfl rfl sh_10 (m_26n (d := d) t 157 a1 hs34.1 hs34.2.1 ⟨by omega, by omega⟩ ht (by exact NB_c hcp hnb) (by exact FTt_fr (hs34.2.2.1 _ _ (notS_c (by omega) (notS_n))) (funext fun i => hs34.2.2.1 _ _ (notS_c (by omega) (notS_n))) (FTt_cg hwt hcp hft)) (by exact GA_f ht hz hs34 (notS_c (by omega) (notS_n)) (notS_c (by omega) (notS_n)) (fun i => (notS_c (by omega) (notS_n))) (fun a h1 h2 i => (notS_c (by omega) (notS_n))) hga) (by exact FW_f ht hz hs34 (by omega) (notS_c (by omega) (notS_n)) (fun i => (notS_c (by omega) (notS_n))) (fun a h1 h2 i => (notS_c (by omega) (notS_n))) (fun a h1 h2 i => (notS_c (by omega) (notS_n))) hfw) lr_157 (by first | omega | assumption) wrr_157 (by first | omega | assumption)) (fun v35 z36 w37 p38 h39 hs40 hE41 => ?_)
  have hs42 := st_tr hs34 hs40 (sub_B rfl)
  obtain ⟨rfl, hE41⟩ := hE41
  refine r_zeq (pc' := 24) rfl rfl ⟨by omega, by omega⟩ (fun hc43 => ?_) (fun hc43 => ?_)
  · skip
    refine r_c0 (pc' := 40) rfl rfl ?_
    exact r_rz rfl (by omega) (po_I hs42 ⟨by decide, by decide⟩ ⟨rfl, by omega, by omega⟩)
  · skip
    refine r_ld (pc' := 25) rfl rfl rfl rfl ?_
    refine r_gr (b := 157) (pc' := 28) rfl rfl sh_1 rfl pp_1_11 ?_
    refine r_ld (pc' := 29) rfl rfl rfl rfl ?_
    refine r_cSI (pc' := 32) rfl rfl rfl rfl rfl (m_141 (d := d + 4) 157 n hs42.1 hs42.2.1 lr_157 (by first | omega | assumption) hn (by first | omega | assumption)) (fun v44 z45 w46 p47 h48 hs49 hE50 => ?_)
    obtain ⟨rfl, rfl, rfl, hE50⟩ := hE50
    refine r_zeq (pc' := 35) rfl rfl ⟨by omega, by omega⟩ (fun hc52 => ?_) (fun hc52 => ?_)
    · skip
      refine r_c0 (pc' := 40) rfl rfl ?_
      exact r_rz rfl (by omega) (po_I hs42 ⟨by decide, by decide⟩ ⟨rfl, by omega, by omega⟩)
    · skip
      refine r_c0 (pc' := 36) rfl rfl ?_
      refine r_go rfl ?_
      exact r_rz rfl (by omega) (po_I hs42 ⟨by decide, by decide⟩ ⟨rfl, by omega, by omega⟩)
/-- LoopGround noteTable -/
abbrev S_139  : mS := [(102, 102, 1, 1), (102, 102, 2, 2), (102, 102, 3, 3), (102, 102, 4, 4), (104, 121, 0, 17), (157, 157, 0, 17), (102, 102, 0, 0)]
abbrev E_139 (t : Nat) (u : Nat) (a1 : Int) (a2 : Int) (z0 w0 : mZ) (tx it tt ct : Option Nat) : Int → mZ → mZ → mP → Prop := fun v z w p => p = (pq (some t) (some u) tx it (some t) tt ct) ∧ 0 ≤ v ∧ v ≤ 1
theorem m_139 {d : Nat} {z0 w0 : mZ} {tx it tt ct : Option Nat} (t : Nat) (u : Nat) (a1 : Int) (a2 : Int) (hz : rz z0) (hw : rw_ w0) (ha1 : 0 ≤ a1 ∧ a1 ≤ 5) (ha2 : 0 ≤ a2 ∧ a2 ≤ 7) (ht : isT t) (hu : isT u) (hwt : WTt z0 t) (hlf : LF z0 w0 t) (hga : GA z0 z0 t) (hfw : FW z0 t a1.toNat) (hl3 : a2 < z0 t 3) : wc (d + 6) 139 [.ref 1, .int (Int32.ofInt a1), .int (Int32.ofInt a2)] (mk z0 w0 (pq (some t) (some u) tx it (some t) tt ct)) (poI S_139 z0 w0 (E_139 t u a1 a2 z0 w0 tx it tt ct)) := by
  have hst : st_ S_139 z0 w0 z0 w0 := st_rf hz hw
  have htb : 159 ≤ t ∧ t ≤ 192 := by have := ht; unfold isT at this; omega
  have hub : 159 ≤ u ∧ u ≤ 192 := by have := hu; unfold isT at this; omega
  have hz39 := rd_T_3 ht hz
  refine w_m rfl rfl ?_
  refine r_ld (pc' := 1) rfl rfl rfl rfl ?_
  refine r_gr (b := 102) (pc' := 4) rfl rfl sh_1 rfl pp_1_7 ?_
  refine r_ld (pc' := 5) rfl rfl rfl rfl ?_
  refine r_ld (pc' := 6) rfl rfl rfl rfl ?_
  refine r_cVI (pc' := 9) rfl rfl rfl rfl rfl sh_102 (m_63 (d := d + 4) a1 a2 hst.1 hst.2.1 ⟨by omega, by omega⟩ ⟨by omega, by omega⟩) (fun v40 z41 w42 p43 h44 hs45 hE46 => ?_)
  obtain ⟨rfl, rfl, rfl, hE46⟩ := hE46
  refine r_zne (pc' := 12) rfl rfl ⟨by omega, by omega⟩ (fun hc48 => ?_) (fun hc48 => ?_)
  · skip
    refine r_ld (pc' := 68) rfl rfl rfl rfl ?_
    refine r_gr (b := 102) (pc' := 71) rfl rfl sh_1 rfl pp_1_7 ?_
    have hb49 := rd_102_0 hz
    refine r_gi (pc' := 74) rfl rfl sh_102 rfl rfl ?_
    exact r_rz rfl (by omega) (po_I hst ⟨by omega, by omega⟩ ⟨rfl, by omega, by omega⟩)
  · skip
    refine r_ld (pc' := 13) rfl rfl rfl rfl ?_
    refine r_gr (b := 102) (pc' := 16) rfl rfl sh_1 rfl pp_1_7 ?_
    refine r_ld (pc' := 17) rfl rfl rfl rfl ?_
    refine r_gr (b := t) (pc' := 20) rfl rfl sh_1 rfl pp_1_13 ?_
    have hb50 := rd_T_1 ht hz
    refine r_gi (pc' := 23) rfl rfl (sh_T ht) rfl rfl ?_
    refine r_ld (pc' := 24) rfl rfl rfl rfl ?_
    refine r_ld (pc' := 25) rfl rfl rfl rfl ?_
    refine r_cVV (pc' := 28) rfl rfl rfl rfl rfl sh_102 (m_64 (d := d + 3) (z0 t 1) a1 a2 hst.1 hst.2.1 ⟨by omega, by omega⟩ ⟨by omega, by omega⟩ ⟨by omega, by omega⟩) (fun z52 w53 p54 hs56 hE57 => ?_)
    have hs58 := st_tr hst hs56 (sub_B rfl)
    obtain rfl := hE57
    refine r_ld (pc' := 29) rfl rfl rfl rfl ?_
    refine r_gr (b := t) (pc' := 32) rfl rfl sh_1 rfl pp_1_13 ?_
    refine r_gr (b := t + 7) (pc' := 35) rfl rfl (sh_T ht) rfl (pp_T_11 ht) ?_
    refine r_ld (pc' := 36) rfl rfl rfl rfl ?_
    refine r_aa (b := t + 8 + a2.toNat) (pc' := 37) rfl rfl (sh_T7 ht) (Or.inl rfl) rfl (by omega) (by omega) (pa_T7 ht (by omega)) ?_
    refine r_ld (pc' := 38) rfl rfl rfl rfl ?_
    refine r_gr (b := 157) (pc' := 41) rfl rfl sh_1 rfl pp_1_11 ?_
    have grw : w53 (t + 8 + a2.toNat) = w0 (t + 8 + a2.toNat) := funext fun i => hs58.2.2.2 _ _ (notS_c (by omega) (notS_c (by omega) (notS_c (by omega) (notS_c (by omega) (notS_c (by omega) (notS_c (by omega) (notS_c (by omega) (notS_n))))))))
    refine r_cSV (pc' := 44) rfl rfl rfl rfl rfl (m_140 (d := d + 4) (t + 8 + a2.toNat) 157 hs58.1 hs58.2.1 (by first | omega | assumption) (lr_T8 ht (k := a2.toNat) (by omega) ) (by first | omega | assumption) lr_157 (by first | omega | assumption) wrr_157) (fun z60 w61 p62 hs64 hE65 => ?_)
    have hs66 := st_tr hs58 hs64 (sub_B rfl)
    obtain ⟨rfl, hE65⟩ := hE65
    have hcp := hE65
    have gr : ∀ e : Nat, e < 18 → w61 157 e = w0 (t + 8 + a2.toNat) e := fun e he => by rw [hcp e he, grw]
    refine r_ld (pc' := 45) rfl rfl rfl rfl ?_
    refine r_gr (b := 102) (pc' := 48) rfl rfl sh_1 rfl pp_1_7 ?_
    refine r_ld (pc' := 49) rfl rfl rfl rfl ?_
    refine r_gr (b := 10) (pc' := 52) rfl rfl sh_1 rfl pp_1_3 ?_
    refine r_ld (pc' := 53) rfl rfl rfl rfl ?_
    refine r_gr (b := 157) (pc' := 56) rfl rfl sh_1 rfl pp_1_11 ?_
    refine r_ld (pc' := 57) rfl rfl rfl rfl ?_
    refine r_ld (pc' := 58) rfl rfl rfl rfl ?_
    refine r_gr (b := 102) (pc' := 61) rfl rfl sh_1 rfl pp_1_7 ?_
    refine r_cVI (pc' := 64) rfl rfl rfl rfl rfl sh_10 (m_26t (d := d) t 157 a1 hs66.1 hs66.2.1 ⟨by omega, by omega⟩ ht (by exact NB_c gr (NB_T ht (by omega) hw)) (by exact FTt_fr (hs66.2.2.1 _ _ (notS_c (by omega) (notS_c (by omega) (notS_c (by omega) (notS_c (by omega) (notS_c (by omega) (notS_c (by omega) (notS_c (by omega) (notS_n))))))))) (funext fun i => hs66.2.2.1 _ _ (notS_c (by omega) (notS_c (by omega) (notS_c (by omega) (notS_c (by omega) (notS_c (by omega) (notS_c (by omega) (notS_c (by omega) (notS_n))))))))) (FTt_cg hwt gr (hlf a2.toNat (by omega)))) (by exact GA_f ht hz hs66 (notS_c (by omega) (notS_c (by omega) (notS_c (by omega) (notS_c (by omega) (notS_c (by omega) (notS_c (by omega) (notS_c (by omega) (notS_n)))))))) (notS_c (by omega) (notS_c (by omega) (notS_c (by omega) (notS_c (by omega) (notS_c (by omega) (notS_c (by omega) (notS_c (by omega) (notS_n)))))))) (fun i => (notS_c (by omega) (notS_c (by omega) (notS_c (by omega) (notS_c (by omega) (notS_c (by omega) (notS_c (by omega) (notS_c (by omega) (notS_n))))))))) (fun a h1 h2 i => (notS_c (by omega) (notS_c (by omega) (notS_c (by omega) (notS_c (by omega) (notS_c (by omega) (notS_c (by omega) (notS_c (by omega) (notS_n))))))))) hga) (by exact FW_f ht hz hs66 (by omega) (notS_c (by omega) (notS_c (by omega) (notS_c (by omega) (notS_c (by omega) (notS_c (by omega) (notS_c (by omega) (notS_c (by omega) (notS_n)))))))) (fun i => (notS_c (by omega) (notS_c (by omega) (notS_c (by omega) (notS_c (by omega) (notS_c (by omega) (notS_c (by omega) (notS_c (by omega) (notS_n))))))))) (fun a h1 h2 i => (notS_c (by omega) (notS_c (by omega) (notS_c (by omega) (notS_c (by omega) (notS_c (by omega) (notS_c (by omega) (notS_c (by omega) (notS_n))))))))) (fun a h1 h2 i => (notS_c (by omega) (notS_c (by omega) (notS_c (by omega) (notS_c (by omega) (notS_c (by omega) (notS_c (by omega) (notS_c (by omega) (notS_n))))))))) hfw) lr_157 (by first | omega | assumption) wrr_157 (by first | omega | assumption)) (fun v67 z68 w69 p70 h71 hs72 hE73 => ?_)
    have hs74 := st_tr hs66 hs72 (sub_B rfl)
    obtain ⟨rfl, hE73⟩ := hE73
    refine r_pi (pc' := 67) rfl rfl sh_102 rfl (fit_b (by omega)) hs74 (inS_s (inS_s (inS_s (inS_s (inS_s (inS_s (inS_0 (by omega) (by omega) (by omega) (by omega)))))))) (wr_102_0 ⟨by omega, by omega⟩) (fun z75 hq76 hs77 => ?_)
    refine r_ld (pc' := 68) rfl rfl rfl rfl ?_
    refine r_gr (b := 102) (pc' := 71) rfl rfl sh_1 rfl pp_1_7 ?_
    refine r_gi (pc' := 74) rfl rfl sh_102 rfl ((congrFun (congrFun hq76 _) _).trans mu_eq) ?_
    exact r_rz rfl (by omega) (po_I hs77 ⟨by omega, by omega⟩ ⟨rfl, by omega, by omega⟩)
/-- LoopGround kept -/
abbrev S_115s  : mS := [(157, 157, 0, 17)]
abbrev E_115s (t : Nat) (u : Nat) (a1 : Int) (z0 w0 : mZ) (tx it tt ct : Option Nat) : Int → mZ → mZ → mP → Prop := fun v z w p => p = (pq (some t) (some u) tx it (some t) tt ct) ∧ (-2147483648) ≤ v ∧ v ≤ 2147483647 ∧ (CV z w t ∧ (GA z0 z0 t → GA z z t) ∧ z 1 15 = z0 1 15)
theorem m_115s {d : Nat} {z0 w0 : mZ} {tx it tt ct : Option Nat} (t : Nat) (u : Nat) (a1 : Int) (hz : rz z0) (hw : rw_ w0) (ha1 : (-2147483648) ≤ a1 ∧ a1 ≤ 2147483647) (ht : isT t) (hu : isT u) (hcv : CV z0 w0 t) (hga : GA z0 z0 t) : wc (d + 7) 115 [.ref 1, .int (Int32.ofInt a1)] (mk z0 w0 (pq (some t) (some u) tx it (some t) tt ct)) (poI S_115s z0 w0 (E_115s t u a1 z0 w0 tx it tt ct)) := by
  have hst : st_ S_115s z0 w0 z0 w0 := st_rf hz hw
  have htb : 159 ≤ t ∧ t ≤ 192 := by have := ht; unfold isT at this; omega
  have hub : 159 ≤ u ∧ u ≤ 192 := by have := hu; unfold isT at this; omega
  have hz30 := rd_1_15 hz
  have hwt := hcv.1
  have hzt3 := rd_T_3 ht hz
  have h390 := rd_39_0 hz
  have h391 := rd_39_1 hz
  have h392 := rd_39_2 hz
  have key : ∀ N : Nat, (∀ (x2 x3 : Int) (z w : mZ), (-2147483648) ≤ x2 ∧ x2 ≤ 2147483647 → 0 ≤ x3 ∧ x3 ≤ 8 → 0 ≤ a1 ∧ a1 ≤ 5 → st_ S_115s z0 w0 z w → (FW z0 t a1.toNat) → 35 * (8 - x3) + 23 < (N : Int) → wp_ (d + 6) 115 4 (some .int) (17, [(0, .ref 1), (1, .int (Int32.ofInt a1)), (2, .int (Int32.ofInt x2)), (3, .int (Int32.ofInt x3))], [], mk z w (pq (some t) (some u) tx it (some t) tt ct)) (poI S_115s z0 w0 (E_115s t u a1 z0 w0 tx it tt ct))) := by
    intro N
    induction N with
    | zero =>
      intro x2 x3 z w
      intros; exfalso; omega
    | succ N ih =>
      have ih0 := ih; clear ih
      intro x2 x3 z w  hx2 hx3 hpa1 hst as1 hM
      have gr : ∀ l : Nat, l < 8 → w (t + 8 + l) = w0 (t + 8 + l) := fun l hl => funext fun i => hst.2.2.2 _ _ (notS_c (by omega) (notS_n))
      refine r_ld (pc' := 18) rfl rfl rfl rfl ?_
      refine r_ld (pc' := 19) rfl rfl rfl rfl ?_
      refine r_gr (b := t) (pc' := 22) rfl rfl sh_1 rfl pp_1_13 ?_
      have hb31 := rd_T_3 ht hz
      refine r_gi (pc' := 25) rfl rfl (sh_T ht) rfl (hst.2.2.1 _ _ (notS_c (by omega) notS_n)) ?_
      refine r_ige (pc' := 28) rfl rfl ⟨by omega, by omega⟩ ⟨by omega, by omega⟩ (fun hc32 => ?_) (fun hc32 => ?_)
      · skip
        refine r_ld (pc' := 58) rfl rfl rfl rfl ?_
        have hb33 := rd_1_15 hz
        have hf34 : z 1 15 = z0 1 15 := (hst.2.2.1 _ _ (notS_c (by omega) notS_n))
        exact r_ri rfl (po_I hst ⟨by omega, by omega⟩ ⟨rfl, by omega, by omega, (by exact ⟨CV_f ht hz hst (notS_c (by omega) (notS_n)) (notS_c (by omega) (notS_n)) (notS_c (by omega) (notS_n)) (notS_c (by omega) (notS_n)) (notS_c (by omega) (notS_n)) (fun i => (notS_c (by omega) (notS_n))) (fun i => (notS_c (by omega) (notS_n))) (fun i => (notS_c (by omega) (notS_n))) (fun a h1 h2 i => (notS_c (by omega) (notS_n))) (notS_c (by omega) (notS_n)) (notS_c (by omega) (notS_n)) (notS_c (by omega) (notS_n)) (fun a h1 h2 i => (notS_c (by omega) (notS_n))) (fun a h1 h2 i => (notS_c (by omega) (notS_n))) hcv, (fun hq => GA_f ht hz hst (notS_c (by omega) (notS_n)) (notS_c (by omega) (notS_n)) (fun i => (notS_c (by omega) (notS_n))) (fun a h1 h2 i => (notS_c (by omega) (notS_n))) hq), hst.2.2.1 _ _ (notS_c (by omega) (notS_n))⟩)⟩)
      · skip
        refine r_ld (pc' := 29) rfl rfl rfl rfl ?_
        refine r_ld (pc' := 30) rfl rfl rfl rfl ?_
        refine r_ld (pc' := 31) rfl rfl rfl rfl ?_
        refine r_gr (b := t) (pc' := 34) rfl rfl sh_1 rfl pp_1_13 ?_
        refine r_gr (b := t + 7) (pc' := 37) rfl rfl (sh_T ht) rfl (pp_T_11 ht) ?_
        refine r_ld (pc' := 38) rfl rfl rfl rfl ?_
        refine r_aa (b := t + 8 + x3.toNat) (pc' := 39) rfl rfl (sh_T7 ht) (Or.inl rfl) rfl (by omega) (by omega) (pa_T7 ht (by omega)) ?_
        have hF35 : w (t + 8 + x3.toNat) = w0 (t + 8 + x3.toNat) := (funext fun _ => hst.2.2.2 _ _ (notS_c (by omega) notS_n))
        refine r_cVI (pc' := 42) rfl rfl rfl rfl rfl sh_1 (m_136 (d := d) t a1 (t + 8 + x3.toNat) hst.1 hst.2.1 ⟨by omega, by omega⟩ ht (by exact WTt_f hst (notS_c (by omega) (notS_n)) (notS_c (by omega) (notS_n)) (fun i => (notS_c (by omega) (notS_n))) (fun i => (notS_c (by omega) (notS_n))) (fun i => (notS_c (by omega) (notS_n))) hwt) (by rw [gr x3.toNat (by omega)]; exact FTt_fr (hst.2.2.1 _ _ (notS_c (by omega) (notS_n))) (funext fun i => hst.2.2.1 _ _ (notS_c (by omega) (notS_n))) (hcv.2.1 x3.toNat (by omega))) (by exact GA_f ht hz hst (notS_c (by omega) (notS_n)) (notS_c (by omega) (notS_n)) (fun i => (notS_c (by omega) (notS_n))) (fun a h1 h2 i => (notS_c (by omega) (notS_n))) hga) (by exact FW_f ht hz hst (by omega) (notS_c (by omega) (notS_n)) (fun i => (notS_c (by omega) (notS_n))) (fun a h1 h2 i => (notS_c (by omega) (notS_n))) (fun a h1 h2 i => (notS_c (by omega) (notS_n))) as1) (by first | omega | assumption | (simp only [hF35]; assumption)) (lr_T8 ht (k := x3.toNat) (by omega) ) (by first | omega | assumption | (simp only [hF35]; assumption)) (fun e he => by have q := rd_T8 ht (k := x3.toNat) (by omega) hst.2.1 (i := e) he; exact ⟨by omega, by omega⟩)) (fun v36 z37 w38 p39 h40 hs41 hE42 => ?_)
        have hs43 := st_tr hst hs41 (sub_B rfl)
        obtain ⟨rfl, hE42⟩ := hE42
        refine r_zeq (pc' := 45) rfl rfl ⟨by omega, by omega⟩ (fun hc44 => ?_) (fun hc44 => ?_)
        · skip
          refine r_inc (pc' := 54) (lv' := [(0, _), (1, _), (2, _)]) rfl rfl rfl rfl rfl ?_
          refine r_go rfl ?_
          exact w_lv (sub_c rfl (sub_c rfl (sub_c rfl (sub_c rfl sub_n)))) rfl (ih0 x2 (x3 + 1) z37 w38 ⟨by omega, by omega⟩ ⟨by omega, by omega⟩ ⟨by omega, by omega⟩ hs43 (by first | exact as1 | exact (hfv (by omega)).2.2.2) (by omega))
        · skip
          refine r_ld (pc' := 46) rfl rfl rfl rfl ?_
          refine r_c0 (pc' := 47) rfl rfl ?_
          refine r_ld (pc' := 48) rfl rfl rfl rfl ?_
          refine r_ai (pc' := 49) rfl rfl rfl rfl (fun v45 h46 => ?_)
          unfold inI at h46
          refine r_ai (pc' := 50) rfl rfl rfl rfl (fun v47 h48 => ?_)
          unfold inI at h48
          refine r_st (pc' := 51) (lv' := [(2, _), (0, _), (1, _), (3, _)]) rfl rfl rfl rfl ?_
          refine r_inc (pc' := 54) (lv' := [(2, _), (0, _), (1, _)]) rfl rfl rfl rfl rfl ?_
          refine r_go rfl ?_
          exact w_lv (sub_c rfl (sub_c rfl (sub_c rfl (sub_c rfl sub_n)))) rfl (ih0 v47 (x3 + 1) z37 w38 ⟨by omega, by omega⟩ ⟨by omega, by omega⟩ ⟨by omega, by omega⟩ hs43 (by first | exact as1 | exact (hfv (by omega)).2.2.2) (by omega))
  refine w_m rfl rfl ?_
  refine r_ld (pc' := 1) rfl rfl rfl rfl ?_
  refine r_gr (b := 10) (pc' := 4) rfl rfl sh_1 rfl pp_1_3 ?_
  refine r_ld (pc' := 5) rfl rfl rfl rfl ?_
  have hb49 := rd_T_4 ht hz
  refine r_cVI (pc' := 8) rfl rfl rfl rfl rfl sh_10 (m_24s (d := d + 3) t a1 hst.1 hst.2.1 ⟨by omega, by omega⟩ ht) (fun v50 z51 w52 p53 h54 hs55 hE56 => ?_)
  obtain ⟨rfl, rfl, rfl, hE56⟩ := hE56
  have hfv := hE56.2.2
  refine r_zne (pc' := 11) rfl rfl ⟨by omega, by omega⟩ (fun hc58 => ?_) (fun hc58 => ?_)
  · skip
    refine r_c0 (pc' := 14) rfl rfl ?_
    refine r_st (pc' := 15) (lv' := [(2, _), (0, _), (1, _)]) rfl rfl rfl rfl ?_
    refine r_c0 (pc' := 16) rfl rfl ?_
    refine r_st (pc' := 17) (lv' := [(3, _), (2, _), (0, _), (1, _)]) rfl rfl rfl rfl ?_
    exact w_lv (sub_c rfl (sub_c rfl (sub_c rfl (sub_c rfl sub_n)))) rfl ((key ((35 * (8 - 0) + 23 : Int).toNat + 1)) 0 0 z0 w0 ⟨by omega, by omega⟩ ⟨by omega, by omega⟩ ⟨by omega, by omega⟩ hst (by first | exact as1 | exact (hfv (by omega)).2.2.2) (by omega))
  · skip
    refine r_c0 (pc' := 12) rfl rfl ?_
    have hb59 := rd_1_15 hz
    exact r_ri rfl (po_I hst ⟨by decide, by decide⟩ ⟨rfl, by omega, by omega, (by exact ⟨CV_f ht hz hst (notS_c (by omega) (notS_n)) (notS_c (by omega) (notS_n)) (notS_c (by omega) (notS_n)) (notS_c (by omega) (notS_n)) (notS_c (by omega) (notS_n)) (fun i => (notS_c (by omega) (notS_n))) (fun i => (notS_c (by omega) (notS_n))) (fun i => (notS_c (by omega) (notS_n))) (fun a h1 h2 i => (notS_c (by omega) (notS_n))) (notS_c (by omega) (notS_n)) (notS_c (by omega) (notS_n)) (notS_c (by omega) (notS_n)) (fun a h1 h2 i => (notS_c (by omega) (notS_n))) (fun a h1 h2 i => (notS_c (by omega) (notS_n))) hcv, (fun hq => GA_f ht hz hst (notS_c (by omega) (notS_n)) (notS_c (by omega) (notS_n)) (fun i => (notS_c (by omega) (notS_n))) (fun a h1 h2 i => (notS_c (by omega) (notS_n))) hq), hst.2.2.1 _ _ (notS_c (by omega) (notS_n))⟩)⟩)
/-- LoopGround kept -/
abbrev S_115z  : mS := []
abbrev E_115z (t : Nat) (u : Nat) (a1 : Int) (z0 w0 : mZ) (tx it tt ct : Option Nat) : Int → mZ → mZ → mP → Prop := fun v z w p => p = (pq (some t) (some u) tx it none tt ct) ∧ z0 = z ∧ w0 = w ∧ (-1) ≤ v ∧ v ≤ (-1) ∧ (CV z w t ∧ (GA z0 z0 t → GA z z t) ∧ z 1 15 = z0 1 15)
theorem m_115z {d : Nat} {z0 w0 : mZ} {tx it tt ct : Option Nat} (t : Nat) (u : Nat) (a1 : Int) (hz : rz z0) (hw : rw_ w0) (ha1 : (-2147483648) ≤ a1 ∧ a1 ≤ 2147483647) (ht : isT t) (hu : isT u) (hcv : CV z0 w0 t) : wc (d + 7) 115 [.ref 1, .int (Int32.ofInt a1)] (mk z0 w0 (pq (some t) (some u) tx it none tt ct)) (poI S_115z z0 w0 (E_115z t u a1 z0 w0 tx it tt ct)) := by
  have hst : st_ S_115z z0 w0 z0 w0 := st_rf hz hw
  have htb : 159 ≤ t ∧ t ≤ 192 := by have := ht; unfold isT at this; omega
  have hub : 159 ≤ u ∧ u ≤ 192 := by have := hu; unfold isT at this; omega
  have hz10 := rd_1_15 hz
  have hwt := hcv.1
  have hzt3 := rd_T_3 ht hz
  have h390 := rd_39_0 hz
  have h391 := rd_39_1 hz
  have h392 := rd_39_2 hz
  refine w_m rfl rfl ?_
  refine r_ld (pc' := 1) rfl rfl rfl rfl ?_
  refine r_gr (b := 10) (pc' := 4) rfl rfl sh_1 rfl pp_1_3 ?_
  refine r_ld (pc' := 5) rfl rfl rfl rfl ?_
  refine r_cVI (pc' := 8) rfl rfl rfl rfl rfl sh_10 (m_24z (d := d + 3) a1 hst.1 hst.2.1 ⟨by omega, by omega⟩) (fun v11 z12 w13 p14 h15 hs16 hE17 => ?_)
  obtain ⟨rfl, rfl, rfl, hE17⟩ := hE17
  refine r_zne (pc' := 11) rfl rfl ⟨by omega, by omega⟩ (fun hc19 => ?_) (fun hc19 => ?_)
  · exfalso; omega
  · skip
    refine r_c0 (pc' := 12) rfl rfl ?_
    exact r_ri rfl (po_I hst ⟨by decide, by decide⟩ ⟨rfl, rfl, rfl, by omega, by omega, (by exact ⟨CV_f ht hz hst (notS_n) (notS_n) (notS_n) (notS_n) (notS_n) (fun i => (notS_n)) (fun i => (notS_n)) (fun i => (notS_n)) (fun a h1 h2 i => (notS_n)) (notS_n) (notS_n) (notS_n) (fun a h1 h2 i => (notS_n)) (fun a h1 h2 i => (notS_n)) hcv, (fun hq => GA_f ht hz hst (notS_n) (notS_n) (fun i => (notS_n)) (fun a h1 h2 i => (notS_n)) hq), hst.2.2.1 _ _ (notS_n)⟩)⟩)
/-- LoopGround table -/
abbrev S_119s  : mS := [(102, 102, 1, 1), (102, 102, 2, 2), (102, 102, 3, 3), (102, 102, 4, 4), (104, 121, 0, 17), (157, 157, 0, 17), (102, 102, 0, 0)]
abbrev E_119s (t : Nat) (u : Nat) (a1 : Int) (a2 : Int) (a3 : Int) (a4 : Int) (z0 w0 : mZ) (tx it tt ct : Option Nat) : Int → mZ → mZ → mP → Prop := fun v z w p => p = (pq (some t) (some u) tx it (some t) tt ct) ∧ (-2147483648) ≤ v ∧ v ≤ 2147483647 ∧ (CV z w t ∧ (GA z0 z0 t → GA z z t) ∧ z 1 15 = z0 1 15)
theorem m_119s {d : Nat} {z0 w0 : mZ} {tx it tt ct : Option Nat} (t : Nat) (u : Nat) (a1 : Int) (a2 : Int) (a3 : Int) (a4 : Int) (hz : rz z0) (hw : rw_ w0) (ha1 : (-2147483648) ≤ a1 ∧ a1 ≤ 2147483647) (ha2 : (-2147483648) ≤ a2 ∧ a2 ≤ 2147483647) (ha3 : (-2147483648) ≤ a3 ∧ a3 ≤ 2147483647) (ha4 : (-2147483648) ≤ a4 ∧ a4 ≤ 2147483647) (ht : isT t) (hu : isT u) (hcv : CV z0 w0 t) (hga : GA z0 z0 t) : wc (d + 7) 119 [.ref 1, .int (Int32.ofInt a1), .int (Int32.ofInt a2), .int (Int32.ofInt a3), .int (Int32.ofInt a4)] (mk z0 w0 (pq (some t) (some u) tx it (some t) tt ct)) (poI S_119s z0 w0 (E_119s t u a1 a2 a3 a4 z0 w0 tx it tt ct)) := by
  have hst : st_ S_119s z0 w0 z0 w0 := st_rf hz hw
  have htb : 159 ≤ t ∧ t ≤ 192 := by have := ht; unfold isT at this; omega
  have hub : 159 ≤ u ∧ u ≤ 192 := by have := hu; unfold isT at this; omega
  have hz54 := rd_1_15 hz
  have hwt := hcv.1
  have hzt3 := rd_T_3 ht hz
  have h390 := rd_39_0 hz
  have h391 := rd_39_1 hz
  have h392 := rd_39_2 hz
  refine w_m rfl rfl ?_
  refine r_ld (pc' := 1) rfl rfl rfl rfl ?_
  refine r_ld (pc' := 2) rfl rfl rfl rfl ?_
  refine r_ld (pc' := 3) rfl rfl rfl rfl ?_
  have hb55 := rd_T_3 ht hz
  refine r_cVI (pc' := 6) rfl rfl rfl rfl rfl sh_1 (m_138s (d := d + 2) t u a1 a2 hst.1 hst.2.1 ⟨by omega, by omega⟩ ⟨by omega, by omega⟩ ht hu) (fun v56 z57 w58 p59 h60 hs61 hE62 => ?_)
  obtain ⟨rfl, rfl, rfl, hE62⟩ := hE62
  have hcs := hE62.2.2
  refine r_zeq (pc' := 9) rfl rfl ⟨by omega, by omega⟩ (fun hc64 => ?_) (fun hc64 => ?_)
  · skip
    refine r_c0 (pc' := 27) rfl rfl ?_
    have hb65 := rd_1_15 hz
    exact r_ri rfl (po_I hst ⟨by decide, by decide⟩ ⟨rfl, by omega, by omega, (by exact ⟨CV_f ht hz hst (notS_c (by omega) (notS_c (by omega) (notS_c (by omega) (notS_c (by omega) (notS_c (by omega) (notS_c (by omega) (notS_c (by omega) (notS_n)))))))) (notS_c (by omega) (notS_c (by omega) (notS_c (by omega) (notS_c (by omega) (notS_c (by omega) (notS_c (by omega) (notS_c (by omega) (notS_n)))))))) (notS_c (by omega) (notS_c (by omega) (notS_c (by omega) (notS_c (by omega) (notS_c (by omega) (notS_c (by omega) (notS_c (by omega) (notS_n)))))))) (notS_c (by omega) (notS_c (by omega) (notS_c (by omega) (notS_c (by omega) (notS_c (by omega) (notS_c (by omega) (notS_c (by omega) (notS_n)))))))) (notS_c (by omega) (notS_c (by omega) (notS_c (by omega) (notS_c (by omega) (notS_c (by omega) (notS_c (by omega) (notS_c (by omega) (notS_n)))))))) (fun i => (notS_c (by omega) (notS_c (by omega) (notS_c (by omega) (notS_c (by omega) (notS_c (by omega) (notS_c (by omega) (notS_c (by omega) (notS_n))))))))) (fun i => (notS_c (by omega) (notS_c (by omega) (notS_c (by omega) (notS_c (by omega) (notS_c (by omega) (notS_c (by omega) (notS_c (by omega) (notS_n))))))))) (fun i => (notS_c (by omega) (notS_c (by omega) (notS_c (by omega) (notS_c (by omega) (notS_c (by omega) (notS_c (by omega) (notS_c (by omega) (notS_n))))))))) (fun a h1 h2 i => (notS_c (by omega) (notS_c (by omega) (notS_c (by omega) (notS_c (by omega) (notS_c (by omega) (notS_c (by omega) (notS_c (by omega) (notS_n))))))))) (notS_c (by omega) (notS_c (by omega) (notS_c (by omega) (notS_c (by omega) (notS_c (by omega) (notS_c (by omega) (notS_c (by omega) (notS_n)))))))) (notS_c (by omega) (notS_c (by omega) (notS_c (by omega) (notS_c (by omega) (notS_c (by omega) (notS_c (by omega) (notS_c (by omega) (notS_n)))))))) (notS_c (by omega) (notS_c (by omega) (notS_c (by omega) (notS_c (by omega) (notS_c (by omega) (notS_c (by omega) (notS_c (by omega) (notS_n)))))))) (fun a h1 h2 i => (notS_c (by omega) (notS_c (by omega) (notS_c (by omega) (notS_c (by omega) (notS_c (by omega) (notS_c (by omega) (notS_c (by omega) (notS_n))))))))) (fun a h1 h2 i => (notS_c (by omega) (notS_c (by omega) (notS_c (by omega) (notS_c (by omega) (notS_c (by omega) (notS_c (by omega) (notS_c (by omega) (notS_n))))))))) hcv, (fun hq => GA_f ht hz hst (notS_c (by omega) (notS_c (by omega) (notS_c (by omega) (notS_c (by omega) (notS_c (by omega) (notS_c (by omega) (notS_c (by omega) (notS_n)))))))) (notS_c (by omega) (notS_c (by omega) (notS_c (by omega) (notS_c (by omega) (notS_c (by omega) (notS_c (by omega) (notS_c (by omega) (notS_n)))))))) (fun i => (notS_c (by omega) (notS_c (by omega) (notS_c (by omega) (notS_c (by omega) (notS_c (by omega) (notS_c (by omega) (notS_c (by omega) (notS_n))))))))) (fun a h1 h2 i => (notS_c (by omega) (notS_c (by omega) (notS_c (by omega) (notS_c (by omega) (notS_c (by omega) (notS_c (by omega) (notS_c (by omega) (notS_n))))))))) hq), hst.2.2.1 _ _ (notS_c (by omega) (notS_c (by omega) (notS_c (by omega) (notS_c (by omega) (notS_c (by omega) (notS_c (by omega) (notS_c (by omega) (notS_n))))))))⟩)⟩)
  · skip
    refine r_ld (pc' := 10) rfl rfl rfl rfl ?_
    refine r_ld (pc' := 11) rfl rfl rfl rfl ?_
    have hb66 := rd_T_1 ht hz
    refine r_cVI (pc' := 14) rfl rfl rfl rfl rfl sh_1 (m_133 (d := d + 5) t u a3 hst.1 hst.2.1 ⟨by omega, by omega⟩ ht hu) (fun v67 z68 w69 p70 h71 hs72 hE73 => ?_)
    obtain ⟨rfl, rfl, rfl, hE73⟩ := hE73
    refine r_zeq (pc' := 17) rfl rfl ⟨by omega, by omega⟩ (fun hc75 => ?_) (fun hc75 => ?_)
    · skip
      refine r_c0 (pc' := 27) rfl rfl ?_
      have hb76 := rd_1_15 hz
      exact r_ri rfl (po_I hst ⟨by decide, by decide⟩ ⟨rfl, by omega, by omega, (by exact ⟨CV_f ht hz hst (notS_c (by omega) (notS_c (by omega) (notS_c (by omega) (notS_c (by omega) (notS_c (by omega) (notS_c (by omega) (notS_c (by omega) (notS_n)))))))) (notS_c (by omega) (notS_c (by omega) (notS_c (by omega) (notS_c (by omega) (notS_c (by omega) (notS_c (by omega) (notS_c (by omega) (notS_n)))))))) (notS_c (by omega) (notS_c (by omega) (notS_c (by omega) (notS_c (by omega) (notS_c (by omega) (notS_c (by omega) (notS_c (by omega) (notS_n)))))))) (notS_c (by omega) (notS_c (by omega) (notS_c (by omega) (notS_c (by omega) (notS_c (by omega) (notS_c (by omega) (notS_c (by omega) (notS_n)))))))) (notS_c (by omega) (notS_c (by omega) (notS_c (by omega) (notS_c (by omega) (notS_c (by omega) (notS_c (by omega) (notS_c (by omega) (notS_n)))))))) (fun i => (notS_c (by omega) (notS_c (by omega) (notS_c (by omega) (notS_c (by omega) (notS_c (by omega) (notS_c (by omega) (notS_c (by omega) (notS_n))))))))) (fun i => (notS_c (by omega) (notS_c (by omega) (notS_c (by omega) (notS_c (by omega) (notS_c (by omega) (notS_c (by omega) (notS_c (by omega) (notS_n))))))))) (fun i => (notS_c (by omega) (notS_c (by omega) (notS_c (by omega) (notS_c (by omega) (notS_c (by omega) (notS_c (by omega) (notS_c (by omega) (notS_n))))))))) (fun a h1 h2 i => (notS_c (by omega) (notS_c (by omega) (notS_c (by omega) (notS_c (by omega) (notS_c (by omega) (notS_c (by omega) (notS_c (by omega) (notS_n))))))))) (notS_c (by omega) (notS_c (by omega) (notS_c (by omega) (notS_c (by omega) (notS_c (by omega) (notS_c (by omega) (notS_c (by omega) (notS_n)))))))) (notS_c (by omega) (notS_c (by omega) (notS_c (by omega) (notS_c (by omega) (notS_c (by omega) (notS_c (by omega) (notS_c (by omega) (notS_n)))))))) (notS_c (by omega) (notS_c (by omega) (notS_c (by omega) (notS_c (by omega) (notS_c (by omega) (notS_c (by omega) (notS_c (by omega) (notS_n)))))))) (fun a h1 h2 i => (notS_c (by omega) (notS_c (by omega) (notS_c (by omega) (notS_c (by omega) (notS_c (by omega) (notS_c (by omega) (notS_c (by omega) (notS_n))))))))) (fun a h1 h2 i => (notS_c (by omega) (notS_c (by omega) (notS_c (by omega) (notS_c (by omega) (notS_c (by omega) (notS_c (by omega) (notS_c (by omega) (notS_n))))))))) hcv, (fun hq => GA_f ht hz hst (notS_c (by omega) (notS_c (by omega) (notS_c (by omega) (notS_c (by omega) (notS_c (by omega) (notS_c (by omega) (notS_c (by omega) (notS_n)))))))) (notS_c (by omega) (notS_c (by omega) (notS_c (by omega) (notS_c (by omega) (notS_c (by omega) (notS_c (by omega) (notS_c (by omega) (notS_n)))))))) (fun i => (notS_c (by omega) (notS_c (by omega) (notS_c (by omega) (notS_c (by omega) (notS_c (by omega) (notS_c (by omega) (notS_c (by omega) (notS_n))))))))) (fun a h1 h2 i => (notS_c (by omega) (notS_c (by omega) (notS_c (by omega) (notS_c (by omega) (notS_c (by omega) (notS_c (by omega) (notS_c (by omega) (notS_n))))))))) hq), hst.2.2.1 _ _ (notS_c (by omega) (notS_c (by omega) (notS_c (by omega) (notS_c (by omega) (notS_c (by omega) (notS_c (by omega) (notS_c (by omega) (notS_n))))))))⟩)⟩)
    · skip
      refine r_ld (pc' := 18) rfl rfl rfl rfl ?_
      refine r_ld (pc' := 20) rfl rfl rfl rfl ?_
      refine r_cVI (pc' := 23) rfl rfl rfl rfl rfl sh_1 (m_133 (d := d + 5) t u a4 hst.1 hst.2.1 ⟨by omega, by omega⟩ ht hu) (fun v77 z78 w79 p80 h81 hs82 hE83 => ?_)
      obtain ⟨rfl, rfl, rfl, hE83⟩ := hE83
      refine r_zne (pc' := 26) rfl rfl ⟨by omega, by omega⟩ (fun hc85 => ?_) (fun hc85 => ?_)
      · skip
        refine r_ld (pc' := 29) rfl rfl rfl rfl ?_
        refine r_ld (pc' := 30) rfl rfl rfl rfl ?_
        refine r_ld (pc' := 31) rfl rfl rfl rfl ?_
        refine r_cVI (pc' := 34) rfl rfl rfl rfl rfl sh_1 (m_139 (d := d) t u a1 a2 hst.1 hst.2.1 ⟨by omega, by omega⟩ ⟨by omega, by omega⟩ ht hu (by exact hwt) (by exact hcv.2.1) (by exact hga) (by exact (hcs (by omega)).2.2.1) (by exact (hcs (by omega)).2.2.2.2.1)) (fun v86 z87 w88 p89 h90 hs91 hE92 => ?_)
        have hs93 := st_tr hst hs91 (sub_B rfl)
        obtain ⟨rfl, hE92⟩ := hE92
        refine r_zeq (pc' := 37) rfl rfl ⟨by omega, by omega⟩ (fun hc94 => ?_) (fun hc94 => ?_)
        · skip
          refine r_cb (pc' := 52) rfl (by decide) rfl ?_
          have hb95 := rd_1_15 hz
          have hf96 : z87 1 15 = z0 1 15 := (hs91.2.2.1 _ _ (notS_c (by omega) (notS_c (by omega) (notS_c (by omega) (notS_c (by omega) (notS_c (by omega) (notS_c (by omega) (notS_c (by omega) notS_n))))))))
          exact r_ri rfl (po_I hs93 ⟨by decide, by decide⟩ ⟨rfl, by omega, by omega, (by exact ⟨CV_f ht hz hs93 (notS_c (by omega) (notS_c (by omega) (notS_c (by omega) (notS_c (by omega) (notS_c (by omega) (notS_c (by omega) (notS_c (by omega) (notS_n)))))))) (notS_c (by omega) (notS_c (by omega) (notS_c (by omega) (notS_c (by omega) (notS_c (by omega) (notS_c (by omega) (notS_c (by omega) (notS_n)))))))) (notS_c (by omega) (notS_c (by omega) (notS_c (by omega) (notS_c (by omega) (notS_c (by omega) (notS_c (by omega) (notS_c (by omega) (notS_n)))))))) (notS_c (by omega) (notS_c (by omega) (notS_c (by omega) (notS_c (by omega) (notS_c (by omega) (notS_c (by omega) (notS_c (by omega) (notS_n)))))))) (notS_c (by omega) (notS_c (by omega) (notS_c (by omega) (notS_c (by omega) (notS_c (by omega) (notS_c (by omega) (notS_c (by omega) (notS_n)))))))) (fun i => (notS_c (by omega) (notS_c (by omega) (notS_c (by omega) (notS_c (by omega) (notS_c (by omega) (notS_c (by omega) (notS_c (by omega) (notS_n))))))))) (fun i => (notS_c (by omega) (notS_c (by omega) (notS_c (by omega) (notS_c (by omega) (notS_c (by omega) (notS_c (by omega) (notS_c (by omega) (notS_n))))))))) (fun i => (notS_c (by omega) (notS_c (by omega) (notS_c (by omega) (notS_c (by omega) (notS_c (by omega) (notS_c (by omega) (notS_c (by omega) (notS_n))))))))) (fun a h1 h2 i => (notS_c (by omega) (notS_c (by omega) (notS_c (by omega) (notS_c (by omega) (notS_c (by omega) (notS_c (by omega) (notS_c (by omega) (notS_n))))))))) (notS_c (by omega) (notS_c (by omega) (notS_c (by omega) (notS_c (by omega) (notS_c (by omega) (notS_c (by omega) (notS_c (by omega) (notS_n)))))))) (notS_c (by omega) (notS_c (by omega) (notS_c (by omega) (notS_c (by omega) (notS_c (by omega) (notS_c (by omega) (notS_c (by omega) (notS_n)))))))) (notS_c (by omega) (notS_c (by omega) (notS_c (by omega) (notS_c (by omega) (notS_c (by omega) (notS_c (by omega) (notS_c (by omega) (notS_n)))))))) (fun a h1 h2 i => (notS_c (by omega) (notS_c (by omega) (notS_c (by omega) (notS_c (by omega) (notS_c (by omega) (notS_c (by omega) (notS_c (by omega) (notS_n))))))))) (fun a h1 h2 i => (notS_c (by omega) (notS_c (by omega) (notS_c (by omega) (notS_c (by omega) (notS_c (by omega) (notS_c (by omega) (notS_c (by omega) (notS_n))))))))) hcv, (fun hq => GA_f ht hz hs93 (notS_c (by omega) (notS_c (by omega) (notS_c (by omega) (notS_c (by omega) (notS_c (by omega) (notS_c (by omega) (notS_c (by omega) (notS_n)))))))) (notS_c (by omega) (notS_c (by omega) (notS_c (by omega) (notS_c (by omega) (notS_c (by omega) (notS_c (by omega) (notS_c (by omega) (notS_n)))))))) (fun i => (notS_c (by omega) (notS_c (by omega) (notS_c (by omega) (notS_c (by omega) (notS_c (by omega) (notS_c (by omega) (notS_c (by omega) (notS_n))))))))) (fun a h1 h2 i => (notS_c (by omega) (notS_c (by omega) (notS_c (by omega) (notS_c (by omega) (notS_c (by omega) (notS_c (by omega) (notS_c (by omega) (notS_n))))))))) hq), hs93.2.2.1 _ _ (notS_c (by omega) (notS_c (by omega) (notS_c (by omega) (notS_c (by omega) (notS_c (by omega) (notS_c (by omega) (notS_c (by omega) (notS_n))))))))⟩)⟩)
        · skip
          refine r_ld (pc' := 38) rfl rfl rfl rfl ?_
          refine r_gr (b := 102) (pc' := 41) rfl rfl sh_1 rfl pp_1_7 ?_
          refine r_ld (pc' := 42) rfl rfl rfl rfl ?_
          refine r_ld (pc' := 44) rfl rfl rfl rfl ?_
          refine r_cVI (pc' := 47) rfl rfl rfl rfl rfl sh_102 (m_68 (d := d + 5) a3 a4 hs93.1 hs93.2.1 ⟨by omega, by omega⟩ ⟨by omega, by omega⟩) (fun v97 z98 w99 p100 h101 hs102 hE103 => ?_)
          obtain ⟨rfl, rfl, rfl, hE103⟩ := hE103
          refine r_go rfl ?_
          have hb105 := rd_1_15 hz
          have hf106 : z87 1 15 = z0 1 15 := (hs91.2.2.1 _ _ (notS_c (by omega) (notS_c (by omega) (notS_c (by omega) (notS_c (by omega) (notS_c (by omega) (notS_c (by omega) (notS_c (by omega) notS_n))))))))
          exact r_ri rfl (po_I hs93 ⟨by omega, by omega⟩ ⟨rfl, by omega, by omega, (by exact ⟨CV_f ht hz hs93 (notS_c (by omega) (notS_c (by omega) (notS_c (by omega) (notS_c (by omega) (notS_c (by omega) (notS_c (by omega) (notS_c (by omega) (notS_n)))))))) (notS_c (by omega) (notS_c (by omega) (notS_c (by omega) (notS_c (by omega) (notS_c (by omega) (notS_c (by omega) (notS_c (by omega) (notS_n)))))))) (notS_c (by omega) (notS_c (by omega) (notS_c (by omega) (notS_c (by omega) (notS_c (by omega) (notS_c (by omega) (notS_c (by omega) (notS_n)))))))) (notS_c (by omega) (notS_c (by omega) (notS_c (by omega) (notS_c (by omega) (notS_c (by omega) (notS_c (by omega) (notS_c (by omega) (notS_n)))))))) (notS_c (by omega) (notS_c (by omega) (notS_c (by omega) (notS_c (by omega) (notS_c (by omega) (notS_c (by omega) (notS_c (by omega) (notS_n)))))))) (fun i => (notS_c (by omega) (notS_c (by omega) (notS_c (by omega) (notS_c (by omega) (notS_c (by omega) (notS_c (by omega) (notS_c (by omega) (notS_n))))))))) (fun i => (notS_c (by omega) (notS_c (by omega) (notS_c (by omega) (notS_c (by omega) (notS_c (by omega) (notS_c (by omega) (notS_c (by omega) (notS_n))))))))) (fun i => (notS_c (by omega) (notS_c (by omega) (notS_c (by omega) (notS_c (by omega) (notS_c (by omega) (notS_c (by omega) (notS_c (by omega) (notS_n))))))))) (fun a h1 h2 i => (notS_c (by omega) (notS_c (by omega) (notS_c (by omega) (notS_c (by omega) (notS_c (by omega) (notS_c (by omega) (notS_c (by omega) (notS_n))))))))) (notS_c (by omega) (notS_c (by omega) (notS_c (by omega) (notS_c (by omega) (notS_c (by omega) (notS_c (by omega) (notS_c (by omega) (notS_n)))))))) (notS_c (by omega) (notS_c (by omega) (notS_c (by omega) (notS_c (by omega) (notS_c (by omega) (notS_c (by omega) (notS_c (by omega) (notS_n)))))))) (notS_c (by omega) (notS_c (by omega) (notS_c (by omega) (notS_c (by omega) (notS_c (by omega) (notS_c (by omega) (notS_c (by omega) (notS_n)))))))) (fun a h1 h2 i => (notS_c (by omega) (notS_c (by omega) (notS_c (by omega) (notS_c (by omega) (notS_c (by omega) (notS_c (by omega) (notS_c (by omega) (notS_n))))))))) (fun a h1 h2 i => (notS_c (by omega) (notS_c (by omega) (notS_c (by omega) (notS_c (by omega) (notS_c (by omega) (notS_c (by omega) (notS_c (by omega) (notS_n))))))))) hcv, (fun hq => GA_f ht hz hs93 (notS_c (by omega) (notS_c (by omega) (notS_c (by omega) (notS_c (by omega) (notS_c (by omega) (notS_c (by omega) (notS_c (by omega) (notS_n)))))))) (notS_c (by omega) (notS_c (by omega) (notS_c (by omega) (notS_c (by omega) (notS_c (by omega) (notS_c (by omega) (notS_c (by omega) (notS_n)))))))) (fun i => (notS_c (by omega) (notS_c (by omega) (notS_c (by omega) (notS_c (by omega) (notS_c (by omega) (notS_c (by omega) (notS_c (by omega) (notS_n))))))))) (fun a h1 h2 i => (notS_c (by omega) (notS_c (by omega) (notS_c (by omega) (notS_c (by omega) (notS_c (by omega) (notS_c (by omega) (notS_c (by omega) (notS_n))))))))) hq), hs93.2.2.1 _ _ (notS_c (by omega) (notS_c (by omega) (notS_c (by omega) (notS_c (by omega) (notS_c (by omega) (notS_c (by omega) (notS_c (by omega) (notS_n))))))))⟩)⟩)
      · skip
        refine r_c0 (pc' := 27) rfl rfl ?_
        have hb107 := rd_1_15 hz
        exact r_ri rfl (po_I hst ⟨by decide, by decide⟩ ⟨rfl, by omega, by omega, (by exact ⟨CV_f ht hz hst (notS_c (by omega) (notS_c (by omega) (notS_c (by omega) (notS_c (by omega) (notS_c (by omega) (notS_c (by omega) (notS_c (by omega) (notS_n)))))))) (notS_c (by omega) (notS_c (by omega) (notS_c (by omega) (notS_c (by omega) (notS_c (by omega) (notS_c (by omega) (notS_c (by omega) (notS_n)))))))) (notS_c (by omega) (notS_c (by omega) (notS_c (by omega) (notS_c (by omega) (notS_c (by omega) (notS_c (by omega) (notS_c (by omega) (notS_n)))))))) (notS_c (by omega) (notS_c (by omega) (notS_c (by omega) (notS_c (by omega) (notS_c (by omega) (notS_c (by omega) (notS_c (by omega) (notS_n)))))))) (notS_c (by omega) (notS_c (by omega) (notS_c (by omega) (notS_c (by omega) (notS_c (by omega) (notS_c (by omega) (notS_c (by omega) (notS_n)))))))) (fun i => (notS_c (by omega) (notS_c (by omega) (notS_c (by omega) (notS_c (by omega) (notS_c (by omega) (notS_c (by omega) (notS_c (by omega) (notS_n))))))))) (fun i => (notS_c (by omega) (notS_c (by omega) (notS_c (by omega) (notS_c (by omega) (notS_c (by omega) (notS_c (by omega) (notS_c (by omega) (notS_n))))))))) (fun i => (notS_c (by omega) (notS_c (by omega) (notS_c (by omega) (notS_c (by omega) (notS_c (by omega) (notS_c (by omega) (notS_c (by omega) (notS_n))))))))) (fun a h1 h2 i => (notS_c (by omega) (notS_c (by omega) (notS_c (by omega) (notS_c (by omega) (notS_c (by omega) (notS_c (by omega) (notS_c (by omega) (notS_n))))))))) (notS_c (by omega) (notS_c (by omega) (notS_c (by omega) (notS_c (by omega) (notS_c (by omega) (notS_c (by omega) (notS_c (by omega) (notS_n)))))))) (notS_c (by omega) (notS_c (by omega) (notS_c (by omega) (notS_c (by omega) (notS_c (by omega) (notS_c (by omega) (notS_c (by omega) (notS_n)))))))) (notS_c (by omega) (notS_c (by omega) (notS_c (by omega) (notS_c (by omega) (notS_c (by omega) (notS_c (by omega) (notS_c (by omega) (notS_n)))))))) (fun a h1 h2 i => (notS_c (by omega) (notS_c (by omega) (notS_c (by omega) (notS_c (by omega) (notS_c (by omega) (notS_c (by omega) (notS_c (by omega) (notS_n))))))))) (fun a h1 h2 i => (notS_c (by omega) (notS_c (by omega) (notS_c (by omega) (notS_c (by omega) (notS_c (by omega) (notS_c (by omega) (notS_c (by omega) (notS_n))))))))) hcv, (fun hq => GA_f ht hz hst (notS_c (by omega) (notS_c (by omega) (notS_c (by omega) (notS_c (by omega) (notS_c (by omega) (notS_c (by omega) (notS_c (by omega) (notS_n)))))))) (notS_c (by omega) (notS_c (by omega) (notS_c (by omega) (notS_c (by omega) (notS_c (by omega) (notS_c (by omega) (notS_c (by omega) (notS_n)))))))) (fun i => (notS_c (by omega) (notS_c (by omega) (notS_c (by omega) (notS_c (by omega) (notS_c (by omega) (notS_c (by omega) (notS_c (by omega) (notS_n))))))))) (fun a h1 h2 i => (notS_c (by omega) (notS_c (by omega) (notS_c (by omega) (notS_c (by omega) (notS_c (by omega) (notS_c (by omega) (notS_c (by omega) (notS_n))))))))) hq), hst.2.2.1 _ _ (notS_c (by omega) (notS_c (by omega) (notS_c (by omega) (notS_c (by omega) (notS_c (by omega) (notS_c (by omega) (notS_c (by omega) (notS_n))))))))⟩)⟩)
/-- LoopGround table -/
abbrev S_119z  : mS := []
abbrev E_119z (t : Nat) (u : Nat) (a1 : Int) (a2 : Int) (a3 : Int) (a4 : Int) (z0 w0 : mZ) (tx it tt ct : Option Nat) : Int → mZ → mZ → mP → Prop := fun v z w p => p = (pq (some t) (some u) tx it none tt ct) ∧ z0 = z ∧ w0 = w ∧ (-1) ≤ v ∧ v ≤ (-1) ∧ (CV z w t ∧ (GA z0 z0 t → GA z z t) ∧ z 1 15 = z0 1 15)
theorem m_119z {d : Nat} {z0 w0 : mZ} {tx it tt ct : Option Nat} (t : Nat) (u : Nat) (a1 : Int) (a2 : Int) (a3 : Int) (a4 : Int) (hz : rz z0) (hw : rw_ w0) (ha1 : (-2147483648) ≤ a1 ∧ a1 ≤ 2147483647) (ha2 : (-2147483648) ≤ a2 ∧ a2 ≤ 2147483647) (ha3 : (-2147483648) ≤ a3 ∧ a3 ≤ 2147483647) (ha4 : (-2147483648) ≤ a4 ∧ a4 ≤ 2147483647) (ht : isT t) (hu : isT u) (hcv : CV z0 w0 t) : wc (d + 7) 119 [.ref 1, .int (Int32.ofInt a1), .int (Int32.ofInt a2), .int (Int32.ofInt a3), .int (Int32.ofInt a4)] (mk z0 w0 (pq (some t) (some u) tx it none tt ct)) (poI S_119z z0 w0 (E_119z t u a1 a2 a3 a4 z0 w0 tx it tt ct)) := by
  have hst : st_ S_119z z0 w0 z0 w0 := st_rf hz hw
  have htb : 159 ≤ t ∧ t ≤ 192 := by have := ht; unfold isT at this; omega
  have hub : 159 ≤ u ∧ u ≤ 192 := by have := hu; unfold isT at this; omega
  have hz10 := rd_1_15 hz
  have hwt := hcv.1
  have hzt3 := rd_T_3 ht hz
  have h390 := rd_39_0 hz
  have h391 := rd_39_1 hz
  have h392 := rd_39_2 hz
  refine w_m rfl rfl ?_
  refine r_ld (pc' := 1) rfl rfl rfl rfl ?_
  refine r_ld (pc' := 2) rfl rfl rfl rfl ?_
  refine r_ld (pc' := 3) rfl rfl rfl rfl ?_
  refine r_cVI (pc' := 6) rfl rfl rfl rfl rfl sh_1 (m_138z (d := d + 2) t u a1 a2 hst.1 hst.2.1 ⟨by omega, by omega⟩ ⟨by omega, by omega⟩ ht hu) (fun v11 z12 w13 p14 h15 hs16 hE17 => ?_)
  obtain ⟨rfl, rfl, rfl, hE17⟩ := hE17
  refine r_zeq (pc' := 9) rfl rfl ⟨by omega, by omega⟩ (fun hc19 => ?_) (fun hc19 => ?_)
  · skip
    refine r_c0 (pc' := 27) rfl rfl ?_
    exact r_ri rfl (po_I hst ⟨by decide, by decide⟩ ⟨rfl, rfl, rfl, by omega, by omega, (by exact ⟨CV_f ht hz hst (notS_n) (notS_n) (notS_n) (notS_n) (notS_n) (fun i => (notS_n)) (fun i => (notS_n)) (fun i => (notS_n)) (fun a h1 h2 i => (notS_n)) (notS_n) (notS_n) (notS_n) (fun a h1 h2 i => (notS_n)) (fun a h1 h2 i => (notS_n)) hcv, (fun hq => GA_f ht hz hst (notS_n) (notS_n) (fun i => (notS_n)) (fun a h1 h2 i => (notS_n)) hq), hst.2.2.1 _ _ (notS_n)⟩)⟩)
  · exfalso; omega
/-- LoopGround polynomial -/
abbrev S_120s  : mS := [(102, 102, 1, 1), (102, 102, 2, 2), (102, 102, 3, 3), (102, 102, 4, 4), (104, 121, 0, 17), (157, 157, 0, 17), (102, 102, 0, 0), (123, 140, 0, 17), (142, 142, 0, 18), (141, 141, 0, 17)]
abbrev E_120s (t : Nat) (u : Nat) (a1 : Int) (a2 : Int) (a3 : Int) (z0 w0 : mZ) (tx it tt ct : Option Nat) : Int → mZ → mZ → mP → Prop := fun v z w p => p = (pq (some t) (some u) tx it (some t) tt ct) ∧ (-2147483648) ≤ v ∧ v ≤ 2147483647 ∧ (CV z w t ∧ (GA z0 z0 t → GA z z t) ∧ z 1 15 = z0 1 15)
theorem m_120s {d : Nat} {z0 w0 : mZ} {tx it tt ct : Option Nat} (t : Nat) (u : Nat) (a1 : Int) (a2 : Int) (a3 : Int) (hz : rz z0) (hw : rw_ w0) (ha1 : (-2147483648) ≤ a1 ∧ a1 ≤ 2147483647) (ha2 : (-2147483648) ≤ a2 ∧ a2 ≤ 2147483647) (ha3 : (-2147483648) ≤ a3 ∧ a3 ≤ 2147483647) (ht : isT t) (hu : isT u) (hcv : CV z0 w0 t) (hga : GA z0 z0 t) : wc (d + 7) 120 [.ref 1, .int (Int32.ofInt a1), .int (Int32.ofInt a2), .int (Int32.ofInt a3)] (mk z0 w0 (pq (some t) (some u) tx it (some t) tt ct)) (poI S_120s z0 w0 (E_120s t u a1 a2 a3 z0 w0 tx it tt ct)) := by
  have hst : st_ S_120s z0 w0 z0 w0 := st_rf hz hw
  have htb : 159 ≤ t ∧ t ≤ 192 := by have := ht; unfold isT at this; omega
  have hub : 159 ≤ u ∧ u ≤ 192 := by have := hu; unfold isT at this; omega
  have hz38 := rd_1_15 hz
  have hwt := hcv.1
  have hzt3 := rd_T_3 ht hz
  have h390 := rd_39_0 hz
  have h391 := rd_39_1 hz
  have h392 := rd_39_2 hz
  refine w_m rfl rfl ?_
  refine r_ld (pc' := 1) rfl rfl rfl rfl ?_
  refine r_ld (pc' := 2) rfl rfl rfl rfl ?_
  refine r_ld (pc' := 3) rfl rfl rfl rfl ?_
  have hb39 := rd_T_3 ht hz
  refine r_cVI (pc' := 6) rfl rfl rfl rfl rfl sh_1 (m_138s (d := d + 2) t u a1 a2 hst.1 hst.2.1 ⟨by omega, by omega⟩ ⟨by omega, by omega⟩ ht hu) (fun v40 z41 w42 p43 h44 hs45 hE46 => ?_)
  obtain ⟨rfl, rfl, rfl, hE46⟩ := hE46
  have hcs := hE46.2.2
  refine r_zeq (pc' := 9) rfl rfl ⟨by omega, by omega⟩ (fun hc48 => ?_) (fun hc48 => ?_)
  · skip
    refine r_c0 (pc' := 25) rfl rfl ?_
    have hb49 := rd_1_15 hz
    exact r_ri rfl (po_I hst ⟨by decide, by decide⟩ ⟨rfl, by omega, by omega, (by exact ⟨CV_f ht hz hst (notS_c (by omega) (notS_c (by omega) (notS_c (by omega) (notS_c (by omega) (notS_c (by omega) (notS_c (by omega) (notS_c (by omega) (notS_c (by omega) (notS_c (by omega) (notS_c (by omega) (notS_n))))))))))) (notS_c (by omega) (notS_c (by omega) (notS_c (by omega) (notS_c (by omega) (notS_c (by omega) (notS_c (by omega) (notS_c (by omega) (notS_c (by omega) (notS_c (by omega) (notS_c (by omega) (notS_n))))))))))) (notS_c (by omega) (notS_c (by omega) (notS_c (by omega) (notS_c (by omega) (notS_c (by omega) (notS_c (by omega) (notS_c (by omega) (notS_c (by omega) (notS_c (by omega) (notS_c (by omega) (notS_n))))))))))) (notS_c (by omega) (notS_c (by omega) (notS_c (by omega) (notS_c (by omega) (notS_c (by omega) (notS_c (by omega) (notS_c (by omega) (notS_c (by omega) (notS_c (by omega) (notS_c (by omega) (notS_n))))))))))) (notS_c (by omega) (notS_c (by omega) (notS_c (by omega) (notS_c (by omega) (notS_c (by omega) (notS_c (by omega) (notS_c (by omega) (notS_c (by omega) (notS_c (by omega) (notS_c (by omega) (notS_n))))))))))) (fun i => (notS_c (by omega) (notS_c (by omega) (notS_c (by omega) (notS_c (by omega) (notS_c (by omega) (notS_c (by omega) (notS_c (by omega) (notS_c (by omega) (notS_c (by omega) (notS_c (by omega) (notS_n)))))))))))) (fun i => (notS_c (by omega) (notS_c (by omega) (notS_c (by omega) (notS_c (by omega) (notS_c (by omega) (notS_c (by omega) (notS_c (by omega) (notS_c (by omega) (notS_c (by omega) (notS_c (by omega) (notS_n)))))))))))) (fun i => (notS_c (by omega) (notS_c (by omega) (notS_c (by omega) (notS_c (by omega) (notS_c (by omega) (notS_c (by omega) (notS_c (by omega) (notS_c (by omega) (notS_c (by omega) (notS_c (by omega) (notS_n)))))))))))) (fun a h1 h2 i => (notS_c (by omega) (notS_c (by omega) (notS_c (by omega) (notS_c (by omega) (notS_c (by omega) (notS_c (by omega) (notS_c (by omega) (notS_c (by omega) (notS_c (by omega) (notS_c (by omega) (notS_n)))))))))))) (notS_c (by omega) (notS_c (by omega) (notS_c (by omega) (notS_c (by omega) (notS_c (by omega) (notS_c (by omega) (notS_c (by omega) (notS_c (by omega) (notS_c (by omega) (notS_c (by omega) (notS_n))))))))))) (notS_c (by omega) (notS_c (by omega) (notS_c (by omega) (notS_c (by omega) (notS_c (by omega) (notS_c (by omega) (notS_c (by omega) (notS_c (by omega) (notS_c (by omega) (notS_c (by omega) (notS_n))))))))))) (notS_c (by omega) (notS_c (by omega) (notS_c (by omega) (notS_c (by omega) (notS_c (by omega) (notS_c (by omega) (notS_c (by omega) (notS_c (by omega) (notS_c (by omega) (notS_c (by omega) (notS_n))))))))))) (fun a h1 h2 i => (notS_c (by omega) (notS_c (by omega) (notS_c (by omega) (notS_c (by omega) (notS_c (by omega) (notS_c (by omega) (notS_c (by omega) (notS_c (by omega) (notS_c (by omega) (notS_c (by omega) (notS_n)))))))))))) (fun a h1 h2 i => (notS_c (by omega) (notS_c (by omega) (notS_c (by omega) (notS_c (by omega) (notS_c (by omega) (notS_c (by omega) (notS_c (by omega) (notS_c (by omega) (notS_c (by omega) (notS_c (by omega) (notS_n)))))))))))) hcv, (fun hq => GA_f ht hz hst (notS_c (by omega) (notS_c (by omega) (notS_c (by omega) (notS_c (by omega) (notS_c (by omega) (notS_c (by omega) (notS_c (by omega) (notS_c (by omega) (notS_c (by omega) (notS_c (by omega) (notS_n))))))))))) (notS_c (by omega) (notS_c (by omega) (notS_c (by omega) (notS_c (by omega) (notS_c (by omega) (notS_c (by omega) (notS_c (by omega) (notS_c (by omega) (notS_c (by omega) (notS_c (by omega) (notS_n))))))))))) (fun i => (notS_c (by omega) (notS_c (by omega) (notS_c (by omega) (notS_c (by omega) (notS_c (by omega) (notS_c (by omega) (notS_c (by omega) (notS_c (by omega) (notS_c (by omega) (notS_c (by omega) (notS_n)))))))))))) (fun a h1 h2 i => (notS_c (by omega) (notS_c (by omega) (notS_c (by omega) (notS_c (by omega) (notS_c (by omega) (notS_c (by omega) (notS_c (by omega) (notS_c (by omega) (notS_c (by omega) (notS_c (by omega) (notS_n)))))))))))) hq), hst.2.2.1 _ _ (notS_c (by omega) (notS_c (by omega) (notS_c (by omega) (notS_c (by omega) (notS_c (by omega) (notS_c (by omega) (notS_c (by omega) (notS_c (by omega) (notS_c (by omega) (notS_c (by omega) (notS_n)))))))))))⟩)⟩)
  · skip
    refine r_ld (pc' := 10) rfl rfl rfl rfl ?_
    refine r_zlt (pc' := 13) rfl rfl ⟨by omega, by omega⟩ (fun hc50 => ?_) (fun hc50 => ?_)
    · skip
      refine r_c0 (pc' := 25) rfl rfl ?_
      have hb51 := rd_1_15 hz
      exact r_ri rfl (po_I hst ⟨by decide, by decide⟩ ⟨rfl, by omega, by omega, (by exact ⟨CV_f ht hz hst (notS_c (by omega) (notS_c (by omega) (notS_c (by omega) (notS_c (by omega) (notS_c (by omega) (notS_c (by omega) (notS_c (by omega) (notS_c (by omega) (notS_c (by omega) (notS_c (by omega) (notS_n))))))))))) (notS_c (by omega) (notS_c (by omega) (notS_c (by omega) (notS_c (by omega) (notS_c (by omega) (notS_c (by omega) (notS_c (by omega) (notS_c (by omega) (notS_c (by omega) (notS_c (by omega) (notS_n))))))))))) (notS_c (by omega) (notS_c (by omega) (notS_c (by omega) (notS_c (by omega) (notS_c (by omega) (notS_c (by omega) (notS_c (by omega) (notS_c (by omega) (notS_c (by omega) (notS_c (by omega) (notS_n))))))))))) (notS_c (by omega) (notS_c (by omega) (notS_c (by omega) (notS_c (by omega) (notS_c (by omega) (notS_c (by omega) (notS_c (by omega) (notS_c (by omega) (notS_c (by omega) (notS_c (by omega) (notS_n))))))))))) (notS_c (by omega) (notS_c (by omega) (notS_c (by omega) (notS_c (by omega) (notS_c (by omega) (notS_c (by omega) (notS_c (by omega) (notS_c (by omega) (notS_c (by omega) (notS_c (by omega) (notS_n))))))))))) (fun i => (notS_c (by omega) (notS_c (by omega) (notS_c (by omega) (notS_c (by omega) (notS_c (by omega) (notS_c (by omega) (notS_c (by omega) (notS_c (by omega) (notS_c (by omega) (notS_c (by omega) (notS_n)))))))))))) (fun i => (notS_c (by omega) (notS_c (by omega) (notS_c (by omega) (notS_c (by omega) (notS_c (by omega) (notS_c (by omega) (notS_c (by omega) (notS_c (by omega) (notS_c (by omega) (notS_c (by omega) (notS_n)))))))))))) (fun i => (notS_c (by omega) (notS_c (by omega) (notS_c (by omega) (notS_c (by omega) (notS_c (by omega) (notS_c (by omega) (notS_c (by omega) (notS_c (by omega) (notS_c (by omega) (notS_c (by omega) (notS_n)))))))))))) (fun a h1 h2 i => (notS_c (by omega) (notS_c (by omega) (notS_c (by omega) (notS_c (by omega) (notS_c (by omega) (notS_c (by omega) (notS_c (by omega) (notS_c (by omega) (notS_c (by omega) (notS_c (by omega) (notS_n)))))))))))) (notS_c (by omega) (notS_c (by omega) (notS_c (by omega) (notS_c (by omega) (notS_c (by omega) (notS_c (by omega) (notS_c (by omega) (notS_c (by omega) (notS_c (by omega) (notS_c (by omega) (notS_n))))))))))) (notS_c (by omega) (notS_c (by omega) (notS_c (by omega) (notS_c (by omega) (notS_c (by omega) (notS_c (by omega) (notS_c (by omega) (notS_c (by omega) (notS_c (by omega) (notS_c (by omega) (notS_n))))))))))) (notS_c (by omega) (notS_c (by omega) (notS_c (by omega) (notS_c (by omega) (notS_c (by omega) (notS_c (by omega) (notS_c (by omega) (notS_c (by omega) (notS_c (by omega) (notS_c (by omega) (notS_n))))))))))) (fun a h1 h2 i => (notS_c (by omega) (notS_c (by omega) (notS_c (by omega) (notS_c (by omega) (notS_c (by omega) (notS_c (by omega) (notS_c (by omega) (notS_c (by omega) (notS_c (by omega) (notS_c (by omega) (notS_n)))))))))))) (fun a h1 h2 i => (notS_c (by omega) (notS_c (by omega) (notS_c (by omega) (notS_c (by omega) (notS_c (by omega) (notS_c (by omega) (notS_c (by omega) (notS_c (by omega) (notS_c (by omega) (notS_c (by omega) (notS_n)))))))))))) hcv, (fun hq => GA_f ht hz hst (notS_c (by omega) (notS_c (by omega) (notS_c (by omega) (notS_c (by omega) (notS_c (by omega) (notS_c (by omega) (notS_c (by omega) (notS_c (by omega) (notS_c (by omega) (notS_c (by omega) (notS_n))))))))))) (notS_c (by omega) (notS_c (by omega) (notS_c (by omega) (notS_c (by omega) (notS_c (by omega) (notS_c (by omega) (notS_c (by omega) (notS_c (by omega) (notS_c (by omega) (notS_c (by omega) (notS_n))))))))))) (fun i => (notS_c (by omega) (notS_c (by omega) (notS_c (by omega) (notS_c (by omega) (notS_c (by omega) (notS_c (by omega) (notS_c (by omega) (notS_c (by omega) (notS_c (by omega) (notS_c (by omega) (notS_n)))))))))))) (fun a h1 h2 i => (notS_c (by omega) (notS_c (by omega) (notS_c (by omega) (notS_c (by omega) (notS_c (by omega) (notS_c (by omega) (notS_c (by omega) (notS_c (by omega) (notS_c (by omega) (notS_c (by omega) (notS_n)))))))))))) hq), hst.2.2.1 _ _ (notS_c (by omega) (notS_c (by omega) (notS_c (by omega) (notS_c (by omega) (notS_c (by omega) (notS_c (by omega) (notS_c (by omega) (notS_c (by omega) (notS_c (by omega) (notS_c (by omega) (notS_n)))))))))))⟩)⟩)
    · skip
      refine r_ld (pc' := 14) rfl rfl rfl rfl ?_
      refine r_ld (pc' := 15) rfl rfl rfl rfl ?_
      refine r_gr (b := t) (pc' := 18) rfl rfl sh_1 rfl pp_1_13 ?_
      have hb52 := rd_T_1 ht hz
      refine r_gi (pc' := 21) rfl rfl (sh_T ht) rfl rfl ?_
      refine r_ile (pc' := 24) rfl rfl ⟨by omega, by omega⟩ ⟨by omega, by omega⟩ (fun hc53 => ?_) (fun hc53 => ?_)
      · skip
        refine r_ld (pc' := 27) rfl rfl rfl rfl ?_
        refine r_ld (pc' := 28) rfl rfl rfl rfl ?_
        refine r_ld (pc' := 29) rfl rfl rfl rfl ?_
        refine r_cVI (pc' := 32) rfl rfl rfl rfl rfl sh_1 (m_139 (d := d) t u a1 a2 hst.1 hst.2.1 ⟨by omega, by omega⟩ ⟨by omega, by omega⟩ ht hu (by exact hwt) (by exact hcv.2.1) (by exact hga) (by exact (hcs (by omega)).2.2.1) (by exact (hcs (by omega)).2.2.2.2.1)) (fun v54 z55 w56 p57 h58 hs59 hE60 => ?_)
        have hs61 := st_tr hst hs59 (sub_B rfl)
        obtain ⟨rfl, hE60⟩ := hE60
        refine r_zeq (pc' := 35) rfl rfl ⟨by omega, by omega⟩ (fun hc62 => ?_) (fun hc62 => ?_)
        · skip
          refine r_cb (pc' := 48) rfl (by decide) rfl ?_
          have hb63 := rd_1_15 hz
          have hf64 : z55 1 15 = z0 1 15 := (hs59.2.2.1 _ _ (notS_c (by omega) (notS_c (by omega) (notS_c (by omega) (notS_c (by omega) (notS_c (by omega) (notS_c (by omega) (notS_c (by omega) notS_n))))))))
          exact r_ri rfl (po_I hs61 ⟨by decide, by decide⟩ ⟨rfl, by omega, by omega, (by exact ⟨CV_f ht hz hs61 (notS_c (by omega) (notS_c (by omega) (notS_c (by omega) (notS_c (by omega) (notS_c (by omega) (notS_c (by omega) (notS_c (by omega) (notS_c (by omega) (notS_c (by omega) (notS_c (by omega) (notS_n))))))))))) (notS_c (by omega) (notS_c (by omega) (notS_c (by omega) (notS_c (by omega) (notS_c (by omega) (notS_c (by omega) (notS_c (by omega) (notS_c (by omega) (notS_c (by omega) (notS_c (by omega) (notS_n))))))))))) (notS_c (by omega) (notS_c (by omega) (notS_c (by omega) (notS_c (by omega) (notS_c (by omega) (notS_c (by omega) (notS_c (by omega) (notS_c (by omega) (notS_c (by omega) (notS_c (by omega) (notS_n))))))))))) (notS_c (by omega) (notS_c (by omega) (notS_c (by omega) (notS_c (by omega) (notS_c (by omega) (notS_c (by omega) (notS_c (by omega) (notS_c (by omega) (notS_c (by omega) (notS_c (by omega) (notS_n))))))))))) (notS_c (by omega) (notS_c (by omega) (notS_c (by omega) (notS_c (by omega) (notS_c (by omega) (notS_c (by omega) (notS_c (by omega) (notS_c (by omega) (notS_c (by omega) (notS_c (by omega) (notS_n))))))))))) (fun i => (notS_c (by omega) (notS_c (by omega) (notS_c (by omega) (notS_c (by omega) (notS_c (by omega) (notS_c (by omega) (notS_c (by omega) (notS_c (by omega) (notS_c (by omega) (notS_c (by omega) (notS_n)))))))))))) (fun i => (notS_c (by omega) (notS_c (by omega) (notS_c (by omega) (notS_c (by omega) (notS_c (by omega) (notS_c (by omega) (notS_c (by omega) (notS_c (by omega) (notS_c (by omega) (notS_c (by omega) (notS_n)))))))))))) (fun i => (notS_c (by omega) (notS_c (by omega) (notS_c (by omega) (notS_c (by omega) (notS_c (by omega) (notS_c (by omega) (notS_c (by omega) (notS_c (by omega) (notS_c (by omega) (notS_c (by omega) (notS_n)))))))))))) (fun a h1 h2 i => (notS_c (by omega) (notS_c (by omega) (notS_c (by omega) (notS_c (by omega) (notS_c (by omega) (notS_c (by omega) (notS_c (by omega) (notS_c (by omega) (notS_c (by omega) (notS_c (by omega) (notS_n)))))))))))) (notS_c (by omega) (notS_c (by omega) (notS_c (by omega) (notS_c (by omega) (notS_c (by omega) (notS_c (by omega) (notS_c (by omega) (notS_c (by omega) (notS_c (by omega) (notS_c (by omega) (notS_n))))))))))) (notS_c (by omega) (notS_c (by omega) (notS_c (by omega) (notS_c (by omega) (notS_c (by omega) (notS_c (by omega) (notS_c (by omega) (notS_c (by omega) (notS_c (by omega) (notS_c (by omega) (notS_n))))))))))) (notS_c (by omega) (notS_c (by omega) (notS_c (by omega) (notS_c (by omega) (notS_c (by omega) (notS_c (by omega) (notS_c (by omega) (notS_c (by omega) (notS_c (by omega) (notS_c (by omega) (notS_n))))))))))) (fun a h1 h2 i => (notS_c (by omega) (notS_c (by omega) (notS_c (by omega) (notS_c (by omega) (notS_c (by omega) (notS_c (by omega) (notS_c (by omega) (notS_c (by omega) (notS_c (by omega) (notS_c (by omega) (notS_n)))))))))))) (fun a h1 h2 i => (notS_c (by omega) (notS_c (by omega) (notS_c (by omega) (notS_c (by omega) (notS_c (by omega) (notS_c (by omega) (notS_c (by omega) (notS_c (by omega) (notS_c (by omega) (notS_c (by omega) (notS_n)))))))))))) hcv, (fun hq => GA_f ht hz hs61 (notS_c (by omega) (notS_c (by omega) (notS_c (by omega) (notS_c (by omega) (notS_c (by omega) (notS_c (by omega) (notS_c (by omega) (notS_c (by omega) (notS_c (by omega) (notS_c (by omega) (notS_n))))))))))) (notS_c (by omega) (notS_c (by omega) (notS_c (by omega) (notS_c (by omega) (notS_c (by omega) (notS_c (by omega) (notS_c (by omega) (notS_c (by omega) (notS_c (by omega) (notS_c (by omega) (notS_n))))))))))) (fun i => (notS_c (by omega) (notS_c (by omega) (notS_c (by omega) (notS_c (by omega) (notS_c (by omega) (notS_c (by omega) (notS_c (by omega) (notS_c (by omega) (notS_c (by omega) (notS_c (by omega) (notS_n)))))))))))) (fun a h1 h2 i => (notS_c (by omega) (notS_c (by omega) (notS_c (by omega) (notS_c (by omega) (notS_c (by omega) (notS_c (by omega) (notS_c (by omega) (notS_c (by omega) (notS_c (by omega) (notS_c (by omega) (notS_n)))))))))))) hq), hs61.2.2.1 _ _ (notS_c (by omega) (notS_c (by omega) (notS_c (by omega) (notS_c (by omega) (notS_c (by omega) (notS_c (by omega) (notS_c (by omega) (notS_c (by omega) (notS_c (by omega) (notS_c (by omega) (notS_n)))))))))))⟩)⟩)
        · skip
          refine r_ld (pc' := 36) rfl rfl rfl rfl ?_
          refine r_gr (b := 102) (pc' := 39) rfl rfl sh_1 rfl pp_1_7 ?_
          refine r_ld (pc' := 40) rfl rfl rfl rfl ?_
          refine r_cVI (pc' := 43) rfl rfl rfl rfl rfl sh_102 (m_69 (d := d + 3) a3 hs61.1 hs61.2.1 ⟨by omega, by omega⟩) (fun v65 z66 w67 p68 h69 hs70 hE71 => ?_)
          have hs72 := st_tr hs61 hs70 (sub_B rfl)
          obtain ⟨rfl, hE71⟩ := hE71
          refine r_go rfl ?_
          have hb73 := rd_1_15 hz
          have hf74 : z66 1 15 = z0 1 15 := ((hs70.2.2.1 _ _ (notS_c (by omega) (notS_c (by omega) (notS_c (by omega) (notS_c (by omega) notS_n))))).trans (hs59.2.2.1 _ _ (notS_c (by omega) (notS_c (by omega) (notS_c (by omega) (notS_c (by omega) (notS_c (by omega) (notS_c (by omega) (notS_c (by omega) notS_n)))))))))
          exact r_ri rfl (po_I hs72 ⟨by omega, by omega⟩ ⟨rfl, by omega, by omega, (by exact ⟨CV_f ht hz hs72 (notS_c (by omega) (notS_c (by omega) (notS_c (by omega) (notS_c (by omega) (notS_c (by omega) (notS_c (by omega) (notS_c (by omega) (notS_c (by omega) (notS_c (by omega) (notS_c (by omega) (notS_n))))))))))) (notS_c (by omega) (notS_c (by omega) (notS_c (by omega) (notS_c (by omega) (notS_c (by omega) (notS_c (by omega) (notS_c (by omega) (notS_c (by omega) (notS_c (by omega) (notS_c (by omega) (notS_n))))))))))) (notS_c (by omega) (notS_c (by omega) (notS_c (by omega) (notS_c (by omega) (notS_c (by omega) (notS_c (by omega) (notS_c (by omega) (notS_c (by omega) (notS_c (by omega) (notS_c (by omega) (notS_n))))))))))) (notS_c (by omega) (notS_c (by omega) (notS_c (by omega) (notS_c (by omega) (notS_c (by omega) (notS_c (by omega) (notS_c (by omega) (notS_c (by omega) (notS_c (by omega) (notS_c (by omega) (notS_n))))))))))) (notS_c (by omega) (notS_c (by omega) (notS_c (by omega) (notS_c (by omega) (notS_c (by omega) (notS_c (by omega) (notS_c (by omega) (notS_c (by omega) (notS_c (by omega) (notS_c (by omega) (notS_n))))))))))) (fun i => (notS_c (by omega) (notS_c (by omega) (notS_c (by omega) (notS_c (by omega) (notS_c (by omega) (notS_c (by omega) (notS_c (by omega) (notS_c (by omega) (notS_c (by omega) (notS_c (by omega) (notS_n)))))))))))) (fun i => (notS_c (by omega) (notS_c (by omega) (notS_c (by omega) (notS_c (by omega) (notS_c (by omega) (notS_c (by omega) (notS_c (by omega) (notS_c (by omega) (notS_c (by omega) (notS_c (by omega) (notS_n)))))))))))) (fun i => (notS_c (by omega) (notS_c (by omega) (notS_c (by omega) (notS_c (by omega) (notS_c (by omega) (notS_c (by omega) (notS_c (by omega) (notS_c (by omega) (notS_c (by omega) (notS_c (by omega) (notS_n)))))))))))) (fun a h1 h2 i => (notS_c (by omega) (notS_c (by omega) (notS_c (by omega) (notS_c (by omega) (notS_c (by omega) (notS_c (by omega) (notS_c (by omega) (notS_c (by omega) (notS_c (by omega) (notS_c (by omega) (notS_n)))))))))))) (notS_c (by omega) (notS_c (by omega) (notS_c (by omega) (notS_c (by omega) (notS_c (by omega) (notS_c (by omega) (notS_c (by omega) (notS_c (by omega) (notS_c (by omega) (notS_c (by omega) (notS_n))))))))))) (notS_c (by omega) (notS_c (by omega) (notS_c (by omega) (notS_c (by omega) (notS_c (by omega) (notS_c (by omega) (notS_c (by omega) (notS_c (by omega) (notS_c (by omega) (notS_c (by omega) (notS_n))))))))))) (notS_c (by omega) (notS_c (by omega) (notS_c (by omega) (notS_c (by omega) (notS_c (by omega) (notS_c (by omega) (notS_c (by omega) (notS_c (by omega) (notS_c (by omega) (notS_c (by omega) (notS_n))))))))))) (fun a h1 h2 i => (notS_c (by omega) (notS_c (by omega) (notS_c (by omega) (notS_c (by omega) (notS_c (by omega) (notS_c (by omega) (notS_c (by omega) (notS_c (by omega) (notS_c (by omega) (notS_c (by omega) (notS_n)))))))))))) (fun a h1 h2 i => (notS_c (by omega) (notS_c (by omega) (notS_c (by omega) (notS_c (by omega) (notS_c (by omega) (notS_c (by omega) (notS_c (by omega) (notS_c (by omega) (notS_c (by omega) (notS_c (by omega) (notS_n)))))))))))) hcv, (fun hq => GA_f ht hz hs72 (notS_c (by omega) (notS_c (by omega) (notS_c (by omega) (notS_c (by omega) (notS_c (by omega) (notS_c (by omega) (notS_c (by omega) (notS_c (by omega) (notS_c (by omega) (notS_c (by omega) (notS_n))))))))))) (notS_c (by omega) (notS_c (by omega) (notS_c (by omega) (notS_c (by omega) (notS_c (by omega) (notS_c (by omega) (notS_c (by omega) (notS_c (by omega) (notS_c (by omega) (notS_c (by omega) (notS_n))))))))))) (fun i => (notS_c (by omega) (notS_c (by omega) (notS_c (by omega) (notS_c (by omega) (notS_c (by omega) (notS_c (by omega) (notS_c (by omega) (notS_c (by omega) (notS_c (by omega) (notS_c (by omega) (notS_n)))))))))))) (fun a h1 h2 i => (notS_c (by omega) (notS_c (by omega) (notS_c (by omega) (notS_c (by omega) (notS_c (by omega) (notS_c (by omega) (notS_c (by omega) (notS_c (by omega) (notS_c (by omega) (notS_c (by omega) (notS_n)))))))))))) hq), hs72.2.2.1 _ _ (notS_c (by omega) (notS_c (by omega) (notS_c (by omega) (notS_c (by omega) (notS_c (by omega) (notS_c (by omega) (notS_c (by omega) (notS_c (by omega) (notS_c (by omega) (notS_c (by omega) (notS_n)))))))))))⟩)⟩)
      · skip
        refine r_c0 (pc' := 25) rfl rfl ?_
        have hb75 := rd_1_15 hz
        exact r_ri rfl (po_I hst ⟨by decide, by decide⟩ ⟨rfl, by omega, by omega, (by exact ⟨CV_f ht hz hst (notS_c (by omega) (notS_c (by omega) (notS_c (by omega) (notS_c (by omega) (notS_c (by omega) (notS_c (by omega) (notS_c (by omega) (notS_c (by omega) (notS_c (by omega) (notS_c (by omega) (notS_n))))))))))) (notS_c (by omega) (notS_c (by omega) (notS_c (by omega) (notS_c (by omega) (notS_c (by omega) (notS_c (by omega) (notS_c (by omega) (notS_c (by omega) (notS_c (by omega) (notS_c (by omega) (notS_n))))))))))) (notS_c (by omega) (notS_c (by omega) (notS_c (by omega) (notS_c (by omega) (notS_c (by omega) (notS_c (by omega) (notS_c (by omega) (notS_c (by omega) (notS_c (by omega) (notS_c (by omega) (notS_n))))))))))) (notS_c (by omega) (notS_c (by omega) (notS_c (by omega) (notS_c (by omega) (notS_c (by omega) (notS_c (by omega) (notS_c (by omega) (notS_c (by omega) (notS_c (by omega) (notS_c (by omega) (notS_n))))))))))) (notS_c (by omega) (notS_c (by omega) (notS_c (by omega) (notS_c (by omega) (notS_c (by omega) (notS_c (by omega) (notS_c (by omega) (notS_c (by omega) (notS_c (by omega) (notS_c (by omega) (notS_n))))))))))) (fun i => (notS_c (by omega) (notS_c (by omega) (notS_c (by omega) (notS_c (by omega) (notS_c (by omega) (notS_c (by omega) (notS_c (by omega) (notS_c (by omega) (notS_c (by omega) (notS_c (by omega) (notS_n)))))))))))) (fun i => (notS_c (by omega) (notS_c (by omega) (notS_c (by omega) (notS_c (by omega) (notS_c (by omega) (notS_c (by omega) (notS_c (by omega) (notS_c (by omega) (notS_c (by omega) (notS_c (by omega) (notS_n)))))))))))) (fun i => (notS_c (by omega) (notS_c (by omega) (notS_c (by omega) (notS_c (by omega) (notS_c (by omega) (notS_c (by omega) (notS_c (by omega) (notS_c (by omega) (notS_c (by omega) (notS_c (by omega) (notS_n)))))))))))) (fun a h1 h2 i => (notS_c (by omega) (notS_c (by omega) (notS_c (by omega) (notS_c (by omega) (notS_c (by omega) (notS_c (by omega) (notS_c (by omega) (notS_c (by omega) (notS_c (by omega) (notS_c (by omega) (notS_n)))))))))))) (notS_c (by omega) (notS_c (by omega) (notS_c (by omega) (notS_c (by omega) (notS_c (by omega) (notS_c (by omega) (notS_c (by omega) (notS_c (by omega) (notS_c (by omega) (notS_c (by omega) (notS_n))))))))))) (notS_c (by omega) (notS_c (by omega) (notS_c (by omega) (notS_c (by omega) (notS_c (by omega) (notS_c (by omega) (notS_c (by omega) (notS_c (by omega) (notS_c (by omega) (notS_c (by omega) (notS_n))))))))))) (notS_c (by omega) (notS_c (by omega) (notS_c (by omega) (notS_c (by omega) (notS_c (by omega) (notS_c (by omega) (notS_c (by omega) (notS_c (by omega) (notS_c (by omega) (notS_c (by omega) (notS_n))))))))))) (fun a h1 h2 i => (notS_c (by omega) (notS_c (by omega) (notS_c (by omega) (notS_c (by omega) (notS_c (by omega) (notS_c (by omega) (notS_c (by omega) (notS_c (by omega) (notS_c (by omega) (notS_c (by omega) (notS_n)))))))))))) (fun a h1 h2 i => (notS_c (by omega) (notS_c (by omega) (notS_c (by omega) (notS_c (by omega) (notS_c (by omega) (notS_c (by omega) (notS_c (by omega) (notS_c (by omega) (notS_c (by omega) (notS_c (by omega) (notS_n)))))))))))) hcv, (fun hq => GA_f ht hz hst (notS_c (by omega) (notS_c (by omega) (notS_c (by omega) (notS_c (by omega) (notS_c (by omega) (notS_c (by omega) (notS_c (by omega) (notS_c (by omega) (notS_c (by omega) (notS_c (by omega) (notS_n))))))))))) (notS_c (by omega) (notS_c (by omega) (notS_c (by omega) (notS_c (by omega) (notS_c (by omega) (notS_c (by omega) (notS_c (by omega) (notS_c (by omega) (notS_c (by omega) (notS_c (by omega) (notS_n))))))))))) (fun i => (notS_c (by omega) (notS_c (by omega) (notS_c (by omega) (notS_c (by omega) (notS_c (by omega) (notS_c (by omega) (notS_c (by omega) (notS_c (by omega) (notS_c (by omega) (notS_c (by omega) (notS_n)))))))))))) (fun a h1 h2 i => (notS_c (by omega) (notS_c (by omega) (notS_c (by omega) (notS_c (by omega) (notS_c (by omega) (notS_c (by omega) (notS_c (by omega) (notS_c (by omega) (notS_c (by omega) (notS_c (by omega) (notS_n)))))))))))) hq), hst.2.2.1 _ _ (notS_c (by omega) (notS_c (by omega) (notS_c (by omega) (notS_c (by omega) (notS_c (by omega) (notS_c (by omega) (notS_c (by omega) (notS_c (by omega) (notS_c (by omega) (notS_c (by omega) (notS_n)))))))))))⟩)⟩)
/-- LoopGround polynomial -/
abbrev S_120z  : mS := []
abbrev E_120z (t : Nat) (u : Nat) (a1 : Int) (a2 : Int) (a3 : Int) (z0 w0 : mZ) (tx it tt ct : Option Nat) : Int → mZ → mZ → mP → Prop := fun v z w p => p = (pq (some t) (some u) tx it none tt ct) ∧ z0 = z ∧ w0 = w ∧ (-1) ≤ v ∧ v ≤ (-1) ∧ (CV z w t ∧ (GA z0 z0 t → GA z z t) ∧ z 1 15 = z0 1 15)
theorem m_120z {d : Nat} {z0 w0 : mZ} {tx it tt ct : Option Nat} (t : Nat) (u : Nat) (a1 : Int) (a2 : Int) (a3 : Int) (hz : rz z0) (hw : rw_ w0) (ha1 : (-2147483648) ≤ a1 ∧ a1 ≤ 2147483647) (ha2 : (-2147483648) ≤ a2 ∧ a2 ≤ 2147483647) (ha3 : (-2147483648) ≤ a3 ∧ a3 ≤ 2147483647) (ht : isT t) (hu : isT u) (hcv : CV z0 w0 t) : wc (d + 7) 120 [.ref 1, .int (Int32.ofInt a1), .int (Int32.ofInt a2), .int (Int32.ofInt a3)] (mk z0 w0 (pq (some t) (some u) tx it none tt ct)) (poI S_120z z0 w0 (E_120z t u a1 a2 a3 z0 w0 tx it tt ct)) := by
  have hst : st_ S_120z z0 w0 z0 w0 := st_rf hz hw
  have htb : 159 ≤ t ∧ t ≤ 192 := by have := ht; unfold isT at this; omega
  have hub : 159 ≤ u ∧ u ≤ 192 := by have := hu; unfold isT at this; omega
  have hz10 := rd_1_15 hz
  have hwt := hcv.1
  have hzt3 := rd_T_3 ht hz
  have h390 := rd_39_0 hz
  have h391 := rd_39_1 hz
  have h392 := rd_39_2 hz
  refine w_m rfl rfl ?_
  refine r_ld (pc' := 1) rfl rfl rfl rfl ?_
  refine r_ld (pc' := 2) rfl rfl rfl rfl ?_
  refine r_ld (pc' := 3) rfl rfl rfl rfl ?_
  refine r_cVI (pc' := 6) rfl rfl rfl rfl rfl sh_1 (m_138z (d := d + 2) t u a1 a2 hst.1 hst.2.1 ⟨by omega, by omega⟩ ⟨by omega, by omega⟩ ht hu) (fun v11 z12 w13 p14 h15 hs16 hE17 => ?_)
  obtain ⟨rfl, rfl, rfl, hE17⟩ := hE17
  refine r_zeq (pc' := 9) rfl rfl ⟨by omega, by omega⟩ (fun hc19 => ?_) (fun hc19 => ?_)
  · skip
    refine r_c0 (pc' := 25) rfl rfl ?_
    exact r_ri rfl (po_I hst ⟨by decide, by decide⟩ ⟨rfl, rfl, rfl, by omega, by omega, (by exact ⟨CV_f ht hz hst (notS_n) (notS_n) (notS_n) (notS_n) (notS_n) (fun i => (notS_n)) (fun i => (notS_n)) (fun i => (notS_n)) (fun a h1 h2 i => (notS_n)) (notS_n) (notS_n) (notS_n) (fun a h1 h2 i => (notS_n)) (fun a h1 h2 i => (notS_n)) hcv, (fun hq => GA_f ht hz hst (notS_n) (notS_n) (fun i => (notS_n)) (fun a h1 h2 i => (notS_n)) hq), hst.2.2.1 _ _ (notS_n)⟩)⟩)
  · exfalso; omega

/-! methods, printed by wip/tools/vcg.py -/
/-- LoopGroundModel traced -/
abbrev S_194t  : mS := [(244, 244, 0, 18), (243, 243, 0, 17), (225, 225, 42, 42), (225, 225, 38, 38), (225, 225, 39, 39), (246, 246, 0, 17999), (225, 225, 40, 40)]
abbrev E_194t (a1 : Int) (a2 : Int) (z0 w0 : mZ) (x y tx it mt tt ct : Option Nat) : Int → mZ → mZ → mP → Prop := fun v z w p => p = (pq x y tx it mt tt ct) ∧ (-2) ≤ v ∧ v ≤ 17
theorem m_194t {d : Nat} {z0 w0 : mZ} {x y tx it mt tt ct : Option Nat} (a1 : Int) (a2 : Int) (hz : rz z0) (hw : rw_ w0) (ha1 : (-2147483648) ≤ a1 ∧ a1 ≤ 2147483647) (ha2 : (-2147483648) ≤ a2 ∧ a2 ≤ 2147483647) (hrv : RV z0 w0) (hne : a1 ≠ -1) : wc (d + 5) 194 [.ref 225, .int (Int32.ofInt a1), .int (Int32.ofInt a2)] (mk z0 w0 (pq x y tx it mt tt ct)) (poI S_194t z0 w0 (E_194t a1 a2 z0 w0 x y tx it mt tt ct)) := by
  have hst : st_ S_194t z0 w0 z0 w0 := st_rf hz hw
  have key : ∀ N : Nat, (∀ (z w : mZ), (-1) ≤ a1 ∧ a1 ≤ 7 → st_ S_194t z0 w0 z w → z 225 38 = z0 225 38 → z 225 39 = z0 225 39 → z 225 40 = z0 225 40 → z 225 42 = z0 225 42 → (RV z w) → (0 ≤ a1 ∧ a1 < z 225 27) → 25 < (N : Int) → wp_ (d + 4) 194 3 (some .int) (15, [(0, .ref 225), (1, .int (Int32.ofInt a1)), (2, .int (Int32.ofInt a2))], [], mk z w (pq x y tx it mt tt ct)) (poI S_194t z0 w0 (E_194t a1 a2 z0 w0 x y tx it mt tt ct))) := by
    intro N
    induction N with
    | zero =>
      intro  z w
      intros; exfalso; omega
    | succ N ih =>
      have ih0 := ih; clear ih
      intro  z w  hpa1 hst un_z_225_38 un_z_225_39 un_z_225_40 un_z_225_42 as0 as1 hM
      have h27 := rd_225_27 hst.1
      refine r_ld (pc' := 16) rfl rfl rfl rfl ?_
      refine r_ld (pc' := 17) rfl rfl rfl rfl ?_
      refine r_cVL (pc' := 20) rfl rfl rfl rfl rfl sh_225 (m_181t (d := d + 2) a1 hst.1 hst.2.1 ⟨by omega, by omega⟩) (fun v45 z46 w47 p48 h49 hs50 hE51 => ?_)
      obtain ⟨rfl, rfl, rfl, hE51⟩ := hE51
      have hsv := hE51.2.2
      refine r_cSI (pc' := 23) rfl rfl rfl rfl rfl (m_189v (d := d + 3) v45 hst.1 hst.2.1 ⟨by omega, by omega⟩) (fun v53 z54 w55 p56 h57 hs58 hE59 => ?_)
      obtain ⟨rfl, rfl, rfl, hE59⟩ := hE59
      have hiv := hE59.2.2
      refine r_zne (pc' := 26) rfl rfl ⟨by omega, by omega⟩ (fun hc61 => ?_) (fun hc61 => ?_)
      · skip
        refine r_ld (pc' := 30) rfl rfl rfl rfl ?_
        refine r_ld (pc' := 31) rfl rfl rfl rfl ?_
        have hb62 := rd_225_26 hz
        have hf63 : z 225 26 = z0 225 26 := (hst.2.2.1 _ _ (notS_c (by omega) (notS_c (by omega) (notS_c (by omega) (notS_c (by omega) (notS_c (by omega) (notS_c (by omega) (notS_c (by omega) notS_n))))))))
        have hF64 : z 235 = z0 235 := (funext fun _ => hst.2.2.1 _ _ (notS_c (by omega) (notS_c (by omega) (notS_c (by omega) (notS_c (by omega) (notS_c (by omega) (notS_c (by omega) (notS_c (by omega) notS_n))))))))
        refine r_cVV (pc' := 34) rfl rfl rfl rfl rfl sh_225 (m_193t (d := d) a1 hst.1 hst.2.1 ⟨by omega, by omega⟩ (by exact as0.1.1) (by exact (as0.1.2.1 a1.toNat (by omega)).1) (by rw [← hsv]; exact hiv.1 (by omega))) (fun z66 w67 p68 hs70 hE71 => ?_)
        have hs72 := st_tr hst hs70 (sub_B rfl)
        obtain rfl := hE71
        refine r_ld (pc' := 35) rfl rfl rfl rfl ?_
        refine r_zlt (pc' := 38) rfl rfl ⟨by omega, by omega⟩ (fun hc73 => ?_) (fun hc73 => ?_)
        · skip
          refine r_c0 (pc' := 61) rfl rfl ?_
          exact r_ri rfl (po_I hs72 ⟨by decide, by decide⟩ ⟨rfl, by omega, by omega⟩)
        · skip
          refine r_ld (pc' := 39) rfl rfl rfl rfl ?_
          refine r_ld (pc' := 40) rfl rfl rfl rfl ?_
          have hb74 := rd_225_42 hs72.1
          refine r_gi (pc' := 43) rfl rfl sh_225 rfl rfl ?_
          refine r_ige (pc' := 46) rfl rfl ⟨by omega, by omega⟩ ⟨by omega, by omega⟩ (fun hc75 => ?_) (fun hc75 => ?_)
          · skip
            refine r_c0 (pc' := 61) rfl rfl ?_
            exact r_ri rfl (po_I hs72 ⟨by decide, by decide⟩ ⟨rfl, by omega, by omega⟩)
          · skip
            refine r_ld (pc' := 47) rfl rfl rfl rfl ?_
            refine r_gr (b := 235) (pc' := 50) rfl rfl sh_225 rfl pp_225_18 ?_
            refine r_ld (pc' := 51) rfl rfl rfl rfl ?_
            refine r_gr (b := 246) (pc' := 54) rfl rfl sh_225 rfl pp_225_41 ?_
            refine r_ld (pc' := 55) rfl rfl rfl rfl ?_
            have hb76 := rd_246 hs72.1 (i := a2.toNat) (by omega)
            refine r_ia (pc' := 56) rfl rfl sh_246 rfl (by omega) (by omega) rfl ?_
            have hb77 := rd_235 hz (i := (z66 246 a2.toNat).toNat) (by omega)
            refine r_ia (pc' := 57) rfl rfl sh_235 rfl (by omega) (by omega) ((hs70.2.2.1 _ _ (notS_c (by omega) (notS_c (by omega) (notS_c (by omega) (notS_c (by omega) (notS_c (by omega) (notS_c (by omega) (notS_c (by omega) notS_n)))))))).trans (hst.2.2.1 _ _ (notS_c (by omega) (notS_c (by omega) (notS_c (by omega) (notS_c (by omega) (notS_c (by omega) (notS_c (by omega) (notS_c (by omega) notS_n))))))))) ?_
            refine r_go rfl ?_
            exact r_ri rfl (po_I hs72 ⟨by omega, by omega⟩ ⟨rfl, by omega, by omega⟩)
      · skip
        refine r_cb (pc' := 28) rfl (by decide) rfl ?_
        exact r_ri rfl (po_I hst ⟨by decide, by decide⟩ ⟨rfl, by omega, by omega⟩)
  refine w_m rfl rfl ?_
  refine r_ld (pc' := 1) rfl rfl rfl rfl ?_
  refine r_c0 (pc' := 2) rfl rfl ?_
  refine r_ieq (pc' := 5) rfl rfl ⟨by omega, by omega⟩ ⟨by decide, by decide⟩ (fun hc78 => ?_) (fun hc78 => ?_)
  · skip
    have hb79 := rd_225_27 hz
    have hb80 := rd_225_38 hz
    have hb81 := rd_225_39 hz
    have hb82 := rd_225_40 hz
    have hb83 := rd_225_42 hz
    exact w_lv (sub_c rfl (sub_c rfl (sub_c rfl sub_n))) rfl ((key ((25 : Int).toNat + 1)) z0 w0 ⟨by omega, by omega⟩ hst (rfl) (rfl) (rfl) (rfl) (by exact hrv) (by first | omega | assumption) (by omega))
  · skip
    refine r_ld (pc' := 6) rfl rfl rfl rfl ?_
    refine r_ld (pc' := 7) rfl rfl rfl rfl ?_
    have hb84 := rd_225_27 hz
    refine r_cVI (pc' := 10) rfl rfl rfl rfl rfl sh_225 (m_173 (d := d + 3) a1 hst.1 hst.2.1 ⟨by omega, by omega⟩) (fun v85 z86 w87 p88 h89 hs90 hE91 => ?_)
    obtain ⟨rfl, rfl, rfl, hE91⟩ := hE91
    refine r_zne (pc' := 13) rfl rfl ⟨by omega, by omega⟩ (fun hc93 => ?_) (fun hc93 => ?_)
    · skip
      have hb94 := rd_225_38 hz
      have hb95 := rd_225_39 hz
      have hb96 := rd_225_40 hz
      have hb97 := rd_225_42 hz
      exact w_lv (sub_c rfl (sub_c rfl (sub_c rfl sub_n))) rfl ((key ((25 : Int).toNat + 1)) z0 w0 ⟨by omega, by omega⟩ hst (rfl) (rfl) (rfl) (rfl) (by exact hrv) (by first | omega | assumption) (by omega))
    · skip
      refine r_c0 (pc' := 14) rfl rfl ?_
      exact r_ri rfl (po_I hst ⟨by decide, by decide⟩ ⟨rfl, by omega, by omega⟩)
/-- LoopGroundModel traced -/
abbrev S_194n  : mS := [(244, 244, 0, 18), (243, 243, 0, 17), (225, 225, 42, 42), (225, 225, 38, 38), (225, 225, 39, 39), (246, 246, 0, 17999), (225, 225, 40, 40)]
abbrev E_194n (a1 : Int) (a2 : Int) (z0 w0 : mZ) (x y tx it mt tt ct : Option Nat) : Int → mZ → mZ → mP → Prop := fun v z w p => p = (pq x y tx it mt tt ct) ∧ (-2) ≤ v ∧ v ≤ 17
theorem m_194n {d : Nat} {z0 w0 : mZ} {x y tx it mt tt ct : Option Nat} (a1 : Int) (a2 : Int) (hz : rz z0) (hw : rw_ w0) (ha1 : (-1) ≤ a1 ∧ a1 ≤ (-1)) (ha2 : (-2147483648) ≤ a2 ∧ a2 ≤ 2147483647) (hrv : RV z0 w0) : wc (d + 5) 194 [.ref 225, .int (Int32.ofInt a1), .int (Int32.ofInt a2)] (mk z0 w0 (pq x y tx it mt tt ct)) (poI S_194n z0 w0 (E_194n a1 a2 z0 w0 x y tx it mt tt ct)) := by
  have hst : st_ S_194n z0 w0 z0 w0 := st_rf hz hw
  have key : ∀ N : Nat, (∀ (z w : mZ), st_ S_194n z0 w0 z w → z 225 38 = z0 225 38 → z 225 39 = z0 225 39 → z 225 40 = z0 225 40 → z 225 42 = z0 225 42 → (RV z w) → 25 < (N : Int) → wp_ (d + 4) 194 3 (some .int) (15, [(0, .ref 225), (1, .int (Int32.ofInt a1)), (2, .int (Int32.ofInt a2))], [], mk z w (pq x y tx it mt tt ct)) (poI S_194n z0 w0 (E_194n a1 a2 z0 w0 x y tx it mt tt ct))) := by
    intro N
    induction N with
    | zero =>
      intro  z w
      intros; exfalso; omega
    | succ N ih =>
      have ih0 := ih; clear ih
      intro  z w  hst un_z_225_38 un_z_225_39 un_z_225_40 un_z_225_42 as0 hM
      have h27 := rd_225_27 hst.1
      refine r_ld (pc' := 16) rfl rfl rfl rfl ?_
      refine r_ld (pc' := 17) rfl rfl rfl rfl ?_
      have hF37 : w 270 = w0 270 := (funext fun _ => hst.2.2.2 _ _ (notS_c (by omega) (notS_c (by omega) (notS_c (by omega) (notS_c (by omega) (notS_c (by omega) (notS_c (by omega) (notS_c (by omega) notS_n))))))))
      refine r_cVL (pc' := 20) rfl rfl rfl rfl rfl sh_225 (m_181n (d := d + 2) a1 hst.1 hst.2.1 ⟨by omega, by omega⟩) (fun v38 z39 w40 p41 h42 hs43 hE44 => ?_)
      obtain ⟨rfl, rfl, rfl, hE44⟩ := hE44
      have hsv := hE44.2.2
      refine r_cSI (pc' := 23) rfl rfl rfl rfl rfl (m_189v (d := d + 3) v38 hst.1 hst.2.1 ⟨by omega, by omega⟩) (fun v46 z47 w48 p49 h50 hs51 hE52 => ?_)
      obtain ⟨rfl, rfl, rfl, hE52⟩ := hE52
      have hiv := hE52.2.2
      refine r_zne (pc' := 26) rfl rfl ⟨by omega, by omega⟩ (fun hc54 => ?_) (fun hc54 => ?_)
      · skip
        refine r_ld (pc' := 30) rfl rfl rfl rfl ?_
        refine r_ld (pc' := 31) rfl rfl rfl rfl ?_
        have hb55 := rd_225_26 hz
        have hf56 : z 225 26 = z0 225 26 := (hst.2.2.1 _ _ (notS_c (by omega) (notS_c (by omega) (notS_c (by omega) (notS_c (by omega) (notS_c (by omega) (notS_c (by omega) (notS_c (by omega) notS_n))))))))
        have hF57 : z 235 = z0 235 := (funext fun _ => hst.2.2.1 _ _ (notS_c (by omega) (notS_c (by omega) (notS_c (by omega) (notS_c (by omega) (notS_c (by omega) (notS_c (by omega) (notS_c (by omega) notS_n))))))))
        have hF58 : w 270 = w0 270 := (funext fun _ => hst.2.2.2 _ _ (notS_c (by omega) (notS_c (by omega) (notS_c (by omega) (notS_c (by omega) (notS_c (by omega) (notS_c (by omega) (notS_c (by omega) notS_n))))))))
        refine r_cVV (pc' := 34) rfl rfl rfl rfl rfl sh_225 (m_193n (d := d) a1 hst.1 hst.2.1 ⟨by omega, by omega⟩ (by exact as0.1.1) (by exact as0.2.1) (by rw [← hsv]; exact hiv.1 (by omega))) (fun z60 w61 p62 hs64 hE65 => ?_)
        have hs66 := st_tr hst hs64 (sub_B rfl)
        obtain rfl := hE65
        refine r_ld (pc' := 35) rfl rfl rfl rfl ?_
        refine r_zlt (pc' := 38) rfl rfl ⟨by omega, by omega⟩ (fun hc67 => ?_) (fun hc67 => ?_)
        · skip
          refine r_c0 (pc' := 61) rfl rfl ?_
          exact r_ri rfl (po_I hs66 ⟨by decide, by decide⟩ ⟨rfl, by omega, by omega⟩)
        · skip
          refine r_ld (pc' := 39) rfl rfl rfl rfl ?_
          refine r_ld (pc' := 40) rfl rfl rfl rfl ?_
          have hb68 := rd_225_42 hs66.1
          refine r_gi (pc' := 43) rfl rfl sh_225 rfl rfl ?_
          refine r_ige (pc' := 46) rfl rfl ⟨by omega, by omega⟩ ⟨by omega, by omega⟩ (fun hc69 => ?_) (fun hc69 => ?_)
          · skip
            refine r_c0 (pc' := 61) rfl rfl ?_
            exact r_ri rfl (po_I hs66 ⟨by decide, by decide⟩ ⟨rfl, by omega, by omega⟩)
          · skip
            refine r_ld (pc' := 47) rfl rfl rfl rfl ?_
            refine r_gr (b := 235) (pc' := 50) rfl rfl sh_225 rfl pp_225_18 ?_
            refine r_ld (pc' := 51) rfl rfl rfl rfl ?_
            refine r_gr (b := 246) (pc' := 54) rfl rfl sh_225 rfl pp_225_41 ?_
            refine r_ld (pc' := 55) rfl rfl rfl rfl ?_
            have hb70 := rd_246 hs66.1 (i := a2.toNat) (by omega)
            refine r_ia (pc' := 56) rfl rfl sh_246 rfl (by omega) (by omega) rfl ?_
            have hb71 := rd_235 hz (i := (z60 246 a2.toNat).toNat) (by omega)
            refine r_ia (pc' := 57) rfl rfl sh_235 rfl (by omega) (by omega) ((hs64.2.2.1 _ _ (notS_c (by omega) (notS_c (by omega) (notS_c (by omega) (notS_c (by omega) (notS_c (by omega) (notS_c (by omega) (notS_c (by omega) notS_n)))))))).trans (hst.2.2.1 _ _ (notS_c (by omega) (notS_c (by omega) (notS_c (by omega) (notS_c (by omega) (notS_c (by omega) (notS_c (by omega) (notS_c (by omega) notS_n))))))))) ?_
            refine r_go rfl ?_
            exact r_ri rfl (po_I hs66 ⟨by omega, by omega⟩ ⟨rfl, by omega, by omega⟩)
      · skip
        refine r_cb (pc' := 28) rfl (by decide) rfl ?_
        exact r_ri rfl (po_I hst ⟨by decide, by decide⟩ ⟨rfl, by omega, by omega⟩)
  refine w_m rfl rfl ?_
  refine r_ld (pc' := 1) rfl rfl rfl rfl ?_
  refine r_c0 (pc' := 2) rfl rfl ?_
  refine r_ieq (pc' := 5) rfl rfl ⟨by omega, by omega⟩ ⟨by decide, by decide⟩ (fun hc72 => ?_) (fun hc72 => ?_)
  · skip
    have hb73 := rd_225_38 hz
    have hb74 := rd_225_39 hz
    have hb75 := rd_225_40 hz
    have hb76 := rd_225_42 hz
    exact w_lv (sub_c rfl (sub_c rfl (sub_c rfl sub_n))) rfl ((key ((25 : Int).toNat + 1)) z0 w0 hst (rfl) (rfl) (rfl) (rfl) (by exact hrv) (by omega))
  · exfalso; omega
/-- LoopGroundModel loops -/
abbrev S_192t  : mS := [(244, 244, 0, 18), (243, 243, 0, 17), (225, 225, 36, 36), (225, 225, 37, 37), (245, 245, 0, 17999), (225, 225, 38, 38), (225, 225, 39, 39), (225, 225, 40, 40)]
abbrev E_192t (a1 : Int) (a2 : Int) (z0 w0 : mZ) (x y tx it mt tt ct : Option Nat) : Int → mZ → mZ → mP → Prop := fun v z w p => p = (pq x y tx it mt tt ct) ∧ (-2147483648) ≤ v ∧ v ≤ 2147483647
theorem m_192t {d : Nat} {z0 w0 : mZ} {x y tx it mt tt ct : Option Nat} (a1 : Int) (a2 : Int) (hz : rz z0) (hw : rw_ w0) (ha1 : (-2147483648) ≤ a1 ∧ a1 ≤ 2147483647) (ha2 : (-2147483648) ≤ a2 ∧ a2 ≤ 2147483647) (hrv : RV z0 w0) (hne : a1 ≠ -1) : wc (d + 6) 192 [.ref 225, .int (Int32.ofInt a1), .int (Int32.ofInt a2)] (mk z0 w0 (pq x y tx it mt tt ct)) (poI S_192t z0 w0 (E_192t a1 a2 z0 w0 x y tx it mt tt ct)) := by
  have hst : st_ S_192t z0 w0 z0 w0 := st_rf hz hw
  have key : ∀ N : Nat, (∀ (z w : mZ), (-1) ≤ a1 ∧ a1 ≤ 7 → st_ S_192t z0 w0 z w → z 225 36 = z0 225 36 → z 225 37 = z0 225 37 → z 225 38 = z0 225 38 → z 225 39 = z0 225 39 → z 225 40 = z0 225 40 → (RV z w) → (0 ≤ a1 ∧ a1 < z 225 27) → 38 < (N : Int) → wp_ (d + 5) 192 3 (some .int) (13, [(0, .ref 225), (1, .int (Int32.ofInt a1)), (2, .int (Int32.ofInt a2))], [], mk z w (pq x y tx it mt tt ct)) (poI S_192t z0 w0 (E_192t a1 a2 z0 w0 x y tx it mt tt ct))) := by
    intro N
    induction N with
    | zero =>
      intro  z w
      intros; exfalso; omega
    | succ N ih =>
      have ih0 := ih; clear ih
      intro  z w  hpa1 hst un_z_225_36 un_z_225_37 un_z_225_38 un_z_225_39 un_z_225_40 as0 as1 hM
      refine r_ld (pc' := 14) rfl rfl rfl rfl ?_
      refine r_zlt (pc' := 17) rfl rfl ⟨by omega, by omega⟩ (fun hc51 => ?_) (fun hc51 => ?_)
      · skip
        refine r_c0 (pc' := 23) rfl rfl ?_
        exact r_ri rfl (po_I hst ⟨by decide, by decide⟩ ⟨rfl, by omega, by omega⟩)
      · skip
        refine r_ld (pc' := 18) rfl rfl rfl rfl ?_
        refine r_c0 (pc' := 19) rfl rfl ?_
        refine r_ile (pc' := 22) rfl rfl ⟨by omega, by omega⟩ ⟨by decide, by decide⟩ (fun hc52 => ?_) (fun hc52 => ?_)
        · skip
          have h27 := rd_225_27 hst.1
          refine r_ld (pc' := 25) rfl rfl rfl rfl ?_
          refine r_ld (pc' := 26) rfl rfl rfl rfl ?_
          refine r_cVL (pc' := 29) rfl rfl rfl rfl rfl sh_225 (m_181t (d := d + 3) a1 hst.1 hst.2.1 ⟨by omega, by omega⟩) (fun v53 z54 w55 p56 h57 hs58 hE59 => ?_)
          obtain ⟨rfl, rfl, rfl, hE59⟩ := hE59
          have hsv := hE59.2.2
          refine r_cSI (pc' := 32) rfl rfl rfl rfl rfl (m_189v (d := d + 4) v53 hst.1 hst.2.1 ⟨by omega, by omega⟩) (fun v61 z62 w63 p64 h65 hs66 hE67 => ?_)
          obtain ⟨rfl, rfl, rfl, hE67⟩ := hE67
          have hiv := hE67.2.2
          refine r_zne (pc' := 35) rfl rfl ⟨by omega, by omega⟩ (fun hc69 => ?_) (fun hc69 => ?_)
          · skip
            refine r_ld (pc' := 39) rfl rfl rfl rfl ?_
            refine r_ld (pc' := 40) rfl rfl rfl rfl ?_
            have hb70 := rd_225_26 hz
            have hf71 : z 225 26 = z0 225 26 := (hst.2.2.1 _ _ (notS_c (by omega) (notS_c (by omega) (notS_c (by omega) (notS_c (by omega) (notS_c (by omega) (notS_c (by omega) (notS_c (by omega) (notS_c (by omega) notS_n)))))))))
            have hF72 : z 235 = z0 235 := (funext fun _ => hst.2.2.1 _ _ (notS_c (by omega) (notS_c (by omega) (notS_c (by omega) (notS_c (by omega) (notS_c (by omega) (notS_c (by omega) (notS_c (by omega) (notS_c (by omega) notS_n)))))))))
            have hF73 : z 241 = z0 241 := (funext fun _ => hst.2.2.1 _ _ (notS_c (by omega) (notS_c (by omega) (notS_c (by omega) (notS_c (by omega) (notS_c (by omega) (notS_c (by omega) (notS_c (by omega) (notS_c (by omega) notS_n)))))))))
            refine r_cVV (pc' := 43) rfl rfl rfl rfl rfl sh_225 (m_187t (d := d) a1 hst.1 hst.2.1 ⟨by omega, by omega⟩ (by exact as0.1.1) (by exact (as0.1.2.1 a1.toNat (by omega)).1) (by rw [← hsv]; exact hiv.1 (by omega))) (fun z75 w76 p77 hs79 hE80 => ?_)
            have hs81 := st_tr hst hs79 (sub_B rfl)
            obtain ⟨rfl, hE80⟩ := hE80
            refine r_ld (pc' := 44) rfl rfl rfl rfl ?_
            refine r_zne (pc' := 47) rfl rfl ⟨by omega, by omega⟩ (fun hc82 => ?_) (fun hc82 => ?_)
            · skip
              refine r_ld (pc' := 55) rfl rfl rfl rfl ?_
              refine r_c0 (pc' := 56) rfl rfl ?_
              refine r_ine (pc' := 59) rfl rfl ⟨by omega, by omega⟩ ⟨by decide, by decide⟩ (fun hc83 => ?_) (fun hc83 => ?_)
              · skip
                refine r_ld (pc' := 67) rfl rfl rfl rfl ?_
                have hb84 := rd_225_36 hs81.1
                refine r_gi (pc' := 70) rfl rfl sh_225 rfl rfl ?_
                refine r_c0 (pc' := 71) rfl rfl ?_
                refine r_ine (pc' := 74) rfl rfl ⟨by omega, by omega⟩ ⟨by decide, by decide⟩ (fun hc85 => ?_) (fun hc85 => ?_)
                · skip
                  refine r_c0 (pc' := 86) rfl rfl ?_
                  exact r_ri rfl (po_I hs81 ⟨by decide, by decide⟩ ⟨rfl, by omega, by omega⟩)
                · skip
                  refine r_ld (pc' := 75) rfl rfl rfl rfl ?_
                  have hb86 := rd_225_37 hs81.1
                  refine r_gi (pc' := 78) rfl rfl sh_225 rfl rfl ?_
                  refine r_zne (pc' := 81) rfl rfl ⟨by omega, by omega⟩ (fun hc87 => ?_) (fun hc87 => ?_)
                  · skip
                    refine r_c0 (pc' := 86) rfl rfl ?_
                    exact r_ri rfl (po_I hs81 ⟨by decide, by decide⟩ ⟨rfl, by omega, by omega⟩)
                  · skip
                    refine r_c0 (pc' := 82) rfl rfl ?_
                    refine r_go rfl ?_
                    exact r_ri rfl (po_I hs81 ⟨by decide, by decide⟩ ⟨rfl, by omega, by omega⟩)
              · skip
                refine r_ld (pc' := 60) rfl rfl rfl rfl ?_
                have hb88 := rd_225_37 hs81.1
                refine r_gi (pc' := 63) rfl rfl sh_225 rfl rfl ?_
                refine r_go rfl ?_
                exact r_ri rfl (po_I hs81 ⟨by omega, by omega⟩ ⟨rfl, by omega, by omega⟩)
            · skip
              refine r_ld (pc' := 48) rfl rfl rfl rfl ?_
              have hb89 := rd_225_36 hs81.1
              refine r_gi (pc' := 51) rfl rfl sh_225 rfl rfl ?_
              refine r_go rfl ?_
              exact r_ri rfl (po_I hs81 ⟨by omega, by omega⟩ ⟨rfl, by omega, by omega⟩)
          · skip
            refine r_cb (pc' := 37) rfl (by decide) rfl ?_
            exact r_ri rfl (po_I hst ⟨by decide, by decide⟩ ⟨rfl, by omega, by omega⟩)
        · skip
          refine r_c0 (pc' := 23) rfl rfl ?_
          exact r_ri rfl (po_I hst ⟨by decide, by decide⟩ ⟨rfl, by omega, by omega⟩)
  refine w_m rfl rfl ?_
  refine r_ld (pc' := 1) rfl rfl rfl rfl ?_
  refine r_c0 (pc' := 2) rfl rfl ?_
  refine r_ieq (pc' := 5) rfl rfl ⟨by omega, by omega⟩ ⟨by decide, by decide⟩ (fun hc90 => ?_) (fun hc90 => ?_)
  · skip
    have hb91 := rd_225_27 hz
    have hb92 := rd_225_36 hz
    have hb93 := rd_225_37 hz
    have hb94 := rd_225_38 hz
    have hb95 := rd_225_39 hz
    have hb96 := rd_225_40 hz
    exact w_lv (sub_c rfl (sub_c rfl (sub_c rfl sub_n))) rfl ((key ((38 : Int).toNat + 1)) z0 w0 ⟨by omega, by omega⟩ hst (rfl) (rfl) (rfl) (rfl) (rfl) (by exact hrv) (by first | omega | assumption) (by omega))
  · skip
    refine r_ld (pc' := 6) rfl rfl rfl rfl ?_
    refine r_ld (pc' := 7) rfl rfl rfl rfl ?_
    have hb97 := rd_225_27 hz
    refine r_cVI (pc' := 10) rfl rfl rfl rfl rfl sh_225 (m_173 (d := d + 4) a1 hst.1 hst.2.1 ⟨by omega, by omega⟩) (fun v98 z99 w100 p101 h102 hs103 hE104 => ?_)
    obtain ⟨rfl, rfl, rfl, hE104⟩ := hE104
    refine r_zeq (pc' := 13) rfl rfl ⟨by omega, by omega⟩ (fun hc106 => ?_) (fun hc106 => ?_)
    · skip
      refine r_c0 (pc' := 23) rfl rfl ?_
      exact r_ri rfl (po_I hst ⟨by decide, by decide⟩ ⟨rfl, by omega, by omega⟩)
    · skip
      have hb107 := rd_225_36 hz
      have hb108 := rd_225_37 hz
      have hb109 := rd_225_38 hz
      have hb110 := rd_225_39 hz
      have hb111 := rd_225_40 hz
      exact w_lv (sub_c rfl (sub_c rfl (sub_c rfl sub_n))) rfl ((key ((38 : Int).toNat + 1)) z0 w0 ⟨by omega, by omega⟩ hst (rfl) (rfl) (rfl) (rfl) (rfl) (by exact hrv) (by first | omega | assumption) (by omega))
/-- LoopGroundModel loops -/
abbrev S_192n  : mS := [(244, 244, 0, 18), (243, 243, 0, 17), (225, 225, 36, 36), (225, 225, 37, 37), (245, 245, 0, 17999), (225, 225, 38, 38), (225, 225, 39, 39), (225, 225, 40, 40)]
abbrev E_192n (a1 : Int) (a2 : Int) (z0 w0 : mZ) (x y tx it mt tt ct : Option Nat) : Int → mZ → mZ → mP → Prop := fun v z w p => p = (pq x y tx it mt tt ct) ∧ (-2147483648) ≤ v ∧ v ≤ 2147483647
theorem m_192n {d : Nat} {z0 w0 : mZ} {x y tx it mt tt ct : Option Nat} (a1 : Int) (a2 : Int) (hz : rz z0) (hw : rw_ w0) (ha1 : (-1) ≤ a1 ∧ a1 ≤ (-1)) (ha2 : (-2147483648) ≤ a2 ∧ a2 ≤ 2147483647) (hrv : RV z0 w0) : wc (d + 6) 192 [.ref 225, .int (Int32.ofInt a1), .int (Int32.ofInt a2)] (mk z0 w0 (pq x y tx it mt tt ct)) (poI S_192n z0 w0 (E_192n a1 a2 z0 w0 x y tx it mt tt ct)) := by
  have hst : st_ S_192n z0 w0 z0 w0 := st_rf hz hw
  have key : ∀ N : Nat, (∀ (z w : mZ), st_ S_192n z0 w0 z w → z 225 36 = z0 225 36 → z 225 37 = z0 225 37 → z 225 38 = z0 225 38 → z 225 39 = z0 225 39 → z 225 40 = z0 225 40 → (RV z w) → 38 < (N : Int) → wp_ (d + 5) 192 3 (some .int) (13, [(0, .ref 225), (1, .int (Int32.ofInt a1)), (2, .int (Int32.ofInt a2))], [], mk z w (pq x y tx it mt tt ct)) (poI S_192n z0 w0 (E_192n a1 a2 z0 w0 x y tx it mt tt ct))) := by
    intro N
    induction N with
    | zero =>
      intro  z w
      intros; exfalso; omega
    | succ N ih =>
      have ih0 := ih; clear ih
      intro  z w  hst un_z_225_36 un_z_225_37 un_z_225_38 un_z_225_39 un_z_225_40 as0 hM
      refine r_ld (pc' := 14) rfl rfl rfl rfl ?_
      refine r_zlt (pc' := 17) rfl rfl ⟨by omega, by omega⟩ (fun hc43 => ?_) (fun hc43 => ?_)
      · skip
        refine r_c0 (pc' := 23) rfl rfl ?_
        exact r_ri rfl (po_I hst ⟨by decide, by decide⟩ ⟨rfl, by omega, by omega⟩)
      · skip
        refine r_ld (pc' := 18) rfl rfl rfl rfl ?_
        refine r_c0 (pc' := 19) rfl rfl ?_
        refine r_ile (pc' := 22) rfl rfl ⟨by omega, by omega⟩ ⟨by decide, by decide⟩ (fun hc44 => ?_) (fun hc44 => ?_)
        · skip
          have h27 := rd_225_27 hst.1
          refine r_ld (pc' := 25) rfl rfl rfl rfl ?_
          refine r_ld (pc' := 26) rfl rfl rfl rfl ?_
          have hF45 : w 270 = w0 270 := (funext fun _ => hst.2.2.2 _ _ (notS_c (by omega) (notS_c (by omega) (notS_c (by omega) (notS_c (by omega) (notS_c (by omega) (notS_c (by omega) (notS_c (by omega) (notS_c (by omega) notS_n)))))))))
          refine r_cVL (pc' := 29) rfl rfl rfl rfl rfl sh_225 (m_181n (d := d + 3) a1 hst.1 hst.2.1 ⟨by omega, by omega⟩) (fun v46 z47 w48 p49 h50 hs51 hE52 => ?_)
          obtain ⟨rfl, rfl, rfl, hE52⟩ := hE52
          have hsv := hE52.2.2
          refine r_cSI (pc' := 32) rfl rfl rfl rfl rfl (m_189v (d := d + 4) v46 hst.1 hst.2.1 ⟨by omega, by omega⟩) (fun v54 z55 w56 p57 h58 hs59 hE60 => ?_)
          obtain ⟨rfl, rfl, rfl, hE60⟩ := hE60
          have hiv := hE60.2.2
          refine r_zne (pc' := 35) rfl rfl ⟨by omega, by omega⟩ (fun hc62 => ?_) (fun hc62 => ?_)
          · skip
            refine r_ld (pc' := 39) rfl rfl rfl rfl ?_
            refine r_ld (pc' := 40) rfl rfl rfl rfl ?_
            have hb63 := rd_225_26 hz
            have hf64 : z 225 26 = z0 225 26 := (hst.2.2.1 _ _ (notS_c (by omega) (notS_c (by omega) (notS_c (by omega) (notS_c (by omega) (notS_c (by omega) (notS_c (by omega) (notS_c (by omega) (notS_c (by omega) notS_n)))))))))
            have hF65 : z 235 = z0 235 := (funext fun _ => hst.2.2.1 _ _ (notS_c (by omega) (notS_c (by omega) (notS_c (by omega) (notS_c (by omega) (notS_c (by omega) (notS_c (by omega) (notS_c (by omega) (notS_c (by omega) notS_n)))))))))
            have hF66 : w 270 = w0 270 := (funext fun _ => hst.2.2.2 _ _ (notS_c (by omega) (notS_c (by omega) (notS_c (by omega) (notS_c (by omega) (notS_c (by omega) (notS_c (by omega) (notS_c (by omega) (notS_c (by omega) notS_n)))))))))
            have hF67 : z 241 = z0 241 := (funext fun _ => hst.2.2.1 _ _ (notS_c (by omega) (notS_c (by omega) (notS_c (by omega) (notS_c (by omega) (notS_c (by omega) (notS_c (by omega) (notS_c (by omega) (notS_c (by omega) notS_n)))))))))
            refine r_cVV (pc' := 43) rfl rfl rfl rfl rfl sh_225 (m_187n (d := d) a1 hst.1 hst.2.1 ⟨by omega, by omega⟩ (by exact as0.1.1) (by exact as0.2.1) (by rw [← hsv]; exact hiv.1 (by omega))) (fun z69 w70 p71 hs73 hE74 => ?_)
            have hs75 := st_tr hst hs73 (sub_B rfl)
            obtain ⟨rfl, hE74⟩ := hE74
            refine r_ld (pc' := 44) rfl rfl rfl rfl ?_
            refine r_zne (pc' := 47) rfl rfl ⟨by omega, by omega⟩ (fun hc76 => ?_) (fun hc76 => ?_)
            · skip
              refine r_ld (pc' := 55) rfl rfl rfl rfl ?_
              refine r_c0 (pc' := 56) rfl rfl ?_
              refine r_ine (pc' := 59) rfl rfl ⟨by omega, by omega⟩ ⟨by decide, by decide⟩ (fun hc77 => ?_) (fun hc77 => ?_)
              · skip
                refine r_ld (pc' := 67) rfl rfl rfl rfl ?_
                have hb78 := rd_225_36 hs75.1
                refine r_gi (pc' := 70) rfl rfl sh_225 rfl rfl ?_
                refine r_c0 (pc' := 71) rfl rfl ?_
                refine r_ine (pc' := 74) rfl rfl ⟨by omega, by omega⟩ ⟨by decide, by decide⟩ (fun hc79 => ?_) (fun hc79 => ?_)
                · skip
                  refine r_c0 (pc' := 86) rfl rfl ?_
                  exact r_ri rfl (po_I hs75 ⟨by decide, by decide⟩ ⟨rfl, by omega, by omega⟩)
                · skip
                  refine r_ld (pc' := 75) rfl rfl rfl rfl ?_
                  have hb80 := rd_225_37 hs75.1
                  refine r_gi (pc' := 78) rfl rfl sh_225 rfl rfl ?_
                  refine r_zne (pc' := 81) rfl rfl ⟨by omega, by omega⟩ (fun hc81 => ?_) (fun hc81 => ?_)
                  · skip
                    refine r_c0 (pc' := 86) rfl rfl ?_
                    exact r_ri rfl (po_I hs75 ⟨by decide, by decide⟩ ⟨rfl, by omega, by omega⟩)
                  · skip
                    refine r_c0 (pc' := 82) rfl rfl ?_
                    refine r_go rfl ?_
                    exact r_ri rfl (po_I hs75 ⟨by decide, by decide⟩ ⟨rfl, by omega, by omega⟩)
              · skip
                refine r_ld (pc' := 60) rfl rfl rfl rfl ?_
                have hb82 := rd_225_37 hs75.1
                refine r_gi (pc' := 63) rfl rfl sh_225 rfl rfl ?_
                refine r_go rfl ?_
                exact r_ri rfl (po_I hs75 ⟨by omega, by omega⟩ ⟨rfl, by omega, by omega⟩)
            · skip
              refine r_ld (pc' := 48) rfl rfl rfl rfl ?_
              have hb83 := rd_225_36 hs75.1
              refine r_gi (pc' := 51) rfl rfl sh_225 rfl rfl ?_
              refine r_go rfl ?_
              exact r_ri rfl (po_I hs75 ⟨by omega, by omega⟩ ⟨rfl, by omega, by omega⟩)
          · skip
            refine r_cb (pc' := 37) rfl (by decide) rfl ?_
            exact r_ri rfl (po_I hst ⟨by decide, by decide⟩ ⟨rfl, by omega, by omega⟩)
        · skip
          refine r_c0 (pc' := 23) rfl rfl ?_
          exact r_ri rfl (po_I hst ⟨by decide, by decide⟩ ⟨rfl, by omega, by omega⟩)
  refine w_m rfl rfl ?_
  refine r_ld (pc' := 1) rfl rfl rfl rfl ?_
  refine r_c0 (pc' := 2) rfl rfl ?_
  refine r_ieq (pc' := 5) rfl rfl ⟨by omega, by omega⟩ ⟨by decide, by decide⟩ (fun hc84 => ?_) (fun hc84 => ?_)
  · skip
    have hb85 := rd_225_36 hz
    have hb86 := rd_225_37 hz
    have hb87 := rd_225_38 hz
    have hb88 := rd_225_39 hz
    have hb89 := rd_225_40 hz
    exact w_lv (sub_c rfl (sub_c rfl (sub_c rfl sub_n))) rfl ((key ((38 : Int).toNat + 1)) z0 w0 hst (rfl) (rfl) (rfl) (rfl) (rfl) (by exact hrv) (by omega))
  · exfalso; omega

section
/-! methods, printed by wip/tools/vcg.py -/
/-- LoopGroundModel traced -/
abbrev S_194t  : mS := [(244, 244, 0, 18), (243, 243, 0, 17), (225, 225, 42, 42), (225, 225, 38, 38), (225, 225, 39, 39), (246, 246, 0, 17999), (225, 225, 40, 40)]
abbrev E_194t (a1 : Int) (a2 : Int) (z0 w0 : mZ) (x y tx it mt tt ct : Option Nat) : Int → mZ → mZ → mP → Prop := fun v z w p => p = (pq x y tx it mt tt ct) ∧ (-2) ≤ v ∧ v ≤ 17
theorem m_194t {d : Nat} {z0 w0 : mZ} {x y tx it mt tt ct : Option Nat} (a1 : Int) (a2 : Int) (hz : rz z0) (hw : rw_ w0) (ha1 : (-2147483648) ≤ a1 ∧ a1 ≤ 2147483647) (ha2 : (-2147483648) ≤ a2 ∧ a2 ≤ 2147483647) (hrv : RV z0 w0) (hne : a1 ≠ -1) : wc (d + 5) 194 [.ref 225, .int (Int32.ofInt a1), .int (Int32.ofInt a2)] (mk z0 w0 (pq x y tx it mt tt ct)) (poI S_194t z0 w0 (E_194t a1 a2 z0 w0 x y tx it mt tt ct)) := by
  have hst : st_ S_194t z0 w0 z0 w0 := st_rf hz hw
  have key : ∀ N : Nat, (∀ (z w : mZ), (-1) ≤ a1 ∧ a1 ≤ 7 → st_ S_194t z0 w0 z w → z 225 38 = z0 225 38 → z 225 39 = z0 225 39 → z 225 40 = z0 225 40 → z 225 42 = z0 225 42 → (RV z w) → (0 ≤ a1 ∧ a1 < z 225 27) → 25 < (N : Int) → wp_ (d + 4) 194 3 (some .int) (15, [(0, .ref 225), (1, .int (Int32.ofInt a1)), (2, .int (Int32.ofInt a2))], [], mk z w (pq x y tx it mt tt ct)) (poI S_194t z0 w0 (E_194t a1 a2 z0 w0 x y tx it mt tt ct))) := by
    intro N
    induction N with
    | zero =>
      intro  z w
      intros; exfalso; omega
    | succ N ih =>
      have ih0 := ih; clear ih
      intro  z w  hpa1 hst un_z_225_38 un_z_225_39 un_z_225_40 un_z_225_42 as0 as1 hM
      have h27 := rd_225_27 hst.1
      refine r_ld (pc' := 16) rfl rfl rfl rfl ?_
      refine r_ld (pc' := 17) rfl rfl rfl rfl ?_
      refine r_cVL (pc' := 20) rfl rfl rfl rfl rfl sh_225 (m_181t (d := d + 2) a1 hst.1 hst.2.1 ⟨by omega, by omega⟩) (fun v45 z46 w47 p48 h49 hs50 hE51 => ?_)
      obtain ⟨rfl, rfl, rfl, hE51⟩ := hE51
      have hsv := hE51.2.2
      refine r_cSI (pc' := 23) rfl rfl rfl rfl rfl (m_189v (d := d + 3) v45 hst.1 hst.2.1 ⟨by omega, by omega⟩) (fun v53 z54 w55 p56 h57 hs58 hE59 => ?_)
      obtain ⟨rfl, rfl, rfl, hE59⟩ := hE59
      have hiv := hE59.2.2
      refine r_zne (pc' := 26) rfl rfl ⟨by omega, by omega⟩ (fun hc61 => ?_) (fun hc61 => ?_)
      · skip
        refine r_ld (pc' := 30) rfl rfl rfl rfl ?_
        refine r_ld (pc' := 31) rfl rfl rfl rfl ?_
        have hb62 := rd_225_26 hz
        have hf63 : z 225 26 = z0 225 26 := (hst.2.2.1 _ _ (notS_c (by omega) (notS_c (by omega) (notS_c (by omega) (notS_c (by omega) (notS_c (by omega) (notS_c (by omega) (notS_c (by omega) notS_n))))))))
        have hF64 : z 235 = z0 235 := (funext fun _ => hst.2.2.1 _ _ (notS_c (by omega) (notS_c (by omega) (notS_c (by omega) (notS_c (by omega) (notS_c (by omega) (notS_c (by omega) (notS_c (by omega) notS_n))))))))
        refine r_cVV (pc' := 34) rfl rfl rfl rfl rfl sh_225 (m_193t (d := d) a1 hst.1 hst.2.1 ⟨by omega, by omega⟩ (by exact as0.1.1) (by exact (as0.1.2.1 a1.toNat (by omega)).1) (by rw [← hsv]; exact hiv.1 (by omega))) (fun z66 w67 p68 hs70 hE71 => ?_)
        have hs72 := st_tr hst hs70 (sub_B rfl)
        obtain rfl := hE71
        refine r_ld (pc' := 35) rfl rfl rfl rfl ?_
        refine r_zlt (pc' := 38) rfl rfl ⟨by omega, by omega⟩ (fun hc73 => ?_) (fun hc73 => ?_)
        · skip
          refine r_c0 (pc' := 61) rfl rfl ?_
          exact r_ri rfl (po_I hs72 ⟨by decide, by decide⟩ ⟨rfl, by omega, by omega⟩)
        · skip
          refine r_ld (pc' := 39) rfl rfl rfl rfl ?_
          refine r_ld (pc' := 40) rfl rfl rfl rfl ?_
          have hb74 := rd_225_42 hs72.1
          refine r_gi (pc' := 43) rfl rfl sh_225 rfl rfl ?_
          refine r_ige (pc' := 46) rfl rfl ⟨by omega, by omega⟩ ⟨by omega, by omega⟩ (fun hc75 => ?_) (fun hc75 => ?_)
          · skip
            refine r_c0 (pc' := 61) rfl rfl ?_
            exact r_ri rfl (po_I hs72 ⟨by decide, by decide⟩ ⟨rfl, by omega, by omega⟩)
          · skip
            refine r_ld (pc' := 47) rfl rfl rfl rfl ?_
            refine r_gr (b := 235) (pc' := 50) rfl rfl sh_225 rfl pp_225_18 ?_
            refine r_ld (pc' := 51) rfl rfl rfl rfl ?_
            refine r_gr (b := 246) (pc' := 54) rfl rfl sh_225 rfl pp_225_41 ?_
            refine r_ld (pc' := 55) rfl rfl rfl rfl ?_
            have hb76 := rd_246 hs72.1 (i := a2.toNat) (by omega)
            refine r_ia (pc' := 56) rfl rfl sh_246 rfl (by omega) (by omega) rfl ?_
            have hb77 := rd_235 hz (i := (z66 246 a2.toNat).toNat) (by omega)
            refine r_ia (pc' := 57) rfl rfl sh_235 rfl (by omega) (by omega) ((hs70.2.2.1 _ _ (notS_c (by omega) (notS_c (by omega) (notS_c (by omega) (notS_c (by omega) (notS_c (by omega) (notS_c (by omega) (notS_c (by omega) notS_n)))))))).trans (hst.2.2.1 _ _ (notS_c (by omega) (notS_c (by omega) (notS_c (by omega) (notS_c (by omega) (notS_c (by omega) (notS_c (by omega) (notS_c (by omega) notS_n))))))))) ?_
            refine r_go rfl ?_
            exact r_ri rfl (po_I hs72 ⟨by omega, by omega⟩ ⟨rfl, by omega, by omega⟩)
      · skip
        refine r_cb (pc' := 28) rfl (by decide) rfl ?_
        exact r_ri rfl (po_I hst ⟨by decide, by decide⟩ ⟨rfl, by omega, by omega⟩)
  refine w_m rfl rfl ?_
  refine r_ld (pc' := 1) rfl rfl rfl rfl ?_
  refine r_c0 (pc' := 2) rfl rfl ?_
  refine r_ieq (pc' := 5) rfl rfl ⟨by omega, by omega⟩ ⟨by decide, by decide⟩ (fun hc78 => ?_) (fun hc78 => ?_)
  · skip
    have hb79 := rd_225_27 hz
    have hb80 := rd_225_38 hz
    have hb81 := rd_225_39 hz
    have hb82 := rd_225_40 hz
    have hb83 := rd_225_42 hz
    exact w_lv (sub_c rfl (sub_c rfl (sub_c rfl sub_n))) rfl ((key ((25 : Int).toNat + 1)) z0 w0 ⟨by omega, by omega⟩ hst (rfl) (rfl) (rfl) (rfl) (by exact hrv) (by first | omega | assumption) (by omega))
  · skip
    refine r_ld (pc' := 6) rfl rfl rfl rfl ?_
    refine r_ld (pc' := 7) rfl rfl rfl rfl ?_
    have hb84 := rd_225_27 hz
    refine r_cVI (pc' := 10) rfl rfl rfl rfl rfl sh_225 (m_173 (d := d + 3) a1 hst.1 hst.2.1 ⟨by omega, by omega⟩) (fun v85 z86 w87 p88 h89 hs90 hE91 => ?_)
    obtain ⟨rfl, rfl, rfl, hE91⟩ := hE91
    refine r_zne (pc' := 13) rfl rfl ⟨by omega, by omega⟩ (fun hc93 => ?_) (fun hc93 => ?_)
    · skip
      have hb94 := rd_225_38 hz
      have hb95 := rd_225_39 hz
      have hb96 := rd_225_40 hz
      have hb97 := rd_225_42 hz
      exact w_lv (sub_c rfl (sub_c rfl (sub_c rfl sub_n))) rfl ((key ((25 : Int).toNat + 1)) z0 w0 ⟨by omega, by omega⟩ hst (rfl) (rfl) (rfl) (rfl) (by exact hrv) (by first | omega | assumption) (by omega))
    · skip
      refine r_c0 (pc' := 14) rfl rfl ?_
      exact r_ri rfl (po_I hst ⟨by decide, by decide⟩ ⟨rfl, by omega, by omega⟩)
/-- LoopGroundModel traced -/
abbrev S_194n  : mS := [(244, 244, 0, 18), (243, 243, 0, 17), (225, 225, 42, 42), (225, 225, 38, 38), (225, 225, 39, 39), (246, 246, 0, 17999), (225, 225, 40, 40)]
abbrev E_194n (a1 : Int) (a2 : Int) (z0 w0 : mZ) (x y tx it mt tt ct : Option Nat) : Int → mZ → mZ → mP → Prop := fun v z w p => p = (pq x y tx it mt tt ct) ∧ (-2) ≤ v ∧ v ≤ 17
theorem m_194n {d : Nat} {z0 w0 : mZ} {x y tx it mt tt ct : Option Nat} (a1 : Int) (a2 : Int) (hz : rz z0) (hw : rw_ w0) (ha1 : (-1) ≤ a1 ∧ a1 ≤ (-1)) (ha2 : (-2147483648) ≤ a2 ∧ a2 ≤ 2147483647) (hrv : RV z0 w0) : wc (d + 5) 194 [.ref 225, .int (Int32.ofInt a1), .int (Int32.ofInt a2)] (mk z0 w0 (pq x y tx it mt tt ct)) (poI S_194n z0 w0 (E_194n a1 a2 z0 w0 x y tx it mt tt ct)) := by
  have hst : st_ S_194n z0 w0 z0 w0 := st_rf hz hw
  have key : ∀ N : Nat, (∀ (z w : mZ), st_ S_194n z0 w0 z w → z 225 38 = z0 225 38 → z 225 39 = z0 225 39 → z 225 40 = z0 225 40 → z 225 42 = z0 225 42 → (RV z w) → 25 < (N : Int) → wp_ (d + 4) 194 3 (some .int) (15, [(0, .ref 225), (1, .int (Int32.ofInt a1)), (2, .int (Int32.ofInt a2))], [], mk z w (pq x y tx it mt tt ct)) (poI S_194n z0 w0 (E_194n a1 a2 z0 w0 x y tx it mt tt ct))) := by
    intro N
    induction N with
    | zero =>
      intro  z w
      intros; exfalso; omega
    | succ N ih =>
      have ih0 := ih; clear ih
      intro  z w  hst un_z_225_38 un_z_225_39 un_z_225_40 un_z_225_42 as0 hM
      have h27 := rd_225_27 hst.1
      refine r_ld (pc' := 16) rfl rfl rfl rfl ?_
      refine r_ld (pc' := 17) rfl rfl rfl rfl ?_
      have hF37 : w 270 = w0 270 := (funext fun _ => hst.2.2.2 _ _ (notS_c (by omega) (notS_c (by omega) (notS_c (by omega) (notS_c (by omega) (notS_c (by omega) (notS_c (by omega) (notS_c (by omega) notS_n))))))))
      refine r_cVL (pc' := 20) rfl rfl rfl rfl rfl sh_225 (m_181n (d := d + 2) a1 hst.1 hst.2.1 ⟨by omega, by omega⟩) (fun v38 z39 w40 p41 h42 hs43 hE44 => ?_)
      obtain ⟨rfl, rfl, rfl, hE44⟩ := hE44
      have hsv := hE44.2.2
      refine r_cSI (pc' := 23) rfl rfl rfl rfl rfl (m_189v (d := d + 3) v38 hst.1 hst.2.1 ⟨by omega, by omega⟩) (fun v46 z47 w48 p49 h50 hs51 hE52 => ?_)
      obtain ⟨rfl, rfl, rfl, hE52⟩ := hE52
      have hiv := hE52.2.2
      refine r_zne (pc' := 26) rfl rfl ⟨by omega, by omega⟩ (fun hc54 => ?_) (fun hc54 => ?_)
      · skip
        refine r_ld (pc' := 30) rfl rfl rfl rfl ?_
        refine r_ld (pc' := 31) rfl rfl rfl rfl ?_
        have hb55 := rd_225_26 hz
        have hf56 : z 225 26 = z0 225 26 := (hst.2.2.1 _ _ (notS_c (by omega) (notS_c (by omega) (notS_c (by omega) (notS_c (by omega) (notS_c (by omega) (notS_c (by omega) (notS_c (by omega) notS_n))))))))
        have hF57 : z 235 = z0 235 := (funext fun _ => hst.2.2.1 _ _ (notS_c (by omega) (notS_c (by omega) (notS_c (by omega) (notS_c (by omega) (notS_c (by omega) (notS_c (by omega) (notS_c (by omega) notS_n))))))))
        have hF58 : w 270 = w0 270 := (funext fun _ => hst.2.2.2 _ _ (notS_c (by omega) (notS_c (by omega) (notS_c (by omega) (notS_c (by omega) (notS_c (by omega) (notS_c (by omega) (notS_c (by omega) notS_n))))))))
        refine r_cVV (pc' := 34) rfl rfl rfl rfl rfl sh_225 (m_193n (d := d) a1 hst.1 hst.2.1 ⟨by omega, by omega⟩ (by exact as0.1.1) (by exact as0.2.1) (by rw [← hsv]; exact hiv.1 (by omega))) (fun z60 w61 p62 hs64 hE65 => ?_)
        have hs66 := st_tr hst hs64 (sub_B rfl)
        obtain rfl := hE65
        refine r_ld (pc' := 35) rfl rfl rfl rfl ?_
        refine r_zlt (pc' := 38) rfl rfl ⟨by omega, by omega⟩ (fun hc67 => ?_) (fun hc67 => ?_)
        · skip
          refine r_c0 (pc' := 61) rfl rfl ?_
          exact r_ri rfl (po_I hs66 ⟨by decide, by decide⟩ ⟨rfl, by omega, by omega⟩)
        · skip
          refine r_ld (pc' := 39) rfl rfl rfl rfl ?_
          refine r_ld (pc' := 40) rfl rfl rfl rfl ?_
          have hb68 := rd_225_42 hs66.1
          refine r_gi (pc' := 43) rfl rfl sh_225 rfl rfl ?_
          refine r_ige (pc' := 46) rfl rfl ⟨by omega, by omega⟩ ⟨by omega, by omega⟩ (fun hc69 => ?_) (fun hc69 => ?_)
          · skip
            refine r_c0 (pc' := 61) rfl rfl ?_
            exact r_ri rfl (po_I hs66 ⟨by decide, by decide⟩ ⟨rfl, by omega, by omega⟩)
          · skip
            refine r_ld (pc' := 47) rfl rfl rfl rfl ?_
            refine r_gr (b := 235) (pc' := 50) rfl rfl sh_225 rfl pp_225_18 ?_
            refine r_ld (pc' := 51) rfl rfl rfl rfl ?_
            refine r_gr (b := 246) (pc' := 54) rfl rfl sh_225 rfl pp_225_41 ?_
            refine r_ld (pc' := 55) rfl rfl rfl rfl ?_
            have hb70 := rd_246 hs66.1 (i := a2.toNat) (by omega)
            refine r_ia (pc' := 56) rfl rfl sh_246 rfl (by omega) (by omega) rfl ?_
            have hb71 := rd_235 hz (i := (z60 246 a2.toNat).toNat) (by omega)
            refine r_ia (pc' := 57) rfl rfl sh_235 rfl (by omega) (by omega) ((hs64.2.2.1 _ _ (notS_c (by omega) (notS_c (by omega) (notS_c (by omega) (notS_c (by omega) (notS_c (by omega) (notS_c (by omega) (notS_c (by omega) notS_n)))))))).trans (hst.2.2.1 _ _ (notS_c (by omega) (notS_c (by omega) (notS_c (by omega) (notS_c (by omega) (notS_c (by omega) (notS_c (by omega) (notS_c (by omega) notS_n))))))))) ?_
            refine r_go rfl ?_
            exact r_ri rfl (po_I hs66 ⟨by omega, by omega⟩ ⟨rfl, by omega, by omega⟩)
      · skip
        refine r_cb (pc' := 28) rfl (by decide) rfl ?_
        exact r_ri rfl (po_I hst ⟨by decide, by decide⟩ ⟨rfl, by omega, by omega⟩)
  refine w_m rfl rfl ?_
  refine r_ld (pc' := 1) rfl rfl rfl rfl ?_
  refine r_c0 (pc' := 2) rfl rfl ?_
  refine r_ieq (pc' := 5) rfl rfl ⟨by omega, by omega⟩ ⟨by decide, by decide⟩ (fun hc72 => ?_) (fun hc72 => ?_)
  · skip
    have hb73 := rd_225_38 hz
    have hb74 := rd_225_39 hz
    have hb75 := rd_225_40 hz
    have hb76 := rd_225_42 hz
    exact w_lv (sub_c rfl (sub_c rfl (sub_c rfl sub_n))) rfl ((key ((25 : Int).toNat + 1)) z0 w0 hst (rfl) (rfl) (rfl) (rfl) (by exact hrv) (by omega))
  · exfalso; omega
/-- LoopGroundModel loops -/
abbrev S_192t  : mS := [(244, 244, 0, 18), (243, 243, 0, 17), (225, 225, 36, 36), (225, 225, 37, 37), (245, 245, 0, 17999), (225, 225, 38, 38), (225, 225, 39, 39), (225, 225, 40, 40)]
abbrev E_192t (a1 : Int) (a2 : Int) (z0 w0 : mZ) (x y tx it mt tt ct : Option Nat) : Int → mZ → mZ → mP → Prop := fun v z w p => p = (pq x y tx it mt tt ct) ∧ (-2147483648) ≤ v ∧ v ≤ 2147483647
theorem m_192t {d : Nat} {z0 w0 : mZ} {x y tx it mt tt ct : Option Nat} (a1 : Int) (a2 : Int) (hz : rz z0) (hw : rw_ w0) (ha1 : (-2147483648) ≤ a1 ∧ a1 ≤ 2147483647) (ha2 : (-2147483648) ≤ a2 ∧ a2 ≤ 2147483647) (hrv : RV z0 w0) (hne : a1 ≠ -1) : wc (d + 6) 192 [.ref 225, .int (Int32.ofInt a1), .int (Int32.ofInt a2)] (mk z0 w0 (pq x y tx it mt tt ct)) (poI S_192t z0 w0 (E_192t a1 a2 z0 w0 x y tx it mt tt ct)) := by
  have hst : st_ S_192t z0 w0 z0 w0 := st_rf hz hw
  have key : ∀ N : Nat, (∀ (z w : mZ), (-1) ≤ a1 ∧ a1 ≤ 7 → st_ S_192t z0 w0 z w → z 225 36 = z0 225 36 → z 225 37 = z0 225 37 → z 225 38 = z0 225 38 → z 225 39 = z0 225 39 → z 225 40 = z0 225 40 → (RV z w) → (0 ≤ a1 ∧ a1 < z 225 27) → 38 < (N : Int) → wp_ (d + 5) 192 3 (some .int) (13, [(0, .ref 225), (1, .int (Int32.ofInt a1)), (2, .int (Int32.ofInt a2))], [], mk z w (pq x y tx it mt tt ct)) (poI S_192t z0 w0 (E_192t a1 a2 z0 w0 x y tx it mt tt ct))) := by
    intro N
    induction N with
    | zero =>
      intro  z w
      intros; exfalso; omega
    | succ N ih =>
      have ih0 := ih; clear ih
      intro  z w  hpa1 hst un_z_225_36 un_z_225_37 un_z_225_38 un_z_225_39 un_z_225_40 as0 as1 hM
      refine r_ld (pc' := 14) rfl rfl rfl rfl ?_
      refine r_zlt (pc' := 17) rfl rfl ⟨by omega, by omega⟩ (fun hc51 => ?_) (fun hc51 => ?_)
      · skip
        refine r_c0 (pc' := 23) rfl rfl ?_
        exact r_ri rfl (po_I hst ⟨by decide, by decide⟩ ⟨rfl, by omega, by omega⟩)
      · skip
        refine r_ld (pc' := 18) rfl rfl rfl rfl ?_
        refine r_c0 (pc' := 19) rfl rfl ?_
        refine r_ile (pc' := 22) rfl rfl ⟨by omega, by omega⟩ ⟨by decide, by decide⟩ (fun hc52 => ?_) (fun hc52 => ?_)
        · skip
          have h27 := rd_225_27 hst.1
          refine r_ld (pc' := 25) rfl rfl rfl rfl ?_
          refine r_ld (pc' := 26) rfl rfl rfl rfl ?_
          refine r_cVL (pc' := 29) rfl rfl rfl rfl rfl sh_225 (m_181t (d := d + 3) a1 hst.1 hst.2.1 ⟨by omega, by omega⟩) (fun v53 z54 w55 p56 h57 hs58 hE59 => ?_)
          obtain ⟨rfl, rfl, rfl, hE59⟩ := hE59
          have hsv := hE59.2.2
          refine r_cSI (pc' := 32) rfl rfl rfl rfl rfl (m_189v (d := d + 4) v53 hst.1 hst.2.1 ⟨by omega, by omega⟩) (fun v61 z62 w63 p64 h65 hs66 hE67 => ?_)
          obtain ⟨rfl, rfl, rfl, hE67⟩ := hE67
          have hiv := hE67.2.2
          refine r_zne (pc' := 35) rfl rfl ⟨by omega, by omega⟩ (fun hc69 => ?_) (fun hc69 => ?_)
          · skip
            refine r_ld (pc' := 39) rfl rfl rfl rfl ?_
            refine r_ld (pc' := 40) rfl rfl rfl rfl ?_
            have hb70 := rd_225_26 hz
            have hf71 : z 225 26 = z0 225 26 := (hst.2.2.1 _ _ (notS_c (by omega) (notS_c (by omega) (notS_c (by omega) (notS_c (by omega) (notS_c (by omega) (notS_c (by omega) (notS_c (by omega) (notS_c (by omega) notS_n)))))))))
            have hF72 : z 235 = z0 235 := (funext fun _ => hst.2.2.1 _ _ (notS_c (by omega) (notS_c (by omega) (notS_c (by omega) (notS_c (by omega) (notS_c (by omega) (notS_c (by omega) (notS_c (by omega) (notS_c (by omega) notS_n)))))))))
            have hF73 : z 241 = z0 241 := (funext fun _ => hst.2.2.1 _ _ (notS_c (by omega) (notS_c (by omega) (notS_c (by omega) (notS_c (by omega) (notS_c (by omega) (notS_c (by omega) (notS_c (by omega) (notS_c (by omega) notS_n)))))))))
            refine r_cVV (pc' := 43) rfl rfl rfl rfl rfl sh_225 (m_187t (d := d) a1 hst.1 hst.2.1 ⟨by omega, by omega⟩ (by exact as0.1.1) (by exact (as0.1.2.1 a1.toNat (by omega)).1) (by rw [← hsv]; exact hiv.1 (by omega))) (fun z75 w76 p77 hs79 hE80 => ?_)
            have hs81 := st_tr hst hs79 (sub_B rfl)
            obtain ⟨rfl, hE80⟩ := hE80
            refine r_ld (pc' := 44) rfl rfl rfl rfl ?_
            refine r_zne (pc' := 47) rfl rfl ⟨by omega, by omega⟩ (fun hc82 => ?_) (fun hc82 => ?_)
            · skip
              refine r_ld (pc' := 55) rfl rfl rfl rfl ?_
              refine r_c0 (pc' := 56) rfl rfl ?_
              refine r_ine (pc' := 59) rfl rfl ⟨by omega, by omega⟩ ⟨by decide, by decide⟩ (fun hc83 => ?_) (fun hc83 => ?_)
              · skip
                refine r_ld (pc' := 67) rfl rfl rfl rfl ?_
                have hb84 := rd_225_36 hs81.1
                refine r_gi (pc' := 70) rfl rfl sh_225 rfl rfl ?_
                refine r_c0 (pc' := 71) rfl rfl ?_
                refine r_ine (pc' := 74) rfl rfl ⟨by omega, by omega⟩ ⟨by decide, by decide⟩ (fun hc85 => ?_) (fun hc85 => ?_)
                · skip
                  refine r_c0 (pc' := 86) rfl rfl ?_
                  exact r_ri rfl (po_I hs81 ⟨by decide, by decide⟩ ⟨rfl, by omega, by omega⟩)
                · skip
                  refine r_ld (pc' := 75) rfl rfl rfl rfl ?_
                  have hb86 := rd_225_37 hs81.1
                  refine r_gi (pc' := 78) rfl rfl sh_225 rfl rfl ?_
                  refine r_zne (pc' := 81) rfl rfl ⟨by omega, by omega⟩ (fun hc87 => ?_) (fun hc87 => ?_)
                  · skip
                    refine r_c0 (pc' := 86) rfl rfl ?_
                    exact r_ri rfl (po_I hs81 ⟨by decide, by decide⟩ ⟨rfl, by omega, by omega⟩)
                  · skip
                    refine r_c0 (pc' := 82) rfl rfl ?_
                    refine r_go rfl ?_
                    exact r_ri rfl (po_I hs81 ⟨by decide, by decide⟩ ⟨rfl, by omega, by omega⟩)
              · skip
                refine r_ld (pc' := 60) rfl rfl rfl rfl ?_
                have hb88 := rd_225_37 hs81.1
                refine r_gi (pc' := 63) rfl rfl sh_225 rfl rfl ?_
                refine r_go rfl ?_
                exact r_ri rfl (po_I hs81 ⟨by omega, by omega⟩ ⟨rfl, by omega, by omega⟩)
            · skip
              refine r_ld (pc' := 48) rfl rfl rfl rfl ?_
              have hb89 := rd_225_36 hs81.1
              refine r_gi (pc' := 51) rfl rfl sh_225 rfl rfl ?_
              refine r_go rfl ?_
              exact r_ri rfl (po_I hs81 ⟨by omega, by omega⟩ ⟨rfl, by omega, by omega⟩)
          · skip
            refine r_cb (pc' := 37) rfl (by decide) rfl ?_
            exact r_ri rfl (po_I hst ⟨by decide, by decide⟩ ⟨rfl, by omega, by omega⟩)
        · skip
          refine r_c0 (pc' := 23) rfl rfl ?_
          exact r_ri rfl (po_I hst ⟨by decide, by decide⟩ ⟨rfl, by omega, by omega⟩)
  refine w_m rfl rfl ?_
  refine r_ld (pc' := 1) rfl rfl rfl rfl ?_
  refine r_c0 (pc' := 2) rfl rfl ?_
  refine r_ieq (pc' := 5) rfl rfl ⟨by omega, by omega⟩ ⟨by decide, by decide⟩ (fun hc90 => ?_) (fun hc90 => ?_)
  · skip
    have hb91 := rd_225_27 hz
    have hb92 := rd_225_36 hz
    have hb93 := rd_225_37 hz
    have hb94 := rd_225_38 hz
    have hb95 := rd_225_39 hz
    have hb96 := rd_225_40 hz
    exact w_lv (sub_c rfl (sub_c rfl (sub_c rfl sub_n))) rfl ((key ((38 : Int).toNat + 1)) z0 w0 ⟨by omega, by omega⟩ hst (rfl) (rfl) (rfl) (rfl) (rfl) (by exact hrv) (by first | omega | assumption) (by omega))
  · skip
    refine r_ld (pc' := 6) rfl rfl rfl rfl ?_
    refine r_ld (pc' := 7) rfl rfl rfl rfl ?_
    have hb97 := rd_225_27 hz
    refine r_cVI (pc' := 10) rfl rfl rfl rfl rfl sh_225 (m_173 (d := d + 4) a1 hst.1 hst.2.1 ⟨by omega, by omega⟩) (fun v98 z99 w100 p101 h102 hs103 hE104 => ?_)
    obtain ⟨rfl, rfl, rfl, hE104⟩ := hE104
    refine r_zeq (pc' := 13) rfl rfl ⟨by omega, by omega⟩ (fun hc106 => ?_) (fun hc106 => ?_)
    · skip
      refine r_c0 (pc' := 23) rfl rfl ?_
      exact r_ri rfl (po_I hst ⟨by decide, by decide⟩ ⟨rfl, by omega, by omega⟩)
    · skip
      have hb107 := rd_225_36 hz
      have hb108 := rd_225_37 hz
      have hb109 := rd_225_38 hz
      have hb110 := rd_225_39 hz
      have hb111 := rd_225_40 hz
      exact w_lv (sub_c rfl (sub_c rfl (sub_c rfl sub_n))) rfl ((key ((38 : Int).toNat + 1)) z0 w0 ⟨by omega, by omega⟩ hst (rfl) (rfl) (rfl) (rfl) (rfl) (by exact hrv) (by first | omega | assumption) (by omega))
/-- LoopGroundModel loops -/
abbrev S_192n  : mS := [(244, 244, 0, 18), (243, 243, 0, 17), (225, 225, 36, 36), (225, 225, 37, 37), (245, 245, 0, 17999), (225, 225, 38, 38), (225, 225, 39, 39), (225, 225, 40, 40)]
abbrev E_192n (a1 : Int) (a2 : Int) (z0 w0 : mZ) (x y tx it mt tt ct : Option Nat) : Int → mZ → mZ → mP → Prop := fun v z w p => p = (pq x y tx it mt tt ct) ∧ (-2147483648) ≤ v ∧ v ≤ 2147483647
theorem m_192n {d : Nat} {z0 w0 : mZ} {x y tx it mt tt ct : Option Nat} (a1 : Int) (a2 : Int) (hz : rz z0) (hw : rw_ w0) (ha1 : (-1) ≤ a1 ∧ a1 ≤ (-1)) (ha2 : (-2147483648) ≤ a2 ∧ a2 ≤ 2147483647) (hrv : RV z0 w0) : wc (d + 6) 192 [.ref 225, .int (Int32.ofInt a1), .int (Int32.ofInt a2)] (mk z0 w0 (pq x y tx it mt tt ct)) (poI S_192n z0 w0 (E_192n a1 a2 z0 w0 x y tx it mt tt ct)) := by
  have hst : st_ S_192n z0 w0 z0 w0 := st_rf hz hw
  have key : ∀ N : Nat, (∀ (z w : mZ), st_ S_192n z0 w0 z w → z 225 36 = z0 225 36 → z 225 37 = z0 225 37 → z 225 38 = z0 225 38 → z 225 39 = z0 225 39 → z 225 40 = z0 225 40 → (RV z w) → 38 < (N : Int) → wp_ (d + 5) 192 3 (some .int) (13, [(0, .ref 225), (1, .int (Int32.ofInt a1)), (2, .int (Int32.ofInt a2))], [], mk z w (pq x y tx it mt tt ct)) (poI S_192n z0 w0 (E_192n a1 a2 z0 w0 x y tx it mt tt ct))) := by
    intro N
    induction N with
    | zero =>
      intro  z w
      intros; exfalso; omega
    | succ N ih =>
      have ih0 := ih; clear ih
      intro  z w  hst un_z_225_36 un_z_225_37 un_z_225_38 un_z_225_39 un_z_225_40 as0 hM
      refine r_ld (pc' := 14) rfl rfl rfl rfl ?_
      refine r_zlt (pc' := 17) rfl rfl ⟨by omega, by omega⟩ (fun hc43 => ?_) (fun hc43 => ?_)
      · skip
        refine r_c0 (pc' := 23) rfl rfl ?_
        exact r_ri rfl (po_I hst ⟨by decide, by decide⟩ ⟨rfl, by omega, by omega⟩)
      · skip
        refine r_ld (pc' := 18) rfl rfl rfl rfl ?_
        refine r_c0 (pc' := 19) rfl rfl ?_
        refine r_ile (pc' := 22) rfl rfl ⟨by omega, by omega⟩ ⟨by decide, by decide⟩ (fun hc44 => ?_) (fun hc44 => ?_)
        · skip
          have h27 := rd_225_27 hst.1
          refine r_ld (pc' := 25) rfl rfl rfl rfl ?_
          refine r_ld (pc' := 26) rfl rfl rfl rfl ?_
          have hF45 : w 270 = w0 270 := (funext fun _ => hst.2.2.2 _ _ (notS_c (by omega) (notS_c (by omega) (notS_c (by omega) (notS_c (by omega) (notS_c (by omega) (notS_c (by omega) (notS_c (by omega) (notS_c (by omega) notS_n)))))))))
          refine r_cVL (pc' := 29) rfl rfl rfl rfl rfl sh_225 (m_181n (d := d + 3) a1 hst.1 hst.2.1 ⟨by omega, by omega⟩) (fun v46 z47 w48 p49 h50 hs51 hE52 => ?_)
          obtain ⟨rfl, rfl, rfl, hE52⟩ := hE52
          have hsv := hE52.2.2
          refine r_cSI (pc' := 32) rfl rfl rfl rfl rfl (m_189v (d := d + 4) v46 hst.1 hst.2.1 ⟨by omega, by omega⟩) (fun v54 z55 w56 p57 h58 hs59 hE60 => ?_)
          obtain ⟨rfl, rfl, rfl, hE60⟩ := hE60
          have hiv := hE60.2.2
          refine r_zne (pc' := 35) rfl rfl ⟨by omega, by omega⟩ (fun hc62 => ?_) (fun hc62 => ?_)
          · skip
            refine r_ld (pc' := 39) rfl rfl rfl rfl ?_
            refine r_ld (pc' := 40) rfl rfl rfl rfl ?_
            have hb63 := rd_225_26 hz
            have hf64 : z 225 26 = z0 225 26 := (hst.2.2.1 _ _ (notS_c (by omega) (notS_c (by omega) (notS_c (by omega) (notS_c (by omega) (notS_c (by omega) (notS_c (by omega) (notS_c (by omega) (notS_c (by omega) notS_n)))))))))
            have hF65 : z 235 = z0 235 := (funext fun _ => hst.2.2.1 _ _ (notS_c (by omega) (notS_c (by omega) (notS_c (by omega) (notS_c (by omega) (notS_c (by omega) (notS_c (by omega) (notS_c (by omega) (notS_c (by omega) notS_n)))))))))
            have hF66 : w 270 = w0 270 := (funext fun _ => hst.2.2.2 _ _ (notS_c (by omega) (notS_c (by omega) (notS_c (by omega) (notS_c (by omega) (notS_c (by omega) (notS_c (by omega) (notS_c (by omega) (notS_c (by omega) notS_n)))))))))
            have hF67 : z 241 = z0 241 := (funext fun _ => hst.2.2.1 _ _ (notS_c (by omega) (notS_c (by omega) (notS_c (by omega) (notS_c (by omega) (notS_c (by omega) (notS_c (by omega) (notS_c (by omega) (notS_c (by omega) notS_n)))))))))
            refine r_cVV (pc' := 43) rfl rfl rfl rfl rfl sh_225 (m_187n (d := d) a1 hst.1 hst.2.1 ⟨by omega, by omega⟩ (by exact as0.1.1) (by exact as0.2.1) (by rw [← hsv]; exact hiv.1 (by omega))) (fun z69 w70 p71 hs73 hE74 => ?_)
            have hs75 := st_tr hst hs73 (sub_B rfl)
            obtain ⟨rfl, hE74⟩ := hE74
            refine r_ld (pc' := 44) rfl rfl rfl rfl ?_
            refine r_zne (pc' := 47) rfl rfl ⟨by omega, by omega⟩ (fun hc76 => ?_) (fun hc76 => ?_)
            · skip
              refine r_ld (pc' := 55) rfl rfl rfl rfl ?_
              refine r_c0 (pc' := 56) rfl rfl ?_
              refine r_ine (pc' := 59) rfl rfl ⟨by omega, by omega⟩ ⟨by decide, by decide⟩ (fun hc77 => ?_) (fun hc77 => ?_)
              · skip
                refine r_ld (pc' := 67) rfl rfl rfl rfl ?_
                have hb78 := rd_225_36 hs75.1
                refine r_gi (pc' := 70) rfl rfl sh_225 rfl rfl ?_
                refine r_c0 (pc' := 71) rfl rfl ?_
                refine r_ine (pc' := 74) rfl rfl ⟨by omega, by omega⟩ ⟨by decide, by decide⟩ (fun hc79 => ?_) (fun hc79 => ?_)
                · skip
                  refine r_c0 (pc' := 86) rfl rfl ?_
                  exact r_ri rfl (po_I hs75 ⟨by decide, by decide⟩ ⟨rfl, by omega, by omega⟩)
                · skip
                  refine r_ld (pc' := 75) rfl rfl rfl rfl ?_
                  have hb80 := rd_225_37 hs75.1
                  refine r_gi (pc' := 78) rfl rfl sh_225 rfl rfl ?_
                  refine r_zne (pc' := 81) rfl rfl ⟨by omega, by omega⟩ (fun hc81 => ?_) (fun hc81 => ?_)
                  · skip
                    refine r_c0 (pc' := 86) rfl rfl ?_
                    exact r_ri rfl (po_I hs75 ⟨by decide, by decide⟩ ⟨rfl, by omega, by omega⟩)
                  · skip
                    refine r_c0 (pc' := 82) rfl rfl ?_
                    refine r_go rfl ?_
                    exact r_ri rfl (po_I hs75 ⟨by decide, by decide⟩ ⟨rfl, by omega, by omega⟩)
              · skip
                refine r_ld (pc' := 60) rfl rfl rfl rfl ?_
                have hb82 := rd_225_37 hs75.1
                refine r_gi (pc' := 63) rfl rfl sh_225 rfl rfl ?_
                refine r_go rfl ?_
                exact r_ri rfl (po_I hs75 ⟨by omega, by omega⟩ ⟨rfl, by omega, by omega⟩)
            · skip
              refine r_ld (pc' := 48) rfl rfl rfl rfl ?_
              have hb83 := rd_225_36 hs75.1
              refine r_gi (pc' := 51) rfl rfl sh_225 rfl rfl ?_
              refine r_go rfl ?_
              exact r_ri rfl (po_I hs75 ⟨by omega, by omega⟩ ⟨rfl, by omega, by omega⟩)
          · skip
            refine r_cb (pc' := 37) rfl (by decide) rfl ?_
            exact r_ri rfl (po_I hst ⟨by decide, by decide⟩ ⟨rfl, by omega, by omega⟩)
        · skip
          refine r_c0 (pc' := 23) rfl rfl ?_
          exact r_ri rfl (po_I hst ⟨by decide, by decide⟩ ⟨rfl, by omega, by omega⟩)
  refine w_m rfl rfl ?_
  refine r_ld (pc' := 1) rfl rfl rfl rfl ?_
  refine r_c0 (pc' := 2) rfl rfl ?_
  refine r_ieq (pc' := 5) rfl rfl ⟨by omega, by omega⟩ ⟨by decide, by decide⟩ (fun hc84 => ?_) (fun hc84 => ?_)
  · skip
    have hb85 := rd_225_36 hz
    have hb86 := rd_225_37 hz
    have hb87 := rd_225_38 hz
    have hb88 := rd_225_39 hz
    have hb89 := rd_225_40 hz
    exact w_lv (sub_c rfl (sub_c rfl (sub_c rfl sub_n))) rfl ((key ((38 : Int).toNat + 1)) z0 w0 hst (rfl) (rfl) (rfl) (rfl) (rfl) (by exact hrv) (by omega))
  · exfalso; omega
end
section
/-! the reference: boxes and acts keep the invariant -/
theorem rE18 {z : mZ} (hz : rz z) : rE z ≤ 18 := by have := rd_225_26 hz; unfold rE; omega
theorem RV_im {z z' w w' : mZ} {k : Nat} (hz : rz z) (e1 : ∀ i, 26 ≤ i → i ≤ 28 → z' 225 i = z 225 i) (e2 : ∀ a, 235 ≤ a → a ≤ 241 → a ≠ 238 → z' a = z a) (e3 : ∀ a, 247 ≤ a → a ≤ 254 → z' a = z a) (e4 : z' 225 73 = z 225 73) (e5 : z' 225 74 = z 225 74)
    (f0 : w' 270 = w 270) (f1 : w' 271 = w 271) (a : ∀ e : Nat, e < 18 → w' 275 (18 * k + e) = w 270 e) (o : ∀ i : Nat, i < 18 * k ∨ 18 * k + 18 ≤ i → w' 275 i = w 275 i) (b : ∀ j : Nat, j ≠ k → z' 274 j = z 274 j) (h : RV z w) : RV z' w' := by
  obtain ⟨h1, h2, ⟨h3, h4⟩, h5⟩ := h
  have q26 := e1 26 (by omega) (by omega)
  have q235 := e2 235 (by omega) (by omega) (by omega)
  have h18 := rE18 hz
  refine ⟨RGd_c e1 e2 e3 h1, FTw_c q26 q235 h18 (fun e _ => by rw [f0]) h2, ⟨by omega, fun k hk => FTw_c q26 q235 h18 (fun e _ => by rw [f1]) (h4 k (by omega))⟩, fun j hj q => ?_⟩
  by_cases c : j = k
  · subst c; exact FTw_c q26 q235 h18 (fun e he => a e he) h2
  · exact FTw_c q26 q235 h18 (fun e he => o _ (by omega)) (h5 j hj (by rw [← b j c]; exact q))
theorem RV_bk {z z' w w' : mZ} {k : Nat} (hz : rz z) (e1 : ∀ i, 26 ≤ i → i ≤ 28 → z' 225 i = z 225 i) (e2 : ∀ a, 235 ≤ a → a ≤ 241 → a ≠ 238 → z' a = z a) (e3 : ∀ a, 247 ≤ a → a ≤ 254 → z' a = z a) (e6 : z' 274 = z 274) (f5 : w' 275 = w 275) (hk : k < 3) (hb : z 274 k = 1)
    (s : z' 225 73 + z' 225 74 = 0) (a : ∀ e : Nat, e < 18 → w' 270 e = w 275 (18 * k + e)) (h : RV z w) : RV z' w' := by
  obtain ⟨h1, h2, ⟨h3, h4⟩, h5⟩ := h
  have q26 := e1 26 (by omega) (by omega)
  have q235 := e2 235 (by omega) (by omega) (by omega)
  have h18 := rE18 hz
  exact ⟨RGd_c e1 e2 e3 h1, FTw_c q26 q235 h18 (fun e he => a e he) (h5 k hk hb), ⟨by omega, fun k hk => absurd hk (by omega)⟩, fun j hj q => FTw_c q26 q235 h18 (fun e _ => by rw [f5]) (h5 j hj (by rw [← e6]; exact q))⟩
def EXd (w w' : mZ) (k : Nat) : Prop := (∀ e : Nat, e < 18 → w' 271 (18 * k + e) = w 270 e ∧ w' 270 e = w 271 (18 * k + e)) ∧ ∀ i : Nat, i < 18 * k ∨ 18 * k + 18 ≤ i → w' 271 i = w 271 i
theorem RV_ex {z z' w w' : mZ} {k : Nat} (hz : rz z) (e1 : ∀ i, 26 ≤ i → i ≤ 28 → z' 225 i = z 225 i) (e2 : ∀ a, 235 ≤ a → a ≤ 241 → a ≠ 238 → z' a = z a) (e3 : ∀ a, 247 ≤ a → a ≤ 254 → z' a = z a) (e6 : z' 274 = z 274) (f5 : w' 275 = w 275) (hk : (k : Int) < z 225 73 + z 225 74)
    (s : z' 225 73 + z' 225 74 = z 225 73 + z 225 74) (x : EXd w w' k) (h : RV z w) : RV z' w' := by
  obtain ⟨h1, h2, ⟨h3, h4⟩, h5⟩ := h
  have q26 := e1 26 (by omega) (by omega)
  have q235 := e2 235 (by omega) (by omega) (by omega)
  have h18 := rE18 hz
  refine ⟨RGd_c e1 e2 e3 h1, FTw_c q26 q235 h18 (fun e he => (x.1 e he).2) (h4 k hk), ⟨by omega, fun j hj => ?_⟩, fun j hj q => FTw_c q26 q235 h18 (fun e _ => by rw [f5]) (h5 j hj (by rw [← e6]; exact q))⟩
  by_cases c : j = k
  · subst c; exact FTw_c q26 q235 h18 (fun e he => (x.1 e he).1) h2
  · exact FTw_c q26 q235 h18 (fun e he => x.2 _ (by omega)) (h4 j (by omega))
end
section
/-! methods, printed by wip/tools/vcg.py -/
/-- LoopGroundModel exchange -/
abbrev S_245v  : mS := [(271, 271, 0, 1097), (270, 270, 0, 17)]
abbrev E_245v (a1 : Int) (z0 w0 : mZ) (x y tx it mt tt ct : Option Nat) : mZ → mZ → mP → Prop := fun z w p => p = (pq x y tx it mt tt ct) ∧ (EXd w0 w a1.toNat)
theorem m_245v {d : Nat} {z0 w0 : mZ} {x y tx it mt tt ct : Option Nat} (a1 : Int) (hz : rz z0) (hw : rw_ w0) (ha1 : 0 ≤ a1 ∧ a1 ≤ 60) : wc (d + 1) 245 [.ref 225, .int (Int32.ofInt a1)] (mk z0 w0 (pq x y tx it mt tt ct)) (poV S_245v z0 w0 (E_245v a1 z0 w0 x y tx it mt tt ct)) := by
  have hst : st_ S_245v z0 w0 z0 w0 := st_rf hz hw
  have key : ∀ N : Nat, (∀ (x2 : Int) (z w : mZ), 0 ≤ x2 ∧ x2 ≤ 18 → st_ S_245v z0 w0 z w → (∀ e : Nat, (e : Int) < x2 → w 271 (18 * a1.toNat + e) = w0 270 e ∧ w 270 e = w0 271 (18 * a1.toNat + e)) → (∀ e : Nat, x2 ≤ e → e < 18 → w 271 (18 * a1.toNat + e) = w0 271 (18 * a1.toNat + e) ∧ w 270 e = w0 270 e) → (∀ i : Nat, i < 18 * a1.toNat ∨ 18 * a1.toNat + 18 ≤ i → w 271 i = w0 271 i) → 34 * (18 - x2) + 31 < (N : Int) → wp_ (d) 245 5 none (2, [(0, .ref 225), (1, .int (Int32.ofInt a1)), (2, .int (Int32.ofInt x2))], [], mk z w (pq x y tx it mt tt ct)) (poV S_245v z0 w0 (E_245v a1 z0 w0 x y tx it mt tt ct))) := by
    intro N
    induction N with
    | zero =>
      intro x2 z w
      intros; exfalso; omega
    | succ N ih =>
      have ih0 := ih; clear ih
      intro x2 z w  hx2 hst as1 as2 as3 hM
      refine r_ld (pc' := 3) rfl rfl rfl rfl ?_
      refine r_cb (pc' := 5) rfl (by decide) rfl ?_
      refine r_ige (pc' := 8) rfl rfl ⟨by omega, by omega⟩ ⟨by decide, by decide⟩ (fun hc10 => ?_) (fun hc10 => ?_)
      · skip
        exact r_ret rfl (po_V hst ⟨rfl, (by exact ⟨fun e he => as1 e (by omega), as3⟩)⟩)
      · skip
        refine r_ld (pc' := 9) rfl rfl rfl rfl ?_
        refine r_gr (b := 271) (pc' := 12) rfl rfl sh_225 rfl pp_225_72 ?_
        refine r_cb (pc' := 14) rfl (by decide) rfl ?_
        refine r_ld (pc' := 15) rfl rfl rfl rfl ?_
        refine r_mul (pc' := 16) rfl rfl ?_
        refine r_ld (pc' := 17) rfl rfl rfl rfl ?_
        refine r_add (pc' := 18) rfl rfl ?_
        have hb11 := rd_271 hst.2.1 (i := ((18 * a1) + x2).toNat) (by omega)
        refine r_la (pc' := 19) rfl rfl sh_271 rfl (by omega) (by omega) rfl ?_
        refine r_st (pc' := 20) (lv' := [(3, _), (0, _), (1, _), (2, _)]) rfl rfl rfl rfl ?_
        refine r_ld (pc' := 21) rfl rfl rfl rfl ?_
        refine r_gr (b := 271) (pc' := 24) rfl rfl sh_225 rfl pp_225_72 ?_
        refine r_cb (pc' := 26) rfl (by decide) rfl ?_
        refine r_ld (pc' := 27) rfl rfl rfl rfl ?_
        refine r_mul (pc' := 28) rfl rfl ?_
        refine r_ld (pc' := 29) rfl rfl rfl rfl ?_
        refine r_add (pc' := 30) rfl rfl ?_
        refine r_ld (pc' := 31) rfl rfl rfl rfl ?_
        refine r_gr (b := 270) (pc' := 34) rfl rfl sh_225 rfl pp_225_71 ?_
        refine r_ld (pc' := 35) rfl rfl rfl rfl ?_
        have hb12 := rd_270 hst.2.1 (i := x2.toNat) (by omega)
        refine r_la (pc' := 36) rfl rfl sh_270 rfl (by omega) (by omega) rfl ?_
        refine r_ls (pc' := 37) rfl rfl sh_271 rfl (by omega) (by omega) hst (inS_0 (by omega) (by omega) (by omega) (by omega)) (wr_271 ⟨by omega, by omega⟩) (fun w13 hq14 hs15 => ?_)
        have hqa := hq14
        refine r_ld (pc' := 38) rfl rfl rfl rfl ?_
        refine r_gr (b := 270) (pc' := 41) rfl rfl sh_225 rfl pp_225_71 ?_
        refine r_ld (pc' := 42) rfl rfl rfl rfl ?_
        refine r_ld (pc' := 43) rfl rfl rfl rfl ?_
        refine r_ls (pc' := 44) rfl rfl sh_270 rfl (by omega) (by omega) hs15 (inS_s (inS_0 (by omega) (by omega) (by omega) (by omega))) (wr_270 ⟨by omega, by omega⟩) (fun w16 hq17 hs18 => ?_)
        have hqb := hq17
        refine r_inc (pc' := 47) (lv' := [(3, _), (0, _), (1, _)]) rfl rfl rfl rfl rfl ?_
        refine r_go rfl ?_
        exact w_lv (sub_c rfl (sub_c rfl (sub_c rfl sub_n))) rfl (ih0 (x2 + 1) z w16 ⟨by omega, by omega⟩ hs18 (by first | (intro e he; exfalso; omega) | (intro e he; have k2 := as2 x2.toNat (by omega) (by omega); by_cases c : e = x2.toNat; (subst c; exact ⟨by rw [hqb, mu_ne (by omega), hqa, mu_eqi (by omega)]; exact k2.2, by rw [hqb, mu_eq, show (18 * a1 + x2).toNat = 18 * a1.toNat + x2.toNat by omega]; exact k2.1⟩); (rw [hqb, mu_ne (by omega), mu_ne (by omega), hqa, mu_ne (by omega), mu_ne (by omega)]; exact as1 e (by omega)))) (by first | (intro e he h2; exact ⟨rfl, rfl⟩) | (intro e he h2; rw [hqb, mu_ne (by omega), mu_ne (by omega), hqa, mu_ne (by omega), mu_ne (by omega)]; exact as2 e (by omega) h2)) (by first | (intro i hi; rfl) | (intro i hi; rw [hqb, mu_ne (by omega), hqa, mu_ne (by omega)]; exact as3 i hi)) (by omega))
  refine w_m rfl rfl ?_
  refine r_c0 (pc' := 1) rfl rfl ?_
  refine r_st (pc' := 2) (lv' := [(2, _), (0, _), (1, _)]) rfl rfl rfl rfl ?_
  exact w_lv (sub_c rfl (sub_c rfl (sub_c rfl sub_n))) rfl ((key ((34 * (18 - 0) + 31 : Int).toNat + 1)) 0 z0 w0 ⟨by omega, by omega⟩ hst (by first | (intro e he; exfalso; omega) | (intro e he; have k2 := as2 x2.toNat (by omega) (by omega); by_cases c : e = x2.toNat; (subst c; exact ⟨by rw [hqb, mu_ne (by omega), hqa, mu_eqi (by omega)]; exact k2.2, by rw [hqb, mu_eq, show (18 * a1 + x2).toNat = 18 * a1.toNat + x2.toNat by omega]; exact k2.1⟩); (rw [hqb, mu_ne (by omega), mu_ne (by omega), hqa, mu_ne (by omega), mu_ne (by omega)]; exact as1 e (by omega)))) (by first | (intro e he h2; exact ⟨rfl, rfl⟩) | (intro e he h2; rw [hqb, mu_ne (by omega), mu_ne (by omega), hqa, mu_ne (by omega), mu_ne (by omega)]; exact as2 e (by omega) h2)) (by first | (intro i hi; rfl) | (intro i hi; rw [hqb, mu_ne (by omega), hqa, mu_ne (by omega)]; exact as3 i hi)) (by omega))
end
section
/-! the reference: an act keeps the invariant -/
theorem LF_sm {z : mZ} {l : Nat} (h : LFr z) (hl : (l : Int) < z 225 27) : sm (tr (rE z) (lnR z l)) 18 ≤ 18000 := by
  refine Int.le_trans (sm_99 (fun j hj => ?_)) (by omega)
  by_cases c : (j : Int) < rE z
  · rw [tr_l c]; exact (h l hl).2 j c
  · rw [tr_g (by omega)]; omega
theorem RV_at {z z' w w' : mZ} {k : Nat} (hz : rz z) (e1 : ∀ i, 26 ≤ i → i ≤ 28 → z' 225 i = z 225 i) (e2 : ∀ a, 235 ≤ a → a ≤ 241 → a ≠ 238 → z' a = z a) (e3 : ∀ a, 247 ≤ a → a ≤ 254 → z' a = z a) (e6 : z' 274 = z 274) (f5 : w' 275 = w 275) (s : z' 225 73 = k + 1) (s2 : z' 225 74 = 0) (hk : k < 60)
    (a : ∀ j : Nat, (j : Int) < k → FTw z (fun e => w' 271 (18 * j + e))) (b : ∀ e : Nat, e < 18 → w' 271 (18 * k + e) = w 270 e ∧ w' 270 e = w 257 e) (g : FTw z (w 257)) (h : RV z w) : RV z' w' := by
  obtain ⟨h1, h2, ⟨h3, h4⟩, h5⟩ := h
  have q26 := e1 26 (by omega) (by omega)
  have q235 := e2 235 (by omega) (by omega) (by omega)
  have h18 := rE18 hz
  refine ⟨RGd_c e1 e2 e3 h1, FTw_c q26 q235 h18 (fun e he => (b e he).2) g, ⟨by omega, fun j hj => ?_⟩, fun j hj q => FTw_c q26 q235 h18 (fun e _ => by rw [f5]) (h5 j hj (by rw [← e6]; exact q))⟩
  by_cases c : j = k
  · subst c; exact FTw_c q26 q235 h18 (fun e he => (b e he).1) h2
  · exact FTw_c q26 q235 h18 (fun _ _ => rfl) (a j (by omega))
theorem AC_s {z w w' : mZ} {k : Int} (hz : rz z) (hk : k ≤ 59) (h : RV z w) (s : z 225 73 = 60) (a : ∀ i : Nat, (i : Int) < 1062 → w' 271 i = w 271 (i + 18)) : ∀ j : Nat, (j : Int) < k → FTw z (fun e => w' 271 (18 * j + e)) := by
  have h74 := rd_225_74 hz
  intro j hj
  refine FTw_c rfl rfl (rE18 hz) (fun e he => ?_) (h.2.2.1.2 (j + 1) (by omega))
  show w' 271 (18 * j + e) = w 271 (18 * (j + 1) + e)
  rw [a _ (by omega)]; congr 1; omega
end
section
/-! methods, printed by wip/tools/vcg.py -/
/-- LoopGroundModel shiftOut -/
abbrev S_240v  : mS := [(225, 225, 73, 73), (271, 271, 0, 1097)]
abbrev E_240v  (z0 w0 : mZ) (x y tx it mt tt ct : Option Nat) : mZ → mZ → mP → Prop := fun z w p => p = (pq x y tx it mt tt ct) ∧ (z 225 73 = z0 225 73 - 1 ∧ ∀ i : Nat, (i : Int) < 1062 → w 271 i = w0 271 (i + 18))
theorem m_240v {d : Nat} {z0 w0 : mZ} {x y tx it mt tt ct : Option Nat}  (hz : rz z0) (hw : rw_ w0) (h60 : z0 225 73 = 60) : wc (d + 1) 240 [.ref 225] (mk z0 w0 (pq x y tx it mt tt ct)) (poV S_240v z0 w0 (E_240v  z0 w0 x y tx it mt tt ct)) := by
  have hst : st_ S_240v z0 w0 z0 w0 := st_rf hz hw
  have hz11 := rd_225_73 hz
  have key : ∀ N : Nat, (∀ (x1 : Int) (z w : mZ), 0 ≤ x1 ∧ x1 ≤ 1080 → st_ S_240v z0 w0 z w → z 225 73 = z0 225 73 → (∀ i : Nat, (i : Int) < x1 → w 271 i = w0 271 (i + 18)) → (∀ i : Nat, x1 ≤ i → w 271 i = w0 271 i) → 24 * (1080 - x1) + 21 < (N : Int) → wp_ (d) 240 2 none (2, [(0, .ref 225), (1, .int (Int32.ofInt x1))], [], mk z w (pq x y tx it mt tt ct)) (poV S_240v z0 w0 (E_240v  z0 w0 x y tx it mt tt ct))) := by
    intro N
    induction N with
    | zero =>
      intro x1 z w
      intros; exfalso; omega
    | succ N ih =>
      have ih0 := ih; clear ih
      intro x1 z w  hx1 hst un_z_225_73 as1 as2 hM
      refine r_ld (pc' := 3) rfl rfl rfl rfl ?_
      refine r_cs (pc' := 6) rfl (by decide) rfl ?_
      refine r_ige (pc' := 9) rfl rfl ⟨by omega, by omega⟩ ⟨by decide, by decide⟩ (fun hc12 => ?_) (fun hc12 => ?_)
      · skip
        refine r_ld (pc' := 31) rfl rfl rfl rfl ?_
        refine r_al (pc' := 32) rfl rfl rfl rfl ?_
        have hb13 := rd_225_73 hz
        refine r_gi (pc' := 35) rfl rfl sh_225 rfl un_z_225_73 ?_
        refine r_c0 (pc' := 36) rfl rfl ?_
        refine r_sub (pc' := 37) rfl rfl ?_
        refine r_pi (pc' := 40) rfl rfl sh_225 rfl rfl hst (inS_0 (by omega) (by omega) (by omega) (by omega)) (wr_225_73 ⟨by omega, by omega⟩) (fun z14 hq15 hs16 => ?_)
        have hf17 : z14 225 73 = (z0 225 73) - 1 := ((congrFun (congrFun hq15 _) _).trans mu_eq)
        exact r_ret rfl (po_V hs16 ⟨rfl, (by exact ⟨by omega, fun i hi => as1 i (by omega)⟩)⟩)
      · skip
        refine r_ld (pc' := 10) rfl rfl rfl rfl ?_
        refine r_gr (b := 271) (pc' := 13) rfl rfl sh_225 rfl pp_225_72 ?_
        refine r_ld (pc' := 14) rfl rfl rfl rfl ?_
        refine r_ld (pc' := 15) rfl rfl rfl rfl ?_
        refine r_gr (b := 271) (pc' := 18) rfl rfl sh_225 rfl pp_225_72 ?_
        refine r_ld (pc' := 19) rfl rfl rfl rfl ?_
        refine r_cb (pc' := 21) rfl (by decide) rfl ?_
        refine r_add (pc' := 22) rfl rfl ?_
        have hb18 := rd_271 hst.2.1 (i := (x1 + 18).toNat) (by omega)
        refine r_la (pc' := 23) rfl rfl sh_271 rfl (by omega) (by omega) rfl ?_
        refine r_ls (pc' := 24) rfl rfl sh_271 rfl (by omega) (by omega) hst (inS_s (inS_0 (by omega) (by omega) (by omega) (by omega))) (wr_271 ⟨by omega, by omega⟩) (fun w19 hq20 hs21 => ?_)
        have hqa := hq20
        refine r_inc (pc' := 27) (lv' := [(0, _)]) rfl rfl rfl rfl rfl ?_
        refine r_go rfl ?_
        have hb22 := rd_225_73 hz
        have hf23 : z 225 73 = z0 225 73 := un_z_225_73
        exact w_lv (sub_c rfl (sub_c rfl sub_n)) rfl (ih0 (x1 + 1) z w19 ⟨by omega, by omega⟩ hs21 (un_z_225_73) (by first | (intro e he; exfalso; omega) | (intro e he; rw [hqa]; by_cases c : e = x1.toNat; (subst c; rw [mu_eq, as2 _ (by omega)]; congr 1; omega); (rw [mu_ne (by omega)]; exact as1 e (by omega)))) (by first | (intro i hi; rfl) | (intro i hi; rw [hqa, mu_ne (by omega)]; exact as2 i (by omega))) (by omega))
  refine w_m rfl rfl ?_
  refine r_c0 (pc' := 1) rfl rfl ?_
  refine r_st (pc' := 2) (lv' := [(1, _), (0, _)]) rfl rfl rfl rfl ?_
  have hb24 := rd_225_73 hz
  exact w_lv (sub_c rfl (sub_c rfl sub_n)) rfl ((key ((24 * (1080 - 0) + 21 : Int).toNat + 1)) 0 z0 w0 ⟨by omega, by omega⟩ hst (rfl) (by first | (intro e he; exfalso; omega) | (intro e he; rw [hqa]; by_cases c : e = x1.toNat; (subst c; rw [mu_eq, as2 _ (by omega)]; congr 1; omega); (rw [mu_ne (by omega)]; exact as1 e (by omega)))) (by first | (intro i hi; rfl) | (intro i hi; rw [hqa, mu_ne (by omega)]; exact as2 i (by omega))) (by omega))
/-- LoopGroundModel layOuts -/
abbrev S_216v  : mS := [(261, 261, 0, 71), (244, 244, 0, 18), (243, 243, 0, 17), (225, 225, 42, 42), (225, 225, 38, 38), (225, 225, 39, 39), (246, 246, 0, 17999), (225, 225, 40, 40)]
abbrev E_216v (a1 : Int) (a2 : Int) (z0 w0 : mZ) (x y tx it mt tt ct : Option Nat) : mZ → mZ → mP → Prop := fun z w p => p = (pq x y tx it mt tt ct)
theorem m_216v {d : Nat} {z0 w0 : mZ} {x y tx it mt tt ct : Option Nat} (a1 : Int) (a2 : Int) (hz : rz z0) (hw : rw_ w0) (ha1 : 0 ≤ a1 ∧ a1 ≤ 7) (ha2 : 0 ≤ a2 ∧ a2 ≤ 36) (hrv : RV z0 w0) (hal : a1 < z0 225 27) : wc (d + 5) 216 [.ref 225, .int (Int32.ofInt a1), .int (Int32.ofInt a2)] (mk z0 w0 (pq x y tx it mt tt ct)) (poV S_216v z0 w0 (E_216v a1 a2 z0 w0 x y tx it mt tt ct)) := by
  have hst : st_ S_216v z0 w0 z0 w0 := st_rf hz hw
  have hz34 := rd_225_27 hz
  have key : ∀ N : Nat, (∀ (x3 : Int) (z w : mZ), 0 ≤ x3 ∧ x3 ≤ 36 → st_ S_216v z0 w0 z w → z 225 38 = z0 225 38 → z 225 39 = z0 225 39 → z 225 40 = z0 225 40 → z 225 42 = z0 225 42 → (RV z w) → (a1 < z 225 27) → 55 * (36 - x3) + 990162 < (N : Int) → wp_ (d + 4) 216 4 none (2, [(0, .ref 225), (1, .int (Int32.ofInt a1)), (2, .int (Int32.ofInt a2)), (3, .int (Int32.ofInt x3))], [], mk z w (pq x y tx it mt tt ct)) (poV S_216v z0 w0 (E_216v a1 a2 z0 w0 x y tx it mt tt ct))) ∧ (∀ (x3 : Int) (z w : mZ), 0 ≤ x3 ∧ x3 ≤ 18000 → st_ S_216v z0 w0 z w → 55 * (18000 - x3) + 35 < (N : Int) → wp_ (d + 4) 216 4 none (30, [(0, .ref 225), (2, .int (Int32.ofInt a2)), (3, .int (Int32.ofInt x3))], [], mk z w (pq x y tx it mt tt ct)) (poV S_216v z0 w0 (E_216v a1 a2 z0 w0 x y tx it mt tt ct))) := by
    intro N
    induction N with
    | zero =>
      refine ⟨?_, ?_⟩
      · intro x3 z w
        intros; exfalso; omega
      · intro x3 z w
        intros; exfalso; omega
    | succ N ih =>
      obtain ⟨ih0, ih1⟩ := ih
      refine ⟨?_, ?_⟩
      · intro x3 z w  hx3 hst un_z_225_38 un_z_225_39 un_z_225_40 un_z_225_42 as0 as1 hM
        refine r_ld (pc' := 3) rfl rfl rfl rfl ?_
        refine r_cb (pc' := 5) rfl (by decide) rfl ?_
        refine r_ige (pc' := 8) rfl rfl ⟨by omega, by omega⟩ ⟨by decide, by decide⟩ (fun hc35 => ?_) (fun hc35 => ?_)
        · skip
          refine r_ld (pc' := 24) rfl rfl rfl rfl ?_
          refine r_ld (pc' := 25) rfl rfl rfl rfl ?_
          have hb36 := rd_225_26 hz
          have hf37 : z 225 26 = z0 225 26 := (hst.2.2.1 _ _ (notS_c (by omega) (notS_c (by omega) (notS_c (by omega) (notS_c (by omega) (notS_c (by omega) (notS_c (by omega) (notS_c (by omega) (notS_c (by omega) notS_n)))))))))
          have hF38 : z 235 = z0 235 := (funext fun _ => hst.2.2.1 _ _ (notS_c (by omega) (notS_c (by omega) (notS_c (by omega) (notS_c (by omega) (notS_c (by omega) (notS_c (by omega) (notS_c (by omega) (notS_c (by omega) notS_n)))))))))
          refine r_cVV (pc' := 28) rfl rfl rfl rfl rfl sh_225 (m_193t (d := d) a1 hst.1 hst.2.1 ⟨by omega, by omega⟩ (by exact as0.1.1) (by exact (as0.1.2.1 a1.toNat (by omega)).1) (by exact LF_sm as0.1.2.1 (by omega))) (fun z40 w41 p42 hs44 hE45 => ?_)
          have hs46 := st_tr hst hs44 (sub_B rfl)
          obtain rfl := hE45
          refine r_c0 (pc' := 29) rfl rfl ?_
          refine r_st (pc' := 30) (lv' := [(3, _), (0, _), (1, _), (2, _)]) rfl rfl rfl rfl ?_
          exact w_lv (sub_c rfl (sub_c rfl (sub_c rfl sub_n))) rfl (ih1 0 z40 w41 ⟨by omega, by omega⟩ hs46 (by omega))
        · skip
          refine r_ld (pc' := 9) rfl rfl rfl rfl ?_
          refine r_gr (b := 261) (pc' := 12) rfl rfl sh_225 rfl pp_225_61 ?_
          refine r_ld (pc' := 13) rfl rfl rfl rfl ?_
          refine r_ld (pc' := 14) rfl rfl rfl rfl ?_
          refine r_add (pc' := 15) rfl rfl ?_
          refine r_c0 (pc' := 16) rfl rfl ?_
          refine r_is (pc' := 17) rfl rfl sh_261 rfl (by omega) (by omega) hst (inS_0 (by omega) (by omega) (by omega) (by omega)) (wr_261 ⟨by omega, by omega⟩) (fun z47 hq48 hs49 => ?_)
          refine r_inc (pc' := 20) (lv' := [(0, _), (1, _), (2, _)]) rfl rfl rfl rfl rfl ?_
          refine r_go rfl ?_
          have hb50 := rd_225_27 hz
          have hf51 : z47 225 27 = z0 225 27 := (((congrFun (congrFun hq48 _) _).trans (mu_ne (by omega))).trans (hst.2.2.1 _ _ (notS_c (by omega) (notS_c (by omega) (notS_c (by omega) (notS_c (by omega) (notS_c (by omega) (notS_c (by omega) (notS_c (by omega) (notS_c (by omega) notS_n))))))))))
          have hb52 := rd_225_38 hz
          have hb53 := rd_225_39 hz
          have hb54 := rd_225_40 hz
          have hb55 := rd_225_42 hz
          exact w_lv (sub_c rfl (sub_c rfl (sub_c rfl (sub_c rfl sub_n)))) rfl (ih0 (x3 + 1) z47 w ⟨by omega, by omega⟩ hs49 ((((congrFun (congrFun hq48 _) _).trans (mu_ne (by omega))).trans un_z_225_38)) ((((congrFun (congrFun hq48 _) _).trans (mu_ne (by omega))).trans un_z_225_39)) ((((congrFun (congrFun hq48 _) _).trans (mu_ne (by omega))).trans un_z_225_40)) ((((congrFun (congrFun hq48 _) _).trans (mu_ne (by omega))).trans un_z_225_42)) (by first | exact hrv | exact RV_c hst.1 (fun i h1 h2 => ((congrFun (congrFun hq48 _) _).trans (mu_ne (by omega)))) (fun a h1 h2 h3 => funext fun i => ((congrFun (congrFun hq48 _) _).trans (mu_ne (by omega)))) (fun a h1 h2 => funext fun i => ((congrFun (congrFun hq48 _) _).trans (mu_ne (by omega)))) (((congrFun (congrFun hq48 _) _).trans (mu_ne (by omega)))) (((congrFun (congrFun hq48 _) _).trans (mu_ne (by omega)))) (funext fun i => ((congrFun (congrFun hq48 _) _).trans (mu_ne (by omega)))) (fun a h => funext fun i => rfl) as0) (by first | exact as1 | exact hal | (rw [show z47 225 27 = z 225 27 from ((congrFun (congrFun hq48 _) _).trans (mu_ne (by omega)))]; exact as1)) (by omega))
      · intro x3 z w  hx3 hst hM
        refine r_ld (pc' := 31) rfl rfl rfl rfl ?_
        refine r_ld (pc' := 32) rfl rfl rfl rfl ?_
        have hb56 := rd_225_42 hst.1
        refine r_gi (pc' := 35) rfl rfl sh_225 rfl rfl ?_
        refine r_ige (pc' := 38) rfl rfl ⟨by omega, by omega⟩ ⟨by omega, by omega⟩ (fun hc57 => ?_) (fun hc57 => ?_)
        · skip
          exact r_ret rfl (po_V hst rfl)
        · skip
          refine r_ld (pc' := 39) rfl rfl rfl rfl ?_
          refine r_gr (b := 261) (pc' := 42) rfl rfl sh_225 rfl pp_225_61 ?_
          refine r_ld (pc' := 43) rfl rfl rfl rfl ?_
          refine r_ld (pc' := 44) rfl rfl rfl rfl ?_
          refine r_gr (b := 246) (pc' := 47) rfl rfl sh_225 rfl pp_225_41 ?_
          refine r_ld (pc' := 48) rfl rfl rfl rfl ?_
          have hb58 := rd_246 hst.1 (i := x3.toNat) (by omega)
          refine r_ia (pc' := 49) rfl rfl sh_246 rfl (by omega) (by omega) rfl ?_
          refine r_add (pc' := 50) rfl rfl ?_
          refine r_al (pc' := 51) rfl rfl rfl rfl ?_
          have hb59 := rd_261 hst.1 (i := (a2 + (z 246 x3.toNat)).toNat) (by omega)
          refine r_ia (pc' := 52) rfl rfl sh_261 rfl (by omega) (by omega) rfl ?_
          refine r_c0 (pc' := 53) rfl rfl ?_
          refine r_add (pc' := 54) rfl rfl ?_
          refine w_hxi (fun v60 h61 h62 => ?_)
          refine r_is (pc' := 55) rfl rfl sh_261 rfl (by omega) (by omega) hst (inS_0 (by omega) (by omega) (by omega) (by omega)) (wr_261 ⟨by omega, by omega⟩) (fun z63 hq64 hs65 => ?_)
          refine r_ld (pc' := 56) rfl rfl rfl rfl ?_
          refine r_gr (b := 261) (pc' := 59) rfl rfl sh_225 rfl pp_225_61 ?_
          refine r_ld (pc' := 60) rfl rfl rfl rfl ?_
          refine r_ld (pc' := 61) rfl rfl rfl rfl ?_
          refine r_gr (b := 240) (pc' := 64) rfl rfl sh_225 rfl pp_225_29 ?_
          refine r_ld (pc' := 65) rfl rfl rfl rfl ?_
          refine r_gr (b := 246) (pc' := 68) rfl rfl sh_225 rfl pp_225_41 ?_
          refine r_ld (pc' := 69) rfl rfl rfl rfl ?_
          refine r_ia (pc' := 70) rfl rfl sh_246 rfl (by omega) (by omega) ((congrFun (congrFun hq64 _) _).trans (mu_ne (by omega))) ?_
          have hb66 := rd_240 hz (i := (z 246 x3.toNat).toNat) (by omega)
          refine r_ia (pc' := 71) rfl rfl sh_240 rfl (by omega) (by omega) (((congrFun (congrFun hq64 _) _).trans (mu_ne (by omega))).trans (hst.2.2.1 _ _ (notS_c (by omega) (notS_c (by omega) (notS_c (by omega) (notS_c (by omega) (notS_c (by omega) (notS_c (by omega) (notS_c (by omega) (notS_c (by omega) notS_n)))))))))) ?_
          refine r_add (pc' := 72) rfl rfl ?_
          refine r_al (pc' := 73) rfl rfl rfl rfl ?_
          have hb67 := rd_261 hs65.1 (i := (a2 + (z0 240 (z 246 x3.toNat).toNat)).toNat) (by omega)
          refine r_ia (pc' := 74) rfl rfl sh_261 rfl (by omega) (by omega) rfl ?_
          refine r_c0 (pc' := 75) rfl rfl ?_
          refine r_sub (pc' := 76) rfl rfl ?_
          refine w_hxi (fun v68 h69 h70 => ?_)
          refine r_is (pc' := 77) rfl rfl sh_261 rfl (by omega) (by omega) hs65 (inS_0 (by omega) (by omega) (by omega) (by omega)) (wr_261 ⟨by omega, by omega⟩) (fun z71 hq72 hs73 => ?_)
          refine r_inc (pc' := 80) (lv' := [(0, _), (2, _)]) rfl rfl rfl rfl rfl ?_
          refine r_go rfl ?_
          exact w_lv (sub_c rfl (sub_c rfl (sub_c rfl sub_n))) rfl (ih1 (x3 + 1) z71 w ⟨by omega, by omega⟩ hs73 (by omega))
  refine w_m rfl rfl ?_
  refine r_c0 (pc' := 1) rfl rfl ?_
  refine r_st (pc' := 2) (lv' := [(3, _), (0, _), (1, _), (2, _)]) rfl rfl rfl rfl ?_
  have hb74 := rd_225_27 hz
  have hb75 := rd_225_38 hz
  have hb76 := rd_225_39 hz
  have hb77 := rd_225_40 hz
  have hb78 := rd_225_42 hz
  exact w_lv (sub_c rfl (sub_c rfl (sub_c rfl (sub_c rfl sub_n)))) rfl ((key ((55 * (36 - 0) + 990162 : Int).toNat + 1)).1 0 z0 w0 ⟨by omega, by omega⟩ hst (rfl) (rfl) (rfl) (rfl) (by first | exact hrv | exact RV_c hst.1 (fun i h1 h2 => rfl) (fun a h1 h2 h3 => funext fun i => rfl) (fun a h1 h2 => funext fun i => rfl) (rfl) (rfl) (funext fun i => rfl) (fun a h => funext fun i => rfl) as0) (by first | exact as1 | exact hal | (rw [show z0 225 27 = z 225 27 from rfl]; exact as1)) (by omega))
/-- LoopGroundModel across -/
abbrev S_217v  : mS := [(261, 261, 0, 71), (244, 244, 0, 18), (243, 243, 0, 17), (225, 225, 42, 42), (225, 225, 38, 38), (225, 225, 39, 39), (246, 246, 0, 17999), (225, 225, 40, 40)]
abbrev E_217v (a1 : Int) (a2 : Int) (z0 w0 : mZ) (x y tx it mt tt ct : Option Nat) : Int → mZ → mZ → mP → Prop := fun v z w p => p = (pq x y tx it mt tt ct) ∧ (-1073741824) ≤ v ∧ v ≤ 1073741823
theorem m_217v {d : Nat} {z0 w0 : mZ} {x y tx it mt tt ct : Option Nat} (a1 : Int) (a2 : Int) (hz : rz z0) (hw : rw_ w0) (ha1 : (-2147483648) ≤ a1 ∧ a1 ≤ 2147483647) (ha2 : (-2147483648) ≤ a2 ∧ a2 ≤ 2147483647) (hrv : RV z0 w0) : wc (d + 6) 217 [.ref 225, .int (Int32.ofInt a1), .int (Int32.ofInt a2)] (mk z0 w0 (pq x y tx it mt tt ct)) (poI S_217v z0 w0 (E_217v a1 a2 z0 w0 x y tx it mt tt ct)) := by
  have hst : st_ S_217v z0 w0 z0 w0 := st_rf hz hw
  have h27 := rd_225_27 hz
  have key : ∀ N : Nat, (∀ (x3 x4 : Int) (z w : mZ), (-2147483648) ≤ x3 ∧ x3 ≤ 2147483647 → 0 ≤ x4 ∧ x4 ≤ 12 → 0 ≤ a1 ∧ a1 ≤ 7 → 0 ≤ a2 ∧ a2 ≤ 7 → 1 ≤ z0 225 27 ∧ z0 225 27 ≤ 8 → st_ S_217v z0 w0 z w → 80 * (12 - x4) + 49 < (N : Int) → wp_ (d + 5) 217 5 (some .int) (56, [(0, .ref 225), (3, .int (Int32.ofInt x3)), (4, .int (Int32.ofInt x4))], [], mk z w (pq x y tx it mt tt ct)) (poI S_217v z0 w0 (E_217v a1 a2 z0 w0 x y tx it mt tt ct))) := by
    intro N
    induction N with
    | zero =>
      intro x3 x4 z w
      intros; exfalso; omega
    | succ N ih =>
      have ih0 := ih; clear ih
      intro x3 x4 z w  hx3 hx4 hpa1 hpa2 hz0_0 hst hM
      refine r_ld (pc' := 58) rfl rfl rfl rfl ?_
      refine r_ld (pc' := 59) rfl rfl rfl rfl ?_
      have hb60 := rd_225_26 hz
      refine r_gi (pc' := 62) rfl rfl sh_225 rfl (hst.2.2.1 _ _ (notS_c (by omega) (notS_c (by omega) (notS_c (by omega) (notS_c (by omega) (notS_c (by omega) (notS_c (by omega) (notS_c (by omega) (notS_c (by omega) notS_n))))))))) ?_
      refine r_ige (pc' := 65) rfl rfl ⟨by omega, by omega⟩ ⟨by omega, by omega⟩ (fun hc61 => ?_) (fun hc61 => ?_)
      · skip
        refine r_ld (pc' := 124) rfl rfl rfl rfl ?_
        refine r_c0 (pc' := 125) rfl rfl ?_
        refine r_dvg (pc' := 126) rfl rfl ⟨by omega, by omega⟩ ⟨by decide, by decide⟩ (by decide) (fun v62 h63 h64 => ?_)
        exact r_ri rfl (po_I hst ⟨by omega, by omega⟩ ⟨rfl, by omega, by omega⟩)
      · skip
        refine r_ld (pc' := 66) rfl rfl rfl rfl ?_
        refine r_ld (pc' := 67) rfl rfl rfl rfl ?_
        refine r_gr (b := 261) (pc' := 70) rfl rfl sh_225 rfl pp_225_61 ?_
        refine r_c0 (pc' := 71) rfl rfl ?_
        refine r_ld (pc' := 73) rfl rfl rfl rfl ?_
        refine r_mul (pc' := 74) rfl rfl ?_
        have hb65 := rd_261 hst.1 (i := (3 * x4).toNat) (by omega)
        refine r_ia (pc' := 75) rfl rfl sh_261 rfl (by omega) (by omega) rfl ?_
        refine r_ld (pc' := 76) rfl rfl rfl rfl ?_
        refine r_gr (b := 261) (pc' := 79) rfl rfl sh_225 rfl pp_225_61 ?_
        refine r_cb (pc' := 81) rfl (by decide) rfl ?_
        refine r_c0 (pc' := 82) rfl rfl ?_
        refine r_ld (pc' := 84) rfl rfl rfl rfl ?_
        refine r_mul (pc' := 85) rfl rfl ?_
        refine r_add (pc' := 86) rfl rfl ?_
        refine r_c0 (pc' := 87) rfl rfl ?_
        refine r_add (pc' := 88) rfl rfl ?_
        have hb66 := rd_261 hst.1 (i := ((36 + (3 * x4)) + 1).toNat) (by omega)
        refine r_ia (pc' := 89) rfl rfl sh_261 rfl (by omega) (by omega) rfl ?_
        refine r_mul (pc' := 90) rfl rfl ?_
        refine w_hi (fun v67 h68 => ?_)
        unfold inI at h68
        refine r_ld (pc' := 91) rfl rfl rfl rfl ?_
        refine r_gr (b := 261) (pc' := 94) rfl rfl sh_225 rfl pp_225_61 ?_
        refine r_c0 (pc' := 95) rfl rfl ?_
        refine r_ld (pc' := 97) rfl rfl rfl rfl ?_
        refine r_mul (pc' := 98) rfl rfl ?_
        refine r_c0 (pc' := 99) rfl rfl ?_
        refine r_add (pc' := 100) rfl rfl ?_
        have hb69 := rd_261 hst.1 (i := ((3 * x4) + 1).toNat) (by omega)
        refine r_ia (pc' := 101) rfl rfl sh_261 rfl (by omega) (by omega) rfl ?_
        refine r_ld (pc' := 102) rfl rfl rfl rfl ?_
        refine r_gr (b := 261) (pc' := 105) rfl rfl sh_225 rfl pp_225_61 ?_
        refine r_cb (pc' := 107) rfl (by decide) rfl ?_
        refine r_c0 (pc' := 108) rfl rfl ?_
        refine r_ld (pc' := 110) rfl rfl rfl rfl ?_
        refine r_mul (pc' := 111) rfl rfl ?_
        refine r_add (pc' := 112) rfl rfl ?_
        have hb70 := rd_261 hst.1 (i := (36 + (3 * x4)).toNat) (by omega)
        refine r_ia (pc' := 113) rfl rfl sh_261 rfl (by omega) (by omega) rfl ?_
        refine r_mul (pc' := 114) rfl rfl ?_
        refine w_hi (fun v71 h72 => ?_)
        unfold inI at h72
        refine r_sub (pc' := 115) rfl rfl ?_
        refine w_hxi (fun v73 h74 h75 => ?_)
        refine r_add (pc' := 116) rfl rfl ?_
        refine w_hxi (fun v76 h77 h78 => ?_)
        refine r_st (pc' := 117) (lv' := [(3, _), (0, _), (4, _)]) rfl rfl rfl rfl ?_
        refine r_inc (pc' := 120) (lv' := [(3, _), (0, _)]) rfl rfl rfl rfl rfl ?_
        refine r_go rfl ?_
        exact w_lv (sub_c rfl (sub_c rfl (sub_c rfl sub_n))) rfl (ih0 v76 (x4 + 1) z w ⟨by omega, by omega⟩ ⟨by omega, by omega⟩ ⟨by omega, by omega⟩ ⟨by omega, by omega⟩ ⟨by omega, by omega⟩ hst (by omega))
  refine w_m rfl rfl ?_
  refine r_ld (pc' := 1) rfl rfl rfl rfl ?_
  refine r_ld (pc' := 2) rfl rfl rfl rfl ?_
  have hb79 := rd_225_27 hz
  refine r_cVI (pc' := 5) rfl rfl rfl rfl rfl sh_225 (m_173 (d := d + 4) a1 hst.1 hst.2.1 ⟨by omega, by omega⟩) (fun v80 z81 w82 p83 h84 hs85 hE86 => ?_)
  obtain ⟨rfl, rfl, rfl, hE86⟩ := hE86
  refine r_zeq (pc' := 8) rfl rfl ⟨by omega, by omega⟩ (fun hc88 => ?_) (fun hc88 => ?_)
  · skip
    refine r_al (pc' := 37) rfl rfl rfl rfl ?_
    exact r_ri rfl (po_I hst ⟨by decide, by decide⟩ ⟨rfl, by omega, by omega⟩)
  · skip
    refine r_ld (pc' := 9) rfl rfl rfl rfl ?_
    refine r_ld (pc' := 10) rfl rfl rfl rfl ?_
    refine r_cVI (pc' := 13) rfl rfl rfl rfl rfl sh_225 (m_173 (d := d + 4) a2 hst.1 hst.2.1 ⟨by omega, by omega⟩) (fun v89 z90 w91 p92 h93 hs94 hE95 => ?_)
    obtain ⟨rfl, rfl, rfl, hE95⟩ := hE95
    refine r_zeq (pc' := 16) rfl rfl ⟨by omega, by omega⟩ (fun hc97 => ?_) (fun hc97 => ?_)
    · skip
      refine r_al (pc' := 37) rfl rfl rfl rfl ?_
      exact r_ri rfl (po_I hst ⟨by decide, by decide⟩ ⟨rfl, by omega, by omega⟩)
    · skip
      refine r_ld (pc' := 17) rfl rfl rfl rfl ?_
      refine r_gr (b := 253) (pc' := 20) rfl rfl sh_225 rfl pp_225_49 ?_
      refine r_ld (pc' := 21) rfl rfl rfl rfl ?_
      have hb98 := rd_253 hz (i := a1.toNat) (by omega)
      refine r_ba (pc' := 22) rfl rfl sh_253 (Or.inr rfl) rfl (by omega) (by omega) rfl ?_
      refine r_zeq (pc' := 25) rfl rfl ⟨by omega, by omega⟩ (fun hc99 => ?_) (fun hc99 => ?_)
      · skip
        refine r_al (pc' := 37) rfl rfl rfl rfl ?_
        exact r_ri rfl (po_I hst ⟨by decide, by decide⟩ ⟨rfl, by omega, by omega⟩)
      · skip
        refine r_ld (pc' := 26) rfl rfl rfl rfl ?_
        refine r_gr (b := 253) (pc' := 29) rfl rfl sh_225 rfl pp_225_49 ?_
        refine r_ld (pc' := 30) rfl rfl rfl rfl ?_
        have hb100 := rd_253 hz (i := a2.toNat) (by omega)
        refine r_ba (pc' := 31) rfl rfl sh_253 (Or.inr rfl) rfl (by omega) (by omega) rfl ?_
        refine r_zne (pc' := 34) rfl rfl ⟨by omega, by omega⟩ (fun hc101 => ?_) (fun hc101 => ?_)
        · skip
          refine r_ld (pc' := 39) rfl rfl rfl rfl ?_
          refine r_ld (pc' := 40) rfl rfl rfl rfl ?_
          refine r_c0 (pc' := 41) rfl rfl ?_
          refine r_cVV (pc' := 44) rfl rfl rfl rfl rfl sh_225 (m_216v (d := d) a1 0 hst.1 hst.2.1 ⟨by omega, by omega⟩ ⟨by omega, by omega⟩ (by exact hrv) (by omega)) (fun z103 w104 p105 hs107 hE108 => ?_)
          have hs109 := st_tr hst hs107 (sub_B rfl)
          obtain rfl := hE108
          refine r_ld (pc' := 45) rfl rfl rfl rfl ?_
          refine r_ld (pc' := 46) rfl rfl rfl rfl ?_
          refine r_cb (pc' := 48) rfl (by decide) rfl ?_
          have hf110 : z103 225 27 = z0 225 27 := (hs107.2.2.1 _ _ (notS_c (by omega) (notS_c (by omega) (notS_c (by omega) (notS_c (by omega) (notS_c (by omega) (notS_c (by omega) (notS_c (by omega) (notS_c (by omega) notS_n)))))))))
          refine r_cVV (pc' := 51) rfl rfl rfl rfl rfl sh_225 (m_216v (d := d) a2 36 hs109.1 hs109.2.1 ⟨by omega, by omega⟩ ⟨by omega, by omega⟩ (by exact RV_c hz (fun i h1 h2 => (hs107.2.2.1 _ _ (notS_c (by omega) (notS_c (by omega) (notS_c (by omega) (notS_c (by omega) (notS_c (by omega) (notS_c (by omega) (notS_c (by omega) (notS_c (by omega) notS_n)))))))))) (fun a h1 h2 h3 => funext fun i => (hs107.2.2.1 _ _ (notS_c (by omega) (notS_c (by omega) (notS_c (by omega) (notS_c (by omega) (notS_c (by omega) (notS_c (by omega) (notS_c (by omega) (notS_c (by omega) notS_n)))))))))) (fun a h1 h2 => funext fun i => (hs107.2.2.1 _ _ (notS_c (by omega) (notS_c (by omega) (notS_c (by omega) (notS_c (by omega) (notS_c (by omega) (notS_c (by omega) (notS_c (by omega) (notS_c (by omega) notS_n)))))))))) ((hs107.2.2.1 _ _ (notS_c (by omega) (notS_c (by omega) (notS_c (by omega) (notS_c (by omega) (notS_c (by omega) (notS_c (by omega) (notS_c (by omega) (notS_c (by omega) notS_n)))))))))) ((hs107.2.2.1 _ _ (notS_c (by omega) (notS_c (by omega) (notS_c (by omega) (notS_c (by omega) (notS_c (by omega) (notS_c (by omega) (notS_c (by omega) (notS_c (by omega) notS_n)))))))))) (funext fun i => (hs107.2.2.1 _ _ (notS_c (by omega) (notS_c (by omega) (notS_c (by omega) (notS_c (by omega) (notS_c (by omega) (notS_c (by omega) (notS_c (by omega) (notS_c (by omega) notS_n)))))))))) (fun a h => funext fun i => (hs107.2.2.2 _ _ (notS_c (by omega) (notS_c (by omega) (notS_c (by omega) (notS_c (by omega) (notS_c (by omega) (notS_c (by omega) (notS_c (by omega) (notS_c (by omega) notS_n)))))))))) hrv) (by rw [show z103 225 27 = z0 225 27 from (hs107.2.2.1 _ _ (notS_c (by omega) (notS_c (by omega) (notS_c (by omega) (notS_c (by omega) (notS_c (by omega) (notS_c (by omega) (notS_c (by omega) (notS_c (by omega) notS_n)))))))))]; omega)) (fun z112 w113 p114 hs116 hE117 => ?_)
          have hs118 := st_tr hs109 hs116 (sub_B rfl)
          obtain rfl := hE117
          refine r_c0 (pc' := 52) rfl rfl ?_
          refine r_st (pc' := 53) (lv' := [(3, _), (0, _), (1, _), (2, _)]) rfl rfl rfl rfl ?_
          refine r_c0 (pc' := 54) rfl rfl ?_
          refine r_st (pc' := 56) (lv' := [(4, _), (3, _), (0, _), (1, _), (2, _)]) rfl rfl rfl rfl ?_
          exact w_lv (sub_c rfl (sub_c rfl (sub_c rfl sub_n))) rfl ((key ((80 * (12 - 0) + 49 : Int).toNat + 1)) 0 0 z112 w113 ⟨by omega, by omega⟩ ⟨by omega, by omega⟩ ⟨by omega, by omega⟩ ⟨by omega, by omega⟩ ⟨by omega, by omega⟩ hs118 (by omega))
        · skip
          refine r_al (pc' := 37) rfl rfl rfl rfl ?_
          exact r_ri rfl (po_I hst ⟨by decide, by decide⟩ ⟨rfl, by omega, by omega⟩)
end
section
/-! the reference: lines that an act lays -/
theorem tr_tr {E : Int} {f : Nat → Int} : tr E (tr E f) = tr E f := by
  funext k
  by_cases c : (k : Int) < E
  · rw [tr_l c]
  · rw [tr_g (by omega), tr_g (by omega)]
theorem FTw_b {z z' : mZ} {n f : Nat → Int} (hz : rz z) (e26 : z' 225 26 = z 225 26) (e235 : z' 235 = z 235) (h : FTw z f) (a : ∀ j : Nat, j < 18 → n j = tr (rE z) f j) : FTw z' n := by
  refine FTw_c (z := z) (n := tr (rE z) f) e26 e235 (rE18 hz) a ?_
  unfold FTw at *; rw [tr_tr]; exact h
theorem FTw_w {z z' : mZ} {n f : Nat → Int} (hr : RW z) (e26 : z' 225 26 = z 225 26) (e235 : z' 235 = z 235) (h : FTw z f) (a : ∀ j : Nat, j < 18 → n j = tr (rE z) f j) : FT (z' 225 26).toNat (vT (z' 235)) n := by
  rw [e26, e235]
  exact FT_cg (WT.lt hr) (fun j hj => (a j hj).symm) h
theorem FTw_t {z z' : mZ} {n : Nat → Int} (hz : rz z) (hr : RW z) (e26 : z' 225 26 = z 225 26) (e235 : z' 235 = z 235) (h : FT (z 225 26).toNat (vT (z 235)) n) : FTw z' n := by
  refine FTw_c (z := z) (n := n) e26 e235 (rE18 hz) (fun _ _ => rfl) ?_
  unfold FTw
  refine ⟨fun e he => ?_, fun s hs => ?_⟩
  · by_cases c : (e : Int) < rE z
    · rw [tr_l c]; exact h.1 e he
    · rw [tr_g (by omega)]; omega
  · have g : ∀ s : Nat, s < 3 * (z 225 26).toNat → tr (rE z) n (vT (z 235) s) = n (vT (z 235) s) := by
      intro s hs
      have h26 := rd_225_26 hz
      have k := hr.tE s (by omega)
      exact tr_l (by show (((z 235 s).toNat : Nat) : Int) < rE z; omega)
    rw [g s hs, g _ (bh_lt hs), g _ (ah_lt hs)]; exact h.2 s hs
theorem NB_b {w w' : mZ} {E : Int} {f : Nat → Int} (hf : ∀ j : Nat, j < 18 → 0 ≤ f j ∧ f j ≤ 100000000000000) (a : ∀ j : Nat, j < 18 → w' 257 j = tr E f j) : NBr w' 257 := by
  intro e he
  rw [a e he]
  by_cases c : (e : Int) < E
  · rw [tr_l c]; exact hf e he
  · rw [tr_g (by omega)]; omega
end
section
/-! the reference: rows that are tried, what they sum up to -/
theorem tri_of {z : mZ} (hz : rz z) (hr : RW z) (a : ∀ q : Nat, (q : Int) < z 225 26 → tri (z 269 (z 235 (3 * q)).toNat) (z 269 (z 235 (3 * q + 1)).toNat) (z 269 (z 235 (3 * q + 2)).toNat)) : FTw z (z 269) := by
  have h26 := rd_225_26 hz
  unfold FTw
  refine FT_of (fun e he => ?_) (fun q hq => ?_)
  · by_cases c : (e : Int) < rE z
    · rw [tr_l c]; exact (rd_269 hz he).1
    · rw [tr_g (by omega)]; omega
  · have k : ∀ s : Nat, s < 3 * (z 225 26).toNat → tr (rE z) (z 269) (vT (z 235) s) = z 269 (z 235 s).toNat := by
      intro s hs
      have t := hr.tE s (by omega)
      exact tr_l (by show (((z 235 s).toNat : Nat) : Int) < rE z; omega)
    rw [k _ (by omega), k _ (by omega), k _ (by omega)]
    exact a q (by omega)
theorem sm_z {f : Nat → Int} : ∀ n : Nat, (∀ j, j < n → f j = 0) → sm f n = 0
  | 0, _ => rfl
  | n + 1, h => by rw [sm_s, sm_z n (fun j hj => h j (by omega)), h n (by omega)]; rfl
theorem sm_trle {E : Int} {f : Nat → Int} : ∀ n : Nat, (∀ j, j < n → 0 ≤ f j) → sm (tr E f) n ≤ sm f n
  | 0, _ => Int.le_refl _
  | n + 1, h => by
    have k := sm_trle (E := E) n (fun j hj => h j (by omega))
    have g := h n (by omega)
    rw [sm_s, sm_s]
    by_cases c : (n : Int) < E
    · rw [tr_l c]; omega
    · rw [tr_g (by omega)]; omega
theorem sm_pos {f : Nat → Int} {k : Nat} (n : Nat) (hk : k < n) (h : ∀ j, j < n → 0 ≤ f j) (g : f k ≠ 0) : 0 < sm f n := by
  have a := sm_at n hk h
  have b := h k hk
  omega
theorem sm_nz {f : Nat → Int} (n : Nat) (h : sm f n ≠ 0) : ∃ j, j < n ∧ f j ≠ 0 := by
  apply Classical.byContradiction
  intro q
  exact h (sm_z n (fun j hj => Classical.byContradiction fun d => q ⟨j, hj, d⟩))
theorem sm_le3 {f : Nat → Int} : ∀ n : Nat, (∀ j, j < n → f j ≤ 3) → sm f n ≤ 3 * n
  | 0, _ => Int.le_refl _
  | n + 1, h => by
    have k := sm_le3 n (fun j hj => h j (by omega))
    have g := h n (by omega)
    rw [sm_s]
    omega
/-- a row as a number of base 4 -/
def tv (f : Nat → Int) : Nat → Int
  | 0 => 0
  | n + 1 => 4 * tv f n + f n
theorem tv_s (f : Nat → Int) (n : Nat) : tv f (n + 1) = 4 * tv f n + f n := rfl
theorem tv_nn {f : Nat → Int} : ∀ n : Nat, (∀ j, j < n → 0 ≤ f j) → 0 ≤ tv f n
  | 0, _ => Int.le_refl _
  | n + 1, h => by
    have k := tv_nn n (fun j hj => h j (by omega))
    have g := h n (by omega)
    rw [tv_s]; omega
theorem tv_up {f : Nat → Int} : ∀ n : Nat, (∀ j, j < n → f j ≤ 3) → tv f n + 1 ≤ 4 ^ n
  | 0, _ => by show (0 : Int) + 1 ≤ 4 ^ 0; decide
  | n + 1, h => by
    have k := tv_up n (fun j hj => h j (by omega))
    have g := h n (by omega)
    have e : (4 : Int) ^ (n + 1) = 4 ^ n * 4 := Int.pow_succ ..
    rw [tv_s, e]; omega
theorem tv_c {f g : Nat → Int} : ∀ n : Nat, (∀ j, j < n → g j = f j) → tv g n = tv f n
  | 0, _ => rfl
  | n + 1, h => by rw [tv_s, tv_s, tv_c n (fun j hj => h j (by omega)), h n (by omega)]
theorem tv_lt {f g : Nat → Int} {e : Nat} (a : ∀ j, j < e → g j = f j) (b : g e = f e + 1) : ∀ n : Nat, e < n → (∀ j, j < n → 0 ≤ g j) → (∀ j, j < n → f j ≤ 3) → tv f n < tv g n
  | 0, h, _, _ => absurd h (Nat.not_lt_zero e)
  | n + 1, h, p, q => by
    by_cases c : e = n
    · subst c
      rw [tv_s, tv_s, tv_c e a, b]; omega
    · have k := tv_lt a b n (by omega) (fun j hj => p j (by omega)) (fun j hj => q j (by omega))
      have p' := p n (by omega)
      have q' := q n (by omega)
      rw [tv_s, tv_s]; omega
def lb (f : Nat → Int) : Int := (((68719476736 : Int) - tv f 18).toNat : Int)
def lm (x : Int) (f : Nat → Int) : Int := if x = 0 then 0 else 2 * lb f + 1
theorem lb_n (f : Nat → Int) : 0 ≤ lb f := by unfold lb; omega
theorem lb_le {f : Nat → Int} (h : ∀ j, j < 18 → 0 ≤ f j) : lb f ≤ 68719476736 := by
  have k := tv_nn 18 h
  unfold lb; omega
theorem lb_lt {f g : Nat → Int} (h : ∀ j, j < 18 → g j ≤ 3) (k : tv f 18 < tv g 18) : lb g < lb f := by
  have u := tv_up 18 h
  have e : (4 : Int) ^ 18 = 68719476736 := by decide
  rw [e] at u
  unfold lb; omega
theorem lm_n (x : Int) (f : Nat → Int) : 0 ≤ lm x f := by
  have k := lb_n f
  unfold lm; split <;> omega
theorem lm_1 {x : Int} {f : Nat → Int} (h : x ≠ 0) : lm x f = 2 * lb f + 1 := if_neg h
theorem lm_le {x : Int} {f : Nat → Int} (h : ∀ j, j < 18 → 0 ≤ f j) : lm x f ≤ 137438953473 := by
  have k := lb_le h
  unfold lm; split <;> omega
theorem lm_lt {x : Int} {f g : Nat → Int} (h : ∀ j, j < 18 → g j ≤ 3) (x0 : 0 ≤ x) (x1 : x ≤ 1) (k : x = 1 → tv f 18 < tv g 18) (p : 0 < lb f) : lm x g < 2 * lb f := by
  by_cases c : x = 0
  · unfold lm; rw [if_pos c]; omega
  · have u := lb_lt h (k (by omega))
    rw [lm_1 c]; omega
theorem lb_p {f : Nat → Int} (h : ∀ j, j < 18 → f j ≤ 3) : 0 < lb f := by
  have u := tv_up 18 h
  have e : (4 : Int) ^ 18 = 68719476736 := by decide
  rw [e] at u
  unfold lb; omega
theorem FWr_c {z z' : mZ} {a : Nat} (e27 : z' 225 27 = z 225 27) (e237 : z' 237 = z 237) (e239 : z' 239 = z 239) (e254 : z' 254 = z 254) (h : FWr z a) : FWr z' a := by
  unfold FWr at *; rw [e27, e237, e239, e254]; exact h
theorem NZE_b {E : Int} {f n : Nat → Int} (h18 : E ≤ 18) (h : sm (tr E f) 18 ≠ 0) (a : ∀ j : Nat, j < 18 → n j = tr E f j) : NZE E n := by
  obtain ⟨j, hj, d⟩ := sm_nz 18 h
  by_cases c : (j : Int) < E
  · exact ⟨j, c, by rw [a j hj]; exact d⟩
  · exact absurd (tr_g (by omega)) d
end
section
/-! methods, printed by wip/tools/vcg.py -/
/-- LoopGroundModel isFairWord -/
abbrev S_218v  : mS := []
abbrev E_218v (a1 : Int) (z0 w0 : mZ) (x y tx it mt tt ct : Option Nat) : Int → mZ → mZ → mP → Prop := fun v z w p => p = (pq x y tx it mt tt ct) ∧ z0 = z ∧ w0 = w ∧ 0 ≤ v ∧ v ≤ 1 ∧ (v = 1 → 0 ≤ a1 ∧ a1 < z0 225 28 ∧ FWr z0 a1.toNat)
theorem m_218v {d : Nat} {z0 w0 : mZ} {x y tx it mt tt ct : Option Nat} (a1 : Int) (hz : rz z0) (hw : rw_ w0) (ha1 : (-2147483648) ≤ a1 ∧ a1 ≤ 2147483647) (hwd : WDr z0) : wc (d + 2) 218 [.ref 225, .int (Int32.ofInt a1)] (mk z0 w0 (pq x y tx it mt tt ct)) (poI S_218v z0 w0 (E_218v a1 z0 w0 x y tx it mt tt ct)) := by
  have hst : st_ S_218v z0 w0 z0 w0 := st_rf hz hw
  have hz15 := rd_225_28 hz
  have key : ∀ N : Nat, (∀ (x2 x3 : Int) , 0 ≤ x2 ∧ x2 ≤ 1 → 0 ≤ x3 ∧ x3 ≤ 8 → (x2 = 1 → 0 ≤ a1 ∧ a1 < z0 225 28) → (x2 = 1 → ∀ i : Nat, (i : Int) < x3 → z0 254 (z0 237 (8 * a1.toNat + i)).toNat = 1) → (x2 = 1 → x3 = 0 ∨ x3 ≤ z0 239 a1.toNat) → 30 * (8 - x3) + 23 < (N : Int) → wp_ (d + 1) 218 4 (some .boolean) (8, [(0, .ref 225), (1, .int (Int32.ofInt a1)), (2, .int (Int32.ofInt x2)), (3, .int (Int32.ofInt x3))], [], mk z0 w0 (pq x y tx it mt tt ct)) (poI S_218v z0 w0 (E_218v a1 z0 w0 x y tx it mt tt ct))) := by
    intro N
    induction N with
    | zero =>
      intro x2 x3 
      intros; exfalso; omega
    | succ N ih =>
      have ih0 := ih; clear ih
      intro x2 x3  hx2 hx3 as1 as2 as3 hM
      refine r_ld (pc' := 9) rfl rfl rfl rfl ?_
      refine r_zeq (pc' := 12) rfl rfl ⟨by omega, by omega⟩ (fun hc16 => ?_) (fun hc16 => ?_)
      · skip
        refine r_ld (pc' := 46) rfl rfl rfl rfl ?_
        exact r_rz rfl (by omega) (po_I hst ⟨by omega, by omega⟩ ⟨rfl, rfl, rfl, by omega, by omega, (by intro hq; exact ⟨(as1 (by omega)).1, (as1 (by omega)).2, fun i hi => ⟨hwd a1.toNat (by have := as1 (by omega); omega) i hi, as2 (by omega) i (by omega)⟩⟩)⟩)
      · skip
        have hfa := as1 (by omega)
        refine r_ld (pc' := 13) rfl rfl rfl rfl ?_
        refine r_ld (pc' := 14) rfl rfl rfl rfl ?_
        refine r_gr (b := 239) (pc' := 17) rfl rfl sh_225 rfl pp_225_22 ?_
        refine r_ld (pc' := 18) rfl rfl rfl rfl ?_
        have hb17 := rd_239 hz (i := a1.toNat) (by omega)
        refine r_ia (pc' := 19) rfl rfl sh_239 rfl (by omega) (by omega) rfl ?_
        refine r_ige (pc' := 22) rfl rfl ⟨by omega, by omega⟩ ⟨by omega, by omega⟩ (fun hc18 => ?_) (fun hc18 => ?_)
        · skip
          refine r_ld (pc' := 46) rfl rfl rfl rfl ?_
          exact r_rz rfl (by omega) (po_I hst ⟨by omega, by omega⟩ ⟨rfl, rfl, rfl, by omega, by omega, (by intro hq; exact ⟨(as1 (by omega)).1, (as1 (by omega)).2, fun i hi => ⟨hwd a1.toNat (by have := as1 (by omega); omega) i hi, as2 (by omega) i (by omega)⟩⟩)⟩)
        · skip
          refine r_ld (pc' := 23) rfl rfl rfl rfl ?_
          refine r_gr (b := 254) (pc' := 26) rfl rfl sh_225 rfl pp_225_50 ?_
          refine r_ld (pc' := 27) rfl rfl rfl rfl ?_
          refine r_gr (b := 237) (pc' := 30) rfl rfl sh_225 rfl pp_225_20 ?_
          refine r_cb (pc' := 32) rfl (by decide) rfl ?_
          refine r_ld (pc' := 33) rfl rfl rfl rfl ?_
          refine r_mul (pc' := 34) rfl rfl ?_
          refine r_ld (pc' := 35) rfl rfl rfl rfl ?_
          refine r_add (pc' := 36) rfl rfl ?_
          have hb19 := rd_237 hz (i := ((8 * a1) + x3).toNat) (by omega)
          refine r_ia (pc' := 37) rfl rfl sh_237 rfl (by omega) (by omega) rfl ?_
          have hb20 := rd_254 hz (i := (z0 237 ((8 * a1) + x3).toNat).toNat) (by omega)
          refine r_ba (pc' := 38) rfl rfl sh_254 (Or.inr rfl) rfl (by omega) (by omega) rfl ?_
          refine r_st (pc' := 39) (lv' := [(2, _), (0, _), (1, _), (3, _)]) rfl rfl rfl rfl ?_
          refine r_inc (pc' := 42) (lv' := [(2, _), (0, _), (1, _)]) rfl rfl rfl rfl rfl ?_
          refine r_go rfl ?_
          exact w_lv (sub_c rfl (sub_c rfl (sub_c rfl (sub_c rfl sub_n)))) rfl (ih0 (z0 254 (z0 237 ((8 * a1) + x3).toNat).toNat) (x3 + 1) ⟨by omega, by omega⟩ ⟨by omega, by omega⟩ (by first | omega | assumption) (by first | (intro _ i hi; exfalso; omega) | (intro hq i hi; by_cases c : (i : Int) = x3; (rw [show 8 * a1.toNat + i = (8 * a1 + x3).toNat by omega]; omega); exact as2 (by omega) i (by omega))) (by first | omega | assumption) (by omega))
  refine w_m rfl rfl ?_
  refine r_ld (pc' := 1) rfl rfl rfl rfl ?_
  refine r_ld (pc' := 2) rfl rfl rfl rfl ?_
  have hb21 := rd_225_28 hz
  refine r_cVI (pc' := 5) rfl rfl rfl rfl rfl sh_225 (m_174 (d := d) a1 hst.1 hst.2.1 ⟨by omega, by omega⟩) (fun v22 z23 w24 p25 h26 hs27 hE28 => ?_)
  obtain ⟨rfl, rfl, rfl, hE28⟩ := hE28
  refine r_st (pc' := 6) (lv' := [(2, _), (0, _), (1, _)]) rfl rfl rfl rfl ?_
  refine r_c0 (pc' := 7) rfl rfl ?_
  refine r_st (pc' := 8) (lv' := [(3, _), (2, _), (0, _), (1, _)]) rfl rfl rfl rfl ?_
  exact w_lv (sub_c rfl (sub_c rfl (sub_c rfl (sub_c rfl sub_n)))) rfl ((key ((30 * (8 - 0) + 23 : Int).toNat + 1)) v22 0 ⟨by omega, by omega⟩ ⟨by omega, by omega⟩ (by first | omega | assumption) (by first | (intro _ i hi; exfalso; omega) | (intro hq i hi; by_cases c : (i : Int) = x3; (rw [show 8 * a1.toNat + i = (8 * a1 + x3).toNat by omega]; omega); exact as2 (by omega) i (by omega))) (by first | omega | assumption) (by omega))
end

/-! methods, printed by wip/tools/vcg.py -/
/-- LoopGroundModel wrongAt -/
abbrev S_153x  : mS := [(225, 225, 2, 2), (225, 225, 3, 3)]
abbrev E_153x (a1 : Int) (a2 : Int) (z0 w0 : mZ) (x y tx it mt tt ct : Option Nat) : mZ → mZ → mP → Prop := fun z w p => p = (pq x y tx it mt tt ct) ∧ ((0 < z0 225 2 ∧ z 225 2 = z0 225 2 ∧ z 225 3 = z0 225 3) ∨ (z0 225 2 = 0 ∧ z 225 2 = (if z0 225 6 = 3 ∧ a2 = z0 225 7 then 1 else a1) ∧ z 225 3 = a2))
theorem m_153x {d : Nat} {z0 w0 : mZ} {x y tx it mt tt ct : Option Nat} (a1 : Int) (a2 : Int) (hz : rz z0) (hw : rw_ w0) (ha1 : 1 ≤ a1 ∧ a1 ≤ 6) (ha2 : (-2147483648) ≤ a2 ∧ a2 ≤ 2147483647) : wc (d + 1) 153 [.ref 225, .int (Int32.ofInt a1), .int (Int32.ofInt a2)] (mk z0 w0 (pq x y tx it mt tt ct)) (poV S_153x z0 w0 (E_153x a1 a2 z0 w0 x y tx it mt tt ct)) := by
  have hst : st_ S_153x z0 w0 z0 w0 := st_rf hz hw
  have hz32 := rd_225_2 hz
  have hz33 := rd_225_3 hz
  have hz34 := rd_225_6 hz
  have hz35 := rd_225_7 hz
  refine w_m rfl rfl ?_
  refine r_ld (pc' := 1) rfl rfl rfl rfl ?_
  have hb36 := rd_225_2 hz
  refine r_gi (pc' := 4) rfl rfl sh_225 rfl rfl ?_
  refine r_zle (pc' := 7) rfl rfl ⟨by omega, by omega⟩ (fun hc37 => ?_) (fun hc37 => ?_)
  · skip
    refine r_ld (pc' := 9) rfl rfl rfl rfl ?_
    refine r_ld (pc' := 10) rfl rfl rfl rfl ?_
    have hb38 := rd_225_6 hz
    refine r_gi (pc' := 13) rfl rfl sh_225 rfl rfl ?_
    refine r_c0 (pc' := 14) rfl rfl ?_
    refine r_ine (pc' := 17) rfl rfl ⟨by omega, by omega⟩ ⟨by decide, by decide⟩ (fun hc39 => ?_) (fun hc39 => ?_)
    · skip
      refine r_ld (pc' := 30) rfl rfl rfl rfl ?_
      refine r_pi (pc' := 33) rfl rfl sh_225 rfl rfl hst (inS_0 (by omega) (by omega) (by omega) (by omega)) (wr_225_2 ⟨by omega, by omega⟩) (fun z40 hq41 hs42 => ?_)
      refine r_ld (pc' := 34) rfl rfl rfl rfl ?_
      refine r_ld (pc' := 35) rfl rfl rfl rfl ?_
      refine r_pi (pc' := 38) rfl rfl sh_225 rfl rfl hs42 (inS_s (inS_0 (by omega) (by omega) (by omega) (by omega))) (wr_225_3 ⟨by omega, by omega⟩) (fun z43 hq44 hs45 => ?_)
      have hf46 : z43 225 2 = a1 := (((congrFun (congrFun hq44 _) _).trans (mu_ne (by omega))).trans ((congrFun (congrFun hq41 _) _).trans mu_eq))
      have hf47 : z43 225 3 = a2 := ((congrFun (congrFun hq44 _) _).trans mu_eq)
      exact r_ret rfl (po_V hs45 ⟨rfl, (by first | exact Or.inl ⟨by omega, by omega, by omega⟩ | (rw [if_pos ⟨by omega, by omega⟩]; exact Or.inr ⟨by omega, by omega, by omega⟩) | (rw [if_neg (by omega)]; exact Or.inr ⟨by omega, by omega, by omega⟩))⟩)
    · skip
      refine r_ld (pc' := 18) rfl rfl rfl rfl ?_
      refine r_ld (pc' := 19) rfl rfl rfl rfl ?_
      have hb48 := rd_225_7 hz
      refine r_gi (pc' := 22) rfl rfl sh_225 rfl rfl ?_
      refine r_ine (pc' := 25) rfl rfl ⟨by omega, by omega⟩ ⟨by omega, by omega⟩ (fun hc49 => ?_) (fun hc49 => ?_)
      · skip
        refine r_ld (pc' := 30) rfl rfl rfl rfl ?_
        refine r_pi (pc' := 33) rfl rfl sh_225 rfl rfl hst (inS_0 (by omega) (by omega) (by omega) (by omega)) (wr_225_2 ⟨by omega, by omega⟩) (fun z50 hq51 hs52 => ?_)
        refine r_ld (pc' := 34) rfl rfl rfl rfl ?_
        refine r_ld (pc' := 35) rfl rfl rfl rfl ?_
        refine r_pi (pc' := 38) rfl rfl sh_225 rfl rfl hs52 (inS_s (inS_0 (by omega) (by omega) (by omega) (by omega))) (wr_225_3 ⟨by omega, by omega⟩) (fun z53 hq54 hs55 => ?_)
        have hf56 : z53 225 2 = a1 := (((congrFun (congrFun hq54 _) _).trans (mu_ne (by omega))).trans ((congrFun (congrFun hq51 _) _).trans mu_eq))
        have hf57 : z53 225 3 = a2 := ((congrFun (congrFun hq54 _) _).trans mu_eq)
        exact r_ret rfl (po_V hs55 ⟨rfl, (by first | exact Or.inl ⟨by omega, by omega, by omega⟩ | (rw [if_pos ⟨by omega, by omega⟩]; exact Or.inr ⟨by omega, by omega, by omega⟩) | (rw [if_neg (by omega)]; exact Or.inr ⟨by omega, by omega, by omega⟩))⟩)
      · skip
        refine r_c0 (pc' := 26) rfl rfl ?_
        refine r_go rfl ?_
        refine r_pi (pc' := 33) rfl rfl sh_225 rfl rfl hst (inS_0 (by omega) (by omega) (by omega) (by omega)) (wr_225_2 ⟨by omega, by omega⟩) (fun z58 hq59 hs60 => ?_)
        refine r_ld (pc' := 34) rfl rfl rfl rfl ?_
        refine r_ld (pc' := 35) rfl rfl rfl rfl ?_
        refine r_pi (pc' := 38) rfl rfl sh_225 rfl rfl hs60 (inS_s (inS_0 (by omega) (by omega) (by omega) (by omega))) (wr_225_3 ⟨by omega, by omega⟩) (fun z61 hq62 hs63 => ?_)
        have hf64 : z61 225 2 = 1 := (((congrFun (congrFun hq62 _) _).trans (mu_ne (by omega))).trans ((congrFun (congrFun hq59 _) _).trans mu_eq))
        have hf65 : z61 225 3 = a2 := ((congrFun (congrFun hq62 _) _).trans mu_eq)
        exact r_ret rfl (po_V hs63 ⟨rfl, (by first | exact Or.inl ⟨by omega, by omega, by omega⟩ | (rw [if_pos ⟨by omega, by omega⟩]; exact Or.inr ⟨by omega, by omega, by omega⟩) | (rw [if_neg (by omega)]; exact Or.inr ⟨by omega, by omega, by omega⟩))⟩)
  · skip
    have hb66 := rd_225_3 hz
    exact r_ret rfl (po_V hst ⟨rfl, (by first | exact Or.inl ⟨by omega, by omega, by omega⟩ | (rw [if_pos ⟨by omega, by omega⟩]; exact Or.inr ⟨by omega, by omega, by omega⟩) | (rw [if_neg (by omega)]; exact Or.inr ⟨by omega, by omega, by omega⟩))⟩)
/-- LoopGroundModel isName -/
abbrev S_156x  : mS := []
abbrev E_156x (h : Int → Int) (z0 w0 : mZ) (x y tx it mt tt ct : Option Nat) : Int → mZ → mZ → mP → Prop := fun v z w p => p = (pq x y tx it mt tt ct) ∧ z0 = z ∧ w0 = w ∧ 0 ≤ v ∧ v ≤ 1 ∧ ((v = 1 → tkK h (z0 225 7) = 1) ∧ (v = 0 → tkK h (z0 225 7) ≠ 1))
theorem m_156x {d : Nat} {z0 w0 : mZ} {x y tx it mt tt ct : Option Nat} (h : Int → Int) (hz : rz z0) (hw : rw_ w0) (htk : TKr h z0 w0 (z0 225 7)) : wc (d + 1) 156 [.ref 225] (mk z0 w0 (pq x y tx it mt tt ct)) (poI S_156x z0 w0 (E_156x h z0 w0 x y tx it mt tt ct)) := by
  have hst : st_ S_156x z0 w0 z0 w0 := st_rf hz hw
  have hz9 := rd_225_7 hz
  have htn := tkn htk
  refine w_m rfl rfl ?_
  refine r_ld (pc' := 1) rfl rfl rfl rfl ?_
  have hb10 := rd_225_6 hz
  refine r_gi (pc' := 4) rfl rfl sh_225 rfl rfl ?_
  refine r_c0 (pc' := 5) rfl rfl ?_
  refine r_ine (pc' := 8) rfl rfl ⟨by omega, by omega⟩ ⟨by decide, by decide⟩ (fun hc11 => ?_) (fun hc11 => ?_)
  · skip
    refine r_c0 (pc' := 68) rfl rfl ?_
    exact r_rz rfl (by omega) (po_I hst ⟨by decide, by decide⟩ ⟨rfl, rfl, rfl, by omega, by omega, (by first | exact ⟨fun _ => htn.mp ⟨by omega, by omega, by omega, by omega, by omega, by omega⟩, fun q => absurd q (by omega)⟩ | exact ⟨fun q => absurd q (by omega), fun _ q => by have := htn.mpr q; omega⟩)⟩)
  · skip
    refine r_ld (pc' := 9) rfl rfl rfl rfl ?_
    have hb12 := rd_225_9 hw
    refine r_gl (pc' := 12) rfl rfl sh_225 rfl rfl ?_
    refine r_al (pc' := 15) rfl rfl rfl rfl ?_
    refine r_leq (pc' := 19) rfl rfl rfl ⟨by omega, by omega⟩ ⟨by decide, by decide⟩ (fun hc13 => ?_) (fun hc13 => ?_)
    · skip
      refine r_c0 (pc' := 68) rfl rfl ?_
      exact r_rz rfl (by omega) (po_I hst ⟨by decide, by decide⟩ ⟨rfl, rfl, rfl, by omega, by omega, (by first | exact ⟨fun _ => htn.mp ⟨by omega, by omega, by omega, by omega, by omega, by omega⟩, fun q => absurd q (by omega)⟩ | exact ⟨fun q => absurd q (by omega), fun _ q => by have := htn.mpr q; omega⟩)⟩)
    · skip
      refine r_ld (pc' := 20) rfl rfl rfl rfl ?_
      refine r_gl (pc' := 23) rfl rfl sh_225 rfl rfl ?_
      refine r_al (pc' := 26) rfl rfl rfl rfl ?_
      refine r_leq (pc' := 30) rfl rfl rfl ⟨by omega, by omega⟩ ⟨by decide, by decide⟩ (fun hc14 => ?_) (fun hc14 => ?_)
      · skip
        refine r_c0 (pc' := 68) rfl rfl ?_
        exact r_rz rfl (by omega) (po_I hst ⟨by decide, by decide⟩ ⟨rfl, rfl, rfl, by omega, by omega, (by first | exact ⟨fun _ => htn.mp ⟨by omega, by omega, by omega, by omega, by omega, by omega⟩, fun q => absurd q (by omega)⟩ | exact ⟨fun q => absurd q (by omega), fun _ q => by have := htn.mpr q; omega⟩)⟩)
      · skip
        refine r_ld (pc' := 31) rfl rfl rfl rfl ?_
        refine r_gl (pc' := 34) rfl rfl sh_225 rfl rfl ?_
        refine r_al (pc' := 37) rfl rfl rfl rfl ?_
        refine r_leq (pc' := 41) rfl rfl rfl ⟨by omega, by omega⟩ ⟨by decide, by decide⟩ (fun hc15 => ?_) (fun hc15 => ?_)
        · skip
          refine r_c0 (pc' := 68) rfl rfl ?_
          exact r_rz rfl (by omega) (po_I hst ⟨by decide, by decide⟩ ⟨rfl, rfl, rfl, by omega, by omega, (by first | exact ⟨fun _ => htn.mp ⟨by omega, by omega, by omega, by omega, by omega, by omega⟩, fun q => absurd q (by omega)⟩ | exact ⟨fun q => absurd q (by omega), fun _ q => by have := htn.mpr q; omega⟩)⟩)
        · skip
          refine r_ld (pc' := 42) rfl rfl rfl rfl ?_
          refine r_gl (pc' := 45) rfl rfl sh_225 rfl rfl ?_
          refine r_al (pc' := 48) rfl rfl rfl rfl ?_
          refine r_leq (pc' := 52) rfl rfl rfl ⟨by omega, by omega⟩ ⟨by decide, by decide⟩ (fun hc16 => ?_) (fun hc16 => ?_)
          · skip
            refine r_c0 (pc' := 68) rfl rfl ?_
            exact r_rz rfl (by omega) (po_I hst ⟨by decide, by decide⟩ ⟨rfl, rfl, rfl, by omega, by omega, (by first | exact ⟨fun _ => htn.mp ⟨by omega, by omega, by omega, by omega, by omega, by omega⟩, fun q => absurd q (by omega)⟩ | exact ⟨fun q => absurd q (by omega), fun _ q => by have := htn.mpr q; omega⟩)⟩)
          · skip
            refine r_ld (pc' := 53) rfl rfl rfl rfl ?_
            refine r_gl (pc' := 56) rfl rfl sh_225 rfl rfl ?_
            refine r_al (pc' := 59) rfl rfl rfl rfl ?_
            refine r_leq (pc' := 63) rfl rfl rfl ⟨by omega, by omega⟩ ⟨by decide, by decide⟩ (fun hc17 => ?_) (fun hc17 => ?_)
            · skip
              refine r_c0 (pc' := 68) rfl rfl ?_
              exact r_rz rfl (by omega) (po_I hst ⟨by decide, by decide⟩ ⟨rfl, rfl, rfl, by omega, by omega, (by first | exact ⟨fun _ => htn.mp ⟨by omega, by omega, by omega, by omega, by omega, by omega⟩, fun q => absurd q (by omega)⟩ | exact ⟨fun q => absurd q (by omega), fun _ q => by have := htn.mpr q; omega⟩)⟩)
            · skip
              refine r_c0 (pc' := 64) rfl rfl ?_
              refine r_go rfl ?_
              exact r_rz rfl (by omega) (po_I hst ⟨by decide, by decide⟩ ⟨rfl, rfl, rfl, by omega, by omega, (by first | exact ⟨fun _ => htn.mp ⟨by omega, by omega, by omega, by omega, by omega, by omega⟩, fun q => absurd q (by omega)⟩ | exact ⟨fun q => absurd q (by omega), fun _ q => by have := htn.mpr q; omega⟩)⟩)
/-- LoopGroundModel hangs -/
abbrev S_164x  : mS := []
abbrev E_164x (a1 : Int) (a2 : Int) (z0 w0 : mZ) (x y tx it mt tt ct : Option Nat) : Int → mZ → mZ → mP → Prop := fun v z w p => p = (pq x y tx it mt tt ct) ∧ z0 = z ∧ w0 = w ∧ 0 ≤ v ∧ v ≤ 1 ∧ ((v = 1 → hg (z0 229) a1.toNat a2.toNat) ∧ (v = 0 → ¬ hg (z0 229) a1.toNat a2.toNat))
theorem m_164x {d : Nat} {z0 w0 : mZ} {x y tx it mt tt ct : Option Nat} (a1 : Int) (a2 : Int) (hz : rz z0) (hw : rw_ w0) (ha1 : 0 ≤ a1 ∧ a1 ≤ 11) (ha2 : 0 ≤ a2 ∧ a2 ≤ 11) : wc (d + 1) 164 [.ref 225, .int (Int32.ofInt a1), .int (Int32.ofInt a2)] (mk z0 w0 (pq x y tx it mt tt ct)) (poI S_164x z0 w0 (E_164x a1 a2 z0 w0 x y tx it mt tt ct)) := by
  have hst : st_ S_164x z0 w0 z0 w0 := st_rf hz hw
  have key : ∀ N : Nat, (∀ (x3 x4 : Int) , 0 ≤ x3 ∧ x3 ≤ 1 → 0 ≤ x4 ∧ x4 ≤ 9 → ((x3 = 1 → hg (z0 229) a1.toNat a2.toNat) ∧ (x3 = 0 → ∀ i : Nat, (i : Int) < x4 → z0 229 (3 * a1.toNat + i / 3) ≠ z0 229 (3 * a2.toNat + i % 3))) → 38 * (9 - x4) + 33 < (N : Int) → wp_ (d) 164 5 (some .boolean) (5, [(0, .ref 225), (1, .int (Int32.ofInt a1)), (2, .int (Int32.ofInt a2)), (3, .int (Int32.ofInt x3)), (4, .int (Int32.ofInt x4))], [], mk z0 w0 (pq x y tx it mt tt ct)) (poI S_164x z0 w0 (E_164x a1 a2 z0 w0 x y tx it mt tt ct))) ∧ (∀ (x4 : Int) , 0 ≤ x4 ∧ x4 ≤ 8 → (hg (z0 229) a1.toNat a2.toNat) → 38 * (9 - x4) + 6 < (N : Int) → wp_ (d) 164 5 (some .boolean) (45, [(0, .ref 225), (1, .int (Int32.ofInt a1)), (2, .int (Int32.ofInt a2)), (4, .int (Int32.ofInt x4))], [], mk z0 w0 (pq x y tx it mt tt ct)) (poI S_164x z0 w0 (E_164x a1 a2 z0 w0 x y tx it mt tt ct))) := by
    intro N
    induction N with
    | zero =>
      refine ⟨?_, ?_⟩
      · intro x3 x4 
        intros; exfalso; omega
      · intro x4 
        intros; exfalso; omega
    | succ N ih =>
      obtain ⟨ih0, ih1⟩ := ih
      refine ⟨?_, ?_⟩
      · intro x3 x4  hx3 hx4 as1 hM
        refine r_ld (pc' := 7) rfl rfl rfl rfl ?_
        refine r_cb (pc' := 9) rfl (by decide) rfl ?_
        refine r_ige (pc' := 12) rfl rfl ⟨by omega, by omega⟩ ⟨by decide, by decide⟩ (fun hc6 => ?_) (fun hc6 => ?_)
        · skip
          refine r_ld (pc' := 58) rfl rfl rfl rfl ?_
          exact r_rz rfl (by omega) (po_I hst ⟨by omega, by omega⟩ ⟨rfl, rfl, rfl, by omega, by omega, (by exact ⟨as1.1, fun q g => by obtain ⟨i, j, hi, hj, e⟩ := g; have := as1.2 q (3 * i + j) (by omega); rw [show (3 * i + j) / 3 = i by omega, show (3 * i + j) % 3 = j by omega] at this; exact this e⟩)⟩)
        · skip
          refine r_ld (pc' := 13) rfl rfl rfl rfl ?_
          refine r_zne (pc' := 16) rfl rfl ⟨by omega, by omega⟩ (fun hc7 => ?_) (fun hc7 => ?_)
          · skip
            exact w_lv (sub_c rfl (sub_c rfl (sub_c rfl (sub_c rfl sub_n)))) rfl (ih1 x4 ⟨by omega, by omega⟩ (by first | exact as1.1 (by omega) | exact ⟨x4.toNat / 3, x4.toNat % 3, by omega, by omega, by rw [← e1, ← e2]; omega⟩) (by omega))
          · skip
            have e1 : (3 * a1 + x4 / 3).toNat = 3 * a1.toNat + x4.toNat / 3 := by omega
            have e2 : (3 * a2 + x4 % 3).toNat = 3 * a2.toNat + x4.toNat % 3 := by omega
            refine r_ld (pc' := 17) rfl rfl rfl rfl ?_
            refine r_gr (b := 229) (pc' := 20) rfl rfl sh_225 rfl pp_225_12 ?_
            refine r_c0 (pc' := 21) rfl rfl ?_
            refine r_ld (pc' := 22) rfl rfl rfl rfl ?_
            refine r_mul (pc' := 23) rfl rfl ?_
            refine r_ld (pc' := 25) rfl rfl rfl rfl ?_
            refine r_c0 (pc' := 26) rfl rfl ?_
            refine r_dv (pc' := 27) (v := x4 / 3) rfl rfl ⟨by omega, by omega⟩ ⟨by decide, by decide⟩ (by decide) (tdiv_n (by omega)) ?_
            refine r_add (pc' := 28) rfl rfl ?_
            have hb8 := rd_229 hz (i := ((3 * a1) + (x4 / 3)).toNat) (by omega)
            refine r_ia (pc' := 29) rfl rfl sh_229 rfl (by omega) (by omega) rfl ?_
            refine r_ld (pc' := 30) rfl rfl rfl rfl ?_
            refine r_gr (b := 229) (pc' := 33) rfl rfl sh_225 rfl pp_225_12 ?_
            refine r_c0 (pc' := 34) rfl rfl ?_
            refine r_ld (pc' := 35) rfl rfl rfl rfl ?_
            refine r_mul (pc' := 36) rfl rfl ?_
            refine r_ld (pc' := 38) rfl rfl rfl rfl ?_
            refine r_c0 (pc' := 39) rfl rfl ?_
            refine r_rm (pc' := 40) (v := x4 % 3) rfl rfl ⟨by omega, by omega⟩ ⟨by decide, by decide⟩ (by decide) (tmod_n (by omega)) ?_
            refine r_add (pc' := 41) rfl rfl ?_
            have hb9 := rd_229 hz (i := ((3 * a2) + (x4 % 3)).toNat) (by omega)
            refine r_ia (pc' := 42) rfl rfl sh_229 rfl (by omega) (by omega) rfl ?_
            refine r_ine (pc' := 45) rfl rfl ⟨by omega, by omega⟩ ⟨by omega, by omega⟩ (fun hc10 => ?_) (fun hc10 => ?_)
            · skip
              refine r_c0 (pc' := 50) rfl rfl ?_
              refine r_st (pc' := 51) (lv' := [(3, _), (0, _), (1, _), (2, _), (4, _)]) rfl rfl rfl rfl ?_
              refine r_inc (pc' := 54) (lv' := [(3, _), (0, _), (1, _), (2, _)]) rfl rfl rfl rfl rfl ?_
              refine r_go rfl ?_
              exact w_lv (sub_c rfl (sub_c rfl (sub_c rfl (sub_c rfl (sub_c rfl sub_n))))) rfl (ih0 0 (x4 + 1) ⟨by omega, by omega⟩ ⟨by omega, by omega⟩ (by first | exact ⟨fun q => absurd q (by omega), fun _ i hi => absurd hi (by omega)⟩ | exact ⟨fun _ => as1, fun q => absurd q (by omega)⟩ | (refine ⟨fun q => absurd q (by omega), fun _ i hi => ?_⟩; by_cases c : i = x4.toNat; (rw [c, ← e1, ← e2]; omega); exact as1.2 (by omega) i (by omega))) (by omega))
            · skip
              exact w_lv (sub_c rfl (sub_c rfl (sub_c rfl (sub_c rfl sub_n)))) rfl (ih1 x4 ⟨by omega, by omega⟩ (by first | exact as1.1 (by omega) | exact ⟨x4.toNat / 3, x4.toNat % 3, by omega, by omega, by rw [← e1, ← e2]; omega⟩) (by omega))
      · intro x4  hx4 as1 hM
        refine r_c0 (pc' := 46) rfl rfl ?_
        refine r_go rfl ?_
        refine r_st (pc' := 51) (lv' := [(3, _), (0, _), (1, _), (2, _), (4, _)]) rfl rfl rfl rfl ?_
        refine r_inc (pc' := 54) (lv' := [(3, _), (0, _), (1, _), (2, _)]) rfl rfl rfl rfl rfl ?_
        refine r_go rfl ?_
        exact w_lv (sub_c rfl (sub_c rfl (sub_c rfl (sub_c rfl (sub_c rfl sub_n))))) rfl (ih0 1 (x4 + 1) ⟨by omega, by omega⟩ ⟨by omega, by omega⟩ (by first | exact ⟨fun q => absurd q (by omega), fun _ i hi => absurd hi (by omega)⟩ | exact ⟨fun _ => as1, fun q => absurd q (by omega)⟩ | (refine ⟨fun q => absurd q (by omega), fun _ i hi => ?_⟩; by_cases c : i = x4.toNat; (rw [c, ← e1, ← e2]; omega); exact as1.2 (by omega) i (by omega))) (by omega))
  refine w_m rfl rfl ?_
  refine r_c0 (pc' := 1) rfl rfl ?_
  refine r_st (pc' := 2) (lv' := [(3, _), (0, _), (1, _), (2, _)]) rfl rfl rfl rfl ?_
  refine r_c0 (pc' := 3) rfl rfl ?_
  refine r_st (pc' := 5) (lv' := [(4, _), (3, _), (0, _), (1, _), (2, _)]) rfl rfl rfl rfl ?_
  exact w_lv (sub_c rfl (sub_c rfl (sub_c rfl (sub_c rfl (sub_c rfl sub_n))))) rfl ((key ((38 * (9 - 0) + 33 : Int).toNat + 1)).1 0 0 ⟨by omega, by omega⟩ ⟨by omega, by omega⟩ (by first | exact ⟨fun q => absurd q (by omega), fun _ i hi => absurd hi (by omega)⟩ | exact ⟨fun _ => as1, fun q => absurd q (by omega)⟩ | (refine ⟨fun q => absurd q (by omega), fun _ i hi => ?_⟩; by_cases c : i = x4.toNat; (rw [c, ← e1, ← e2]; omega); exact as1.2 (by omega) i (by omega))) (by omega))
/-- LoopGroundModel findLine -/
abbrev S_165x  : mS := []
abbrev E_165x  (z0 w0 : mZ) (x y tx it mt tt ct : Option Nat) : Int → mZ → mZ → mP → Prop := fun v z w p => p = (pq x y tx it mt tt ct) ∧ z0 = z ∧ w0 = w ∧ (-1) ≤ v ∧ v ≤ 7 ∧ (v = fnl (w0 227) (w0 225 9) (z0 225 24).toNat)
theorem m_165x {d : Nat} {z0 w0 : mZ} {x y tx it mt tt ct : Option Nat}  (hz : rz z0) (hw : rw_ w0) : wc (d + 1) 165 [.ref 225] (mk z0 w0 (pq x y tx it mt tt ct)) (poI S_165x z0 w0 (E_165x  z0 w0 x y tx it mt tt ct)) := by
  have hst : st_ S_165x z0 w0 z0 w0 := st_rf hz hw
  have hz6 := rd_225_9 hw
  have hz7 := rd_225_24 hz
  have h24 := rd_225_24 hz
  have key : ∀ N : Nat, (∀ (x1 x2 : Int) , (-1) ≤ x1 ∧ x1 ≤ 7 → 0 ≤ x2 ∧ x2 ≤ 8 → (x1 = fnl (w0 227) (w0 225 9) x2.toNat) → (x2 ≤ z0 225 24) → 24 * (8 - x2) + 19 < (N : Int) → wp_ (d) 165 3 (some .int) (4, [(0, .ref 225), (1, .int (Int32.ofInt x1)), (2, .int (Int32.ofInt x2))], [], mk z0 w0 (pq x y tx it mt tt ct)) (poI S_165x z0 w0 (E_165x  z0 w0 x y tx it mt tt ct))) := by
    intro N
    induction N with
    | zero =>
      intro x1 x2 
      intros; exfalso; omega
    | succ N ih =>
      have ih0 := ih; clear ih
      intro x1 x2  hx1 hx2 as1 as2 hM
      refine r_ld (pc' := 5) rfl rfl rfl rfl ?_
      refine r_ld (pc' := 6) rfl rfl rfl rfl ?_
      have hb8 := rd_225_24 hz
      refine r_gi (pc' := 9) rfl rfl sh_225 rfl rfl ?_
      refine r_ige (pc' := 12) rfl rfl ⟨by omega, by omega⟩ ⟨by omega, by omega⟩ (fun hc9 => ?_) (fun hc9 => ?_)
      · skip
        refine r_ld (pc' := 39) rfl rfl rfl rfl ?_
        exact r_ri rfl (po_I hst ⟨by omega, by omega⟩ ⟨rfl, rfl, rfl, by omega, by omega, (by rw [show (z0 225 24).toNat = x2.toNat by omega]; exact as1)⟩)
      · skip
        refine r_ld (pc' := 13) rfl rfl rfl rfl ?_
        refine r_gr (b := 227) (pc' := 16) rfl rfl sh_225 rfl pp_225_10 ?_
        refine r_ld (pc' := 17) rfl rfl rfl rfl ?_
        have hb10 := rd_227 hw (i := x2.toNat) (by omega)
        refine r_la (pc' := 18) rfl rfl sh_227 rfl (by omega) (by omega) rfl ?_
        refine r_ld (pc' := 19) rfl rfl rfl rfl ?_
        have hb11 := rd_225_9 hw
        refine r_gl (pc' := 22) rfl rfl sh_225 rfl rfl ?_
        refine r_lne (pc' := 26) rfl rfl rfl ⟨by omega, by omega⟩ ⟨by omega, by omega⟩ (fun hc12 => ?_) (fun hc12 => ?_)
        · skip
          refine r_ld (pc' := 31) rfl rfl rfl rfl ?_
          refine r_st (pc' := 32) (lv' := [(1, _), (0, _), (2, _)]) rfl rfl rfl rfl ?_
          refine r_inc (pc' := 35) (lv' := [(1, _), (0, _)]) rfl rfl rfl rfl rfl ?_
          refine r_go rfl ?_
          exact w_lv (sub_c rfl (sub_c rfl (sub_c rfl sub_n))) rfl (ih0 x1 (x2 + 1) ⟨by omega, by omega⟩ ⟨by omega, by omega⟩ (by first | rfl | (rw [show (x2 + 1).toNat = x2.toNat + 1 by omega]; show _ = (if w0 227 x2.toNat = w0 225 9 then ((x2.toNat : Nat) : Int) else fnl (w0 227) (w0 225 9) x2.toNat); first | (rw [if_pos (by omega)]; omega) | (rw [if_neg (by omega)]; exact as1))) (by first | omega | assumption) (by omega))
        · skip
          refine r_ld (pc' := 27) rfl rfl rfl rfl ?_
          refine r_go rfl ?_
          refine r_st (pc' := 32) (lv' := [(1, _), (0, _), (2, _)]) rfl rfl rfl rfl ?_
          refine r_inc (pc' := 35) (lv' := [(1, _), (0, _)]) rfl rfl rfl rfl rfl ?_
          refine r_go rfl ?_
          exact w_lv (sub_c rfl (sub_c rfl (sub_c rfl sub_n))) rfl (ih0 x2 (x2 + 1) ⟨by omega, by omega⟩ ⟨by omega, by omega⟩ (by first | rfl | (rw [show (x2 + 1).toNat = x2.toNat + 1 by omega]; show _ = (if w0 227 x2.toNat = w0 225 9 then ((x2.toNat : Nat) : Int) else fnl (w0 227) (w0 225 9) x2.toNat); first | (rw [if_pos (by omega)]; omega) | (rw [if_neg (by omega)]; exact as1))) (by first | omega | assumption) (by omega))
  refine w_m rfl rfl ?_
  refine r_c0 (pc' := 1) rfl rfl ?_
  refine r_st (pc' := 2) (lv' := [(1, _), (0, _)]) rfl rfl rfl rfl ?_
  refine r_c0 (pc' := 3) rfl rfl ?_
  refine r_st (pc' := 4) (lv' := [(2, _), (1, _), (0, _)]) rfl rfl rfl rfl ?_
  exact w_lv (sub_c rfl (sub_c rfl (sub_c rfl sub_n))) rfl ((key ((24 * (8 - 0) + 19 : Int).toNat + 1)) ((-1)) 0 ⟨by omega, by omega⟩ ⟨by omega, by omega⟩ (by first | rfl | (rw [show (x2 + 1).toNat = x2.toNat + 1 by omega]; show _ = (if w0 227 x2.toNat = w0 225 9 then ((x2.toNat : Nat) : Int) else fnl (w0 227) (w0 225 9) x2.toNat); first | (rw [if_pos (by omega)]; omega) | (rw [if_neg (by omega)]; exact as1))) (by first | omega | assumption) (by omega))
/-- LoopGroundModel nFits -/
abbrev S_166x  : mS := []
abbrev E_166x (a1 : Int) (z0 w0 : mZ) (x y tx it mt tt ct : Option Nat) : Int → mZ → mZ → mP → Prop := fun v z w p => p = (pq x y tx it mt tt ct) ∧ z0 = z ∧ w0 = w ∧ 0 ≤ v ∧ v ≤ 1 ∧ ((v = 1 → ∀ q : Nat, (q : Int) < z0 225 23 → tri (z0 231 (a1 + z0 229 (3 * q)).toNat) (z0 231 (a1 + z0 229 (3 * q + 1)).toNat) (z0 231 (a1 + z0 229 (3 * q + 2)).toNat)) ∧ (v = 0 → ¬ ∀ q : Nat, (q : Int) < z0 225 23 → tri (z0 231 (a1 + z0 229 (3 * q)).toNat) (z0 231 (a1 + z0 229 (3 * q + 1)).toNat) (z0 231 (a1 + z0 229 (3 * q + 2)).toNat)))
theorem m_166x {d : Nat} {z0 w0 : mZ} {x y tx it mt tt ct : Option Nat} (a1 : Int) (hz : rz z0) (hw : rw_ w0) (ha1 : 0 ≤ a1 ∧ a1 ≤ 126) : wc (d + 1) 166 [.ref 225, .int (Int32.ofInt a1)] (mk z0 w0 (pq x y tx it mt tt ct)) (poI S_166x z0 w0 (E_166x a1 z0 w0 x y tx it mt tt ct)) := by
  have hst : st_ S_166x z0 w0 z0 w0 := st_rf hz hw
  have hz14 := rd_225_23 hz
  have h23 := rd_225_23 hz
  have key : ∀ N : Nat, (∀ (x2 x3 : Int) , 0 ≤ x2 ∧ x2 ≤ 1 → 0 ≤ x3 ∧ x3 ≤ 12 → ((x2 = 1 → ∀ q : Nat, (q : Int) < x3 → tri (z0 231 (a1 + z0 229 (3 * q)).toNat) (z0 231 (a1 + z0 229 (3 * q + 1)).toNat) (z0 231 (a1 + z0 229 (3 * q + 2)).toNat)) ∧ (x2 = 0 → ¬ ∀ q : Nat, (q : Int) < x3 → tri (z0 231 (a1 + z0 229 (3 * q)).toNat) (z0 231 (a1 + z0 229 (3 * q + 1)).toNat) (z0 231 (a1 + z0 229 (3 * q + 2)).toNat))) → (x3 ≤ z0 225 23) → 81 * (12 - x3) + 76 < (N : Int) → wp_ (d) 166 7 (some .boolean) (4, [(0, .ref 225), (1, .int (Int32.ofInt a1)), (2, .int (Int32.ofInt x2)), (3, .int (Int32.ofInt x3))], [], mk z0 w0 (pq x y tx it mt tt ct)) (poI S_166x z0 w0 (E_166x a1 z0 w0 x y tx it mt tt ct))) ∧ (∀ (x3 : Int) , 0 ≤ x3 ∧ x3 ≤ 11 → 1 ≤ z0 225 23 ∧ z0 225 23 ≤ 12 → (¬ ∀ q : Nat, (q : Int) < x3 + 1 → tri (z0 231 (a1 + z0 229 (3 * q)).toNat) (z0 231 (a1 + z0 229 (3 * q + 1)).toNat) (z0 231 (a1 + z0 229 (3 * q + 2)).toNat)) → (x3 < z0 225 23) → 81 * (12 - x3) + 5 < (N : Int) → wp_ (d) 166 7 (some .boolean) (118, [(0, .ref 225), (1, .int (Int32.ofInt a1)), (3, .int (Int32.ofInt x3))], [], mk z0 w0 (pq x y tx it mt tt ct)) (poI S_166x z0 w0 (E_166x a1 z0 w0 x y tx it mt tt ct))) := by
    intro N
    induction N with
    | zero =>
      refine ⟨?_, ?_⟩
      · intro x2 x3 
        intros; exfalso; omega
      · intro x3 
        intros; exfalso; omega
    | succ N ih =>
      obtain ⟨ih0, ih1⟩ := ih
      refine ⟨?_, ?_⟩
      · intro x2 x3  hx2 hx3 as1 as2 hM
        refine r_ld (pc' := 5) rfl rfl rfl rfl ?_
        refine r_ld (pc' := 6) rfl rfl rfl rfl ?_
        have hb15 := rd_225_23 hz
        refine r_gi (pc' := 9) rfl rfl sh_225 rfl rfl ?_
        refine r_ige (pc' := 12) rfl rfl ⟨by omega, by omega⟩ ⟨by omega, by omega⟩ (fun hc16 => ?_) (fun hc16 => ?_)
        · skip
          refine r_ld (pc' := 127) rfl rfl rfl rfl ?_
          exact r_rz rfl (by omega) (po_I hst ⟨by omega, by omega⟩ ⟨rfl, rfl, rfl, by omega, by omega, (by rw [show z0 225 23 = x3 by omega]; first | exact as1)⟩)
        · skip
          have e31 : (3 * x3).toNat = 3 * x3.toNat := by omega
          have e32 : (3 * x3 + 1).toNat = 3 * x3.toNat + 1 := by omega
          have e33 : (3 * x3 + 2).toNat = 3 * x3.toNat + 2 := by omega
          refine r_ld (pc' := 13) rfl rfl rfl rfl ?_
          refine r_gr (b := 231) (pc' := 16) rfl rfl sh_225 rfl pp_225_14 ?_
          refine r_ld (pc' := 17) rfl rfl rfl rfl ?_
          refine r_ld (pc' := 18) rfl rfl rfl rfl ?_
          refine r_gr (b := 229) (pc' := 21) rfl rfl sh_225 rfl pp_225_12 ?_
          refine r_c0 (pc' := 22) rfl rfl ?_
          refine r_ld (pc' := 23) rfl rfl rfl rfl ?_
          refine r_mul (pc' := 24) rfl rfl ?_
          have hb17 := rd_229 hz (i := (3 * x3).toNat) (by omega)
          refine r_ia (pc' := 25) rfl rfl sh_229 rfl (by omega) (by omega) rfl ?_
          refine r_add (pc' := 26) rfl rfl ?_
          have hb18 := rd_231 hz (i := (a1 + (z0 229 (3 * x3).toNat)).toNat) (by omega)
          refine r_ia (pc' := 27) rfl rfl sh_231 rfl (by omega) (by omega) rfl ?_
          refine r_st (pc' := 29) (lv' := [(4, _), (0, _), (1, _), (2, _), (3, _)]) rfl rfl rfl rfl ?_
          refine r_ld (pc' := 30) rfl rfl rfl rfl ?_
          refine r_gr (b := 231) (pc' := 33) rfl rfl sh_225 rfl pp_225_14 ?_
          refine r_ld (pc' := 34) rfl rfl rfl rfl ?_
          refine r_ld (pc' := 35) rfl rfl rfl rfl ?_
          refine r_gr (b := 229) (pc' := 38) rfl rfl sh_225 rfl pp_225_12 ?_
          refine r_c0 (pc' := 39) rfl rfl ?_
          refine r_ld (pc' := 40) rfl rfl rfl rfl ?_
          refine r_mul (pc' := 41) rfl rfl ?_
          refine r_c0 (pc' := 42) rfl rfl ?_
          refine r_add (pc' := 43) rfl rfl ?_
          have hb19 := rd_229 hz (i := ((3 * x3) + 1).toNat) (by omega)
          refine r_ia (pc' := 44) rfl rfl sh_229 rfl (by omega) (by omega) rfl ?_
          refine r_add (pc' := 45) rfl rfl ?_
          have hb20 := rd_231 hz (i := (a1 + (z0 229 ((3 * x3) + 1).toNat)).toNat) (by omega)
          refine r_ia (pc' := 46) rfl rfl sh_231 rfl (by omega) (by omega) rfl ?_
          refine r_st (pc' := 48) (lv' := [(5, _), (4, _), (0, _), (1, _), (2, _), (3, _)]) rfl rfl rfl rfl ?_
          refine r_ld (pc' := 49) rfl rfl rfl rfl ?_
          refine r_gr (b := 231) (pc' := 52) rfl rfl sh_225 rfl pp_225_14 ?_
          refine r_ld (pc' := 53) rfl rfl rfl rfl ?_
          refine r_ld (pc' := 54) rfl rfl rfl rfl ?_
          refine r_gr (b := 229) (pc' := 57) rfl rfl sh_225 rfl pp_225_12 ?_
          refine r_c0 (pc' := 58) rfl rfl ?_
          refine r_ld (pc' := 59) rfl rfl rfl rfl ?_
          refine r_mul (pc' := 60) rfl rfl ?_
          refine r_c0 (pc' := 61) rfl rfl ?_
          refine r_add (pc' := 62) rfl rfl ?_
          have hb21 := rd_229 hz (i := ((3 * x3) + 2).toNat) (by omega)
          refine r_ia (pc' := 63) rfl rfl sh_229 rfl (by omega) (by omega) rfl ?_
          refine r_add (pc' := 64) rfl rfl ?_
          have hb22 := rd_231 hz (i := (a1 + (z0 229 ((3 * x3) + 2).toNat)).toNat) (by omega)
          refine r_ia (pc' := 65) rfl rfl sh_231 rfl (by omega) (by omega) rfl ?_
          refine r_st (pc' := 67) (lv' := [(6, _), (5, _), (4, _), (0, _), (1, _), (2, _), (3, _)]) rfl rfl rfl rfl ?_
          refine r_ld (pc' := 68) rfl rfl rfl rfl ?_
          refine r_zeq (pc' := 71) rfl rfl ⟨by omega, by omega⟩ (fun hc23 => ?_) (fun hc23 => ?_)
          · skip
            exact w_lv (sub_c rfl (sub_c rfl (sub_c rfl sub_n))) rfl (ih1 x3 ⟨by omega, by omega⟩ ⟨by omega, by omega⟩ (by first | exact fun g => as1.2 (by omega) (fun q hq => g q (by omega)) | (intro g; have g2 := g x3.toNat (by omega); rw [← e32, ← e33, ← e31] at g2; have g3 := g2.1; have g4 := g2.2.1; have g5 := g2.2.2.1; have g6 := g2.2.2.2; omega)) (by first | omega | assumption) (by omega))
          · skip
            refine r_ld (pc' := 73) rfl rfl rfl rfl ?_
            refine r_ld (pc' := 75) rfl rfl rfl rfl ?_
            refine r_add (pc' := 76) rfl rfl ?_
            refine r_ld (pc' := 78) rfl rfl rfl rfl ?_
            refine r_add (pc' := 79) rfl rfl ?_
            refine r_c0 (pc' := 80) rfl rfl ?_
            refine r_rm (pc' := 81) (v := (((z0 231 (a1 + (z0 229 (3 * x3).toNat)).toNat) + (z0 231 (a1 + (z0 229 ((3 * x3) + 1).toNat)).toNat)) + (z0 231 (a1 + (z0 229 ((3 * x3) + 2).toNat)).toNat)) % 2) rfl rfl ⟨by omega, by omega⟩ ⟨by decide, by decide⟩ (by decide) (tmod_n (by omega)) ?_
            refine r_zne (pc' := 84) rfl rfl ⟨by omega, by omega⟩ (fun hc24 => ?_) (fun hc24 => ?_)
            · skip
              exact w_lv (sub_c rfl (sub_c rfl (sub_c rfl sub_n))) rfl (ih1 x3 ⟨by omega, by omega⟩ ⟨by omega, by omega⟩ (by first | exact fun g => as1.2 (by omega) (fun q hq => g q (by omega)) | (intro g; have g2 := g x3.toNat (by omega); rw [← e32, ← e33, ← e31] at g2; have g3 := g2.1; have g4 := g2.2.1; have g5 := g2.2.2.1; have g6 := g2.2.2.2; omega)) (by first | omega | assumption) (by omega))
            · skip
              refine r_ld (pc' := 86) rfl rfl rfl rfl ?_
              refine r_ld (pc' := 88) rfl rfl rfl rfl ?_
              refine r_ld (pc' := 90) rfl rfl rfl rfl ?_
              refine r_add (pc' := 91) rfl rfl ?_
              refine r_igt (pc' := 94) rfl rfl ⟨by omega, by omega⟩ ⟨by omega, by omega⟩ (fun hc25 => ?_) (fun hc25 => ?_)
              · skip
                exact w_lv (sub_c rfl (sub_c rfl (sub_c rfl sub_n))) rfl (ih1 x3 ⟨by omega, by omega⟩ ⟨by omega, by omega⟩ (by first | exact fun g => as1.2 (by omega) (fun q hq => g q (by omega)) | (intro g; have g2 := g x3.toNat (by omega); rw [← e32, ← e33, ← e31] at g2; have g3 := g2.1; have g4 := g2.2.1; have g5 := g2.2.2.1; have g6 := g2.2.2.2; omega)) (by first | omega | assumption) (by omega))
              · skip
                refine r_ld (pc' := 96) rfl rfl rfl rfl ?_
                refine r_ld (pc' := 98) rfl rfl rfl rfl ?_
                refine r_ld (pc' := 100) rfl rfl rfl rfl ?_
                refine r_add (pc' := 101) rfl rfl ?_
                refine r_igt (pc' := 104) rfl rfl ⟨by omega, by omega⟩ ⟨by omega, by omega⟩ (fun hc26 => ?_) (fun hc26 => ?_)
                · skip
                  exact w_lv (sub_c rfl (sub_c rfl (sub_c rfl sub_n))) rfl (ih1 x3 ⟨by omega, by omega⟩ ⟨by omega, by omega⟩ (by first | exact fun g => as1.2 (by omega) (fun q hq => g q (by omega)) | (intro g; have g2 := g x3.toNat (by omega); rw [← e32, ← e33, ← e31] at g2; have g3 := g2.1; have g4 := g2.2.1; have g5 := g2.2.2.1; have g6 := g2.2.2.2; omega)) (by first | omega | assumption) (by omega))
                · skip
                  refine r_ld (pc' := 106) rfl rfl rfl rfl ?_
                  refine r_ld (pc' := 108) rfl rfl rfl rfl ?_
                  refine r_ld (pc' := 110) rfl rfl rfl rfl ?_
                  refine r_add (pc' := 111) rfl rfl ?_
                  refine r_igt (pc' := 114) rfl rfl ⟨by omega, by omega⟩ ⟨by omega, by omega⟩ (fun hc27 => ?_) (fun hc27 => ?_)
                  · skip
                    exact w_lv (sub_c rfl (sub_c rfl (sub_c rfl sub_n))) rfl (ih1 x3 ⟨by omega, by omega⟩ ⟨by omega, by omega⟩ (by first | exact fun g => as1.2 (by omega) (fun q hq => g q (by omega)) | (intro g; have g2 := g x3.toNat (by omega); rw [← e32, ← e33, ← e31] at g2; have g3 := g2.1; have g4 := g2.2.1; have g5 := g2.2.2.1; have g6 := g2.2.2.2; omega)) (by first | omega | assumption) (by omega))
                  · skip
                    refine r_c0 (pc' := 115) rfl rfl ?_
                    refine r_go rfl ?_
                    refine r_st (pc' := 120) (lv' := [(2, _), (6, _), (5, _), (4, _), (0, _), (1, _), (3, _)]) rfl rfl rfl rfl ?_
                    refine r_inc (pc' := 123) (lv' := [(2, _), (6, _), (5, _), (4, _), (0, _), (1, _)]) rfl rfl rfl rfl rfl ?_
                    refine r_go rfl ?_
                    exact w_lv (sub_c rfl (sub_c rfl (sub_c rfl (sub_c rfl sub_n)))) rfl (ih0 1 (x3 + 1) ⟨by omega, by omega⟩ ⟨by omega, by omega⟩ (by first | exact ⟨fun _ q hq => absurd hq (by omega), fun q => absurd q (by omega)⟩ | exact ⟨fun q => absurd q (by omega), fun _ => as1⟩ | (refine ⟨fun _ q hq => ?_, fun q => absurd q (by omega)⟩; by_cases c : q = x3.toNat; (rw [c, ← e32, ← e33, ← e31]; exact ⟨by omega, by omega, by omega, by omega⟩); exact as1.1 (by omega) q (by omega))) (by first | omega | assumption) (by omega))
      · intro x3  hx3 hz0_0 as1 as2 hM
        refine r_c0 (pc' := 119) rfl rfl ?_
        refine r_st (pc' := 120) (lv' := [(2, _), (0, _), (1, _), (3, _)]) rfl rfl rfl rfl ?_
        refine r_inc (pc' := 123) (lv' := [(2, _), (0, _), (1, _)]) rfl rfl rfl rfl rfl ?_
        refine r_go rfl ?_
        exact w_lv (sub_c rfl (sub_c rfl (sub_c rfl (sub_c rfl sub_n)))) rfl (ih0 0 (x3 + 1) ⟨by omega, by omega⟩ ⟨by omega, by omega⟩ (by first | exact ⟨fun _ q hq => absurd hq (by omega), fun q => absurd q (by omega)⟩ | exact ⟨fun q => absurd q (by omega), fun _ => as1⟩ | (refine ⟨fun _ q hq => ?_, fun q => absurd q (by omega)⟩; by_cases c : q = x3.toNat; (rw [c, ← e32, ← e33, ← e31]; exact ⟨by omega, by omega, by omega, by omega⟩); exact as1.1 (by omega) q (by omega))) (by first | omega | assumption) (by omega))
  refine w_m rfl rfl ?_
  refine r_c0 (pc' := 1) rfl rfl ?_
  refine r_st (pc' := 2) (lv' := [(2, _), (0, _), (1, _)]) rfl rfl rfl rfl ?_
  refine r_c0 (pc' := 3) rfl rfl ?_
  refine r_st (pc' := 4) (lv' := [(3, _), (2, _), (0, _), (1, _)]) rfl rfl rfl rfl ?_
  exact w_lv (sub_c rfl (sub_c rfl (sub_c rfl (sub_c rfl sub_n)))) rfl ((key ((81 * (12 - 0) + 76 : Int).toNat + 1)).1 1 0 ⟨by omega, by omega⟩ ⟨by omega, by omega⟩ (by first | exact ⟨fun _ q hq => absurd hq (by omega), fun q => absurd q (by omega)⟩ | exact ⟨fun q => absurd q (by omega), fun _ => as1⟩ | (refine ⟨fun _ q hq => ?_, fun q => absurd q (by omega)⟩; by_cases c : q = x3.toNat; (rw [c, ← e32, ← e33, ← e31]; exact ⟨by omega, by omega, by omega, by omega⟩); exact as1.1 (by omega) q (by omega))) (by first | omega | assumption) (by omega))
/-- LoopGroundModel wrong -/
abbrev S_154x  : mS := [(225, 225, 2, 2), (225, 225, 3, 3)]
abbrev E_154x (a1 : Int) (z0 w0 : mZ) (x y tx it mt tt ct : Option Nat) : mZ → mZ → mP → Prop := fun z w p => p = (pq x y tx it mt tt ct) ∧ (WRp z0 z a1)
theorem m_154x {d : Nat} {z0 w0 : mZ} {x y tx it mt tt ct : Option Nat} (a1 : Int) (hz : rz z0) (hw : rw_ w0) (ha1 : 1 ≤ a1 ∧ a1 ≤ 6) : wc (d + 2) 154 [.ref 225, .int (Int32.ofInt a1)] (mk z0 w0 (pq x y tx it mt tt ct)) (poV S_154x z0 w0 (E_154x a1 z0 w0 x y tx it mt tt ct)) := by
  have hst : st_ S_154x z0 w0 z0 w0 := st_rf hz hw
  refine w_m rfl rfl ?_
  refine r_ld (pc' := 1) rfl rfl rfl rfl ?_
  refine r_ld (pc' := 2) rfl rfl rfl rfl ?_
  refine r_ld (pc' := 3) rfl rfl rfl rfl ?_
  have hb13 := rd_225_7 hz
  refine r_gi (pc' := 6) rfl rfl sh_225 rfl rfl ?_
  have hb14 := rd_225_2 hz
  have hb15 := rd_225_3 hz
  have hb16 := rd_225_6 hz
  refine r_cVV (pc' := 9) rfl rfl rfl rfl rfl sh_225 (m_153x (d := d) a1 (z0 225 7) hst.1 hst.2.1 ⟨by omega, by omega⟩ ⟨by omega, by omega⟩) (fun z18 w19 p20 hs22 hE23 => ?_)
  have hs24 := st_tr hst hs22 (sub_B rfl)
  obtain ⟨rfl, hE23⟩ := hE23
  have hwa := hE23
  exact r_ret rfl (po_V hs24 ⟨rfl, (by rcases hwa with g | g; (exact Or.inl g); (refine Or.inr ⟨g.1, ?_, g.2.2⟩; rw [g.2.1]; by_cases c : z0 225 6 = 3; (rw [if_pos ⟨c, rfl⟩, if_pos c]); (rw [if_neg (fun q => c q.1), if_neg c])))⟩)
/-- LoopGroundModel want -/
abbrev S_157x  : mS := [(225, 225, 4, 4), (225, 225, 7, 7), (225, 225, 9, 9), (225, 225, 8, 8), (225, 225, 6, 6), (225, 225, 2, 2), (225, 225, 3, 3)]
abbrev E_157x (h : Int → Int) (a1 : Int) (z0 w0 : mZ) (x y tx it mt tt ct : Option Nat) : mZ → mZ → mP → Prop := fun z w p => p = (pq x y tx it mt tt ct) ∧ (WTp h z0 z w (kcd a1))
theorem m_157x {d : Nat} {z0 w0 : mZ} {x y tx it mt tt ct : Option Nat} (h : Int → Int) (a1 : Int) (hz : rz z0) (hw : rw_ w0) (ha1 : 26995 ≤ a1 ∧ a1 ≤ 28518) (hh : tr8 z0 = h) (htk : z0 225 2 = 0 → TKr h z0 w0 (z0 225 7)) (ha1x : a1 = 26995 ∨ a1 = 28518) : wc (d + 3) 157 [.ref 225, .long (Int64.ofInt a1)] (mk z0 w0 (pq x y tx it mt tt ct)) (poV S_157x z0 w0 (E_157x h a1 z0 w0 x y tx it mt tt ct)) := by
  have hst : st_ S_157x z0 w0 z0 w0 := st_rf hz hw
  have hz42 := rd_225_2 hz
  have hz43 := rd_225_7 hz
  refine w_m rfl rfl ?_
  refine r_ld (pc' := 1) rfl rfl rfl rfl ?_
  have hb44 := rd_225_2 hz
  refine r_gi (pc' := 4) rfl rfl sh_225 rfl rfl ?_
  refine r_zle (pc' := 7) rfl rfl ⟨by omega, by omega⟩ (fun hc45 => ?_) (fun hc45 => ?_)
  · skip
    have htq := htk (by omega)
    have htw := tkw htq ha1x
    have hta := TKr_a htq
    refine r_ld (pc' := 9) rfl rfl rfl rfl ?_
    refine r_ld (pc' := 10) rfl rfl rfl rfl ?_
    have hb46 := rd_225_6 hz
    have hb47 := rd_225_9 hw
    refine r_cVI (pc' := 13) rfl rfl rfl rfl rfl sh_225 (m_155 (d := d + 1) a1 hst.1 hst.2.1 ⟨by omega, by omega⟩) (fun v48 z49 w50 p51 h52 hs53 hE54 => ?_)
    obtain ⟨rfl, rfl, rfl, hE54⟩ := hE54
    have hiw := hE54
    refine r_zne (pc' := 16) rfl rfl ⟨by omega, by omega⟩ (fun hc56 => ?_) (fun hc56 => ?_)
    · skip
      refine r_ld (pc' := 25) rfl rfl rfl rfl ?_
      have hb57 := rd_225_4 hz
      have hb58 := rd_225_5 hz
      refine r_cVV (pc' := 28) rfl rfl rfl rfl rfl sh_225 (m_152x (d := d) h hst.1 hst.2.1 (by exact (tr8_f (fun i => hst.2.2.1 226 i (notS_c (by omega) (notS_c (by omega) (notS_c (by omega) (notS_c (by omega) (notS_c (by omega) (notS_c (by omega) (notS_c (by omega) (notS_n))))))))) (hst.2.2.1 225 5 (notS_c (by omega) (notS_c (by omega) (notS_c (by omega) (notS_c (by omega) (notS_c (by omega) (notS_c (by omega) (notS_c (by omega) (notS_n)))))))))).trans hh) (by first | omega | assumption)) (fun z60 w61 p62 hs64 hE65 => ?_)
      have hs66 := st_tr hst hs64 (sub_B rfl)
      obtain ⟨rfl, hE65⟩ := hE65
      have htt := hE65
      have hf67 : z60 225 2 = z0 225 2 := (hs64.2.2.1 _ _ (notS_c (by omega) (notS_c (by omega) (notS_c (by omega) (notS_c (by omega) (notS_c (by omega) notS_n))))))
      have hb68 := rd_225_3 hz
      have hf69 : z60 225 3 = z0 225 3 := (hs64.2.2.1 _ _ (notS_c (by omega) (notS_c (by omega) (notS_c (by omega) (notS_c (by omega) (notS_c (by omega) notS_n))))))
      have hb70 := rd_225_7 hs66.1
      exact r_ret rfl (po_V hs66 ⟨rfl, (by first | (have hkc : kcd a1 = 8 ∨ kcd a1 = 10 := (by unfold kcd; split <;> omega); have hw1 := htw.mp ⟨by omega, by omega⟩; have hrg := TKr_E htq (by omega) (by omega); exact Or.inr (Or.inl ⟨by omega, hw1, by omega, by omega, by rw [← hrg.1]; exact htt.1, by omega⟩)) | (have g := WRp_0 hwr (by omega) htq; exact Or.inr (Or.inr ⟨by omega, fun q => by have := htw.mpr q; omega, g.1, by omega, by omega⟩)))⟩)
    · skip
      refine r_ld (pc' := 17) rfl rfl rfl rfl ?_
      refine r_c0 (pc' := 18) rfl rfl ?_
      refine r_cVV (pc' := 21) rfl rfl rfl rfl rfl sh_225 (m_154x (d := d) 2 hst.1 hst.2.1 ⟨by omega, by omega⟩) (fun z72 w73 p74 hs76 hE77 => ?_)
      have hs78 := st_tr hst hs76 (sub_B rfl)
      obtain ⟨rfl, hE77⟩ := hE77
      have hwr := hE77
      refine r_go rfl ?_
      have hb79 := rd_225_2 hs78.1
      have hb80 := rd_225_3 hs78.1
      have hb81 := rd_225_7 hz
      have hf82 : z72 225 7 = z0 225 7 := (hs76.2.2.1 _ _ (notS_c (by omega) (notS_c (by omega) notS_n)))
      exact r_ret rfl (po_V hs78 ⟨rfl, (by first | (have hkc : kcd a1 = 8 ∨ kcd a1 = 10 := (by unfold kcd; split <;> omega); have hw1 := htw.mp ⟨by omega, by omega⟩; have hrg := TKr_E htq (by omega) (by omega); exact Or.inr (Or.inl ⟨by omega, hw1, by omega, by omega, by rw [← hrg.1]; exact htt.1, by omega⟩)) | (have g := WRp_0 hwr (by omega) htq; exact Or.inr (Or.inr ⟨by omega, fun q => by have := htw.mpr q; omega, g.1, by omega, by omega⟩)))⟩)
  · skip
    have hb83 := rd_225_3 hz
    have hb84 := rd_225_7 hz
    exact r_ret rfl (po_V hst ⟨rfl, (by exact Or.inl ⟨by omega, by omega, by omega, by omega⟩)⟩)
/-- LoopGroundModel toldNumber -/
abbrev S_158x  : mS := [(225, 225, 2, 2), (225, 225, 3, 3), (225, 225, 4, 4), (225, 225, 7, 7), (225, 225, 9, 9), (225, 225, 8, 8), (225, 225, 6, 6)]
abbrev E_158x (h : Int → Int) (a1 : Int) (a2 : Int) (z0 w0 : mZ) (x y tx it mt tt ct : Option Nat) : Int → mZ → mZ → mP → Prop := fun v z w p => p = (pq x y tx it mt tt ct) ∧ 0 ≤ v ∧ v ≤ 9999 ∧ (TNp h z0 z w v a2)
theorem m_158x {d : Nat} {z0 w0 : mZ} {x y tx it mt tt ct : Option Nat} (h : Int → Int) (a1 : Int) (a2 : Int) (hz : rz z0) (hw : rw_ w0) (ha1 : 0 ≤ a1 ∧ a1 ≤ 0) (ha2 : 17 ≤ a2 ∧ a2 ≤ 99) (hh : tr8 z0 = h) (htk : z0 225 2 = 0 → TKr h z0 w0 (z0 225 7)) : wc (d + 3) 158 [.ref 225, .int (Int32.ofInt a1), .int (Int32.ofInt a2)] (mk z0 w0 (pq x y tx it mt tt ct)) (poI S_158x z0 w0 (E_158x h a1 a2 z0 w0 x y tx it mt tt ct)) := by
  have hst : st_ S_158x z0 w0 z0 w0 := st_rf hz hw
  have hz48 := rd_225_2 hz
  have hz49 := rd_225_3 hz
  have hz50 := rd_225_6 hz
  have hz51 := rd_225_7 hz
  have hz52 := rd_225_8 hz
  have hb2 := bdc_p (tkK h (z0 225 7))
  have key : ∀ N : Nat, (∀ (z w : mZ), 0 ≤ z0 225 2 ∧ z0 225 2 ≤ 0 → 2 ≤ z0 225 6 ∧ z0 225 6 ≤ 2 → 18 ≤ z0 225 8 ∧ z0 225 8 ≤ 9999 → st_ S_158x z0 w0 z w → w 225 9 = w0 225 9 → z 225 2 = z0 225 2 → z 225 3 = z0 225 3 → z 225 4 = z0 225 4 → z 225 6 = z0 225 6 → z 225 7 = z0 225 7 → z 225 8 = z0 225 8 → (z0 225 2 = 0 ∧ z0 225 6 = 2 ∧ a2 < z0 225 8) → 12 < (N : Int) → wp_ (d + 2) 158 4 (some .int) (41, [(0, .ref 225)], [], mk z w (pq x y tx it mt tt ct)) (poI S_158x z0 w0 (E_158x h a1 a2 z0 w0 x y tx it mt tt ct))) ∧ (∀ (z w : mZ), 0 ≤ z0 225 2 ∧ z0 225 2 ≤ 0 → st_ S_158x z0 w0 z w → w 225 9 = w0 225 9 → z 225 4 = z0 225 4 → z 225 6 = z0 225 6 → z 225 7 = z0 225 7 → z 225 8 = z0 225 8 → ((z 225 2 = 0 ∧ z 225 3 = z0 225 3 ∧ z0 225 6 = 2 ∧ z0 225 8 ≤ a2) ∨ (tkK h (z0 225 7) ≠ 2 ∧ z 225 2 = bdc (tkK h (z0 225 7)) ∧ z 225 3 = z0 225 7) ∨ (z0 225 6 = 2 ∧ a2 < z0 225 8 ∧ z 225 2 = 4 ∧ z 225 3 = z0 225 7)) → (z0 225 2 = 0) → 9 < (N : Int) → wp_ (d + 2) 158 4 (some .int) (46, [(0, .ref 225)], [], mk z w (pq x y tx it mt tt ct)) (poI S_158x z0 w0 (E_158x h a1 a2 z0 w0 x y tx it mt tt ct))) := by
    intro N
    induction N with
    | zero =>
      refine ⟨?_, ?_⟩
      · intro  z w
        intros; exfalso; omega
      · intro  z w
        intros; exfalso; omega
    | succ N ih =>
      obtain ⟨ih0, ih1⟩ := ih
      refine ⟨?_, ?_⟩
      · intro  z w  hz0_0 hz0_1 hz0_2 hst un_w_225_9 un_z_225_2 un_z_225_3 un_z_225_4 un_z_225_6 un_z_225_7 un_z_225_8 as1 hM
        have htz : TKr h z w (z0 225 7) := TKr_f un_z_225_7 (hst.2.2.1 _ _ (notS_c (by omega) (notS_c (by omega) (notS_c (by omega) (notS_c (by omega) (notS_c (by omega) (notS_c (by omega) (notS_c (by omega) (notS_n))))))))) un_z_225_6 un_z_225_8 un_w_225_9 un_z_225_4 (htk (by omega))
        refine r_ld (pc' := 42) rfl rfl rfl rfl ?_
        refine r_c0 (pc' := 43) rfl rfl ?_
        refine r_cVV (pc' := 46) rfl rfl rfl rfl rfl sh_225 (m_154x (d := d) 4 hst.1 hst.2.1 ⟨by omega, by omega⟩) (fun z54 w55 p56 hs58 hE59 => ?_)
        have hs60 := st_tr hst hs58 (sub_B rfl)
        obtain ⟨rfl, hE59⟩ := hE59
        have hwr := hE59
        have hb61 := rd_225_2 hs60.1
        have hb62 := rd_225_3 hs60.1
        have hb63 := rd_225_7 hz
        have hf64 : z54 225 7 = z0 225 7 := ((hs58.2.2.1 _ _ (notS_c (by omega) (notS_c (by omega) notS_n))).trans un_z_225_7)
        have hb65 := rd_225_9 hw
        have hb66 := rd_225_4 hz
        exact w_lv (sub_c rfl sub_n) rfl (ih1 z54 w55 ⟨by omega, by omega⟩ hs60 (((hs58.2.2.2 _ _ (notS_c (by omega) (notS_c (by omega) notS_n))).trans un_w_225_9)) (((hs58.2.2.1 _ _ (notS_c (by omega) (notS_c (by omega) notS_n))).trans un_z_225_4)) (((hs58.2.2.1 _ _ (notS_c (by omega) (notS_c (by omega) notS_n))).trans un_z_225_6)) (((hs58.2.2.1 _ _ (notS_c (by omega) (notS_c (by omega) notS_n))).trans un_z_225_7)) (((hs58.2.2.1 _ _ (notS_c (by omega) (notS_c (by omega) notS_n))).trans un_z_225_8)) (by first | (have g := WRp_0 hwr (by omega) htq; exact Or.inr (Or.inl ⟨fun q => by have := (tk2 htq).mpr q; omega, g.1, g.2⟩)) | (have g := WRp_0 hwr (by omega) htz; rw [if_neg (fun q => by have := (tk5 htz).mpr q; omega)] at g; exact Or.inr (Or.inr ⟨by omega, by omega, g.1, g.2⟩)) | exact Or.inl ⟨by omega, by omega, by omega, by omega⟩) (by first | omega | assumption | (simp only [hf64]; assumption)) (by omega))
      · intro  z w  hz0_0 hst un_w_225_9 un_z_225_4 un_z_225_6 un_z_225_7 un_z_225_8 as1 as2 hM
        refine r_ld (pc' := 47) rfl rfl rfl rfl ?_
        have hb67 := rd_225_8 hz
        refine r_gi (pc' := 50) rfl rfl sh_225 rfl un_z_225_8 ?_
        refine r_st (pc' := 51) (lv' := [(3, _), (0, _)]) rfl rfl rfl rfl ?_
        refine r_ld (pc' := 52) rfl rfl rfl rfl ?_
        have hb68 := rd_225_2 hst.1
        refine r_gi (pc' := 55) rfl rfl sh_225 rfl rfl ?_
        refine r_zne (pc' := 58) rfl rfl ⟨by omega, by omega⟩ (fun hc69 => ?_) (fun hc69 => ?_)
        · skip
          refine r_ld (pc' := 63) rfl rfl rfl rfl ?_
          have hb70 := rd_225_3 hst.1
          have hb71 := rd_225_7 hz
          have hf72 : z 225 7 = z0 225 7 := un_z_225_7
          exact r_ri rfl (po_I hst ⟨by omega, by omega⟩ ⟨rfl, by omega, by omega, (by first | exact Or.inr (Or.inl ⟨by omega, ⟨hK2, by omega, by omega, by omega⟩, by omega, by omega, by rw [← hrg.1, ← un_z_225_4]; exact htt.1, by omega⟩) | (have htq := htk (by omega); rcases as1 with g | g | g; (exfalso; omega); (exact Or.inr (Or.inr (Or.inl ⟨by omega, g.1, by rw [show z 225 2 = z 225 2 by omega]; exact g.2.1, by omega, by omega⟩))); (have hK2 := (tk2 htq).mp (by omega); have hrn := TKr_N htq hK2; exact Or.inr (Or.inr (Or.inr ⟨by omega, ⟨hK2, by omega⟩, by omega, by omega, by omega⟩)))))⟩)
        · skip
          have htq := htk (by omega)
          have hg9 := as1.resolve_right (by omega)
          have hK2 := (tk2 htq).mp (by omega)
          have hrg := TKr_E htq (by omega) (by omega)
          have hrn := TKr_N htq hK2
          have hta := TKr_a htq
          refine r_ld (pc' := 59) rfl rfl rfl rfl ?_
          have hb73 := rd_225_4 hz
          have hf74 : z 225 4 = z0 225 4 := un_z_225_4
          have hb75 := rd_225_5 hz
          have hf76 : z 225 5 = z0 225 5 := (hst.2.2.1 _ _ (notS_c (by omega) (notS_c (by omega) (notS_c (by omega) (notS_c (by omega) (notS_c (by omega) (notS_c (by omega) (notS_c (by omega) notS_n))))))))
          refine r_cVV (pc' := 62) rfl rfl rfl rfl rfl sh_225 (m_152x (d := d) h hst.1 hst.2.1 (by exact (tr8_f (fun i => hst.2.2.1 226 i (notS_c (by omega) (notS_c (by omega) (notS_c (by omega) (notS_c (by omega) (notS_c (by omega) (notS_c (by omega) (notS_c (by omega) (notS_n))))))))) (hst.2.2.1 225 5 (notS_c (by omega) (notS_c (by omega) (notS_c (by omega) (notS_c (by omega) (notS_c (by omega) (notS_c (by omega) (notS_c (by omega) (notS_n)))))))))).trans hh) (by first | omega | assumption | (simp only [hf74, hf76]; assumption))) (fun z78 w79 p80 hs82 hE83 => ?_)
          have hs84 := st_tr hst hs82 (sub_B rfl)
          obtain ⟨rfl, hE83⟩ := hE83
          have htt := hE83
          refine r_ld (pc' := 63) rfl rfl rfl rfl ?_
          have hf85 : z78 225 2 = z 225 2 := (hs82.2.2.1 _ _ (notS_c (by omega) (notS_c (by omega) (notS_c (by omega) (notS_c (by omega) (notS_c (by omega) notS_n))))))
          have hb86 := rd_225_3 hst.1
          have hf87 : z78 225 3 = z 225 3 := (hs82.2.2.1 _ _ (notS_c (by omega) (notS_c (by omega) (notS_c (by omega) (notS_c (by omega) (notS_c (by omega) notS_n))))))
          have hb88 := rd_225_7 hs84.1
          exact r_ri rfl (po_I hs84 ⟨by omega, by omega⟩ ⟨rfl, by omega, by omega, (by first | exact Or.inr (Or.inl ⟨by omega, ⟨hK2, by omega, by omega, by omega⟩, by omega, by omega, by rw [← hrg.1, ← un_z_225_4]; exact htt.1, by omega⟩) | (have htq := htk (by omega); rcases as1 with g | g | g; (exfalso; omega); (exact Or.inr (Or.inr (Or.inl ⟨by omega, g.1, by rw [show z78 225 2 = z 225 2 by omega]; exact g.2.1, by omega, by omega⟩))); (have hK2 := (tk2 htq).mp (by omega); have hrn := TKr_N htq hK2; exact Or.inr (Or.inr (Or.inr ⟨by omega, ⟨hK2, by omega⟩, by omega, by omega, by omega⟩)))))⟩)
  refine w_m rfl rfl ?_
  refine r_ld (pc' := 1) rfl rfl rfl rfl ?_
  have hb89 := rd_225_2 hz
  refine r_gi (pc' := 4) rfl rfl sh_225 rfl rfl ?_
  refine r_zle (pc' := 7) rfl rfl ⟨by omega, by omega⟩ (fun hc90 => ?_) (fun hc90 => ?_)
  · skip
    have htq := htk (by omega)
    refine r_ld (pc' := 10) rfl rfl rfl rfl ?_
    have hb91 := rd_225_6 hz
    refine r_gi (pc' := 13) rfl rfl sh_225 rfl rfl ?_
    refine r_c0 (pc' := 14) rfl rfl ?_
    refine r_ieq (pc' := 17) rfl rfl ⟨by omega, by omega⟩ ⟨by decide, by decide⟩ (fun hc92 => ?_) (fun hc92 => ?_)
    · skip
      refine r_ld (pc' := 26) rfl rfl rfl rfl ?_
      have hb93 := rd_225_8 hz
      refine r_gi (pc' := 29) rfl rfl sh_225 rfl rfl ?_
      refine r_ld (pc' := 30) rfl rfl rfl rfl ?_
      refine r_ilt (pc' := 33) rfl rfl ⟨by omega, by omega⟩ ⟨by omega, by omega⟩ (fun hc94 => ?_) (fun hc94 => ?_)
      · exfalso; omega
      · skip
        refine r_ld (pc' := 34) rfl rfl rfl rfl ?_
        refine r_gi (pc' := 37) rfl rfl sh_225 rfl rfl ?_
        refine r_ld (pc' := 38) rfl rfl rfl rfl ?_
        refine r_ile (pc' := 41) rfl rfl ⟨by omega, by omega⟩ ⟨by omega, by omega⟩ (fun hc95 => ?_) (fun hc95 => ?_)
        · skip
          have hb96 := rd_225_3 hz
          have hb97 := rd_225_7 hz
          have hb98 := rd_225_9 hw
          have hb99 := rd_225_4 hz
          exact w_lv (sub_c rfl sub_n) rfl ((key ((9 : Int).toNat + 1)).2 z0 w0 ⟨by omega, by omega⟩ hst (rfl) (rfl) (rfl) (rfl) (rfl) (by first | (have g := WRp_0 hwr (by omega) htq; exact Or.inr (Or.inl ⟨fun q => by have := (tk2 htq).mpr q; omega, g.1, g.2⟩)) | (have g := WRp_0 hwr (by omega) htz; rw [if_neg (fun q => by have := (tk5 htz).mpr q; omega)] at g; exact Or.inr (Or.inr ⟨by omega, by omega, g.1, g.2⟩)) | exact Or.inl ⟨by omega, by omega, by omega, by omega⟩) (by first | omega | assumption) (by omega))
        · skip
          have hb100 := rd_225_9 hw
          have hb101 := rd_225_3 hz
          have hb102 := rd_225_4 hz
          have hb103 := rd_225_7 hz
          exact w_lv (sub_c rfl sub_n) rfl ((key ((12 : Int).toNat + 1)).1 z0 w0 ⟨by omega, by omega⟩ ⟨by omega, by omega⟩ ⟨by omega, by omega⟩ hst (rfl) (rfl) (rfl) (rfl) (rfl) (rfl) (rfl) (by first | omega | assumption) (by omega))
    · skip
      refine r_ld (pc' := 18) rfl rfl rfl rfl ?_
      refine r_c0 (pc' := 19) rfl rfl ?_
      refine r_cVV (pc' := 22) rfl rfl rfl rfl rfl sh_225 (m_154x (d := d) 2 hst.1 hst.2.1 ⟨by omega, by omega⟩) (fun z105 w106 p107 hs109 hE110 => ?_)
      have hs111 := st_tr hst hs109 (sub_B rfl)
      obtain ⟨rfl, hE110⟩ := hE110
      have hwr := hE110
      refine r_go rfl ?_
      have hb112 := rd_225_2 hs111.1
      have hb113 := rd_225_3 hs111.1
      have hb114 := rd_225_7 hz
      have hf115 : z105 225 7 = z0 225 7 := (hs109.2.2.1 _ _ (notS_c (by omega) (notS_c (by omega) notS_n)))
      have hb116 := rd_225_9 hw
      have hb117 := rd_225_4 hz
      have hb118 := rd_225_8 hz
      exact w_lv (sub_c rfl sub_n) rfl ((key ((9 : Int).toNat + 1)).2 z105 w106 ⟨by omega, by omega⟩ hs111 ((hs109.2.2.2 _ _ (notS_c (by omega) (notS_c (by omega) notS_n)))) ((hs109.2.2.1 _ _ (notS_c (by omega) (notS_c (by omega) notS_n)))) ((hs109.2.2.1 _ _ (notS_c (by omega) (notS_c (by omega) notS_n)))) ((hs109.2.2.1 _ _ (notS_c (by omega) (notS_c (by omega) notS_n)))) ((hs109.2.2.1 _ _ (notS_c (by omega) (notS_c (by omega) notS_n)))) (by first | (have g := WRp_0 hwr (by omega) htq; exact Or.inr (Or.inl ⟨fun q => by have := (tk2 htq).mpr q; omega, g.1, g.2⟩)) | (have g := WRp_0 hwr (by omega) htz; rw [if_neg (fun q => by have := (tk5 htz).mpr q; omega)] at g; exact Or.inr (Or.inr ⟨by omega, by omega, g.1, g.2⟩)) | exact Or.inl ⟨by omega, by omega, by omega, by omega⟩) (by first | omega | assumption | (simp only [hf115]; assumption)) (by omega))
  · skip
    refine r_c0 (pc' := 8) rfl rfl ?_
    have hb119 := rd_225_3 hz
    have hb120 := rd_225_7 hz
    exact r_ri rfl (po_I hst ⟨by decide, by decide⟩ ⟨rfl, by omega, by omega, (by exact Or.inl ⟨by omega, by omega, by omega, by omega⟩)⟩)
/-- LoopGroundModel times -/
abbrev S_159x  : mS := [(225, 225, 4, 4), (225, 225, 7, 7), (225, 225, 9, 9), (225, 225, 8, 8), (225, 225, 6, 6), (225, 225, 2, 2), (225, 225, 3, 3)]
abbrev E_159x (h : Int → Int) (z0 w0 : mZ) (x y tx it mt tt ct : Option Nat) : Int → mZ → mZ → mP → Prop := fun v z w p => p = (pq x y tx it mt tt ct) ∧ (-9999) ≤ v ∧ v ≤ 9999 ∧ (TMp h z0 z w v)
theorem m_159x {d : Nat} {z0 w0 : mZ} {x y tx it mt tt ct : Option Nat} (h : Int → Int) (hz : rz z0) (hw : rw_ w0) (hh : tr8 z0 = h) (htk : z0 225 2 = 0 → TKr h z0 w0 (z0 225 7)) : wc (d + 3) 159 [.ref 225] (mk z0 w0 (pq x y tx it mt tt ct)) (poI S_159x z0 w0 (E_159x h z0 w0 x y tx it mt tt ct)) := by
  have hst : st_ S_159x z0 w0 z0 w0 := st_rf hz hw
  have hz88 := rd_225_2 hz
  have hz89 := rd_225_3 hz
  have hz90 := rd_225_7 hz
  have key : ∀ N : Nat, (∀ (x1 x2 : Int) (z w : mZ), 0 ≤ x1 ∧ x1 ≤ 1600 → 0 ≤ x2 ∧ x2 ≤ 1 → 0 ≤ z0 225 2 ∧ z0 225 2 ≤ 0 → st_ S_159x z0 w0 z w → z 225 2 = z0 225 2 → z 225 3 = z0 225 3 → (TMq h (z0 225 7) (z 225 7) x2) → (TKr h z w (z 225 7)) → (z0 225 2 = 0 ∧ z0 225 7 ≤ z 225 7) → (z 225 2 = 0 ∧ z 225 3 = z0 225 3 ∧ x1 = z0 225 7) → 36 < (N : Int) → wp_ (d + 2) 159 4 (some .int) (37, [(0, .ref 225), (1, .int (Int32.ofInt x1)), (2, .int (Int32.ofInt x2))], [], mk z w (pq x y tx it mt tt ct)) (poI S_159x z0 w0 (E_159x h z0 w0 x y tx it mt tt ct))) ∧ (∀ (x1 x2 : Int) (z w : mZ), 0 ≤ x1 ∧ x1 ≤ 1600 → 0 ≤ x2 ∧ x2 ≤ 1 → 0 ≤ z0 225 2 ∧ z0 225 2 ≤ 0 → st_ S_159x z0 w0 z w → (TMq h (z0 225 7) (z 225 7) x2) → (TKr h z w (z 225 7)) → (z0 225 2 = 0 ∧ z0 225 7 ≤ z 225 7) → (x1 = z0 225 7 ∧ ((z 225 2 = 0 ∧ z 225 3 = z0 225 3 ∧ z 225 6 = 2) ∨ (tkK h (z 225 7) ≠ 2 ∧ z 225 2 = bdc (tkK h (z 225 7)) ∧ z 225 3 = z 225 7))) → 29 < (N : Int) → wp_ (d + 2) 159 4 (some .int) (50, [(0, .ref 225), (1, .int (Int32.ofInt x1)), (2, .int (Int32.ofInt x2))], [], mk z w (pq x y tx it mt tt ct)) (poI S_159x z0 w0 (E_159x h z0 w0 x y tx it mt tt ct))) ∧ (∀ (x1 x2 : Int) (z w : mZ), 0 ≤ x1 ∧ x1 ≤ 1600 → 0 ≤ x2 ∧ x2 ≤ 1 → 0 ≤ z0 225 2 ∧ z0 225 2 ≤ 0 → st_ S_159x z0 w0 z w → (TMq h (z0 225 7) (z 225 7) x2) → (TKr h z w (z 225 7)) → (z0 225 2 = 0 ∧ z0 225 7 ≤ z 225 7) → (z 225 2 = 0 ∧ x1 = z0 225 7 ∧ z 225 6 = 2 ∧ (z 225 8 = 0 ∨ 9 < z 225 8)) → 19 < (N : Int) → wp_ (d + 2) 159 4 (some .int) (73, [(0, .ref 225), (1, .int (Int32.ofInt x1)), (2, .int (Int32.ofInt x2))], [], mk z w (pq x y tx it mt tt ct)) (poI S_159x z0 w0 (E_159x h z0 w0 x y tx it mt tt ct))) ∧ (∀ (x2 : Int) (z w : mZ), 0 ≤ x2 ∧ x2 ≤ 1 → 0 ≤ z0 225 2 ∧ z0 225 2 ≤ 0 → st_ S_159x z0 w0 z w → (TMq h (z0 225 7) (z 225 7) x2) → (TKr h z w (z 225 7)) → (z0 225 2 = 0 ∧ z0 225 7 ≤ z 225 7) → ((z 225 2 = 0 ∧ z 225 3 = z0 225 3 ∧ z 225 6 = 2 ∧ z 225 8 ≠ 0 ∧ z 225 8 ≤ 9) ∨ (tkK h (z 225 7) ≠ 2 ∧ z 225 2 = bdc (tkK h (z 225 7)) ∧ z 225 3 = z 225 7) ∨ (z 225 6 = 2 ∧ (z 225 8 = 0 ∨ 9 < z 225 8) ∧ z 225 2 = 4 ∧ z 225 3 = z0 225 7)) → 15 < (N : Int) → wp_ (d + 2) 159 4 (some .int) (79, [(0, .ref 225), (2, .int (Int32.ofInt x2))], [], mk z w (pq x y tx it mt tt ct)) (poI S_159x z0 w0 (E_159x h z0 w0 x y tx it mt tt ct))) := by
    intro N
    induction N with
    | zero =>
      refine ⟨?_, ?_, ?_, ?_⟩
      · intro x1 x2 z w
        intros; exfalso; omega
      · intro x1 x2 z w
        intros; exfalso; omega
      · intro x1 x2 z w
        intros; exfalso; omega
      · intro x2 z w
        intros; exfalso; omega
    | succ N ih =>
      obtain ⟨ih0, ih1, ih2, ih3⟩ := ih
      refine ⟨?_, ?_, ?_, ?_⟩
      · intro x1 x2 z w  hx1 hx2 hz0_0 hst un_z_225_2 un_z_225_3 asq ast as0 as1 hM
        refine r_ld (pc' := 38) rfl rfl rfl rfl ?_
        have hb91 := rd_225_6 hst.1
        refine r_gi (pc' := 41) rfl rfl sh_225 rfl rfl ?_
        refine r_c0 (pc' := 42) rfl rfl ?_
        refine r_ieq (pc' := 45) rfl rfl ⟨by omega, by omega⟩ ⟨by decide, by decide⟩ (fun hc92 => ?_) (fun hc92 => ?_)
        · skip
          have hb93 := rd_225_7 hst.1
          have hf94 : z 225 2 = z0 225 2 := un_z_225_2
          have hb95 := rd_225_3 hz
          have hf96 : z 225 3 = z0 225 3 := un_z_225_3
          have hb97 := rd_225_8 hst.1
          exact w_lv (sub_c rfl (sub_c rfl (sub_c rfl sub_n))) rfl (ih1 x1 x2 z w ⟨by omega, by omega⟩ ⟨by omega, by omega⟩ ⟨by omega, by omega⟩ hst (by first | exact asq | (rw [show z 225 7 = z 225 7 from rfl]; exact asq) | exact Or.inl ⟨by omega, rfl, fun q => by have := (tk4 htq).mpr q; omega⟩ | (have q9 := htt.1.1; rw [(TKr_E htq (by omega) (by omega)).1] at q9; exact Or.inr ⟨by omega, by omega, q9⟩)) (by first | exact ast | (rw [show z 225 7 = z 225 7 from rfl]; exact TKr_f (rfl) (rfl) (rfl) (rfl) (rfl) (rfl) ast) | exact htq | (have q9 := htt.1; rw [← q9.1] at q9; exact q9)) (by first | omega | assumption | (simp only [hf94, hf96]; assumption)) (by first | exact ⟨by omega, Or.inl ⟨by omega, by omega, by omega⟩⟩ | (have g := WRp_0 hwr (by omega) ast; refine ⟨by omega, Or.inr ⟨fun q => ?_, ?_, ?_⟩⟩; (rw [show z 225 7 = z 225 7 by omega] at q; have := (tk2 ast).mpr q; omega); (rw [show z 225 7 = z 225 7 by omega]; exact g.1); (rw [show z 225 7 = z 225 7 by omega]; exact g.2))) (by omega))
        · skip
          refine r_ld (pc' := 46) rfl rfl rfl rfl ?_
          refine r_c0 (pc' := 47) rfl rfl ?_
          refine r_cVV (pc' := 50) rfl rfl rfl rfl rfl sh_225 (m_154x (d := d) 2 hst.1 hst.2.1 ⟨by omega, by omega⟩) (fun z99 w100 p101 hs103 hE104 => ?_)
          have hs105 := st_tr hst hs103 (sub_B rfl)
          obtain ⟨rfl, hE104⟩ := hE104
          have hwr := hE104
          have hb106 := rd_225_7 hst.1
          have hf107 : z99 225 7 = z 225 7 := (hs103.2.2.1 _ _ (notS_c (by omega) (notS_c (by omega) notS_n)))
          have hb108 := rd_225_2 hs105.1
          have hb109 := rd_225_3 hs105.1
          have hf110 : z99 225 6 = z 225 6 := (hs103.2.2.1 _ _ (notS_c (by omega) (notS_c (by omega) notS_n)))
          have hb111 := rd_225_8 hst.1
          have hf112 : z99 225 8 = z 225 8 := (hs103.2.2.1 _ _ (notS_c (by omega) (notS_c (by omega) notS_n)))
          exact w_lv (sub_c rfl (sub_c rfl (sub_c rfl sub_n))) rfl (ih1 x1 x2 z99 w100 ⟨by omega, by omega⟩ ⟨by omega, by omega⟩ ⟨by omega, by omega⟩ hs105 (by first | exact asq | (rw [show z99 225 7 = z 225 7 from (hs103.2.2.1 _ _ (notS_c (by omega) (notS_c (by omega) notS_n)))]; exact asq) | exact Or.inl ⟨by omega, rfl, fun q => by have := (tk4 htq).mpr q; omega⟩ | (have q9 := htt.1.1; rw [(TKr_E htq (by omega) (by omega)).1] at q9; exact Or.inr ⟨by omega, by omega, q9⟩)) (by first | exact ast | (rw [show z99 225 7 = z 225 7 from (hs103.2.2.1 _ _ (notS_c (by omega) (notS_c (by omega) notS_n)))]; exact TKr_f ((hs103.2.2.1 _ _ (notS_c (by omega) (notS_c (by omega) notS_n)))) ((hs103.2.2.1 _ _ (notS_c (by omega) (notS_c (by omega) notS_n)))) ((hs103.2.2.1 _ _ (notS_c (by omega) (notS_c (by omega) notS_n)))) ((hs103.2.2.1 _ _ (notS_c (by omega) (notS_c (by omega) notS_n)))) ((hs103.2.2.2 _ _ (notS_c (by omega) (notS_c (by omega) notS_n)))) ((hs103.2.2.1 _ _ (notS_c (by omega) (notS_c (by omega) notS_n)))) ast) | exact htq | (have q9 := htt.1; rw [← q9.1] at q9; exact q9)) (by first | omega | assumption | (simp only [hf107, hf110, hf112]; assumption)) (by first | exact ⟨by omega, Or.inl ⟨by omega, by omega, by omega⟩⟩ | (have g := WRp_0 hwr (by omega) ast; refine ⟨by omega, Or.inr ⟨fun q => ?_, ?_, ?_⟩⟩; (rw [show z99 225 7 = z 225 7 by omega] at q; have := (tk2 ast).mpr q; omega); (rw [show z99 225 7 = z 225 7 by omega]; exact g.1); (rw [show z99 225 7 = z 225 7 by omega]; exact g.2))) (by omega))
      · intro x1 x2 z w  hx1 hx2 hz0_0 hst asq ast as0 as1 hM
        refine r_ld (pc' := 51) rfl rfl rfl rfl ?_
        have hb113 := rd_225_2 hst.1
        refine r_gi (pc' := 54) rfl rfl sh_225 rfl rfl ?_
        refine r_zne (pc' := 57) rfl rfl ⟨by omega, by omega⟩ (fun hc114 => ?_) (fun hc114 => ?_)
        · skip
          have hb115 := rd_225_7 hst.1
          have hb116 := rd_225_3 hst.1
          have hb117 := rd_225_6 hst.1
          have hb118 := rd_225_8 hst.1
          exact w_lv (sub_c rfl (sub_c rfl sub_n)) rfl (ih3 x2 z w ⟨by omega, by omega⟩ ⟨by omega, by omega⟩ hst (by first | exact asq | (rw [show z 225 7 = z 225 7 from rfl]; exact asq) | exact Or.inl ⟨by omega, rfl, fun q => by have := (tk4 htq).mpr q; omega⟩ | (have q9 := htt.1.1; rw [(TKr_E htq (by omega) (by omega)).1] at q9; exact Or.inr ⟨by omega, by omega, q9⟩)) (by first | exact ast | (rw [show z 225 7 = z 225 7 from rfl]; exact TKr_f (rfl) (rfl) (rfl) (rfl) (rfl) (rfl) ast) | exact htq | (have q9 := htt.1; rw [← q9.1] at q9; exact q9)) (by first | omega | assumption) (by first | exact Or.inl ⟨by omega, by omega, by omega, by omega, by omega⟩ | (rcases as1.2 with g | g; (exfalso; omega); exact Or.inr (Or.inl g)) | (rcases hwa with g | g; (exfalso; omega); (have g2 := g.2.1; rw [if_neg (by omega)] at g2; exact Or.inr (Or.inr ⟨by omega, by omega, by omega, by omega⟩)))) (by omega))
        · skip
          have hbp := bdc_p (tkK h (z 225 7))
          refine r_ld (pc' := 58) rfl rfl rfl rfl ?_
          have hb119 := rd_225_8 hst.1
          refine r_gi (pc' := 61) rfl rfl sh_225 rfl rfl ?_
          refine r_zeq (pc' := 64) rfl rfl ⟨by omega, by omega⟩ (fun hc120 => ?_) (fun hc120 => ?_)
          · skip
            have hb121 := rd_225_7 hst.1
            have hb122 := rd_225_6 hst.1
            have hb123 := rd_225_3 hst.1
            exact w_lv (sub_c rfl (sub_c rfl (sub_c rfl sub_n))) rfl (ih2 x1 x2 z w ⟨by omega, by omega⟩ ⟨by omega, by omega⟩ ⟨by omega, by omega⟩ hst (by first | exact asq | (rw [show z 225 7 = z 225 7 from rfl]; exact asq) | exact Or.inl ⟨by omega, rfl, fun q => by have := (tk4 htq).mpr q; omega⟩ | (have q9 := htt.1.1; rw [(TKr_E htq (by omega) (by omega)).1] at q9; exact Or.inr ⟨by omega, by omega, q9⟩)) (by first | exact ast | (rw [show z 225 7 = z 225 7 from rfl]; exact TKr_f (rfl) (rfl) (rfl) (rfl) (rfl) (rfl) ast) | exact htq | (have q9 := htt.1; rw [← q9.1] at q9; exact q9)) (by first | omega | assumption) (by first | omega | assumption) (by omega))
          · skip
            refine r_ld (pc' := 65) rfl rfl rfl rfl ?_
            refine r_gi (pc' := 68) rfl rfl sh_225 rfl rfl ?_
            refine r_cb (pc' := 70) rfl (by decide) rfl ?_
            refine r_ile (pc' := 73) rfl rfl ⟨by omega, by omega⟩ ⟨by decide, by decide⟩ (fun hc124 => ?_) (fun hc124 => ?_)
            · skip
              have hb125 := rd_225_7 hst.1
              have hb126 := rd_225_3 hst.1
              have hb127 := rd_225_6 hst.1
              exact w_lv (sub_c rfl (sub_c rfl sub_n)) rfl (ih3 x2 z w ⟨by omega, by omega⟩ ⟨by omega, by omega⟩ hst (by first | exact asq | (rw [show z 225 7 = z 225 7 from rfl]; exact asq) | exact Or.inl ⟨by omega, rfl, fun q => by have := (tk4 htq).mpr q; omega⟩ | (have q9 := htt.1.1; rw [(TKr_E htq (by omega) (by omega)).1] at q9; exact Or.inr ⟨by omega, by omega, q9⟩)) (by first | exact ast | (rw [show z 225 7 = z 225 7 from rfl]; exact TKr_f (rfl) (rfl) (rfl) (rfl) (rfl) (rfl) ast) | exact htq | (have q9 := htt.1; rw [← q9.1] at q9; exact q9)) (by first | omega | assumption) (by first | exact Or.inl ⟨by omega, by omega, by omega, by omega, by omega⟩ | (rcases as1.2 with g | g; (exfalso; omega); exact Or.inr (Or.inl g)) | (rcases hwa with g | g; (exfalso; omega); (have g2 := g.2.1; rw [if_neg (by omega)] at g2; exact Or.inr (Or.inr ⟨by omega, by omega, by omega, by omega⟩)))) (by omega))
            · skip
              have hb128 := rd_225_7 hst.1
              have hb129 := rd_225_6 hst.1
              have hb130 := rd_225_3 hst.1
              exact w_lv (sub_c rfl (sub_c rfl (sub_c rfl sub_n))) rfl (ih2 x1 x2 z w ⟨by omega, by omega⟩ ⟨by omega, by omega⟩ ⟨by omega, by omega⟩ hst (by first | exact asq | (rw [show z 225 7 = z 225 7 from rfl]; exact asq) | exact Or.inl ⟨by omega, rfl, fun q => by have := (tk4 htq).mpr q; omega⟩ | (have q9 := htt.1.1; rw [(TKr_E htq (by omega) (by omega)).1] at q9; exact Or.inr ⟨by omega, by omega, q9⟩)) (by first | exact ast | (rw [show z 225 7 = z 225 7 from rfl]; exact TKr_f (rfl) (rfl) (rfl) (rfl) (rfl) (rfl) ast) | exact htq | (have q9 := htt.1; rw [← q9.1] at q9; exact q9)) (by first | omega | assumption) (by first | omega | assumption) (by omega))
      · intro x1 x2 z w  hx1 hx2 hz0_0 hst asq ast as0 as1 hM
        refine r_ld (pc' := 74) rfl rfl rfl rfl ?_
        refine r_c0 (pc' := 75) rfl rfl ?_
        refine r_ld (pc' := 76) rfl rfl rfl rfl ?_
        have hb131 := rd_225_2 hst.1
        have hb132 := rd_225_3 hst.1
        have hb133 := rd_225_6 hst.1
        have hb134 := rd_225_7 hst.1
        refine r_cVV (pc' := 79) rfl rfl rfl rfl rfl sh_225 (m_153x (d := d + 1) 4 x1 hst.1 hst.2.1 ⟨by omega, by omega⟩ ⟨by omega, by omega⟩) (fun z136 w137 p138 hs140 hE141 => ?_)
        have hs142 := st_tr hst hs140 (sub_B rfl)
        obtain ⟨rfl, hE141⟩ := hE141
        have hwa := hE141
        have hf143 : z136 225 7 = z 225 7 := (hs140.2.2.1 _ _ (notS_c (by omega) (notS_c (by omega) notS_n)))
        have hb144 := rd_225_2 hs142.1
        have hb145 := rd_225_3 hs142.1
        have hf146 : z136 225 6 = z 225 6 := (hs140.2.2.1 _ _ (notS_c (by omega) (notS_c (by omega) notS_n)))
        have hb147 := rd_225_8 hst.1
        have hf148 : z136 225 8 = z 225 8 := (hs140.2.2.1 _ _ (notS_c (by omega) (notS_c (by omega) notS_n)))
        exact w_lv (sub_c rfl (sub_c rfl sub_n)) rfl (ih3 x2 z136 w137 ⟨by omega, by omega⟩ ⟨by omega, by omega⟩ hs142 (by first | exact asq | (rw [show z136 225 7 = z 225 7 from (hs140.2.2.1 _ _ (notS_c (by omega) (notS_c (by omega) notS_n)))]; exact asq) | exact Or.inl ⟨by omega, rfl, fun q => by have := (tk4 htq).mpr q; omega⟩ | (have q9 := htt.1.1; rw [(TKr_E htq (by omega) (by omega)).1] at q9; exact Or.inr ⟨by omega, by omega, q9⟩)) (by first | exact ast | (rw [show z136 225 7 = z 225 7 from (hs140.2.2.1 _ _ (notS_c (by omega) (notS_c (by omega) notS_n)))]; exact TKr_f ((hs140.2.2.1 _ _ (notS_c (by omega) (notS_c (by omega) notS_n)))) ((hs140.2.2.1 _ _ (notS_c (by omega) (notS_c (by omega) notS_n)))) ((hs140.2.2.1 _ _ (notS_c (by omega) (notS_c (by omega) notS_n)))) ((hs140.2.2.1 _ _ (notS_c (by omega) (notS_c (by omega) notS_n)))) ((hs140.2.2.2 _ _ (notS_c (by omega) (notS_c (by omega) notS_n)))) ((hs140.2.2.1 _ _ (notS_c (by omega) (notS_c (by omega) notS_n)))) ast) | exact htq | (have q9 := htt.1; rw [← q9.1] at q9; exact q9)) (by first | omega | assumption | (simp only [hf143, hf146, hf148]; assumption)) (by first | exact Or.inl ⟨by omega, by omega, by omega, by omega, by omega⟩ | (rcases as1.2 with g | g; (exfalso; omega); exact Or.inr (Or.inl g)) | (rcases hwa with g | g; (exfalso; omega); (have g2 := g.2.1; rw [if_neg (by omega)] at g2; exact Or.inr (Or.inr ⟨by omega, by omega, by omega, by omega⟩)))) (by omega))
      · intro x2 z w  hx2 hz0_0 hst asq ast as0 as1 hM
        refine r_ld (pc' := 80) rfl rfl rfl rfl ?_
        refine r_zeq (pc' := 83) rfl rfl ⟨by omega, by omega⟩ (fun hc149 => ?_) (fun hc149 => ?_)
        · skip
          refine r_ld (pc' := 92) rfl rfl rfl rfl ?_
          have hb150 := rd_225_8 hst.1
          refine r_gi (pc' := 95) rfl rfl sh_225 rfl rfl ?_
          refine r_st (pc' := 96) (lv' := [(3, _), (0, _), (2, _)]) rfl rfl rfl rfl ?_
          refine r_ld (pc' := 97) rfl rfl rfl rfl ?_
          have hb151 := rd_225_2 hst.1
          refine r_gi (pc' := 100) rfl rfl sh_225 rfl rfl ?_
          refine r_zne (pc' := 103) rfl rfl ⟨by omega, by omega⟩ (fun hc152 => ?_) (fun hc152 => ?_)
          · skip
            refine r_ld (pc' := 108) rfl rfl rfl rfl ?_
            have hb153 := rd_225_3 hst.1
            have hb154 := rd_225_7 hst.1
            exact r_ri rfl (po_I hst ⟨by omega, by omega⟩ ⟨rfl, by omega, by omega, (by first | exact ⟨Or.inr ⟨by omega, z 225 7, x2, asq, Or.inr (Or.inr ⟨hK2, ⟨by omega, by omega, by omega⟩, by first | (rw [if_pos (by omega)]; omega) | (rw [if_neg (by omega)]; omega), by omega, by omega, by rw [← hrg.1]; exact htt.1, by omega⟩)⟩, by omega⟩ | (refine ⟨Or.inr ⟨by omega, z 225 7, x2, asq, ?_⟩, by omega⟩; rcases as1 with g | g | g; (exfalso; omega); (exact Or.inl ⟨g.1, by rw [show z 225 2 = z 225 2 by omega]; exact g.2.1, by omega⟩); (have hK2 := (tk2 ast).mp (by omega); have hrn := TKr_N ast hK2; exact Or.inr (Or.inl ⟨hK2, by omega, by omega, by omega⟩))))⟩)
          · skip
            have hbp := bdc_p (tkK h (z 225 7))
            have has := (as1.resolve_right (by omega))
            have hK2 := (tk2 ast).mp (by omega)
            have hrn := TKr_N ast hK2
            have hrg := TKr_E ast (by omega) (by omega)
            have hta := TKr_a ast
            refine r_ld (pc' := 104) rfl rfl rfl rfl ?_
            have hb155 := rd_225_4 hst.1
            have hb156 := rd_225_5 hz
            have hf157 : z 225 5 = z0 225 5 := (hst.2.2.1 _ _ (notS_c (by omega) (notS_c (by omega) (notS_c (by omega) (notS_c (by omega) (notS_c (by omega) (notS_c (by omega) (notS_c (by omega) notS_n))))))))
            refine r_cVV (pc' := 107) rfl rfl rfl rfl rfl sh_225 (m_152x (d := d) h hst.1 hst.2.1 (by exact (tr8_f (fun i => hst.2.2.1 226 i (notS_c (by omega) (notS_c (by omega) (notS_c (by omega) (notS_c (by omega) (notS_c (by omega) (notS_c (by omega) (notS_c (by omega) (notS_n))))))))) (hst.2.2.1 225 5 (notS_c (by omega) (notS_c (by omega) (notS_c (by omega) (notS_c (by omega) (notS_c (by omega) (notS_c (by omega) (notS_c (by omega) (notS_n)))))))))).trans hh) (by first | omega | assumption | (simp only [hf157]; assumption))) (fun z159 w160 p161 hs163 hE164 => ?_)
            have hs165 := st_tr hst hs163 (sub_B rfl)
            obtain ⟨rfl, hE164⟩ := hE164
            have htt := hE164
            refine r_ld (pc' := 108) rfl rfl rfl rfl ?_
            have hf166 : z159 225 2 = z 225 2 := (hs163.2.2.1 _ _ (notS_c (by omega) (notS_c (by omega) (notS_c (by omega) (notS_c (by omega) (notS_c (by omega) notS_n))))))
            have hb167 := rd_225_3 hst.1
            have hf168 : z159 225 3 = z 225 3 := (hs163.2.2.1 _ _ (notS_c (by omega) (notS_c (by omega) (notS_c (by omega) (notS_c (by omega) (notS_c (by omega) notS_n))))))
            have hb169 := rd_225_7 hs165.1
            exact r_ri rfl (po_I hs165 ⟨by omega, by omega⟩ ⟨rfl, by omega, by omega, (by first | exact ⟨Or.inr ⟨by omega, z 225 7, x2, asq, Or.inr (Or.inr ⟨hK2, ⟨by omega, by omega, by omega⟩, by first | (rw [if_pos (by omega)]; omega) | (rw [if_neg (by omega)]; omega), by omega, by omega, by rw [← hrg.1]; exact htt.1, by omega⟩)⟩, by omega⟩ | (refine ⟨Or.inr ⟨by omega, z 225 7, x2, asq, ?_⟩, by omega⟩; rcases as1 with g | g | g; (exfalso; omega); (exact Or.inl ⟨g.1, by rw [show z159 225 2 = z 225 2 by omega]; exact g.2.1, by omega⟩); (have hK2 := (tk2 ast).mp (by omega); have hrn := TKr_N ast hK2; exact Or.inr (Or.inl ⟨hK2, by omega, by omega, by omega⟩))))⟩)
        · skip
          refine r_ld (pc' := 84) rfl rfl rfl rfl ?_
          have hb170 := rd_225_8 hst.1
          refine r_gi (pc' := 87) rfl rfl sh_225 rfl rfl ?_
          refine r_neg (pc' := 88) rfl rfl ?_
          refine r_go rfl ?_
          refine r_st (pc' := 96) (lv' := [(3, _), (0, _), (2, _)]) rfl rfl rfl rfl ?_
          refine r_ld (pc' := 97) rfl rfl rfl rfl ?_
          have hb171 := rd_225_2 hst.1
          refine r_gi (pc' := 100) rfl rfl sh_225 rfl rfl ?_
          refine r_zne (pc' := 103) rfl rfl ⟨by omega, by omega⟩ (fun hc172 => ?_) (fun hc172 => ?_)
          · skip
            refine r_ld (pc' := 108) rfl rfl rfl rfl ?_
            have hb173 := rd_225_3 hst.1
            have hb174 := rd_225_7 hst.1
            exact r_ri rfl (po_I hst ⟨by omega, by omega⟩ ⟨rfl, by omega, by omega, (by first | exact ⟨Or.inr ⟨by omega, z 225 7, x2, asq, Or.inr (Or.inr ⟨hK2, ⟨by omega, by omega, by omega⟩, by first | (rw [if_pos (by omega)]; omega) | (rw [if_neg (by omega)]; omega), by omega, by omega, by rw [← hrg.1]; exact htt.1, by omega⟩)⟩, by omega⟩ | (refine ⟨Or.inr ⟨by omega, z 225 7, x2, asq, ?_⟩, by omega⟩; rcases as1 with g | g | g; (exfalso; omega); (exact Or.inl ⟨g.1, by rw [show z 225 2 = z 225 2 by omega]; exact g.2.1, by omega⟩); (have hK2 := (tk2 ast).mp (by omega); have hrn := TKr_N ast hK2; exact Or.inr (Or.inl ⟨hK2, by omega, by omega, by omega⟩))))⟩)
          · skip
            have hbp := bdc_p (tkK h (z 225 7))
            have has := (as1.resolve_right (by omega))
            have hK2 := (tk2 ast).mp (by omega)
            have hrn := TKr_N ast hK2
            have hrg := TKr_E ast (by omega) (by omega)
            have hta := TKr_a ast
            refine r_ld (pc' := 104) rfl rfl rfl rfl ?_
            have hb175 := rd_225_4 hst.1
            have hb176 := rd_225_5 hz
            have hf177 : z 225 5 = z0 225 5 := (hst.2.2.1 _ _ (notS_c (by omega) (notS_c (by omega) (notS_c (by omega) (notS_c (by omega) (notS_c (by omega) (notS_c (by omega) (notS_c (by omega) notS_n))))))))
            refine r_cVV (pc' := 107) rfl rfl rfl rfl rfl sh_225 (m_152x (d := d) h hst.1 hst.2.1 (by exact (tr8_f (fun i => hst.2.2.1 226 i (notS_c (by omega) (notS_c (by omega) (notS_c (by omega) (notS_c (by omega) (notS_c (by omega) (notS_c (by omega) (notS_c (by omega) (notS_n))))))))) (hst.2.2.1 225 5 (notS_c (by omega) (notS_c (by omega) (notS_c (by omega) (notS_c (by omega) (notS_c (by omega) (notS_c (by omega) (notS_c (by omega) (notS_n)))))))))).trans hh) (by first | omega | assumption | (simp only [hf177]; assumption))) (fun z179 w180 p181 hs183 hE184 => ?_)
            have hs185 := st_tr hst hs183 (sub_B rfl)
            obtain ⟨rfl, hE184⟩ := hE184
            have htt := hE184
            refine r_ld (pc' := 108) rfl rfl rfl rfl ?_
            have hf186 : z179 225 2 = z 225 2 := (hs183.2.2.1 _ _ (notS_c (by omega) (notS_c (by omega) (notS_c (by omega) (notS_c (by omega) (notS_c (by omega) notS_n))))))
            have hb187 := rd_225_3 hst.1
            have hf188 : z179 225 3 = z 225 3 := (hs183.2.2.1 _ _ (notS_c (by omega) (notS_c (by omega) (notS_c (by omega) (notS_c (by omega) (notS_c (by omega) notS_n))))))
            have hb189 := rd_225_7 hs185.1
            exact r_ri rfl (po_I hs185 ⟨by omega, by omega⟩ ⟨rfl, by omega, by omega, (by first | exact ⟨Or.inr ⟨by omega, z 225 7, x2, asq, Or.inr (Or.inr ⟨hK2, ⟨by omega, by omega, by omega⟩, by first | (rw [if_pos (by omega)]; omega) | (rw [if_neg (by omega)]; omega), by omega, by omega, by rw [← hrg.1]; exact htt.1, by omega⟩)⟩, by omega⟩ | (refine ⟨Or.inr ⟨by omega, z 225 7, x2, asq, ?_⟩, by omega⟩; rcases as1 with g | g | g; (exfalso; omega); (exact Or.inl ⟨g.1, by rw [show z179 225 2 = z 225 2 by omega]; exact g.2.1, by omega⟩); (have hK2 := (tk2 ast).mp (by omega); have hrn := TKr_N ast hK2; exact Or.inr (Or.inl ⟨hK2, by omega, by omega, by omega⟩))))⟩)
  refine w_m rfl rfl ?_
  refine r_ld (pc' := 1) rfl rfl rfl rfl ?_
  have hb190 := rd_225_2 hz
  refine r_gi (pc' := 4) rfl rfl sh_225 rfl rfl ?_
  refine r_zle (pc' := 7) rfl rfl ⟨by omega, by omega⟩ (fun hc191 => ?_) (fun hc191 => ?_)
  · skip
    have htq := htk (by omega)
    have hta := TKr_a htq
    refine r_ld (pc' := 10) rfl rfl rfl rfl ?_
    have hb192 := rd_225_7 hz
    refine r_gi (pc' := 13) rfl rfl sh_225 rfl rfl ?_
    refine r_st (pc' := 14) (lv' := [(1, _), (0, _)]) rfl rfl rfl rfl ?_
    refine r_ld (pc' := 15) rfl rfl rfl rfl ?_
    have hb193 := rd_225_6 hz
    refine r_gi (pc' := 18) rfl rfl sh_225 rfl rfl ?_
    refine r_cb (pc' := 20) rfl (by decide) rfl ?_
    refine r_ine (pc' := 23) rfl rfl ⟨by omega, by omega⟩ ⟨by decide, by decide⟩ (fun hc194 => ?_) (fun hc194 => ?_)
    · skip
      refine r_c0 (pc' := 28) rfl rfl ?_
      refine r_st (pc' := 29) (lv' := [(2, _), (1, _), (0, _)]) rfl rfl rfl rfl ?_
      refine r_ld (pc' := 30) rfl rfl rfl rfl ?_
      refine r_zeq (pc' := 33) rfl rfl ⟨by decide, by decide⟩ (fun hc195 => ?_) (fun hc195 => ?_)
      · skip
        have hb196 := rd_225_3 hz
        have hb197 := rd_225_8 hz
        exact w_lv (sub_c rfl (sub_c rfl (sub_c rfl sub_n))) rfl ((key ((36 : Int).toNat + 1)).1 (z0 225 7) 0 z0 w0 ⟨by omega, by omega⟩ ⟨by omega, by omega⟩ ⟨by omega, by omega⟩ hst (rfl) (rfl) (by first | exact asq | (rw [show z0 225 7 = z 225 7 from rfl]; exact asq) | exact Or.inl ⟨by omega, rfl, fun q => by have := (tk4 htq).mpr q; omega⟩ | (have q9 := htt.1.1; rw [(TKr_E htq (by omega) (by omega)).1] at q9; exact Or.inr ⟨by omega, by omega, q9⟩)) (by first | exact ast | (rw [show z0 225 7 = z 225 7 from rfl]; exact TKr_f (rfl) (rfl) (rfl) (rfl) (rfl) (rfl) ast) | exact htq | (have q9 := htt.1; rw [← q9.1] at q9; exact q9)) (by first | omega | assumption) (by first | omega | assumption) (by omega))
      · exfalso; omega
    · skip
      refine r_c0 (pc' := 24) rfl rfl ?_
      refine r_go rfl ?_
      refine r_st (pc' := 29) (lv' := [(2, _), (1, _), (0, _)]) rfl rfl rfl rfl ?_
      refine r_ld (pc' := 30) rfl rfl rfl rfl ?_
      refine r_zeq (pc' := 33) rfl rfl ⟨by decide, by decide⟩ (fun hc198 => ?_) (fun hc198 => ?_)
      · exfalso; omega
      · skip
        have hK4 := (tk4 htq).mp (by omega)
        refine r_ld (pc' := 34) rfl rfl rfl rfl ?_
        have hb199 := rd_225_4 hz
        have hb200 := rd_225_5 hz
        refine r_cVV (pc' := 37) rfl rfl rfl rfl rfl sh_225 (m_152x (d := d) h hst.1 hst.2.1 (by exact (tr8_f (fun i => hst.2.2.1 226 i (notS_c (by omega) (notS_c (by omega) (notS_c (by omega) (notS_c (by omega) (notS_c (by omega) (notS_c (by omega) (notS_c (by omega) (notS_n))))))))) (hst.2.2.1 225 5 (notS_c (by omega) (notS_c (by omega) (notS_c (by omega) (notS_c (by omega) (notS_c (by omega) (notS_c (by omega) (notS_c (by omega) (notS_n)))))))))).trans hh) (by first | omega | assumption)) (fun z202 w203 p204 hs206 hE207 => ?_)
        have hs208 := st_tr hst hs206 (sub_B rfl)
        obtain ⟨rfl, hE207⟩ := hE207
        have htt := hE207
        have hrg := TKr_E htq (by omega) (by omega)
        have hb209 := rd_225_7 hs208.1
        have hf210 : z202 225 2 = z0 225 2 := (hs206.2.2.1 _ _ (notS_c (by omega) (notS_c (by omega) (notS_c (by omega) (notS_c (by omega) (notS_c (by omega) notS_n))))))
        have hb211 := rd_225_3 hz
        have hf212 : z202 225 3 = z0 225 3 := (hs206.2.2.1 _ _ (notS_c (by omega) (notS_c (by omega) (notS_c (by omega) (notS_c (by omega) (notS_c (by omega) notS_n))))))
        have hb213 := rd_225_6 hs208.1
        have hb214 := rd_225_8 hs208.1
        exact w_lv (sub_c rfl (sub_c rfl (sub_c rfl sub_n))) rfl ((key ((36 : Int).toNat + 1)).1 (z0 225 7) 1 z202 w203 ⟨by omega, by omega⟩ ⟨by omega, by omega⟩ ⟨by omega, by omega⟩ hs208 ((hs206.2.2.1 _ _ (notS_c (by omega) (notS_c (by omega) (notS_c (by omega) (notS_c (by omega) (notS_c (by omega) notS_n))))))) ((hs206.2.2.1 _ _ (notS_c (by omega) (notS_c (by omega) (notS_c (by omega) (notS_c (by omega) (notS_c (by omega) notS_n))))))) (by first | exact asq | (rw [show z202 225 7 = z 225 7 from (hs206.2.2.1 _ _ (notS_c (by omega) (notS_c (by omega) (notS_c (by omega) (notS_c (by omega) (notS_c (by omega) notS_n))))))]; exact asq) | exact Or.inl ⟨by omega, rfl, fun q => by have := (tk4 htq).mpr q; omega⟩ | (have q9 := htt.1.1; rw [(TKr_E htq (by omega) (by omega)).1] at q9; exact Or.inr ⟨by omega, by omega, q9⟩)) (by first | exact ast | (rw [show z202 225 7 = z 225 7 from (hs206.2.2.1 _ _ (notS_c (by omega) (notS_c (by omega) (notS_c (by omega) (notS_c (by omega) (notS_c (by omega) notS_n))))))]; exact TKr_f ((hs206.2.2.1 _ _ (notS_c (by omega) (notS_c (by omega) (notS_c (by omega) (notS_c (by omega) (notS_c (by omega) notS_n))))))) ((hs206.2.2.1 _ _ (notS_c (by omega) (notS_c (by omega) (notS_c (by omega) (notS_c (by omega) (notS_c (by omega) notS_n))))))) ((hs206.2.2.1 _ _ (notS_c (by omega) (notS_c (by omega) (notS_c (by omega) (notS_c (by omega) (notS_c (by omega) notS_n))))))) ((hs206.2.2.1 _ _ (notS_c (by omega) (notS_c (by omega) (notS_c (by omega) (notS_c (by omega) (notS_c (by omega) notS_n))))))) ((hs206.2.2.2 _ _ (notS_c (by omega) (notS_c (by omega) (notS_c (by omega) (notS_c (by omega) (notS_c (by omega) notS_n))))))) ((hs206.2.2.1 _ _ (notS_c (by omega) (notS_c (by omega) (notS_c (by omega) (notS_c (by omega) (notS_c (by omega) notS_n))))))) ast) | exact htq | (have q9 := htt.1; rw [← q9.1] at q9; exact q9)) (by first | omega | assumption | (simp only [hf210, hf212]; assumption)) (by first | omega | assumption | (simp only [hf210, hf212]; assumption)) (by omega))
  · skip
    refine r_c0 (pc' := 8) rfl rfl ?_
    have hb215 := rd_225_3 hz
    have hb216 := rd_225_7 hz
    exact r_ri rfl (po_I hst ⟨by decide, by decide⟩ ⟨rfl, by omega, by omega, (by exact ⟨Or.inl ⟨by omega, by omega, by omega, by omega⟩, by omega⟩)⟩)
/-- LoopGroundModel readPiece -/
abbrev S_162x  : mS := [(225, 225, 4, 4), (225, 225, 7, 7), (225, 225, 9, 9), (225, 225, 8, 8), (225, 225, 6, 6), (225, 225, 2, 2), (225, 225, 3, 3), (230, 230, 0, 17), (229, 229, 0, 35), (225, 225, 23, 23)]
abbrev E_162x (h : Int → Int) (z0 w0 : mZ) (x y tx it mt tt ct : Option Nat) : mZ → mZ → mP → Prop := fun z w p => p = (pq x y tx it mt tt ct) ∧ ((z 225 2 = 0 → RPz h z w ∧ z 225 3 = z0 225 3 ∧ z0 225 7 < z 225 7) ∧ (0 < z 225 2 → RF h z) ∧ z0 225 7 ≤ z 225 7)
theorem m_162x {d : Nat} {z0 w0 : mZ} {x y tx it mt tt ct : Option Nat} (h : Int → Int) (hz : rz z0) (hw : rw_ w0) (hh : tr8 z0 = h) (hra : ∃ k, RA h z0 w0 k ∧ sq h k 0 = 0 ∧ tkK h (tp h k) = 6 ∧ sq h k 10 ≠ 1 ∧ sq h k 4 + sq h k 5 = 0) (hf0 : z0 225 2 = 0) (hzb0 : 0 ≤ z0 225 23 ∧ z0 225 23 ≤ 11) : wc (d + 4) 162 [.ref 225] (mk z0 w0 (pq x y tx it mt tt ct)) (poV S_162x z0 w0 (E_162x h z0 w0 x y tx it mt tt ct)) := by
  have hst : st_ S_162x z0 w0 z0 w0 := st_rf hz hw
  have hz64 := rd_225_2 hz
  have hz65 := rd_225_23 hz
  have hz66 := rd_225_3 hz
  have hz67 := rd_225_7 hz
  obtain ⟨k, hRA, hm, hK, h10, h45⟩ := hra
  have hta := TKr_a hRA.1
  have ht7 := hRA.1.1
  have hrg := TKr_E hRA.1 (by omega) (by omega)
  have key : ∀ N : Nat, (∀ (x1 : Int) (z w : mZ), 0 ≤ x1 ∧ x1 ≤ 3 → st_ S_162x z0 w0 z w → z 225 23 = z0 225 23 → (RAe h z w x1) → (z 225 2 = 0 ∧ z 225 3 = z0 225 3 ∧ z0 225 7 < z 225 7) → 67 * (3 - x1) + 62 < (N : Int) → wp_ (d + 3) 162 3 none (6, [(0, .ref 225), (1, .int (Int32.ofInt x1))], [], mk z w (pq x y tx it mt tt ct)) (poV S_162x z0 w0 (E_162x h z0 w0 x y tx it mt tt ct))) ∧ (∀ (x1 : Int) (z w : mZ), 0 ≤ x1 ∧ x1 ≤ 2 → st_ S_162x z0 w0 z w → z 225 23 = z0 225 23 → (RAe h z w x1) → ((z 225 2 = 0 ∧ z 225 3 = z0 225 3 ∧ (z 225 6 = 2 → z 225 8 < 18 → z 230 (z 225 8).toNat ≠ 2)) ∨ (0 < z 225 2 ∧ RF h z)) → (z0 225 7 < z 225 7) → 67 * (3 - x1) + 38 < (N : Int) → wp_ (d + 3) 162 3 none (53, [(0, .ref 225), (1, .int (Int32.ofInt x1))], [], mk z w (pq x y tx it mt tt ct)) (poV S_162x z0 w0 (E_162x h z0 w0 x y tx it mt tt ct))) ∧ (∀ (z w : mZ), st_ S_162x z0 w0 z w → z 225 23 = z0 225 23 → (RAe h z w 3) → (z 225 2 = 0 ∧ z 225 3 = z0 225 3 ∧ z0 225 7 < z 225 7) → 9 < (N : Int) → wp_ (d + 3) 162 3 none (99, [(0, .ref 225)], [], mk z w (pq x y tx it mt tt ct)) (poV S_162x z0 w0 (E_162x h z0 w0 x y tx it mt tt ct))) := by
    intro N
    induction N with
    | zero =>
      refine ⟨?_, ?_, ?_⟩
      · intro x1 z w
        intros; exfalso; omega
      · intro x1 z w
        intros; exfalso; omega
      · intro  z w
        intros; exfalso; omega
    | succ N ih =>
      obtain ⟨ih0, ih1, ih2⟩ := ih
      refine ⟨?_, ?_, ?_⟩
      · intro x1 z w  hx1 hst un_z_225_23 as1 as2 hM
        refine r_ld (pc' := 7) rfl rfl rfl rfl ?_
        refine r_c0 (pc' := 8) rfl rfl ?_
        refine r_ige (pc' := 11) rfl rfl ⟨by omega, by omega⟩ ⟨by decide, by decide⟩ (fun hc68 => ?_) (fun hc68 => ?_)
        · skip
          have hb69 := rd_225_2 hst.1
          have hb70 := rd_225_3 hst.1
          have hb71 := rd_225_7 hst.1
          have hb72 := rd_225_6 hst.1
          have hb73 := rd_225_8 hst.1
          exact w_lv (sub_c rfl sub_n) rfl (ih2 z w hst (un_z_225_23) (by rw [show (3 : Int) = x1 by omega]; exact as1) (by first | omega | assumption) (by omega))
        · skip
          refine r_ld (pc' := 12) rfl rfl rfl rfl ?_
          have hb74 := rd_225_2 hst.1
          refine r_gi (pc' := 15) rfl rfl sh_225 rfl rfl ?_
          refine r_zne (pc' := 18) rfl rfl ⟨by omega, by omega⟩ (fun hc75 => ?_) (fun hc75 => ?_)
          · skip
            have hb76 := rd_225_3 hst.1
            have hb77 := rd_225_7 hst.1
            have hb78 := rd_225_6 hst.1
            have hb79 := rd_225_8 hst.1
            exact w_lv (sub_c rfl sub_n) rfl (ih2 z w hst (un_z_225_23) (by rw [show (3 : Int) = x1 by omega]; exact as1) (by first | omega | assumption) (by omega))
          · skip
            refine r_ld (pc' := 19) rfl rfl rfl rfl ?_
            have hb80 := rd_225_6 hst.1
            refine r_gi (pc' := 22) rfl rfl sh_225 rfl rfl ?_
            refine r_c0 (pc' := 23) rfl rfl ?_
            refine r_ine (pc' := 26) rfl rfl ⟨by omega, by omega⟩ ⟨by decide, by decide⟩ (fun hc81 => ?_) (fun hc81 => ?_)
            · skip
              have hb82 := rd_225_3 hst.1
              have hb83 := rd_225_8 hst.1
              have hb84 := rd_225_7 hst.1
              exact w_lv (sub_c rfl (sub_c rfl sub_n)) rfl (ih1 x1 z w ⟨by omega, by omega⟩ hst (un_z_225_23) (by first | exact as1 | exact RAe_f as1 (fun i g1 => rfl) (rfl) ⟨fun i g1 g2 => rfl, fun a i g1 g2 => rfl, fun a i g1 g2 => rfl⟩) (by first | exact Or.inl ⟨by omega, by omega, fun g1 g2 => by omega⟩ | (have g := RA_e3 as1 (by omega) (by omega) hwr (by omega) (by omega) (by omega); exact Or.inr ⟨by obtain ⟨_, _, _, _, q⟩ := g; exact q, g⟩)) (by first | omega | assumption) (by omega))
            · skip
              refine r_ld (pc' := 27) rfl rfl rfl rfl ?_
              have hb85 := rd_225_8 hst.1
              refine r_gi (pc' := 30) rfl rfl sh_225 rfl rfl ?_
              refine r_cb (pc' := 32) rfl (by decide) rfl ?_
              refine r_ige (pc' := 35) rfl rfl ⟨by omega, by omega⟩ ⟨by decide, by decide⟩ (fun hc86 => ?_) (fun hc86 => ?_)
              · skip
                have hb87 := rd_225_3 hst.1
                have hb88 := rd_225_7 hst.1
                exact w_lv (sub_c rfl (sub_c rfl sub_n)) rfl (ih1 x1 z w ⟨by omega, by omega⟩ hst (un_z_225_23) (by first | exact as1 | exact RAe_f as1 (fun i g1 => rfl) (rfl) ⟨fun i g1 g2 => rfl, fun a i g1 g2 => rfl, fun a i g1 g2 => rfl⟩) (by first | exact Or.inl ⟨by omega, by omega, fun g1 g2 => by omega⟩ | (have g := RA_e3 as1 (by omega) (by omega) hwr (by omega) (by omega) (by omega); exact Or.inr ⟨by obtain ⟨_, _, _, _, q⟩ := g; exact q, g⟩)) (by first | omega | assumption) (by omega))
              · skip
                refine r_ld (pc' := 36) rfl rfl rfl rfl ?_
                refine r_gr (b := 230) (pc' := 39) rfl rfl sh_225 rfl pp_225_13 ?_
                refine r_ld (pc' := 40) rfl rfl rfl rfl ?_
                refine r_gi (pc' := 43) rfl rfl sh_225 rfl rfl ?_
                have hb89 := rd_230 hst.1 (i := (z 225 8).toNat) (by omega)
                refine r_ia (pc' := 44) rfl rfl sh_230 rfl (by omega) (by omega) rfl ?_
                refine r_c0 (pc' := 45) rfl rfl ?_
                refine r_ine (pc' := 48) rfl rfl ⟨by omega, by omega⟩ ⟨by decide, by decide⟩ (fun hc90 => ?_) (fun hc90 => ?_)
                · skip
                  have hb91 := rd_225_3 hst.1
                  have hb92 := rd_225_7 hst.1
                  exact w_lv (sub_c rfl (sub_c rfl sub_n)) rfl (ih1 x1 z w ⟨by omega, by omega⟩ hst (un_z_225_23) (by first | exact as1 | exact RAe_f as1 (fun i g1 => rfl) (rfl) ⟨fun i g1 g2 => rfl, fun a i g1 g2 => rfl, fun a i g1 g2 => rfl⟩) (by first | exact Or.inl ⟨by omega, by omega, fun g1 g2 => by omega⟩ | (have g := RA_e3 as1 (by omega) (by omega) hwr (by omega) (by omega) (by omega); exact Or.inr ⟨by obtain ⟨_, _, _, _, q⟩ := g; exact q, g⟩)) (by first | omega | assumption) (by omega))
                · skip
                  refine r_ld (pc' := 49) rfl rfl rfl rfl ?_
                  refine r_c0 (pc' := 50) rfl rfl ?_
                  refine r_cVV (pc' := 53) rfl rfl rfl rfl rfl sh_225 (m_154x (d := d + 1) 3 hst.1 hst.2.1 ⟨by omega, by omega⟩) (fun z94 w95 p96 hs98 hE99 => ?_)
                  have hs100 := st_tr hst hs98 (sub_B rfl)
                  obtain ⟨rfl, hE99⟩ := hE99
                  have hwr := hE99
                  have hb101 := rd_225_2 hs100.1
                  have hb102 := rd_225_3 hs100.1
                  have hf103 : z94 225 6 = z 225 6 := (hs98.2.2.1 _ _ (notS_c (by omega) (notS_c (by omega) notS_n)))
                  have hf104 : z94 225 8 = z 225 8 := (hs98.2.2.1 _ _ (notS_c (by omega) (notS_c (by omega) notS_n)))
                  have hb105 := rd_225_7 hst.1
                  have hf106 : z94 225 7 = z 225 7 := (hs98.2.2.1 _ _ (notS_c (by omega) (notS_c (by omega) notS_n)))
                  have hF107 : z94 230 = z 230 := (funext fun _ => hs98.2.2.1 _ _ (notS_c (by omega) (notS_c (by omega) notS_n)))
                  exact w_lv (sub_c rfl (sub_c rfl sub_n)) rfl (ih1 x1 z94 w95 ⟨by omega, by omega⟩ hs100 (((hs98.2.2.1 _ _ (notS_c (by omega) (notS_c (by omega) notS_n))).trans un_z_225_23)) (by first | exact as1 | exact RAe_f as1 (fun i g1 => (hs98.2.2.1 _ _ (notS_c (by omega) (notS_c (by omega) notS_n)))) ((hs98.2.2.2 _ _ (notS_c (by omega) (notS_c (by omega) notS_n)))) ⟨fun i g1 g2 => (hs98.2.2.1 _ _ (notS_c (by omega) (notS_c (by omega) notS_n))), fun a i g1 g2 => (hs98.2.2.1 _ _ (notS_c (by omega) (notS_c (by omega) notS_n))), fun a i g1 g2 => (hs98.2.2.2 _ _ (notS_c (by omega) (notS_c (by omega) notS_n)))⟩) (by first | exact Or.inl ⟨by omega, by omega, fun g1 g2 => by omega⟩ | (have g := RA_e3 as1 (by omega) (by omega) hwr (by omega) (by omega) (by omega); exact Or.inr ⟨by obtain ⟨_, _, _, _, q⟩ := g; exact q, g⟩)) (by first | omega | assumption | (simp only [hF107, hf103, hf104, hf106]; assumption)) (by omega))
      · intro x1 z w  hx1 hst un_z_225_23 as1 as2 as3 hM
        refine r_ld (pc' := 54) rfl rfl rfl rfl ?_
        refine r_c0 (pc' := 55) rfl rfl ?_
        refine r_cb (pc' := 57) rfl (by decide) rfl ?_
        have hb108 := rd_225_2 hst.1
        have hb109 := rd_225_7 hst.1
        refine r_cVI (pc' := 60) rfl rfl rfl rfl rfl sh_225 (m_158x (d := d) h 0 17 hst.1 hst.2.1 ⟨by omega, by omega⟩ ⟨by omega, by omega⟩ (by exact (tr8_f (fun i => hst.2.2.1 226 i (notS_c (by omega) (notS_c (by omega) (notS_c (by omega) (notS_c (by omega) (notS_c (by omega) (notS_c (by omega) (notS_c (by omega) (notS_c (by omega) (notS_c (by omega) (notS_c (by omega) (notS_n)))))))))))) (hst.2.2.1 225 5 (notS_c (by omega) (notS_c (by omega) (notS_c (by omega) (notS_c (by omega) (notS_c (by omega) (notS_c (by omega) (notS_c (by omega) (notS_c (by omega) (notS_c (by omega) (notS_c (by omega) (notS_n))))))))))))).trans hh) (by intro _; obtain ⟨k, hcx, _⟩ := as1; rw [hcx.1.1]; exact hcx.1)) (fun v110 z111 w112 p113 h114 hs115 hE116 => ?_)
        have hs117 := st_tr hst hs115 (sub_B rfl)
        obtain ⟨rfl, hE116⟩ := hE116
        have hti := hE116.2.2
        have htg := TNp_g hti
        have hft : Fs z w z111 w112 := ⟨fun i g1 g2 => (hs115.2.2.1 _ _ (notS_c (by omega) (notS_c (by omega) (notS_c (by omega) (notS_c (by omega) (notS_c (by omega) (notS_c (by omega) (notS_c (by omega) notS_n)))))))), fun a i g1 g2 => (hs115.2.2.1 _ _ (notS_c (by omega) (notS_c (by omega) (notS_c (by omega) (notS_c (by omega) (notS_c (by omega) (notS_c (by omega) (notS_c (by omega) notS_n)))))))), fun a i g1 g2 => (hs115.2.2.2 _ _ (notS_c (by omega) (notS_c (by omega) (notS_c (by omega) (notS_c (by omega) (notS_c (by omega) (notS_c (by omega) (notS_c (by omega) notS_n))))))))⟩
        refine r_st (pc' := 61) (lv' := [(2, _), (0, _), (1, _)]) rfl rfl rfl rfl ?_
        refine r_ld (pc' := 62) rfl rfl rfl rfl ?_
        have hb118 := rd_225_2 hs117.1
        refine r_gi (pc' := 65) rfl rfl sh_225 rfl rfl ?_
        refine r_zle (pc' := 68) rfl rfl ⟨by omega, by omega⟩ (fun hc119 => ?_) (fun hc119 => ?_)
        · skip
          have h20 : z 225 2 = 0 := (TNp_s hti (by omega) (by omega)).1
          have has := (as2.resolve_right (by omega)).2
          have hts := (TNp_s hti (by omega) (by omega)).2.1
          have hnv := TNp_v as1 hti (by omega) (by omega)
          have hle : z 230 v110.toNat ≤ 1 := by rw [hnv.1]; have g3 := rd_230 hst.1 (i := (z 225 8).toNat) (by omega); have g4 := has.2 hnv.2 (by omega); omega
          have hnx := (TNp_s hti (by omega) (by omega)).2.2
          have hn3 := hnx.2.1
          have hn7 := hnx.2.2.2
          refine r_ld (pc' := 70) rfl rfl rfl rfl ?_
          refine r_gr (b := 230) (pc' := 73) rfl rfl sh_225 rfl pp_225_13 ?_
          refine r_ld (pc' := 74) rfl rfl rfl rfl ?_
          refine r_al (pc' := 75) rfl rfl rfl rfl ?_
          have hb120 := rd_230 hst.1 (i := v110.toNat) (by omega)
          refine r_ia (pc' := 76) rfl rfl sh_230 rfl (by omega) (by omega) (hs115.2.2.1 _ _ (notS_c (by omega) (notS_c (by omega) (notS_c (by omega) (notS_c (by omega) (notS_c (by omega) (notS_c (by omega) (notS_c (by omega) notS_n)))))))) ?_
          refine r_c0 (pc' := 77) rfl rfl ?_
          refine r_add (pc' := 78) rfl rfl ?_
          refine r_is (pc' := 79) rfl rfl sh_230 rfl (by omega) (by omega) hs117 (inS_s (inS_s (inS_s (inS_s (inS_s (inS_s (inS_s (inS_0 (by omega) (by omega) (by omega) (by omega))))))))) (wr_230 ⟨by omega, by omega⟩) (fun z121 hq122 hs123 => ?_)
          have hqo := hq122
          refine r_ld (pc' := 80) rfl rfl rfl rfl ?_
          refine r_gr (b := 229) (pc' := 83) rfl rfl sh_225 rfl pp_225_12 ?_
          refine r_c0 (pc' := 84) rfl rfl ?_
          refine r_ld (pc' := 85) rfl rfl rfl rfl ?_
          refine r_gi (pc' := 88) rfl rfl sh_225 rfl (((congrFun (congrFun hq122 _) _).trans (mu_ne (by omega))).trans ((hs115.2.2.1 _ _ (notS_c (by omega) (notS_c (by omega) (notS_c (by omega) (notS_c (by omega) (notS_c (by omega) (notS_c (by omega) (notS_c (by omega) notS_n)))))))).trans un_z_225_23)) ?_
          refine r_mul (pc' := 89) rfl rfl ?_
          refine r_ld (pc' := 90) rfl rfl rfl rfl ?_
          refine r_add (pc' := 91) rfl rfl ?_
          refine r_ld (pc' := 92) rfl rfl rfl rfl ?_
          refine r_is (pc' := 93) rfl rfl sh_229 rfl (by omega) (by omega) hs123 (inS_s (inS_s (inS_s (inS_s (inS_s (inS_s (inS_s (inS_s (inS_0 (by omega) (by omega) (by omega) (by omega)))))))))) (wr_229 ⟨by omega, by omega⟩) (fun z124 hq125 hs126 => ?_)
          have hqp := hq125
          refine r_inc (pc' := 96) (lv' := [(2, _), (0, _)]) rfl rfl rfl rfl rfl ?_
          refine r_go rfl ?_
          have hf127 : z124 225 2 = z111 225 2 := (((congrFun (congrFun hq125 _) _).trans (mu_ne (by omega))).trans ((congrFun (congrFun hq122 _) _).trans (mu_ne (by omega))))
          have hb128 := rd_225_3 hs117.1
          have hf129 : z124 225 3 = z111 225 3 := (((congrFun (congrFun hq125 _) _).trans (mu_ne (by omega))).trans ((congrFun (congrFun hq122 _) _).trans (mu_ne (by omega))))
          have hb130 := rd_225_7 hs117.1
          have hf131 : z124 225 7 = z111 225 7 := (((congrFun (congrFun hq125 _) _).trans (mu_ne (by omega))).trans ((congrFun (congrFun hq122 _) _).trans (mu_ne (by omega))))
          have hb132 := rd_225_6 hs117.1
          have hf133 : z124 225 6 = z111 225 6 := (((congrFun (congrFun hq125 _) _).trans (mu_ne (by omega))).trans ((congrFun (congrFun hq122 _) _).trans (mu_ne (by omega))))
          have hb134 := rd_225_8 hs117.1
          have hf135 : z124 225 8 = z111 225 8 := (((congrFun (congrFun hq125 _) _).trans (mu_ne (by omega))).trans ((congrFun (congrFun hq122 _) _).trans (mu_ne (by omega))))
          have hF136 : z124 230 = z121 230 := ((congrFun hq125 _).trans (mu_fn (by omega)))
          exact w_lv (sub_c rfl (sub_c rfl sub_n)) rfl (ih0 (x1 + 1) z124 w112 ⟨by omega, by omega⟩ hs126 ((((congrFun (congrFun hq125 _) _).trans (mu_ne (by omega))).trans (((congrFun (congrFun hq122 _) _).trans (mu_ne (by omega))).trans ((hs115.2.2.1 _ _ (notS_c (by omega) (notS_c (by omega) (notS_c (by omega) (notS_c (by omega) (notS_c (by omega) (notS_c (by omega) (notS_c (by omega) notS_n)))))))).trans un_z_225_23)))) (by first | exact c9 | exact RA_e2 (v := v110) (z1 := z111) (w1 := w112) (z' := z124) as1 (by omega) (by omega) h20 hti (by omega) has.2 (fun e he => by have g3 := rd_230 hst.1 (i := e) he; omega) hft (fun i => (((congrFun (congrFun hq125 _) _).trans (mu_ne (by omega))).trans ((congrFun (congrFun hq122 _) _).trans (mu_ne (by omega))))) (fun a i g1 g2 => (((congrFun (congrFun hq125 _) _).trans (mu_ne (by omega))).trans ((congrFun (congrFun hq122 _) _).trans (mu_ne (by omega))))) (fun i => by rw [hqp, mu_sf]; dsimp only; rw [hqo, mu_fn (by omega), un_z_225_23]) (fun e => by rw [hqp, mu_fn (by omega), hqo, mu_sf]; dsimp only; by_cases c : e = v110.toNat; (rw [if_pos c, if_pos c, c, hft.2.1 230 _ (by omega) (by omega)]); (rw [if_neg c, if_neg c]))) (by first | omega | assumption | (simp only [hF136, hf127, hf129, hf131, hf133, hf135]; assumption)) (by omega))
        · skip
          have hb137 := rd_225_3 hs117.1
          have hb138 := rd_225_7 hs117.1
          have hf139 : z111 225 23 = z0 225 23 := ((hs115.2.2.1 _ _ (notS_c (by omega) (notS_c (by omega) (notS_c (by omega) (notS_c (by omega) (notS_c (by omega) (notS_c (by omega) (notS_c (by omega) notS_n)))))))).trans un_z_225_23)
          exact r_ret rfl (po_V hs117 ⟨rfl, (by refine ⟨fun q => absurd q (by omega), fun _ => ?_, by omega⟩; rcases as2 with g | g; (exact RA_eb as1 (by omega) g.1 hti (by omega)); (have g2 := TNp_f hti g.1; exact RF_f g2.1 g2.2 g.2))⟩)
      · intro  z w  hst un_z_225_23 as1 as2 hM
        have hb24 := rd_225_24 hst.1
        have hb25 := rd_225_25 hst.1
        refine r_ld (pc' := 100) rfl rfl rfl rfl ?_
        have hb140 := rd_225_2 hst.1
        refine r_gi (pc' := 103) rfl rfl sh_225 rfl rfl ?_
        refine r_zne (pc' := 106) rfl rfl ⟨by omega, by omega⟩ (fun hc141 => ?_) (fun hc141 => ?_)
        · skip
          have hb142 := rd_225_3 hst.1
          have hb143 := rd_225_7 hst.1
          have hf144 : z 225 23 = z0 225 23 := un_z_225_23
          exact r_ret rfl (po_V hst ⟨rfl, (by refine ⟨fun _ => ⟨RP_p as1 (by omega) (by omega) ?_ (fun i g1 => rfl) (fun a i g1 g2 => rfl) (fun a i => rfl), by omega, by omega⟩, fun q => absurd q (by omega), by omega⟩; omega)⟩)
        · skip
          refine r_ld (pc' := 107) rfl rfl rfl rfl ?_
          refine r_al (pc' := 108) rfl rfl rfl rfl ?_
          refine r_gi (pc' := 111) rfl rfl sh_225 rfl un_z_225_23 ?_
          refine r_c0 (pc' := 112) rfl rfl ?_
          refine r_add (pc' := 113) rfl rfl ?_
          refine r_pi (pc' := 116) rfl rfl sh_225 rfl rfl hst (inS_s (inS_s (inS_s (inS_s (inS_s (inS_s (inS_s (inS_s (inS_s (inS_0 (by omega) (by omega) (by omega) (by omega))))))))))) (wr_225_23 ⟨by omega, by omega⟩) (fun z145 hq146 hs147 => ?_)
          have hf148 : z145 225 2 = z 225 2 := ((congrFun (congrFun hq146 _) _).trans (mu_ne (by omega)))
          have hb149 := rd_225_3 hst.1
          have hf150 : z145 225 3 = z 225 3 := ((congrFun (congrFun hq146 _) _).trans (mu_ne (by omega)))
          have hb151 := rd_225_7 hst.1
          have hf152 : z145 225 7 = z 225 7 := ((congrFun (congrFun hq146 _) _).trans (mu_ne (by omega)))
          have hf153 : z145 225 23 = (z0 225 23) + 1 := ((congrFun (congrFun hq146 _) _).trans mu_eq)
          exact r_ret rfl (po_V hs147 ⟨rfl, (by refine ⟨fun _ => ⟨RP_p as1 (by omega) (by omega) ?_ (fun i g1 => ((congrFun (congrFun hq146 _) _).trans (mu_ne (by omega)))) (fun a i g1 g2 => ((congrFun (congrFun hq146 _) _).trans (mu_ne (by omega)))) (fun a i => rfl), by omega, by omega⟩, fun q => absurd q (by omega), by omega⟩; omega)⟩)
  refine w_m rfl rfl ?_
  refine r_ld (pc' := 1) rfl rfl rfl rfl ?_
  have hb154 := rd_225_4 hz
  have hb155 := rd_225_5 hz
  refine r_cVV (pc' := 4) rfl rfl rfl rfl rfl sh_225 (m_152x (d := d + 1) h hst.1 hst.2.1 (by exact (tr8_f (fun i => hst.2.2.1 226 i (notS_c (by omega) (notS_c (by omega) (notS_c (by omega) (notS_c (by omega) (notS_c (by omega) (notS_c (by omega) (notS_c (by omega) (notS_c (by omega) (notS_c (by omega) (notS_c (by omega) (notS_n)))))))))))) (hst.2.2.1 225 5 (notS_c (by omega) (notS_c (by omega) (notS_c (by omega) (notS_c (by omega) (notS_c (by omega) (notS_c (by omega) (notS_c (by omega) (notS_c (by omega) (notS_c (by omega) (notS_c (by omega) (notS_n))))))))))))).trans hh) (by first | omega | assumption)) (fun z157 w158 p159 hs161 hE162 => ?_)
  have hs163 := st_tr hst hs161 (sub_B rfl)
  obtain ⟨rfl, hE162⟩ := hE162
  have htt := hE162
  have hfs : Fs z0 w0 z157 w158 := ⟨fun i g1 g2 => (hs161.2.2.1 _ _ (notS_c (by omega) (notS_c (by omega) (notS_c (by omega) (notS_c (by omega) (notS_c (by omega) notS_n)))))), fun a i g1 g2 => (hs161.2.2.1 _ _ (notS_c (by omega) (notS_c (by omega) (notS_c (by omega) (notS_c (by omega) (notS_c (by omega) notS_n)))))), fun a i g1 g2 => (hs161.2.2.2 _ _ (notS_c (by omega) (notS_c (by omega) (notS_c (by omega) (notS_c (by omega) (notS_c (by omega) notS_n))))))⟩
  have c9 := RA_p hRA.2 hm hK h10 h45 (by omega) hfs (by rw [tp_s, ← hrg.1]; exact htt.1)
  refine r_c0 (pc' := 5) rfl rfl ?_
  refine r_st (pc' := 6) (lv' := [(1, _), (0, _)]) rfl rfl rfl rfl ?_
  have hb164 := rd_225_2 hz
  have hf165 : z157 225 2 = z0 225 2 := (hs161.2.2.1 _ _ (notS_c (by omega) (notS_c (by omega) (notS_c (by omega) (notS_c (by omega) (notS_c (by omega) notS_n))))))
  have hb166 := rd_225_3 hz
  have hf167 : z157 225 3 = z0 225 3 := (hs161.2.2.1 _ _ (notS_c (by omega) (notS_c (by omega) (notS_c (by omega) (notS_c (by omega) (notS_c (by omega) notS_n))))))
  have hb168 := rd_225_7 hs163.1
  have hb169 := rd_225_6 hs163.1
  have hb170 := rd_225_8 hs163.1
  have hF171 : z157 230 = z0 230 := (funext fun _ => hs161.2.2.1 _ _ (notS_c (by omega) (notS_c (by omega) (notS_c (by omega) (notS_c (by omega) (notS_c (by omega) notS_n))))))
  exact w_lv (sub_c rfl (sub_c rfl sub_n)) rfl ((key ((67 * (3 - 0) + 62 : Int).toNat + 1)).1 0 z157 w158 ⟨by omega, by omega⟩ hs163 ((hs161.2.2.1 _ _ (notS_c (by omega) (notS_c (by omega) (notS_c (by omega) (notS_c (by omega) (notS_c (by omega) notS_n))))))) (by first | exact c9 | exact RA_e2 (v := NOV) (z1 := NOMARK) (w1 := NOMARK) (z' := z157) as1 (by omega) (by omega) h20 hti (by omega) has.2 (fun e he => by have g3 := rd_230 hst.1 (i := e) he; omega) hft (fun i => NOMARK) (fun a i g1 g2 => NOMARK) (fun i => by rw [hqp, mu_sf]; dsimp only; rw [hqo, mu_fn (by omega), un_z_225_23]) (fun e => by rw [hqp, mu_fn (by omega), hqo, mu_sf]; dsimp only; by_cases c : e = NOV.toNat; (rw [if_pos c, if_pos c, c, hft.2.1 230 _ (by omega) (by omega)]); (rw [if_neg c, if_neg c]))) (by first | omega | assumption | (simp only [hF171, hf165, hf167]; assumption)) (by omega))

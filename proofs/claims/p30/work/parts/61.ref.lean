/-! methods, printed by wip/tools/vcg.py -/
/-- LoopGroundModel end -/
abbrev S_148  : mS := [(225, 225, 1, 1)]
abbrev E_148 (a1 : Int) (z0 w0 : mZ) (x y tx it mt tt ct : Option Nat) : Int → mZ → mZ → mP → Prop := fun v z w p => p = (pq x y tx it mt tt ct) ∧ (-1) ≤ v ∧ v ≤ 1600 ∧ ((((a1 < 0 ∨ z0 225 1 < a1) ∧ v = -1 ∧ z 225 1 = z0 225 1) ∨ (0 ≤ a1 ∧ a1 ≤ z0 225 1 ∧ v = a1 ∧ z 225 1 = a1)))
theorem m_148 {d : Nat} {z0 w0 : mZ} {x y tx it mt tt ct : Option Nat} (a1 : Int) (hz : rz z0) (hw : rw_ w0) (ha1 : (-2147483648) ≤ a1 ∧ a1 ≤ 2147483647) : wc (d + 1) 148 [.ref 225, .int (Int32.ofInt a1)] (mk z0 w0 (pq x y tx it mt tt ct)) (poI S_148 z0 w0 (E_148 a1 z0 w0 x y tx it mt tt ct)) := by
  have hst : st_ S_148 z0 w0 z0 w0 := st_rf hz hw
  have hz9 := rd_225_1 hz
  refine w_m rfl rfl ?_
  refine r_ld (pc' := 1) rfl rfl rfl rfl ?_
  refine r_zlt (pc' := 4) rfl rfl ⟨by omega, by omega⟩ (fun hc10 => ?_) (fun hc10 => ?_)
  · skip
    refine r_c0 (pc' := 13) rfl rfl ?_
    have hb11 := rd_225_1 hz
    exact r_ri rfl (po_I hst ⟨by decide, by decide⟩ ⟨rfl, by omega, by omega, (by first | omega | assumption)⟩)
  · skip
    refine r_ld (pc' := 5) rfl rfl rfl rfl ?_
    refine r_ld (pc' := 6) rfl rfl rfl rfl ?_
    have hb12 := rd_225_1 hz
    refine r_gi (pc' := 9) rfl rfl sh_225 rfl rfl ?_
    refine r_ile (pc' := 12) rfl rfl ⟨by omega, by omega⟩ ⟨by omega, by omega⟩ (fun hc13 => ?_) (fun hc13 => ?_)
    · skip
      refine r_ld (pc' := 15) rfl rfl rfl rfl ?_
      refine r_ld (pc' := 16) rfl rfl rfl rfl ?_
      refine r_pi (pc' := 19) rfl rfl sh_225 rfl rfl hst (inS_0 (by omega) (by omega) (by omega) (by omega)) (wr_225_1 ⟨by omega, by omega⟩) (fun z14 hq15 hs16 => ?_)
      refine r_ld (pc' := 20) rfl rfl rfl rfl ?_
      have hf17 : z14 225 1 = a1 := ((congrFun (congrFun hq15 _) _).trans mu_eq)
      exact r_ri rfl (po_I hs16 ⟨by omega, by omega⟩ ⟨rfl, by omega, by omega, (by first | omega | assumption | (simp only [hf17]; assumption))⟩)
    · skip
      refine r_c0 (pc' := 13) rfl rfl ?_
      exact r_ri rfl (po_I hst ⟨by decide, by decide⟩ ⟨rfl, by omega, by omega, (by first | omega | assumption)⟩)
/-- LoopGroundModel here -/
abbrev S_149  : mS := []
abbrev E_149 (a1 : Int) (z0 w0 : mZ) (x y tx it mt tt ct : Option Nat) : Int → mZ → mZ → mP → Prop := fun v z w p => p = (pq x y tx it mt tt ct) ∧ z0 = z ∧ w0 = w ∧ (-1) ≤ v ∧ v ≤ 255 ∧ ((z0 225 4 + a1 < z0 225 5 → 0 ≤ v) ∧ (z0 225 5 ≤ z0 225 4 + a1 → v = -1) ∧ (∀ j : Nat, (j : Int) = z0 225 4 + a1 → (j : Int) < z0 225 5 → v = z0 226 j))
theorem m_149 {d : Nat} {z0 w0 : mZ} {x y tx it mt tt ct : Option Nat} (a1 : Int) (hz : rz z0) (hw : rw_ w0) (ha1 : 0 ≤ a1 ∧ a1 ≤ 1600) : wc (d + 1) 149 [.ref 225, .int (Int32.ofInt a1)] (mk z0 w0 (pq x y tx it mt tt ct)) (poI S_149 z0 w0 (E_149 a1 z0 w0 x y tx it mt tt ct)) := by
  have hst : st_ S_149 z0 w0 z0 w0 := st_rf hz hw
  have hz5 := rd_225_4 hz
  have hz6 := rd_225_5 hz
  refine w_m rfl rfl ?_
  refine r_ld (pc' := 1) rfl rfl rfl rfl ?_
  have hb7 := rd_225_4 hz
  refine r_gi (pc' := 4) rfl rfl sh_225 rfl rfl ?_
  refine r_ld (pc' := 5) rfl rfl rfl rfl ?_
  refine r_add (pc' := 6) rfl rfl ?_
  refine r_ld (pc' := 7) rfl rfl rfl rfl ?_
  have hb8 := rd_225_5 hz
  refine r_gi (pc' := 10) rfl rfl sh_225 rfl rfl ?_
  refine r_ige (pc' := 13) rfl rfl ⟨by omega, by omega⟩ ⟨by omega, by omega⟩ (fun hc9 => ?_) (fun hc9 => ?_)
  · skip
    refine r_c0 (pc' := 28) rfl rfl ?_
    exact r_ri rfl (po_I hst ⟨by decide, by decide⟩ ⟨rfl, rfl, rfl, by omega, by omega, (by exact ⟨by omega, by omega, fun j h1 h2 => by first | (exfalso; omega) | exact congrArg (z0 226) (by omega)⟩)⟩)
  · skip
    refine r_ld (pc' := 14) rfl rfl rfl rfl ?_
    refine r_gr (b := 226) (pc' := 17) rfl rfl sh_225 rfl pp_225_0 ?_
    refine r_ld (pc' := 18) rfl rfl rfl rfl ?_
    refine r_gi (pc' := 21) rfl rfl sh_225 rfl rfl ?_
    refine r_ld (pc' := 22) rfl rfl rfl rfl ?_
    refine r_add (pc' := 23) rfl rfl ?_
    have hb10 := rd_226 hz (i := ((z0 225 4) + a1).toNat) (by omega)
    refine r_ia (pc' := 24) rfl rfl sh_226 rfl (by omega) (by omega) rfl ?_
    refine r_go rfl ?_
    exact r_ri rfl (po_I hst ⟨by omega, by omega⟩ ⟨rfl, rfl, rfl, by omega, by omega, (by exact ⟨by omega, by omega, fun j h1 h2 => by first | (exfalso; omega) | exact congrArg (z0 226) (by omega)⟩)⟩)
/-- LoopGroundModel isLetter -/
abbrev S_150  : mS := []
abbrev E_150 (a0 : Int) (z0 w0 : mZ) (x y tx it mt tt ct : Option Nat) : Int → mZ → mZ → mP → Prop := fun v z w p => p = (pq x y tx it mt tt ct) ∧ z0 = z ∧ w0 = w ∧ 0 ≤ v ∧ v ≤ 1 ∧ ((v = 1 ∧ 97 ≤ a0 ∧ a0 ≤ 122) ∨ (v = 0 ∧ (a0 < 97 ∨ 122 < a0)))
theorem m_150 {d : Nat} {z0 w0 : mZ} {x y tx it mt tt ct : Option Nat} (a0 : Int) (hz : rz z0) (hw : rw_ w0) (ha0 : (-2147483648) ≤ a0 ∧ a0 ≤ 2147483647) : wc (d + 1) 150 [.int (Int32.ofInt a0)] (mk z0 w0 (pq x y tx it mt tt ct)) (poI S_150 z0 w0 (E_150 a0 z0 w0 x y tx it mt tt ct)) := by
  have hst : st_ S_150 z0 w0 z0 w0 := st_rf hz hw
  refine w_m rfl rfl ?_
  refine r_ld (pc' := 1) rfl rfl rfl rfl ?_
  refine r_cb (pc' := 3) rfl (by decide) rfl ?_
  refine r_ilt (pc' := 6) rfl rfl ⟨by omega, by omega⟩ ⟨by decide, by decide⟩ (fun hc3 => ?_) (fun hc3 => ?_)
  · skip
    refine r_c0 (pc' := 17) rfl rfl ?_
    exact r_rz rfl (by omega) (po_I hst ⟨by decide, by decide⟩ ⟨rfl, rfl, rfl, by omega, by omega, (by first | omega | assumption)⟩)
  · skip
    refine r_ld (pc' := 7) rfl rfl rfl rfl ?_
    refine r_cb (pc' := 9) rfl (by decide) rfl ?_
    refine r_igt (pc' := 12) rfl rfl ⟨by omega, by omega⟩ ⟨by decide, by decide⟩ (fun hc4 => ?_) (fun hc4 => ?_)
    · skip
      refine r_c0 (pc' := 17) rfl rfl ?_
      exact r_rz rfl (by omega) (po_I hst ⟨by decide, by decide⟩ ⟨rfl, rfl, rfl, by omega, by omega, (by first | omega | assumption)⟩)
    · skip
      refine r_c0 (pc' := 13) rfl rfl ?_
      refine r_go rfl ?_
      exact r_rz rfl (by omega) (po_I hst ⟨by decide, by decide⟩ ⟨rfl, rfl, rfl, by omega, by omega, (by first | omega | assumption)⟩)
/-- LoopGroundModel isDigit -/
abbrev S_151  : mS := []
abbrev E_151 (a0 : Int) (z0 w0 : mZ) (x y tx it mt tt ct : Option Nat) : Int → mZ → mZ → mP → Prop := fun v z w p => p = (pq x y tx it mt tt ct) ∧ z0 = z ∧ w0 = w ∧ 0 ≤ v ∧ v ≤ 1 ∧ ((v = 1 ∧ 48 ≤ a0 ∧ a0 ≤ 57) ∨ (v = 0 ∧ (a0 < 48 ∨ 57 < a0)))
theorem m_151 {d : Nat} {z0 w0 : mZ} {x y tx it mt tt ct : Option Nat} (a0 : Int) (hz : rz z0) (hw : rw_ w0) (ha0 : (-2147483648) ≤ a0 ∧ a0 ≤ 2147483647) : wc (d + 1) 151 [.int (Int32.ofInt a0)] (mk z0 w0 (pq x y tx it mt tt ct)) (poI S_151 z0 w0 (E_151 a0 z0 w0 x y tx it mt tt ct)) := by
  have hst : st_ S_151 z0 w0 z0 w0 := st_rf hz hw
  refine w_m rfl rfl ?_
  refine r_ld (pc' := 1) rfl rfl rfl rfl ?_
  refine r_cb (pc' := 3) rfl (by decide) rfl ?_
  refine r_ilt (pc' := 6) rfl rfl ⟨by omega, by omega⟩ ⟨by decide, by decide⟩ (fun hc3 => ?_) (fun hc3 => ?_)
  · skip
    refine r_c0 (pc' := 17) rfl rfl ?_
    exact r_rz rfl (by omega) (po_I hst ⟨by decide, by decide⟩ ⟨rfl, rfl, rfl, by omega, by omega, (by first | omega | assumption)⟩)
  · skip
    refine r_ld (pc' := 7) rfl rfl rfl rfl ?_
    refine r_cb (pc' := 9) rfl (by decide) rfl ?_
    refine r_igt (pc' := 12) rfl rfl ⟨by omega, by omega⟩ ⟨by decide, by decide⟩ (fun hc4 => ?_) (fun hc4 => ?_)
    · skip
      refine r_c0 (pc' := 17) rfl rfl ?_
      exact r_rz rfl (by omega) (po_I hst ⟨by decide, by decide⟩ ⟨rfl, rfl, rfl, by omega, by omega, (by first | omega | assumption)⟩)
    · skip
      refine r_c0 (pc' := 13) rfl rfl ?_
      refine r_go rfl ?_
      exact r_rz rfl (by omega) (po_I hst ⟨by decide, by decide⟩ ⟨rfl, rfl, rfl, by omega, by omega, (by first | omega | assumption)⟩)
/-- LoopGroundModel wrongAt -/
abbrev S_153  : mS := [(225, 225, 2, 2), (225, 225, 3, 3)]
abbrev E_153 (a1 : Int) (a2 : Int) (z0 w0 : mZ) (x y tx it mt tt ct : Option Nat) : mZ → mZ → mP → Prop := fun z w p => p = (pq x y tx it mt tt ct) ∧ (0 < z 225 2)
theorem m_153 {d : Nat} {z0 w0 : mZ} {x y tx it mt tt ct : Option Nat} (a1 : Int) (a2 : Int) (hz : rz z0) (hw : rw_ w0) (ha1 : 1 ≤ a1 ∧ a1 ≤ 6) (ha2 : (-2147483648) ≤ a2 ∧ a2 ≤ 2147483647) : wc (d + 1) 153 [.ref 225, .int (Int32.ofInt a1), .int (Int32.ofInt a2)] (mk z0 w0 (pq x y tx it mt tt ct)) (poV S_153 z0 w0 (E_153 a1 a2 z0 w0 x y tx it mt tt ct)) := by
  have hst : st_ S_153 z0 w0 z0 w0 := st_rf hz hw
  refine w_m rfl rfl ?_
  refine r_ld (pc' := 1) rfl rfl rfl rfl ?_
  have hb28 := rd_225_2 hz
  refine r_gi (pc' := 4) rfl rfl sh_225 rfl rfl ?_
  refine r_zle (pc' := 7) rfl rfl ⟨by omega, by omega⟩ (fun hc29 => ?_) (fun hc29 => ?_)
  · skip
    refine r_ld (pc' := 9) rfl rfl rfl rfl ?_
    refine r_ld (pc' := 10) rfl rfl rfl rfl ?_
    have hb30 := rd_225_6 hz
    refine r_gi (pc' := 13) rfl rfl sh_225 rfl rfl ?_
    refine r_c0 (pc' := 14) rfl rfl ?_
    refine r_ine (pc' := 17) rfl rfl ⟨by omega, by omega⟩ ⟨by decide, by decide⟩ (fun hc31 => ?_) (fun hc31 => ?_)
    · skip
      refine r_ld (pc' := 30) rfl rfl rfl rfl ?_
      refine r_pi (pc' := 33) rfl rfl sh_225 rfl rfl hst (inS_0 (by omega) (by omega) (by omega) (by omega)) (wr_225_2 ⟨by omega, by omega⟩) (fun z32 hq33 hs34 => ?_)
      refine r_ld (pc' := 34) rfl rfl rfl rfl ?_
      refine r_ld (pc' := 35) rfl rfl rfl rfl ?_
      refine r_pi (pc' := 38) rfl rfl sh_225 rfl rfl hs34 (inS_s (inS_0 (by omega) (by omega) (by omega) (by omega))) (wr_225_3 ⟨by omega, by omega⟩) (fun z35 hq36 hs37 => ?_)
      have hf38 : z35 225 2 = a1 := (((congrFun (congrFun hq36 _) _).trans (mu_ne (by omega))).trans ((congrFun (congrFun hq33 _) _).trans mu_eq))
      exact r_ret rfl (po_V hs37 ⟨rfl, (by first | omega | assumption | (simp only [hf38]; assumption))⟩)
    · skip
      refine r_ld (pc' := 18) rfl rfl rfl rfl ?_
      refine r_ld (pc' := 19) rfl rfl rfl rfl ?_
      have hb39 := rd_225_7 hz
      refine r_gi (pc' := 22) rfl rfl sh_225 rfl rfl ?_
      refine r_ine (pc' := 25) rfl rfl ⟨by omega, by omega⟩ ⟨by omega, by omega⟩ (fun hc40 => ?_) (fun hc40 => ?_)
      · skip
        refine r_ld (pc' := 30) rfl rfl rfl rfl ?_
        refine r_pi (pc' := 33) rfl rfl sh_225 rfl rfl hst (inS_0 (by omega) (by omega) (by omega) (by omega)) (wr_225_2 ⟨by omega, by omega⟩) (fun z41 hq42 hs43 => ?_)
        refine r_ld (pc' := 34) rfl rfl rfl rfl ?_
        refine r_ld (pc' := 35) rfl rfl rfl rfl ?_
        refine r_pi (pc' := 38) rfl rfl sh_225 rfl rfl hs43 (inS_s (inS_0 (by omega) (by omega) (by omega) (by omega))) (wr_225_3 ⟨by omega, by omega⟩) (fun z44 hq45 hs46 => ?_)
        have hf47 : z44 225 2 = a1 := (((congrFun (congrFun hq45 _) _).trans (mu_ne (by omega))).trans ((congrFun (congrFun hq42 _) _).trans mu_eq))
        exact r_ret rfl (po_V hs46 ⟨rfl, (by first | omega | assumption | (simp only [hf47]; assumption))⟩)
      · skip
        refine r_c0 (pc' := 26) rfl rfl ?_
        refine r_go rfl ?_
        refine r_pi (pc' := 33) rfl rfl sh_225 rfl rfl hst (inS_0 (by omega) (by omega) (by omega) (by omega)) (wr_225_2 ⟨by omega, by omega⟩) (fun z48 hq49 hs50 => ?_)
        refine r_ld (pc' := 34) rfl rfl rfl rfl ?_
        refine r_ld (pc' := 35) rfl rfl rfl rfl ?_
        refine r_pi (pc' := 38) rfl rfl sh_225 rfl rfl hs50 (inS_s (inS_0 (by omega) (by omega) (by omega) (by omega))) (wr_225_3 ⟨by omega, by omega⟩) (fun z51 hq52 hs53 => ?_)
        have hf54 : z51 225 2 = 1 := (((congrFun (congrFun hq52 _) _).trans (mu_ne (by omega))).trans ((congrFun (congrFun hq49 _) _).trans mu_eq))
        exact r_ret rfl (po_V hs53 ⟨rfl, (by first | omega | assumption | (simp only [hf54]; assumption))⟩)
  · skip
    exact r_ret rfl (po_V hst ⟨rfl, (by first | omega | assumption)⟩)
/-- LoopGroundModel isWord -/
abbrev S_155  : mS := []
abbrev E_155 (a1 : Int) (z0 w0 : mZ) (x y tx it mt tt ct : Option Nat) : Int → mZ → mZ → mP → Prop := fun v z w p => p = (pq x y tx it mt tt ct) ∧ z0 = z ∧ w0 = w ∧ 0 ≤ v ∧ v ≤ 1 ∧ ((v = 1 ∧ z0 225 6 = 1 ∧ w0 225 9 = a1) ∨ (v = 0 ∧ ¬ (z0 225 6 = 1 ∧ w0 225 9 = a1)))
theorem m_155 {d : Nat} {z0 w0 : mZ} {x y tx it mt tt ct : Option Nat} (a1 : Int) (hz : rz z0) (hw : rw_ w0) (ha1 : (-9223372036854775808) ≤ a1 ∧ a1 ≤ 9223372036854775807) : wc (d + 1) 155 [.ref 225, .long (Int64.ofInt a1)] (mk z0 w0 (pq x y tx it mt tt ct)) (poI S_155 z0 w0 (E_155 a1 z0 w0 x y tx it mt tt ct)) := by
  have hst : st_ S_155 z0 w0 z0 w0 := st_rf hz hw
  have hz5 := rd_225_9 hw
  have hz6 := rd_225_6 hz
  refine w_m rfl rfl ?_
  refine r_ld (pc' := 1) rfl rfl rfl rfl ?_
  have hb7 := rd_225_6 hz
  refine r_gi (pc' := 4) rfl rfl sh_225 rfl rfl ?_
  refine r_c0 (pc' := 5) rfl rfl ?_
  refine r_ine (pc' := 8) rfl rfl ⟨by omega, by omega⟩ ⟨by decide, by decide⟩ (fun hc8 => ?_) (fun hc8 => ?_)
  · skip
    refine r_c0 (pc' := 22) rfl rfl ?_
    exact r_rz rfl (by omega) (po_I hst ⟨by decide, by decide⟩ ⟨rfl, rfl, rfl, by omega, by omega, (by first | omega | assumption)⟩)
  · skip
    refine r_ld (pc' := 9) rfl rfl rfl rfl ?_
    have hb9 := rd_225_9 hw
    refine r_gl (pc' := 12) rfl rfl sh_225 rfl rfl ?_
    refine r_ld (pc' := 13) rfl rfl rfl rfl ?_
    refine r_lne (pc' := 17) rfl rfl rfl ⟨by omega, by omega⟩ ⟨by omega, by omega⟩ (fun hc10 => ?_) (fun hc10 => ?_)
    · skip
      refine r_c0 (pc' := 22) rfl rfl ?_
      exact r_rz rfl (by omega) (po_I hst ⟨by decide, by decide⟩ ⟨rfl, rfl, rfl, by omega, by omega, (by first | omega | assumption)⟩)
    · skip
      refine r_c0 (pc' := 18) rfl rfl ?_
      refine r_go rfl ?_
      exact r_rz rfl (by omega) (po_I hst ⟨by decide, by decide⟩ ⟨rfl, rfl, rfl, by omega, by omega, (by first | omega | assumption)⟩)
/-- LoopGroundModel isName -/
abbrev S_156  : mS := []
abbrev E_156  (z0 w0 : mZ) (x y tx it mt tt ct : Option Nat) : Int → mZ → mZ → mP → Prop := fun v z w p => p = (pq x y tx it mt tt ct) ∧ z0 = z ∧ w0 = w ∧ 0 ≤ v ∧ v ≤ 1 ∧ (v = 1 → z0 225 6 = 1)
theorem m_156 {d : Nat} {z0 w0 : mZ} {x y tx it mt tt ct : Option Nat}  (hz : rz z0) (hw : rw_ w0) : wc (d + 1) 156 [.ref 225] (mk z0 w0 (pq x y tx it mt tt ct)) (poI S_156 z0 w0 (E_156  z0 w0 x y tx it mt tt ct)) := by
  have hst : st_ S_156 z0 w0 z0 w0 := st_rf hz hw
  have hz9 := rd_225_6 hz
  refine w_m rfl rfl ?_
  refine r_ld (pc' := 1) rfl rfl rfl rfl ?_
  have hb10 := rd_225_6 hz
  refine r_gi (pc' := 4) rfl rfl sh_225 rfl rfl ?_
  refine r_c0 (pc' := 5) rfl rfl ?_
  refine r_ine (pc' := 8) rfl rfl ⟨by omega, by omega⟩ ⟨by decide, by decide⟩ (fun hc11 => ?_) (fun hc11 => ?_)
  · skip
    refine r_c0 (pc' := 68) rfl rfl ?_
    exact r_rz rfl (by omega) (po_I hst ⟨by decide, by decide⟩ ⟨rfl, rfl, rfl, by omega, by omega, (by first | omega | assumption)⟩)
  · skip
    refine r_ld (pc' := 9) rfl rfl rfl rfl ?_
    have hb12 := rd_225_9 hw
    refine r_gl (pc' := 12) rfl rfl sh_225 rfl rfl ?_
    refine r_al (pc' := 15) rfl rfl rfl rfl ?_
    refine r_leq (pc' := 19) rfl rfl rfl ⟨by omega, by omega⟩ ⟨by decide, by decide⟩ (fun hc13 => ?_) (fun hc13 => ?_)
    · skip
      refine r_c0 (pc' := 68) rfl rfl ?_
      exact r_rz rfl (by omega) (po_I hst ⟨by decide, by decide⟩ ⟨rfl, rfl, rfl, by omega, by omega, (by first | omega | assumption)⟩)
    · skip
      refine r_ld (pc' := 20) rfl rfl rfl rfl ?_
      refine r_gl (pc' := 23) rfl rfl sh_225 rfl rfl ?_
      refine r_al (pc' := 26) rfl rfl rfl rfl ?_
      refine r_leq (pc' := 30) rfl rfl rfl ⟨by omega, by omega⟩ ⟨by decide, by decide⟩ (fun hc14 => ?_) (fun hc14 => ?_)
      · skip
        refine r_c0 (pc' := 68) rfl rfl ?_
        exact r_rz rfl (by omega) (po_I hst ⟨by decide, by decide⟩ ⟨rfl, rfl, rfl, by omega, by omega, (by first | omega | assumption)⟩)
      · skip
        refine r_ld (pc' := 31) rfl rfl rfl rfl ?_
        refine r_gl (pc' := 34) rfl rfl sh_225 rfl rfl ?_
        refine r_al (pc' := 37) rfl rfl rfl rfl ?_
        refine r_leq (pc' := 41) rfl rfl rfl ⟨by omega, by omega⟩ ⟨by decide, by decide⟩ (fun hc15 => ?_) (fun hc15 => ?_)
        · skip
          refine r_c0 (pc' := 68) rfl rfl ?_
          exact r_rz rfl (by omega) (po_I hst ⟨by decide, by decide⟩ ⟨rfl, rfl, rfl, by omega, by omega, (by first | omega | assumption)⟩)
        · skip
          refine r_ld (pc' := 42) rfl rfl rfl rfl ?_
          refine r_gl (pc' := 45) rfl rfl sh_225 rfl rfl ?_
          refine r_al (pc' := 48) rfl rfl rfl rfl ?_
          refine r_leq (pc' := 52) rfl rfl rfl ⟨by omega, by omega⟩ ⟨by decide, by decide⟩ (fun hc16 => ?_) (fun hc16 => ?_)
          · skip
            refine r_c0 (pc' := 68) rfl rfl ?_
            exact r_rz rfl (by omega) (po_I hst ⟨by decide, by decide⟩ ⟨rfl, rfl, rfl, by omega, by omega, (by first | omega | assumption)⟩)
          · skip
            refine r_ld (pc' := 53) rfl rfl rfl rfl ?_
            refine r_gl (pc' := 56) rfl rfl sh_225 rfl rfl ?_
            refine r_al (pc' := 59) rfl rfl rfl rfl ?_
            refine r_leq (pc' := 63) rfl rfl rfl ⟨by omega, by omega⟩ ⟨by decide, by decide⟩ (fun hc17 => ?_) (fun hc17 => ?_)
            · skip
              refine r_c0 (pc' := 68) rfl rfl ?_
              exact r_rz rfl (by omega) (po_I hst ⟨by decide, by decide⟩ ⟨rfl, rfl, rfl, by omega, by omega, (by first | omega | assumption)⟩)
            · skip
              refine r_c0 (pc' := 64) rfl rfl ?_
              refine r_go rfl ?_
              exact r_rz rfl (by omega) (po_I hst ⟨by decide, by decide⟩ ⟨rfl, rfl, rfl, by omega, by omega, (by first | omega | assumption)⟩)
/-- LoopGroundModel nEdges -/
abbrev S_160  : mS := []
abbrev E_160  (z0 w0 : mZ) (x y tx it mt tt ct : Option Nat) : Int → mZ → mZ → mP → Prop := fun v z w p => p = (pq x y tx it mt tt ct) ∧ z0 = z ∧ w0 = w ∧ 0 ≤ v ∧ v ≤ 18 ∧ (v = 3 * z0 225 23 / 2)
theorem m_160 {d : Nat} {z0 w0 : mZ} {x y tx it mt tt ct : Option Nat}  (hz : rz z0) (hw : rw_ w0) : wc (d + 1) 160 [.ref 225] (mk z0 w0 (pq x y tx it mt tt ct)) (poI S_160 z0 w0 (E_160  z0 w0 x y tx it mt tt ct)) := by
  have hst : st_ S_160 z0 w0 z0 w0 := st_rf hz hw
  have hz2 := rd_225_23 hz
  refine w_m rfl rfl ?_
  refine r_c0 (pc' := 1) rfl rfl ?_
  refine r_ld (pc' := 2) rfl rfl rfl rfl ?_
  have hb3 := rd_225_23 hz
  refine r_gi (pc' := 5) rfl rfl sh_225 rfl rfl ?_
  refine r_mul (pc' := 6) rfl rfl ?_
  refine r_c0 (pc' := 7) rfl rfl ?_
  refine r_dv (pc' := 8) (v := (3 * (z0 225 23)) / 2) rfl rfl ⟨by omega, by omega⟩ ⟨by decide, by decide⟩ (by decide) (tdiv_n (by omega)) ?_
  exact r_ri rfl (po_I hst ⟨by omega, by omega⟩ ⟨rfl, rfl, rfl, by omega, by omega, (by first | omega | assumption)⟩)
/-- LoopGroundModel edges -/
abbrev S_161  : mS := []
abbrev E_161  (z0 w0 : mZ) (x y tx it mt tt ct : Option Nat) : Int → mZ → mZ → mP → Prop := fun v z w p => p = (pq x y tx it mt tt ct) ∧ z0 = z ∧ w0 = w ∧ 0 ≤ v ∧ v ≤ 18 ∧ (v = 3 * z0 225 26 / 2)
theorem m_161 {d : Nat} {z0 w0 : mZ} {x y tx it mt tt ct : Option Nat}  (hz : rz z0) (hw : rw_ w0) : wc (d + 1) 161 [.ref 225] (mk z0 w0 (pq x y tx it mt tt ct)) (poI S_161 z0 w0 (E_161  z0 w0 x y tx it mt tt ct)) := by
  have hst : st_ S_161 z0 w0 z0 w0 := st_rf hz hw
  have hz2 := rd_225_26 hz
  refine w_m rfl rfl ?_
  refine r_c0 (pc' := 1) rfl rfl ?_
  refine r_ld (pc' := 2) rfl rfl rfl rfl ?_
  have hb3 := rd_225_26 hz
  refine r_gi (pc' := 5) rfl rfl sh_225 rfl rfl ?_
  refine r_mul (pc' := 6) rfl rfl ?_
  refine r_c0 (pc' := 7) rfl rfl ?_
  refine r_dv (pc' := 8) (v := (3 * (z0 225 26)) / 2) rfl rfl ⟨by omega, by omega⟩ ⟨by decide, by decide⟩ (by decide) (tdiv_n (by omega)) ?_
  exact r_ri rfl (po_I hst ⟨by omega, by omega⟩ ⟨rfl, rfl, rfl, by omega, by omega, (by first | omega | assumption)⟩)
/-- LoopGroundModel hangs -/
abbrev S_164  : mS := []
abbrev E_164 (a1 : Int) (a2 : Int) (z0 w0 : mZ) (x y tx it mt tt ct : Option Nat) : Int → mZ → mZ → mP → Prop := fun v z w p => p = (pq x y tx it mt tt ct) ∧ z0 = z ∧ w0 = w ∧ 0 ≤ v ∧ v ≤ 1
theorem m_164 {d : Nat} {z0 w0 : mZ} {x y tx it mt tt ct : Option Nat} (a1 : Int) (a2 : Int) (hz : rz z0) (hw : rw_ w0) (ha1 : 0 ≤ a1 ∧ a1 ≤ 11) (ha2 : 0 ≤ a2 ∧ a2 ≤ 11) : wc (d + 1) 164 [.ref 225, .int (Int32.ofInt a1), .int (Int32.ofInt a2)] (mk z0 w0 (pq x y tx it mt tt ct)) (poI S_164 z0 w0 (E_164 a1 a2 z0 w0 x y tx it mt tt ct)) := by
  have hst : st_ S_164 z0 w0 z0 w0 := st_rf hz hw
  have key : ∀ N : Nat, (∀ (x3 x4 : Int) , 0 ≤ x3 ∧ x3 ≤ 1 → 0 ≤ x4 ∧ x4 ≤ 9 → 38 * (9 - x4) + 33 < (N : Int) → wp_ (d) 164 5 (some .boolean) (5, [(0, .ref 225), (1, .int (Int32.ofInt a1)), (2, .int (Int32.ofInt a2)), (3, .int (Int32.ofInt x3)), (4, .int (Int32.ofInt x4))], [], mk z0 w0 (pq x y tx it mt tt ct)) (poI S_164 z0 w0 (E_164 a1 a2 z0 w0 x y tx it mt tt ct))) ∧ (∀ (x4 : Int) , 0 ≤ x4 ∧ x4 ≤ 8 → 38 * (9 - x4) + 6 < (N : Int) → wp_ (d) 164 5 (some .boolean) (45, [(0, .ref 225), (1, .int (Int32.ofInt a1)), (2, .int (Int32.ofInt a2)), (4, .int (Int32.ofInt x4))], [], mk z0 w0 (pq x y tx it mt tt ct)) (poI S_164 z0 w0 (E_164 a1 a2 z0 w0 x y tx it mt tt ct))) := by
    intro N
    induction N with
    | zero =>
      refine ⟨?_, ?_⟩
      · intro x3 x4 
        intros; exfalso; omega
      · intro x4 
        intros; exfalso; omega
    | succ N ih =>
      obtain ⟨ih0, ih1⟩ := ih
      refine ⟨?_, ?_⟩
      · intro x3 x4  hx3 hx4 hM
        refine r_ld (pc' := 7) rfl rfl rfl rfl ?_
        refine r_cb (pc' := 9) rfl (by decide) rfl ?_
        refine r_ige (pc' := 12) rfl rfl ⟨by omega, by omega⟩ ⟨by decide, by decide⟩ (fun hc6 => ?_) (fun hc6 => ?_)
        · skip
          refine r_ld (pc' := 58) rfl rfl rfl rfl ?_
          exact r_rz rfl (by omega) (po_I hst ⟨by omega, by omega⟩ ⟨rfl, rfl, rfl, by omega, by omega⟩)
        · skip
          refine r_ld (pc' := 13) rfl rfl rfl rfl ?_
          refine r_zne (pc' := 16) rfl rfl ⟨by omega, by omega⟩ (fun hc7 => ?_) (fun hc7 => ?_)
          · skip
            exact w_lv (sub_c rfl (sub_c rfl (sub_c rfl (sub_c rfl sub_n)))) rfl (ih1 x4 ⟨by omega, by omega⟩ (by omega))
          · skip
            refine r_ld (pc' := 17) rfl rfl rfl rfl ?_
            refine r_gr (b := 229) (pc' := 20) rfl rfl sh_225 rfl pp_225_12 ?_
            refine r_c0 (pc' := 21) rfl rfl ?_
            refine r_ld (pc' := 22) rfl rfl rfl rfl ?_
            refine r_mul (pc' := 23) rfl rfl ?_
            refine r_ld (pc' := 25) rfl rfl rfl rfl ?_
            refine r_c0 (pc' := 26) rfl rfl ?_
            refine r_dv (pc' := 27) (v := x4 / 3) rfl rfl ⟨by omega, by omega⟩ ⟨by decide, by decide⟩ (by decide) (tdiv_n (by omega)) ?_
            refine r_add (pc' := 28) rfl rfl ?_
            have hb8 := rd_229 hz (i := ((3 * a1) + (x4 / 3)).toNat) (by omega)
            refine r_ia (pc' := 29) rfl rfl sh_229 rfl (by omega) (by omega) rfl ?_
            refine r_ld (pc' := 30) rfl rfl rfl rfl ?_
            refine r_gr (b := 229) (pc' := 33) rfl rfl sh_225 rfl pp_225_12 ?_
            refine r_c0 (pc' := 34) rfl rfl ?_
            refine r_ld (pc' := 35) rfl rfl rfl rfl ?_
            refine r_mul (pc' := 36) rfl rfl ?_
            refine r_ld (pc' := 38) rfl rfl rfl rfl ?_
            refine r_c0 (pc' := 39) rfl rfl ?_
            refine r_rm (pc' := 40) (v := x4 % 3) rfl rfl ⟨by omega, by omega⟩ ⟨by decide, by decide⟩ (by decide) (tmod_n (by omega)) ?_
            refine r_add (pc' := 41) rfl rfl ?_
            have hb9 := rd_229 hz (i := ((3 * a2) + (x4 % 3)).toNat) (by omega)
            refine r_ia (pc' := 42) rfl rfl sh_229 rfl (by omega) (by omega) rfl ?_
            refine r_ine (pc' := 45) rfl rfl ⟨by omega, by omega⟩ ⟨by omega, by omega⟩ (fun hc10 => ?_) (fun hc10 => ?_)
            · skip
              refine r_c0 (pc' := 50) rfl rfl ?_
              refine r_st (pc' := 51) (lv' := [(3, _), (0, _), (1, _), (2, _), (4, _)]) rfl rfl rfl rfl ?_
              refine r_inc (pc' := 54) (lv' := [(3, _), (0, _), (1, _), (2, _)]) rfl rfl rfl rfl rfl ?_
              refine r_go rfl ?_
              exact w_lv (sub_c rfl (sub_c rfl (sub_c rfl (sub_c rfl (sub_c rfl sub_n))))) rfl (ih0 0 (x4 + 1) ⟨by omega, by omega⟩ ⟨by omega, by omega⟩ (by omega))
            · skip
              exact w_lv (sub_c rfl (sub_c rfl (sub_c rfl (sub_c rfl sub_n)))) rfl (ih1 x4 ⟨by omega, by omega⟩ (by omega))
      · intro x4  hx4 hM
        refine r_c0 (pc' := 46) rfl rfl ?_
        refine r_go rfl ?_
        refine r_st (pc' := 51) (lv' := [(3, _), (0, _), (1, _), (2, _), (4, _)]) rfl rfl rfl rfl ?_
        refine r_inc (pc' := 54) (lv' := [(3, _), (0, _), (1, _), (2, _)]) rfl rfl rfl rfl rfl ?_
        refine r_go rfl ?_
        exact w_lv (sub_c rfl (sub_c rfl (sub_c rfl (sub_c rfl (sub_c rfl sub_n))))) rfl (ih0 1 (x4 + 1) ⟨by omega, by omega⟩ ⟨by omega, by omega⟩ (by omega))
  refine w_m rfl rfl ?_
  refine r_c0 (pc' := 1) rfl rfl ?_
  refine r_st (pc' := 2) (lv' := [(3, _), (0, _), (1, _), (2, _)]) rfl rfl rfl rfl ?_
  refine r_c0 (pc' := 3) rfl rfl ?_
  refine r_st (pc' := 5) (lv' := [(4, _), (3, _), (0, _), (1, _), (2, _)]) rfl rfl rfl rfl ?_
  exact w_lv (sub_c rfl (sub_c rfl (sub_c rfl (sub_c rfl (sub_c rfl sub_n))))) rfl ((key ((38 * (9 - 0) + 33 : Int).toNat + 1)).1 0 0 ⟨by omega, by omega⟩ ⟨by omega, by omega⟩ (by omega))
/-- LoopGroundModel findLine -/
abbrev S_165  : mS := []
abbrev E_165  (z0 w0 : mZ) (x y tx it mt tt ct : Option Nat) : Int → mZ → mZ → mP → Prop := fun v z w p => p = (pq x y tx it mt tt ct) ∧ z0 = z ∧ w0 = w ∧ (-1) ≤ v ∧ v ≤ 7
theorem m_165 {d : Nat} {z0 w0 : mZ} {x y tx it mt tt ct : Option Nat}  (hz : rz z0) (hw : rw_ w0) : wc (d + 1) 165 [.ref 225] (mk z0 w0 (pq x y tx it mt tt ct)) (poI S_165 z0 w0 (E_165  z0 w0 x y tx it mt tt ct)) := by
  have hst : st_ S_165 z0 w0 z0 w0 := st_rf hz hw
  have key : ∀ N : Nat, (∀ (x1 x2 : Int) , (-1) ≤ x1 ∧ x1 ≤ 7 → 0 ≤ x2 ∧ x2 ≤ 8 → 24 * (8 - x2) + 19 < (N : Int) → wp_ (d) 165 3 (some .int) (4, [(0, .ref 225), (1, .int (Int32.ofInt x1)), (2, .int (Int32.ofInt x2))], [], mk z0 w0 (pq x y tx it mt tt ct)) (poI S_165 z0 w0 (E_165  z0 w0 x y tx it mt tt ct))) := by
    intro N
    induction N with
    | zero =>
      intro x1 x2 
      intros; exfalso; omega
    | succ N ih =>
      have ih0 := ih; clear ih
      intro x1 x2  hx1 hx2 hM
      refine r_ld (pc' := 5) rfl rfl rfl rfl ?_
      refine r_ld (pc' := 6) rfl rfl rfl rfl ?_
      have hb6 := rd_225_24 hz
      refine r_gi (pc' := 9) rfl rfl sh_225 rfl rfl ?_
      refine r_ige (pc' := 12) rfl rfl ⟨by omega, by omega⟩ ⟨by omega, by omega⟩ (fun hc7 => ?_) (fun hc7 => ?_)
      · skip
        refine r_ld (pc' := 39) rfl rfl rfl rfl ?_
        exact r_ri rfl (po_I hst ⟨by omega, by omega⟩ ⟨rfl, rfl, rfl, by omega, by omega⟩)
      · skip
        refine r_ld (pc' := 13) rfl rfl rfl rfl ?_
        refine r_gr (b := 227) (pc' := 16) rfl rfl sh_225 rfl pp_225_10 ?_
        refine r_ld (pc' := 17) rfl rfl rfl rfl ?_
        have hb8 := rd_227 hw (i := x2.toNat) (by omega)
        refine r_la (pc' := 18) rfl rfl sh_227 rfl (by omega) (by omega) rfl ?_
        refine r_ld (pc' := 19) rfl rfl rfl rfl ?_
        have hb9 := rd_225_9 hw
        refine r_gl (pc' := 22) rfl rfl sh_225 rfl rfl ?_
        refine r_lne (pc' := 26) rfl rfl rfl ⟨by omega, by omega⟩ ⟨by omega, by omega⟩ (fun hc10 => ?_) (fun hc10 => ?_)
        · skip
          refine r_ld (pc' := 31) rfl rfl rfl rfl ?_
          refine r_st (pc' := 32) (lv' := [(1, _), (0, _), (2, _)]) rfl rfl rfl rfl ?_
          refine r_inc (pc' := 35) (lv' := [(1, _), (0, _)]) rfl rfl rfl rfl rfl ?_
          refine r_go rfl ?_
          exact w_lv (sub_c rfl (sub_c rfl (sub_c rfl sub_n))) rfl (ih0 x1 (x2 + 1) ⟨by omega, by omega⟩ ⟨by omega, by omega⟩ (by omega))
        · skip
          refine r_ld (pc' := 27) rfl rfl rfl rfl ?_
          refine r_go rfl ?_
          refine r_st (pc' := 32) (lv' := [(1, _), (0, _), (2, _)]) rfl rfl rfl rfl ?_
          refine r_inc (pc' := 35) (lv' := [(1, _), (0, _)]) rfl rfl rfl rfl rfl ?_
          refine r_go rfl ?_
          exact w_lv (sub_c rfl (sub_c rfl (sub_c rfl sub_n))) rfl (ih0 x2 (x2 + 1) ⟨by omega, by omega⟩ ⟨by omega, by omega⟩ (by omega))
  refine w_m rfl rfl ?_
  refine r_c0 (pc' := 1) rfl rfl ?_
  refine r_st (pc' := 2) (lv' := [(1, _), (0, _)]) rfl rfl rfl rfl ?_
  refine r_c0 (pc' := 3) rfl rfl ?_
  refine r_st (pc' := 4) (lv' := [(2, _), (1, _), (0, _)]) rfl rfl rfl rfl ?_
  exact w_lv (sub_c rfl (sub_c rfl (sub_c rfl sub_n))) rfl ((key ((24 * (8 - 0) + 19 : Int).toNat + 1)) ((-1)) 0 ⟨by omega, by omega⟩ ⟨by omega, by omega⟩ (by omega))
/-- LoopGroundModel isLine -/
abbrev S_173  : mS := []
abbrev E_173 (a1 : Int) (z0 w0 : mZ) (x y tx it mt tt ct : Option Nat) : Int → mZ → mZ → mP → Prop := fun v z w p => p = (pq x y tx it mt tt ct) ∧ z0 = z ∧ w0 = w ∧ 0 ≤ v ∧ v ≤ 1 ∧ ((v = 1 ∧ 0 ≤ a1 ∧ a1 < z0 225 27) ∨ (v = 0 ∧ (a1 < 0 ∨ z0 225 27 ≤ a1)))
theorem m_173 {d : Nat} {z0 w0 : mZ} {x y tx it mt tt ct : Option Nat} (a1 : Int) (hz : rz z0) (hw : rw_ w0) (ha1 : (-2147483648) ≤ a1 ∧ a1 ≤ 2147483647) : wc (d + 1) 173 [.ref 225, .int (Int32.ofInt a1)] (mk z0 w0 (pq x y tx it mt tt ct)) (poI S_173 z0 w0 (E_173 a1 z0 w0 x y tx it mt tt ct)) := by
  have hst : st_ S_173 z0 w0 z0 w0 := st_rf hz hw
  have hz4 := rd_225_27 hz
  refine w_m rfl rfl ?_
  refine r_ld (pc' := 1) rfl rfl rfl rfl ?_
  refine r_zlt (pc' := 4) rfl rfl ⟨by omega, by omega⟩ (fun hc5 => ?_) (fun hc5 => ?_)
  · skip
    refine r_c0 (pc' := 17) rfl rfl ?_
    exact r_rz rfl (by omega) (po_I hst ⟨by decide, by decide⟩ ⟨rfl, rfl, rfl, by omega, by omega, (by first | omega | assumption)⟩)
  · skip
    refine r_ld (pc' := 5) rfl rfl rfl rfl ?_
    refine r_ld (pc' := 6) rfl rfl rfl rfl ?_
    have hb6 := rd_225_27 hz
    refine r_gi (pc' := 9) rfl rfl sh_225 rfl rfl ?_
    refine r_ige (pc' := 12) rfl rfl ⟨by omega, by omega⟩ ⟨by omega, by omega⟩ (fun hc7 => ?_) (fun hc7 => ?_)
    · skip
      refine r_c0 (pc' := 17) rfl rfl ?_
      exact r_rz rfl (by omega) (po_I hst ⟨by decide, by decide⟩ ⟨rfl, rfl, rfl, by omega, by omega, (by first | omega | assumption)⟩)
    · skip
      refine r_c0 (pc' := 13) rfl rfl ?_
      refine r_go rfl ?_
      exact r_rz rfl (by omega) (po_I hst ⟨by decide, by decide⟩ ⟨rfl, rfl, rfl, by omega, by omega, (by first | omega | assumption)⟩)
/-- LoopGroundModel isWordOf -/
abbrev S_174  : mS := []
abbrev E_174 (a1 : Int) (z0 w0 : mZ) (x y tx it mt tt ct : Option Nat) : Int → mZ → mZ → mP → Prop := fun v z w p => p = (pq x y tx it mt tt ct) ∧ z0 = z ∧ w0 = w ∧ 0 ≤ v ∧ v ≤ 1 ∧ ((v = 1 ∧ 0 ≤ a1 ∧ a1 < z0 225 28) ∨ (v = 0 ∧ (a1 < 0 ∨ z0 225 28 ≤ a1)))
theorem m_174 {d : Nat} {z0 w0 : mZ} {x y tx it mt tt ct : Option Nat} (a1 : Int) (hz : rz z0) (hw : rw_ w0) (ha1 : (-2147483648) ≤ a1 ∧ a1 ≤ 2147483647) : wc (d + 1) 174 [.ref 225, .int (Int32.ofInt a1)] (mk z0 w0 (pq x y tx it mt tt ct)) (poI S_174 z0 w0 (E_174 a1 z0 w0 x y tx it mt tt ct)) := by
  have hst : st_ S_174 z0 w0 z0 w0 := st_rf hz hw
  have hz4 := rd_225_28 hz
  refine w_m rfl rfl ?_
  refine r_ld (pc' := 1) rfl rfl rfl rfl ?_
  refine r_zlt (pc' := 4) rfl rfl ⟨by omega, by omega⟩ (fun hc5 => ?_) (fun hc5 => ?_)
  · skip
    refine r_c0 (pc' := 17) rfl rfl ?_
    exact r_rz rfl (by omega) (po_I hst ⟨by decide, by decide⟩ ⟨rfl, rfl, rfl, by omega, by omega, (by first | omega | assumption)⟩)
  · skip
    refine r_ld (pc' := 5) rfl rfl rfl rfl ?_
    refine r_ld (pc' := 6) rfl rfl rfl rfl ?_
    have hb6 := rd_225_28 hz
    refine r_gi (pc' := 9) rfl rfl sh_225 rfl rfl ?_
    refine r_ige (pc' := 12) rfl rfl ⟨by omega, by omega⟩ ⟨by omega, by omega⟩ (fun hc7 => ?_) (fun hc7 => ?_)
    · skip
      refine r_c0 (pc' := 17) rfl rfl ?_
      exact r_rz rfl (by omega) (po_I hst ⟨by decide, by decide⟩ ⟨rfl, rfl, rfl, by omega, by omega, (by first | omega | assumption)⟩)
    · skip
      refine r_c0 (pc' := 13) rfl rfl ?_
      refine r_go rfl ?_
      exact r_rz rfl (by omega) (po_I hst ⟨by decide, by decide⟩ ⟨rfl, rfl, rfl, by omega, by omega, (by first | omega | assumption)⟩)
/-- LoopGroundModel take -/
abbrev S_204  : mS := [(259, 259, 0, 17), (258, 258, 0, 323)]
abbrev E_204 (a1 : Int) (a2 : Int) (a3 : Int) (a4 : Int) (a5 : Int) (a6 : Int) (a7 : Int) (z0 w0 : mZ) (x y tx it mt tt ct : Option Nat) : mZ → mZ → mP → Prop := fun z w p => p = (pq x y tx it mt tt ct)
theorem m_204 {d : Nat} {z0 w0 : mZ} {x y tx it mt tt ct : Option Nat} (a1 : Int) (a2 : Int) (a3 : Int) (a4 : Int) (a5 : Int) (a6 : Int) (a7 : Int) (hz : rz z0) (hw : rw_ w0) (ha1 : 0 ≤ a1 ∧ a1 ≤ 17) (ha2 : 0 ≤ a2 ∧ a2 ≤ 1) (ha3 : 0 ≤ a3 ∧ a3 ≤ 17) (ha4 : 0 ≤ a4 ∧ a4 ≤ 17) (ha5 : 0 ≤ a5 ∧ a5 ≤ 17) (ha6 : 0 ≤ a6 ∧ a6 ≤ 17) (ha7 : 0 ≤ a7 ∧ a7 ≤ 17) : wc (d + 1) 204 [.ref 225, .int (Int32.ofInt a1), .int (Int32.ofInt a2), .int (Int32.ofInt a3), .int (Int32.ofInt a4), .int (Int32.ofInt a5), .int (Int32.ofInt a6), .int (Int32.ofInt a7)] (mk z0 w0 (pq x y tx it mt tt ct)) (poV S_204 z0 w0 (E_204 a1 a2 a3 a4 a5 a6 a7 z0 w0 x y tx it mt tt ct)) := by
  have hst : st_ S_204 z0 w0 z0 w0 := st_rf hz hw
  have key : ∀ N : Nat, (∀ (x8 : Int) (z w : mZ), 0 ≤ x8 ∧ x8 ≤ 18 → 1 ≤ z0 225 59 ∧ z0 225 59 ≤ 1 → st_ S_204 z0 w0 z w → 89 * (18 - x8) + 1862 < (N : Int) → wp_ (d) 204 11 none (11, [(0, .ref 225), (1, .int (Int32.ofInt a1)), (2, .int (Int32.ofInt a2)), (3, .int (Int32.ofInt a3)), (4, .int (Int32.ofInt a4)), (5, .int (Int32.ofInt a5)), (6, .int (Int32.ofInt a6)), (7, .int (Int32.ofInt a7)), (8, .int (Int32.ofInt x8))], [], mk z w (pq x y tx it mt tt ct)) (poV S_204 z0 w0 (E_204 a1 a2 a3 a4 a5 a6 a7 z0 w0 x y tx it mt tt ct))) ∧ (∀ (x8 : Int) (z w : mZ), 0 ≤ x8 ∧ x8 ≤ 18 → 1 ≤ z0 225 59 ∧ z0 225 59 ≤ 1 → st_ S_204 z0 w0 z w → 89 * (18 - x8) + 17 < (N : Int) → wp_ (d) 204 11 none (124, [(0, .ref 225), (1, .int (Int32.ofInt a1)), (8, .int (Int32.ofInt x8))], [], mk z w (pq x y tx it mt tt ct)) (poV S_204 z0 w0 (E_204 a1 a2 a3 a4 a5 a6 a7 z0 w0 x y tx it mt tt ct))) := by
    intro N
    induction N with
    | zero =>
      refine ⟨?_, ?_⟩
      · intro x8 z w
        intros; exfalso; omega
      · intro x8 z w
        intros; exfalso; omega
    | succ N ih =>
      obtain ⟨ih0, ih1⟩ := ih
      refine ⟨?_, ?_⟩
      · intro x8 z w  hx8 hz0_0 hst hM
        refine r_ld (pc' := 13) rfl rfl rfl rfl ?_
        refine r_cb (pc' := 15) rfl (by decide) rfl ?_
        refine r_ige (pc' := 18) rfl rfl ⟨by omega, by omega⟩ ⟨by decide, by decide⟩ (fun hc42 => ?_) (fun hc42 => ?_)
        · skip
          refine r_c0 (pc' := 122) rfl rfl ?_
          refine r_st (pc' := 124) (lv' := [(8, _), (0, _), (1, _), (2, _), (3, _), (4, _), (5, _), (6, _), (7, _)]) rfl rfl rfl rfl ?_
          exact w_lv (sub_c rfl (sub_c rfl (sub_c rfl sub_n))) rfl (ih1 0 z w ⟨by omega, by omega⟩ ⟨by omega, by omega⟩ hst (by omega))
        · skip
          refine r_ld (pc' := 19) rfl rfl rfl rfl ?_
          refine r_zeq (pc' := 22) rfl rfl ⟨by omega, by omega⟩ (fun hc43 => ?_) (fun hc43 => ?_)
          · skip
            refine r_ld (pc' := 53) rfl rfl rfl rfl ?_
            refine r_gr (b := 258) (pc' := 56) rfl rfl sh_225 rfl pp_225_56 ?_
            refine r_cb (pc' := 58) rfl (by decide) rfl ?_
            refine r_ld (pc' := 59) rfl rfl rfl rfl ?_
            refine r_mul (pc' := 60) rfl rfl ?_
            refine r_ld (pc' := 62) rfl rfl rfl rfl ?_
            refine r_add (pc' := 63) rfl rfl ?_
            have hb44 := rd_258 hst.2.1 (i := ((18 * a3) + x8).toNat) (by omega)
            refine r_la (pc' := 64) rfl rfl sh_258 rfl (by omega) (by omega) rfl ?_
            refine r_ld (pc' := 65) rfl rfl rfl rfl ?_
            refine r_gr (b := 258) (pc' := 68) rfl rfl sh_225 rfl pp_225_56 ?_
            refine r_cb (pc' := 70) rfl (by decide) rfl ?_
            refine r_ld (pc' := 72) rfl rfl rfl rfl ?_
            refine r_mul (pc' := 73) rfl rfl ?_
            refine r_ld (pc' := 75) rfl rfl rfl rfl ?_
            refine r_add (pc' := 76) rfl rfl ?_
            have hb45 := rd_258 hst.2.1 (i := ((18 * a4) + x8).toNat) (by omega)
            refine r_la (pc' := 77) rfl rfl sh_258 rfl (by omega) (by omega) rfl ?_
            refine r_ladd (pc' := 78) rfl rfl ?_
            refine w_hxl (fun v46 h47 h48 => ?_)
            refine r_st (pc' := 80) (lv' := [(9, _), (0, _), (1, _), (2, _), (3, _), (4, _), (5, _), (6, _), (7, _), (8, _)]) rfl rfl rfl rfl ?_
            refine r_ld (pc' := 81) rfl rfl rfl rfl ?_
            refine r_gr (b := 259) (pc' := 84) rfl rfl sh_225 rfl pp_225_57 ?_
            refine r_ld (pc' := 86) rfl rfl rfl rfl ?_
            refine r_ld (pc' := 88) rfl rfl rfl rfl ?_
            refine r_ld (pc' := 89) rfl rfl rfl rfl ?_
            refine r_gr (b := 258) (pc' := 92) rfl rfl sh_225 rfl pp_225_56 ?_
            refine r_cb (pc' := 94) rfl (by decide) rfl ?_
            refine r_ld (pc' := 96) rfl rfl rfl rfl ?_
            refine r_mul (pc' := 97) rfl rfl ?_
            refine r_ld (pc' := 99) rfl rfl rfl rfl ?_
            refine r_add (pc' := 100) rfl rfl ?_
            have hb49 := rd_258 hst.2.1 (i := ((18 * a7) + x8).toNat) (by omega)
            refine r_la (pc' := 101) rfl rfl sh_258 rfl (by omega) (by omega) rfl ?_
            refine r_lsub (pc' := 102) rfl rfl ?_
            refine w_hxl (fun v50 h51 h52 => ?_)
            refine r_al (pc' := 105) rfl rfl rfl rfl ?_
            refine r_lrmh (pc' := 106) rfl rfl ⟨by decide, by decide⟩ (by decide) (fun v53 h54 h55 h56 => ?_)
            refine r_al (pc' := 109) rfl rfl rfl rfl ?_
            refine r_ladd (pc' := 110) rfl rfl ?_
            refine r_al (pc' := 113) rfl rfl rfl rfl ?_
            refine r_lrm (pc' := 114) (v := (v53 + 1000003) % 1000003) rfl rfl ⟨by omega, by omega⟩ ⟨by decide, by decide⟩ (by decide) (tmod_n (by omega)) ?_
            refine r_ls (pc' := 115) rfl rfl sh_259 rfl (by omega) (by omega) hst (inS_0 (by omega) (by omega) (by omega) (by omega)) (wr_259 ⟨by omega, by omega⟩) (fun w57 hq58 hs59 => ?_)
            refine r_inc (pc' := 118) (lv' := [(9, _), (0, _), (1, _), (2, _), (3, _), (4, _), (5, _), (6, _), (7, _)]) rfl rfl rfl rfl rfl ?_
            refine r_go rfl ?_
            exact w_lv (sub_c rfl (sub_c rfl (sub_c rfl (sub_c rfl (sub_c rfl (sub_c rfl (sub_c rfl (sub_c rfl (sub_c rfl sub_n))))))))) rfl (ih0 (x8 + 1) z w57 ⟨by omega, by omega⟩ ⟨by omega, by omega⟩ hs59 (by omega))
          · skip
            refine r_ld (pc' := 23) rfl rfl rfl rfl ?_
            refine r_gr (b := 258) (pc' := 26) rfl rfl sh_225 rfl pp_225_56 ?_
            refine r_cb (pc' := 28) rfl (by decide) rfl ?_
            refine r_ld (pc' := 30) rfl rfl rfl rfl ?_
            refine r_mul (pc' := 31) rfl rfl ?_
            refine r_ld (pc' := 33) rfl rfl rfl rfl ?_
            refine r_add (pc' := 34) rfl rfl ?_
            have hb60 := rd_258 hst.2.1 (i := ((18 * a5) + x8).toNat) (by omega)
            refine r_la (pc' := 35) rfl rfl sh_258 rfl (by omega) (by omega) rfl ?_
            refine r_ld (pc' := 36) rfl rfl rfl rfl ?_
            refine r_gr (b := 258) (pc' := 39) rfl rfl sh_225 rfl pp_225_56 ?_
            refine r_cb (pc' := 41) rfl (by decide) rfl ?_
            refine r_ld (pc' := 43) rfl rfl rfl rfl ?_
            refine r_mul (pc' := 44) rfl rfl ?_
            refine r_ld (pc' := 46) rfl rfl rfl rfl ?_
            refine r_add (pc' := 47) rfl rfl ?_
            have hb61 := rd_258 hst.2.1 (i := ((18 * a6) + x8).toNat) (by omega)
            refine r_la (pc' := 48) rfl rfl sh_258 rfl (by omega) (by omega) rfl ?_
            refine r_ladd (pc' := 49) rfl rfl ?_
            refine w_hxl (fun v62 h63 h64 => ?_)
            refine r_go rfl ?_
            refine r_st (pc' := 80) (lv' := [(9, _), (0, _), (1, _), (2, _), (3, _), (4, _), (5, _), (6, _), (7, _), (8, _)]) rfl rfl rfl rfl ?_
            refine r_ld (pc' := 81) rfl rfl rfl rfl ?_
            refine r_gr (b := 259) (pc' := 84) rfl rfl sh_225 rfl pp_225_57 ?_
            refine r_ld (pc' := 86) rfl rfl rfl rfl ?_
            refine r_ld (pc' := 88) rfl rfl rfl rfl ?_
            refine r_ld (pc' := 89) rfl rfl rfl rfl ?_
            refine r_gr (b := 258) (pc' := 92) rfl rfl sh_225 rfl pp_225_56 ?_
            refine r_cb (pc' := 94) rfl (by decide) rfl ?_
            refine r_ld (pc' := 96) rfl rfl rfl rfl ?_
            refine r_mul (pc' := 97) rfl rfl ?_
            refine r_ld (pc' := 99) rfl rfl rfl rfl ?_
            refine r_add (pc' := 100) rfl rfl ?_
            have hb65 := rd_258 hst.2.1 (i := ((18 * a7) + x8).toNat) (by omega)
            refine r_la (pc' := 101) rfl rfl sh_258 rfl (by omega) (by omega) rfl ?_
            refine r_lsub (pc' := 102) rfl rfl ?_
            refine w_hxl (fun v66 h67 h68 => ?_)
            refine r_al (pc' := 105) rfl rfl rfl rfl ?_
            refine r_lrmh (pc' := 106) rfl rfl ⟨by decide, by decide⟩ (by decide) (fun v69 h70 h71 h72 => ?_)
            refine r_al (pc' := 109) rfl rfl rfl rfl ?_
            refine r_ladd (pc' := 110) rfl rfl ?_
            refine r_al (pc' := 113) rfl rfl rfl rfl ?_
            refine r_lrm (pc' := 114) (v := (v69 + 1000003) % 1000003) rfl rfl ⟨by omega, by omega⟩ ⟨by decide, by decide⟩ (by decide) (tmod_n (by omega)) ?_
            refine r_ls (pc' := 115) rfl rfl sh_259 rfl (by omega) (by omega) hst (inS_0 (by omega) (by omega) (by omega) (by omega)) (wr_259 ⟨by omega, by omega⟩) (fun w73 hq74 hs75 => ?_)
            refine r_inc (pc' := 118) (lv' := [(9, _), (0, _), (1, _), (2, _), (3, _), (4, _), (5, _), (6, _), (7, _)]) rfl rfl rfl rfl rfl ?_
            refine r_go rfl ?_
            exact w_lv (sub_c rfl (sub_c rfl (sub_c rfl (sub_c rfl (sub_c rfl (sub_c rfl (sub_c rfl (sub_c rfl (sub_c rfl sub_n))))))))) rfl (ih0 (x8 + 1) z w73 ⟨by omega, by omega⟩ ⟨by omega, by omega⟩ hs75 (by omega))
      · intro x8 z w  hx8 hz0_0 hst hM
        refine r_ld (pc' := 126) rfl rfl rfl rfl ?_
        refine r_cb (pc' := 128) rfl (by decide) rfl ?_
        refine r_ige (pc' := 131) rfl rfl ⟨by omega, by omega⟩ ⟨by decide, by decide⟩ (fun hc76 => ?_) (fun hc76 => ?_)
        · skip
          exact r_ret rfl (po_V hst rfl)
        · skip
          refine r_ld (pc' := 132) rfl rfl rfl rfl ?_
          refine r_gr (b := 258) (pc' := 135) rfl rfl sh_225 rfl pp_225_56 ?_
          refine r_cb (pc' := 137) rfl (by decide) rfl ?_
          refine r_ld (pc' := 138) rfl rfl rfl rfl ?_
          refine r_mul (pc' := 139) rfl rfl ?_
          refine r_ld (pc' := 141) rfl rfl rfl rfl ?_
          refine r_add (pc' := 142) rfl rfl ?_
          refine r_ld (pc' := 143) rfl rfl rfl rfl ?_
          refine r_gr (b := 259) (pc' := 146) rfl rfl sh_225 rfl pp_225_57 ?_
          refine r_ld (pc' := 148) rfl rfl rfl rfl ?_
          have hb77 := rd_259 hst.2.1 (i := x8.toNat) (by omega)
          refine r_la (pc' := 149) rfl rfl sh_259 rfl (by omega) (by omega) rfl ?_
          refine r_ls (pc' := 150) rfl rfl sh_258 rfl (by omega) (by omega) hst (inS_s (inS_0 (by omega) (by omega) (by omega) (by omega))) (wr_258 ⟨by omega, by omega⟩) (fun w78 hq79 hs80 => ?_)
          refine r_inc (pc' := 153) (lv' := [(0, _), (1, _)]) rfl rfl rfl rfl rfl ?_
          refine r_go rfl ?_
          exact w_lv (sub_c rfl (sub_c rfl (sub_c rfl sub_n))) rfl (ih1 (x8 + 1) z w78 ⟨by omega, by omega⟩ ⟨by omega, by omega⟩ hs80 (by omega))
  refine w_m rfl rfl ?_
  refine r_ld (pc' := 1) rfl rfl rfl rfl ?_
  have hb81 := rd_225_59 hz
  refine r_gi (pc' := 4) rfl rfl sh_225 rfl rfl ?_
  refine r_zne (pc' := 7) rfl rfl ⟨by omega, by omega⟩ (fun hc82 => ?_) (fun hc82 => ?_)
  · skip
    refine r_c0 (pc' := 9) rfl rfl ?_
    refine r_st (pc' := 11) (lv' := [(8, _), (0, _), (1, _), (2, _), (3, _), (4, _), (5, _), (6, _), (7, _)]) rfl rfl rfl rfl ?_
    exact w_lv (sub_c rfl (sub_c rfl (sub_c rfl (sub_c rfl (sub_c rfl (sub_c rfl (sub_c rfl (sub_c rfl (sub_c rfl sub_n))))))))) rfl ((key ((89 * (18 - 0) + 1862 : Int).toNat + 1)).1 0 z0 w0 ⟨by omega, by omega⟩ ⟨by omega, by omega⟩ hst (by omega))
  · skip
    exact r_ret rfl (po_V hst rfl)
/-- LoopGroundModel far -/
abbrev S_214  : mS := []
abbrev E_214 (a0 : Int) (z0 w0 : mZ) (x y tx it mt tt ct : Option Nat) : Int → mZ → mZ → mP → Prop := fun v z w p => p = (pq x y tx it mt tt ct) ∧ z0 = z ∧ w0 = w ∧ (-9223372036854775808) ≤ v ∧ v ≤ 9223372036854775807
theorem m_214 {d : Nat} {z0 w0 : mZ} {x y tx it mt tt ct : Option Nat} (a0 : Int) (hz : rz z0) (hw : rw_ w0) (ha0 : (-9223372036854775808) ≤ a0 ∧ a0 ≤ 9223372036854775807) : wc (d + 1) 214 [.long (Int64.ofInt a0)] (mk z0 w0 (pq x y tx it mt tt ct)) (poL S_214 z0 w0 (E_214 a0 z0 w0 x y tx it mt tt ct)) := by
  have hst : st_ S_214 z0 w0 z0 w0 := st_rf hz hw
  refine w_m rfl rfl ?_
  refine r_ld (pc' := 1) rfl rfl rfl rfl ?_
  refine r_lc0 (pc' := 2) rfl rfl ?_
  refine r_lge (pc' := 6) rfl rfl rfl ⟨by omega, by omega⟩ ⟨by decide, by decide⟩ (fun hc5 => ?_) (fun hc5 => ?_)
  · skip
    refine r_ld (pc' := 12) rfl rfl rfl rfl ?_
    exact r_rl rfl (po_L hst ⟨by omega, by omega⟩ ⟨rfl, rfl, rfl, by omega, by omega⟩)
  · skip
    refine r_ld (pc' := 7) rfl rfl rfl rfl ?_
    refine r_lneg (pc' := 8) rfl rfl ?_
    refine w_hxl (fun v6 h7 h8 => ?_)
    refine r_go rfl ?_
    exact r_rl rfl (po_L hst ⟨by omega, by omega⟩ ⟨rfl, rfl, rfl, by omega, by omega⟩)
/-- LoopGroundModel raised -/
abbrev S_227  : mS := []
abbrev E_227 (a0 : Int) (a2 : Int) (z0 w0 : mZ) (x y tx it mt tt ct : Option Nat) : Int → mZ → mZ → mP → Prop := fun v z w p => p = (pq x y tx it mt tt ct) ∧ z0 = z ∧ w0 = w ∧ (-1000002) ≤ v ∧ v ≤ 1000002
theorem m_227 {d : Nat} {z0 w0 : mZ} {x y tx it mt tt ct : Option Nat} (a0 : Int) (a2 : Int) (hz : rz z0) (hw : rw_ w0) (ha0 : 1 ≤ a0 ∧ a0 ≤ 18) (ha2 : 0 ≤ a2 ∧ a2 ≤ 1000001) : wc (d + 1) 227 [.long (Int64.ofInt a0), .long (Int64.ofInt a2)] (mk z0 w0 (pq x y tx it mt tt ct)) (poL S_227 z0 w0 (E_227 a0 a2 z0 w0 x y tx it mt tt ct)) := by
  have hst : st_ S_227 z0 w0 z0 w0 := st_rf hz hw
  have key : ∀ N : Nat, (∀ (x4 x6 x8 : Int) , (-1000002) ≤ x4 ∧ x4 ≤ 1000002 → (-1000002) ≤ x6 ∧ x6 ≤ 1000002 → 0 ≤ x8 ∧ x8 ≤ 1000001 → 2 * x8 + 1 < (N : Int) → wp_ (d) 227 10 (some .long) (13, [(4, .long (Int64.ofInt x4)), (6, .long (Int64.ofInt x6)), (8, .long (Int64.ofInt x8))], [], mk z0 w0 (pq x y tx it mt tt ct)) (poL S_227 z0 w0 (E_227 a0 a2 z0 w0 x y tx it mt tt ct))) ∧ (∀ (x4 x6 x8 : Int) , (-1000002) ≤ x4 ∧ x4 ≤ 1000002 → (-1000002) ≤ x6 ∧ x6 ≤ 1000002 → 1 ≤ x8 ∧ x8 ≤ 1000001 → 2 * x8 < (N : Int) → wp_ (d) 227 10 (some .long) (40, [(4, .long (Int64.ofInt x4)), (6, .long (Int64.ofInt x6)), (8, .long (Int64.ofInt x8))], [], mk z0 w0 (pq x y tx it mt tt ct)) (poL S_227 z0 w0 (E_227 a0 a2 z0 w0 x y tx it mt tt ct))) := by
    intro N
    induction N with
    | zero =>
      refine ⟨?_, ?_⟩
      · intro x4 x6 x8 
        intros; exfalso; omega
      · intro x4 x6 x8 
        intros; exfalso; omega
    | succ N ih =>
      obtain ⟨ih0, ih1⟩ := ih
      refine ⟨?_, ?_⟩
      · intro x4 x6 x8  hx4 hx6 hx8 hM
        refine r_ld (pc' := 15) rfl rfl rfl rfl ?_
        refine r_lc0 (pc' := 16) rfl rfl ?_
        refine r_lle (pc' := 20) rfl rfl rfl ⟨by omega, by omega⟩ ⟨by decide, by decide⟩ (fun hc17 => ?_) (fun hc17 => ?_)
        · skip
          refine r_ld (pc' := 62) rfl rfl rfl rfl ?_
          exact r_rl rfl (po_L hst ⟨by omega, by omega⟩ ⟨rfl, rfl, rfl, by omega, by omega⟩)
        · skip
          refine r_ld (pc' := 22) rfl rfl rfl rfl ?_
          refine r_lc1 (pc' := 23) rfl rfl ?_
          refine r_aL (pc' := 24) rfl rfl rfl rfl (fun v18 h19 => ?_)
          unfold inL at h19
          refine r_lc1 (pc' := 25) rfl rfl ?_
          refine r_lne (pc' := 29) rfl rfl rfl ⟨by omega, by omega⟩ ⟨by decide, by decide⟩ (fun hc20 => ?_) (fun hc20 => ?_)
          · skip
            exact w_lv (sub_c rfl (sub_c rfl (sub_c rfl sub_n))) rfl (ih1 x4 x6 x8 ⟨by omega, by omega⟩ ⟨by omega, by omega⟩ ⟨by omega, by omega⟩ (by omega))
          · skip
            refine r_ld (pc' := 31) rfl rfl rfl rfl ?_
            refine r_ld (pc' := 33) rfl rfl rfl rfl ?_
            refine r_lmul (pc' := 34) rfl rfl ?_
            refine w_hl (fun v21 h22 => ?_)
            unfold inL at h22
            refine r_al (pc' := 37) rfl rfl rfl rfl ?_
            refine r_lrmh (pc' := 38) rfl rfl ⟨by decide, by decide⟩ (by decide) (fun v23 h24 h25 h26 => ?_)
            refine r_st (pc' := 40) (lv' := [(4, _), (6, _), (8, _)]) rfl rfl rfl rfl ?_
            exact w_lv (sub_c rfl (sub_c rfl (sub_c rfl sub_n))) rfl (ih1 v23 x6 x8 ⟨by omega, by omega⟩ ⟨by omega, by omega⟩ ⟨by omega, by omega⟩ (by omega))
      · intro x4 x6 x8  hx4 hx6 hx8 hM
        refine r_ld (pc' := 42) rfl rfl rfl rfl ?_
        refine r_ld (pc' := 44) rfl rfl rfl rfl ?_
        refine r_lmul (pc' := 45) rfl rfl ?_
        refine w_hl (fun v27 h28 => ?_)
        unfold inL at h28
        refine r_al (pc' := 48) rfl rfl rfl rfl ?_
        refine r_lrmh (pc' := 49) rfl rfl ⟨by decide, by decide⟩ (by decide) (fun v29 h30 h31 h32 => ?_)
        refine r_st (pc' := 51) (lv' := [(6, _), (4, _), (8, _)]) rfl rfl rfl rfl ?_
        refine r_ld (pc' := 53) rfl rfl rfl rfl ?_
        refine r_c0 (pc' := 54) rfl rfl ?_
        refine r_lshr1 (pc' := 55) rfl rfl ⟨by omega, by omega⟩ ?_
        refine r_st (pc' := 57) (lv' := [(8, _), (6, _), (4, _)]) rfl rfl rfl rfl ?_
        refine r_go rfl ?_
        exact w_lv (sub_c rfl (sub_c rfl (sub_c rfl sub_n))) rfl (ih0 x4 v29 (x8 / 2) ⟨by omega, by omega⟩ ⟨by omega, by omega⟩ ⟨by omega, by omega⟩ (by omega))
  refine w_m rfl rfl ?_
  refine r_lc1 (pc' := 1) rfl rfl ?_
  refine r_st (pc' := 3) (lv' := [(4, _), (0, _), (2, _)]) rfl rfl rfl rfl ?_
  refine r_ld (pc' := 4) rfl rfl rfl rfl ?_
  refine r_al (pc' := 7) rfl rfl rfl rfl ?_
  refine r_lrm (pc' := 8) (v := a0 % 1000003) rfl rfl ⟨by omega, by omega⟩ ⟨by decide, by decide⟩ (by decide) (tmod_n (by omega)) ?_
  refine r_st (pc' := 10) (lv' := [(6, _), (4, _), (0, _), (2, _)]) rfl rfl rfl rfl ?_
  refine r_ld (pc' := 11) rfl rfl rfl rfl ?_
  refine r_st (pc' := 13) (lv' := [(8, _), (6, _), (4, _), (0, _), (2, _)]) rfl rfl rfl rfl ?_
  exact w_lv (sub_c rfl (sub_c rfl (sub_c rfl sub_n))) rfl ((key ((2 * a2 + 1 : Int).toNat + 1)).1 1 (a0 % 1000003) a2 ⟨by omega, by omega⟩ ⟨by omega, by omega⟩ ⟨by omega, by omega⟩ (by omega))
/-- LoopGroundModel timesTable -/
abbrev S_228  : mS := [(266, 266, 0, 323)]
abbrev E_228  (z0 w0 : mZ) (x y tx it mt tt ct : Option Nat) : mZ → mZ → mP → Prop := fun z w p => p = (pq x y tx it mt tt ct)
theorem m_228 {d : Nat} {z0 w0 : mZ} {x y tx it mt tt ct : Option Nat}  (hz : rz z0) (hw : rw_ w0) : wc (d + 1) 228 [.ref 225] (mk z0 w0 (pq x y tx it mt tt ct)) (poV S_228 z0 w0 (E_228  z0 w0 x y tx it mt tt ct)) := by
  have hst : st_ S_228 z0 w0 z0 w0 := st_rf hz hw
  have key : ∀ N : Nat, (∀ (x1 : Int) (z w : mZ), 0 ≤ x1 ∧ x1 ≤ 18 → st_ S_228 z0 w0 z w → 24255 * (18 - x1) + 23152 < (N : Int) → wp_ (d) 228 6 none (2, [(0, .ref 225), (1, .int (Int32.ofInt x1))], [], mk z w (pq x y tx it mt tt ct)) (poV S_228 z0 w0 (E_228  z0 w0 x y tx it mt tt ct))) ∧ (∀ (x1 x2 : Int) (z w : mZ), 0 ≤ x1 ∧ x1 ≤ 17 → 0 ≤ x2 ∧ x2 ≤ 18 → st_ S_228 z0 w0 z w → 24255 * (18 - x1) + 1155 * (18 - x2) + 1147 < (N : Int) → wp_ (d) 228 6 none (10, [(0, .ref 225), (1, .int (Int32.ofInt x1)), (2, .int (Int32.ofInt x2))], [], mk z w (pq x y tx it mt tt ct)) (poV S_228 z0 w0 (E_228  z0 w0 x y tx it mt tt ct))) ∧ (∀ (x1 x2 x3 x5 : Int) (z w : mZ), 0 ≤ x1 ∧ x1 ≤ 17 → 0 ≤ x2 ∧ x2 ≤ 17 → (-9223372036854775808) ≤ x3 ∧ x3 ≤ 9223372036854775807 → 0 ≤ x5 ∧ x5 ≤ 18 → st_ S_228 z0 w0 z w → 24255 * (18 - x1) + 1155 * (18 - x2) + 55 * (18 - x5) + 40 < (N : Int) → wp_ (d) 228 6 none (21, [(0, .ref 225), (1, .int (Int32.ofInt x1)), (2, .int (Int32.ofInt x2)), (3, .long (Int64.ofInt x3)), (5, .int (Int32.ofInt x5))], [], mk z w (pq x y tx it mt tt ct)) (poV S_228 z0 w0 (E_228  z0 w0 x y tx it mt tt ct))) := by
    intro N
    induction N with
    | zero =>
      refine ⟨?_, ?_, ?_⟩
      · intro x1 z w
        intros; exfalso; omega
      · intro x1 x2 z w
        intros; exfalso; omega
      · intro x1 x2 x3 x5 z w
        intros; exfalso; omega
    | succ N ih =>
      obtain ⟨ih0, ih1, ih2⟩ := ih
      refine ⟨?_, ?_, ?_⟩
      · intro x1 z w  hx1 hst hM
        refine r_ld (pc' := 3) rfl rfl rfl rfl ?_
        refine r_cb (pc' := 5) rfl (by decide) rfl ?_
        refine r_ige (pc' := 8) rfl rfl ⟨by omega, by omega⟩ ⟨by decide, by decide⟩ (fun hc18 => ?_) (fun hc18 => ?_)
        · skip
          exact r_ret rfl (po_V hst rfl)
        · skip
          refine r_c0 (pc' := 9) rfl rfl ?_
          refine r_st (pc' := 10) (lv' := [(2, _), (0, _), (1, _)]) rfl rfl rfl rfl ?_
          exact w_lv (sub_c rfl (sub_c rfl (sub_c rfl sub_n))) rfl (ih1 x1 0 z w ⟨by omega, by omega⟩ ⟨by omega, by omega⟩ hst (by omega))
      · intro x1 x2 z w  hx1 hx2 hst hM
        refine r_ld (pc' := 11) rfl rfl rfl rfl ?_
        refine r_cb (pc' := 13) rfl (by decide) rfl ?_
        refine r_ige (pc' := 16) rfl rfl ⟨by omega, by omega⟩ ⟨by decide, by decide⟩ (fun hc19 => ?_) (fun hc19 => ?_)
        · skip
          refine r_inc (pc' := 87) (lv' := [(0, _), (2, _)]) rfl rfl rfl rfl rfl ?_
          refine r_go rfl ?_
          exact w_lv (sub_c rfl (sub_c rfl sub_n)) rfl (ih0 (x1 + 1) z w ⟨by omega, by omega⟩ hst (by omega))
        · skip
          refine r_lc0 (pc' := 17) rfl rfl ?_
          refine r_st (pc' := 18) (lv' := [(3, _), (0, _), (1, _), (2, _)]) rfl rfl rfl rfl ?_
          refine r_c0 (pc' := 19) rfl rfl ?_
          refine r_st (pc' := 21) (lv' := [(5, _), (3, _), (0, _), (1, _), (2, _)]) rfl rfl rfl rfl ?_
          exact w_lv (sub_c rfl (sub_c rfl (sub_c rfl (sub_c rfl (sub_c rfl sub_n))))) rfl (ih2 x1 x2 0 0 z w ⟨by omega, by omega⟩ ⟨by omega, by omega⟩ ⟨by omega, by omega⟩ ⟨by omega, by omega⟩ hst (by omega))
      · intro x1 x2 x3 x5 z w  hx1 hx2 hx3 hx5 hst hM
        refine r_ld (pc' := 23) rfl rfl rfl rfl ?_
        refine r_cb (pc' := 25) rfl (by decide) rfl ?_
        refine r_ige (pc' := 28) rfl rfl ⟨by omega, by omega⟩ ⟨by decide, by decide⟩ (fun hc20 => ?_) (fun hc20 => ?_)
        · skip
          refine r_ld (pc' := 63) rfl rfl rfl rfl ?_
          refine r_gr (b := 266) (pc' := 66) rfl rfl sh_225 rfl pp_225_66 ?_
          refine r_cb (pc' := 68) rfl (by decide) rfl ?_
          refine r_ld (pc' := 69) rfl rfl rfl rfl ?_
          refine r_mul (pc' := 70) rfl rfl ?_
          refine r_ld (pc' := 71) rfl rfl rfl rfl ?_
          refine r_add (pc' := 72) rfl rfl ?_
          refine r_ld (pc' := 73) rfl rfl rfl rfl ?_
          refine r_al (pc' := 76) rfl rfl rfl rfl ?_
          refine r_lrmh (pc' := 77) rfl rfl ⟨by decide, by decide⟩ (by decide) (fun v21 h22 h23 h24 => ?_)
          refine r_ls (pc' := 78) rfl rfl sh_266 rfl (by omega) (by omega) hst (inS_0 (by omega) (by omega) (by omega) (by omega)) (wr_266 ⟨by omega, by omega⟩) (fun w25 hq26 hs27 => ?_)
          refine r_inc (pc' := 81) (lv' := [(0, _), (1, _), (3, _), (5, _)]) rfl rfl rfl rfl rfl ?_
          refine r_go rfl ?_
          exact w_lv (sub_c rfl (sub_c rfl (sub_c rfl sub_n))) rfl (ih1 x1 (x2 + 1) z w25 ⟨by omega, by omega⟩ ⟨by omega, by omega⟩ hs27 (by omega))
        · skip
          refine r_ld (pc' := 29) rfl rfl rfl rfl ?_
          refine r_ld (pc' := 30) rfl rfl rfl rfl ?_
          refine r_gr (b := 258) (pc' := 33) rfl rfl sh_225 rfl pp_225_56 ?_
          refine r_cb (pc' := 35) rfl (by decide) rfl ?_
          refine r_ld (pc' := 36) rfl rfl rfl rfl ?_
          refine r_mul (pc' := 37) rfl rfl ?_
          refine r_ld (pc' := 39) rfl rfl rfl rfl ?_
          refine r_add (pc' := 40) rfl rfl ?_
          have hb28 := rd_258 hw (i := ((18 * x1) + x5).toNat) (by omega)
          refine r_la (pc' := 41) rfl rfl sh_258 rfl (by omega) (by omega) (hst.2.2.2 _ _ (notS_c (by omega) notS_n)) ?_
          refine r_ld (pc' := 42) rfl rfl rfl rfl ?_
          refine r_gr (b := 265) (pc' := 45) rfl rfl sh_225 rfl pp_225_65 ?_
          refine r_cb (pc' := 47) rfl (by decide) rfl ?_
          refine r_ld (pc' := 49) rfl rfl rfl rfl ?_
          refine r_mul (pc' := 50) rfl rfl ?_
          refine r_ld (pc' := 51) rfl rfl rfl rfl ?_
          refine r_add (pc' := 52) rfl rfl ?_
          have hb29 := rd_265 hw (i := ((18 * x5) + x2).toNat) (by omega)
          refine r_la (pc' := 53) rfl rfl sh_265 rfl (by omega) (by omega) (hst.2.2.2 _ _ (notS_c (by omega) notS_n)) ?_
          refine r_lmul (pc' := 54) rfl rfl ?_
          refine w_hl (fun v30 h31 => ?_)
          unfold inL at h31
          refine r_ladd (pc' := 55) rfl rfl ?_
          refine w_hxl (fun v32 h33 h34 => ?_)
          refine r_st (pc' := 56) (lv' := [(3, _), (0, _), (1, _), (2, _), (5, _)]) rfl rfl rfl rfl ?_
          refine r_inc (pc' := 59) (lv' := [(3, _), (0, _), (1, _), (2, _)]) rfl rfl rfl rfl rfl ?_
          refine r_go rfl ?_
          exact w_lv (sub_c rfl (sub_c rfl (sub_c rfl (sub_c rfl (sub_c rfl sub_n))))) rfl (ih2 x1 x2 v32 (x5 + 1) z w ⟨by omega, by omega⟩ ⟨by omega, by omega⟩ ⟨by omega, by omega⟩ ⟨by omega, by omega⟩ hst (by omega))
  refine w_m rfl rfl ?_
  refine r_c0 (pc' := 1) rfl rfl ?_
  refine r_st (pc' := 2) (lv' := [(1, _), (0, _)]) rfl rfl rfl rfl ?_
  exact w_lv (sub_c rfl (sub_c rfl sub_n)) rfl ((key ((24255 * (18 - 0) + 23152 : Int).toNat + 1)).1 0 z0 w0 ⟨by omega, by omega⟩ hst (by omega))
/-- LoopGroundModel putDown -/
abbrev S_236  : mS := [(268, 268, 0, 17), (225, 225, 70, 70)]
abbrev E_236  (z0 w0 : mZ) (x y tx it mt tt ct : Option Nat) : mZ → mZ → mP → Prop := fun z w p => p = (pq x y tx it mt tt ct)
theorem m_236 {d : Nat} {z0 w0 : mZ} {x y tx it mt tt ct : Option Nat}  (hz : rz z0) (hw : rw_ w0) : wc (d + 1) 236 [.ref 225] (mk z0 w0 (pq x y tx it mt tt ct)) (poV S_236 z0 w0 (E_236  z0 w0 x y tx it mt tt ct)) := by
  have hst : st_ S_236 z0 w0 z0 w0 := st_rf hz hw
  have key : ∀ N : Nat, (∀ (x1 : Int) (z w : mZ), 0 ≤ x1 ∧ x1 ≤ 18 → st_ S_236 z0 w0 z w → z 225 70 = z0 225 70 → 19 * (18 - x1) + 16 < (N : Int) → wp_ (d) 236 2 none (2, [(0, .ref 225), (1, .int (Int32.ofInt x1))], [], mk z w (pq x y tx it mt tt ct)) (poV S_236 z0 w0 (E_236  z0 w0 x y tx it mt tt ct))) := by
    intro N
    induction N with
    | zero =>
      intro x1 z w
      intros; exfalso; omega
    | succ N ih =>
      have ih0 := ih; clear ih
      intro x1 z w  hx1 hst un_z_225_70 hM
      refine r_ld (pc' := 3) rfl rfl rfl rfl ?_
      refine r_cb (pc' := 5) rfl (by decide) rfl ?_
      refine r_ige (pc' := 8) rfl rfl ⟨by omega, by omega⟩ ⟨by decide, by decide⟩ (fun hc9 => ?_) (fun hc9 => ?_)
      · skip
        refine r_ld (pc' := 27) rfl rfl rfl rfl ?_
        refine r_c0 (pc' := 28) rfl rfl ?_
        refine r_pi (pc' := 31) rfl rfl sh_225 rfl (fit_b (by omega)) hst (inS_s (inS_0 (by omega) (by omega) (by omega) (by omega))) (wr_225_70 ⟨by omega, by omega⟩) (fun z10 hq11 hs12 => ?_)
        exact r_ret rfl (po_V hs12 rfl)
      · skip
        refine r_ld (pc' := 9) rfl rfl rfl rfl ?_
        refine r_gr (b := 268) (pc' := 12) rfl rfl sh_225 rfl pp_225_68 ?_
        refine r_ld (pc' := 13) rfl rfl rfl rfl ?_
        refine r_ld (pc' := 14) rfl rfl rfl rfl ?_
        refine r_gr (b := 269) (pc' := 17) rfl rfl sh_225 rfl pp_225_69 ?_
        refine r_ld (pc' := 18) rfl rfl rfl rfl ?_
        have hb13 := rd_269 hz (i := x1.toNat) (by omega)
        refine r_ia (pc' := 19) rfl rfl sh_269 rfl (by omega) (by omega) (hst.2.2.1 _ _ (notS_c (by omega) (notS_c (by omega) notS_n))) ?_
        refine r_is (pc' := 20) rfl rfl sh_268 rfl (by omega) (by omega) hst (inS_0 (by omega) (by omega) (by omega) (by omega)) (wr_268 ⟨by omega, by omega⟩) (fun z14 hq15 hs16 => ?_)
        refine r_inc (pc' := 23) (lv' := [(0, _)]) rfl rfl rfl rfl rfl ?_
        refine r_go rfl ?_
        have hb17 := rd_225_70 hz
        exact w_lv (sub_c rfl (sub_c rfl sub_n)) rfl (ih0 (x1 + 1) z14 w ⟨by omega, by omega⟩ hs16 ((((congrFun (congrFun hq15 _) _).trans (mu_ne (by omega))).trans un_z_225_70)) (by omega))
  refine w_m rfl rfl ?_
  refine r_c0 (pc' := 1) rfl rfl ?_
  refine r_st (pc' := 2) (lv' := [(1, _), (0, _)]) rfl rfl rfl rfl ?_
  have hb18 := rd_225_70 hz
  exact w_lv (sub_c rfl (sub_c rfl sub_n)) rfl ((key ((19 * (18 - 0) + 16 : Int).toNat + 1)) 0 z0 w0 ⟨by omega, by omega⟩ hst (rfl) (by omega))
/-- LoopGroundModel sideIn -/
abbrev S_248  : mS := []
abbrev E_248 (a1 : Int) (a2 : Int) (z0 w0 : mZ) (x y tx it mt tt ct : Option Nat) : Int → mZ → mZ → mP → Prop := fun v z w p => p = (pq x y tx it mt tt ct) ∧ z0 = z ∧ w0 = w ∧ (-1) ≤ v ∧ v ≤ 35
theorem m_248 {d : Nat} {z0 w0 : mZ} {x y tx it mt tt ct : Option Nat} (a1 : Int) (a2 : Int) (hz : rz z0) (hw : rw_ w0) (ha1 : 0 ≤ a1 ∧ a1 ≤ 11) (ha2 : (-2147483648) ≤ a2 ∧ a2 ≤ 2147483647) : wc (d + 1) 248 [.ref 225, .int (Int32.ofInt a1), .int (Int32.ofInt a2)] (mk z0 w0 (pq x y tx it mt tt ct)) (poI S_248 z0 w0 (E_248 a1 a2 z0 w0 x y tx it mt tt ct)) := by
  have hst : st_ S_248 z0 w0 z0 w0 := st_rf hz hw
  have key : ∀ N : Nat, (∀ (x3 : Int) , 0 ≤ x3 ∧ x3 ≤ 3 → 25 * (3 - x3) + 22 < (N : Int) → wp_ (d) 248 4 (some .int) (2, [(0, .ref 225), (1, .int (Int32.ofInt a1)), (2, .int (Int32.ofInt a2)), (3, .int (Int32.ofInt x3))], [], mk z0 w0 (pq x y tx it mt tt ct)) (poI S_248 z0 w0 (E_248 a1 a2 z0 w0 x y tx it mt tt ct))) := by
    intro N
    induction N with
    | zero =>
      intro x3 
      intros; exfalso; omega
    | succ N ih =>
      have ih0 := ih; clear ih
      intro x3  hx3 hM
      refine r_ld (pc' := 3) rfl rfl rfl rfl ?_
      refine r_c0 (pc' := 4) rfl rfl ?_
      refine r_ige (pc' := 7) rfl rfl ⟨by omega, by omega⟩ ⟨by decide, by decide⟩ (fun hc4 => ?_) (fun hc4 => ?_)
      · skip
        refine r_c0 (pc' := 34) rfl rfl ?_
        exact r_ri rfl (po_I hst ⟨by decide, by decide⟩ ⟨rfl, rfl, rfl, by omega, by omega⟩)
      · skip
        refine r_ld (pc' := 8) rfl rfl rfl rfl ?_
        refine r_gr (b := 235) (pc' := 11) rfl rfl sh_225 rfl pp_225_18 ?_
        refine r_c0 (pc' := 12) rfl rfl ?_
        refine r_ld (pc' := 13) rfl rfl rfl rfl ?_
        refine r_mul (pc' := 14) rfl rfl ?_
        refine r_ld (pc' := 15) rfl rfl rfl rfl ?_
        refine r_add (pc' := 16) rfl rfl ?_
        have hb5 := rd_235 hz (i := ((3 * a1) + x3).toNat) (by omega)
        refine r_ia (pc' := 17) rfl rfl sh_235 rfl (by omega) (by omega) rfl ?_
        refine r_ld (pc' := 18) rfl rfl rfl rfl ?_
        refine r_ine (pc' := 21) rfl rfl ⟨by omega, by omega⟩ ⟨by omega, by omega⟩ (fun hc6 => ?_) (fun hc6 => ?_)
        · skip
          refine r_inc (pc' := 30) (lv' := [(0, _), (1, _), (2, _)]) rfl rfl rfl rfl rfl ?_
          refine r_go rfl ?_
          exact w_lv (sub_c rfl (sub_c rfl (sub_c rfl (sub_c rfl sub_n)))) rfl (ih0 (x3 + 1) ⟨by omega, by omega⟩ (by omega))
        · skip
          refine r_c0 (pc' := 22) rfl rfl ?_
          refine r_ld (pc' := 23) rfl rfl rfl rfl ?_
          refine r_mul (pc' := 24) rfl rfl ?_
          refine r_ld (pc' := 25) rfl rfl rfl rfl ?_
          refine r_add (pc' := 26) rfl rfl ?_
          exact r_ri rfl (po_I hst ⟨by omega, by omega⟩ ⟨rfl, rfl, rfl, by omega, by omega⟩)
  refine w_m rfl rfl ?_
  refine r_c0 (pc' := 1) rfl rfl ?_
  refine r_st (pc' := 2) (lv' := [(3, _), (0, _), (1, _), (2, _)]) rfl rfl rfl rfl ?_
  exact w_lv (sub_c rfl (sub_c rfl (sub_c rfl (sub_c rfl sub_n)))) rfl ((key ((25 * (3 - 0) + 22 : Int).toNat + 1)) 0 ⟨by omega, by omega⟩ (by omega))
/-- LoopGroundModel leaveOut -/
abbrev S_250  : mS := [(225, 225, 77, 77), (272, 272, 0, 1599), (225, 225, 76, 76)]
abbrev E_250  (z0 w0 : mZ) (x y tx it mt tt ct : Option Nat) : mZ → mZ → mP → Prop := fun z w p => p = (pq x y tx it mt tt ct) ∧ (z 225 77 + z 225 76 ≤ 1600)
theorem m_250 {d : Nat} {z0 w0 : mZ} {x y tx it mt tt ct : Option Nat}  (hz : rz z0) (hw : rw_ w0) : wc (d + 1) 250 [.ref 225] (mk z0 w0 (pq x y tx it mt tt ct)) (poV S_250 z0 w0 (E_250  z0 w0 x y tx it mt tt ct)) := by
  have hst : st_ S_250 z0 w0 z0 w0 := st_rf hz hw
  have key : ∀ N : Nat, (∀ (x1 x2 : Int) (z w : mZ), 0 ≤ x1 ∧ x1 ≤ 1600 → 0 ≤ x2 ∧ x2 ≤ 1600 → st_ S_250 z0 w0 z w → z 225 76 = z0 225 76 → z 225 77 = z0 225 77 → (x1 ≤ x2) → 76 * (1600 - x2) + 5071 < (N : Int) → wp_ (d) 250 3 none (4, [(0, .ref 225), (1, .int (Int32.ofInt x1)), (2, .int (Int32.ofInt x2))], [], mk z w (pq x y tx it mt tt ct)) (poV S_250 z0 w0 (E_250  z0 w0 x y tx it mt tt ct))) ∧ (∀ (x1 x2 : Int) (z w : mZ), 0 ≤ x1 ∧ x1 ≤ 1600 → 0 ≤ x2 ∧ x2 ≤ 1600 → 1 ≤ z0 225 76 ∧ z0 225 76 ≤ 1600 → st_ S_250 z0 w0 z w → z 225 76 = z0 225 76 → z 225 77 = z0 225 77 → (x1 ≤ x2 ∧ x2 < z 225 76) → 76 * (1600 - x2) + 5049 < (N : Int) → wp_ (d) 250 3 none (44, [(0, .ref 225), (1, .int (Int32.ofInt x1)), (2, .int (Int32.ofInt x2))], [], mk z w (pq x y tx it mt tt ct)) (poV S_250 z0 w0 (E_250  z0 w0 x y tx it mt tt ct))) ∧ (∀ (x1 : Int) (z w : mZ), 0 ≤ x1 ∧ x1 ≤ 1600 → st_ S_250 z0 w0 z w → z 225 76 = z0 225 76 → (z 225 77 ≤ x1) → x1 < (N : Int) → wp_ (d) 250 3 none (70, [(0, .ref 225), (1, .int (Int32.ofInt x1))], [], mk z w (pq x y tx it mt tt ct)) (poV S_250 z0 w0 (E_250  z0 w0 x y tx it mt tt ct))) := by
    intro N
    induction N with
    | zero =>
      refine ⟨?_, ?_, ?_⟩
      · intro x1 x2 z w
        intros; exfalso; omega
      · intro x1 x2 z w
        intros; exfalso; omega
      · intro x1 z w
        intros; exfalso; omega
    | succ N ih =>
      obtain ⟨ih0, ih1, ih2⟩ := ih
      refine ⟨?_, ?_, ?_⟩
      · intro x1 x2 z w  hx1 hx2 hst un_z_225_76 un_z_225_77 as1 hM
        refine r_ld (pc' := 5) rfl rfl rfl rfl ?_
        refine r_ld (pc' := 6) rfl rfl rfl rfl ?_
        have hb34 := rd_225_76 hz
        refine r_gi (pc' := 9) rfl rfl sh_225 rfl un_z_225_76 ?_
        refine r_ige (pc' := 12) rfl rfl ⟨by omega, by omega⟩ ⟨by omega, by omega⟩ (fun hc35 => ?_) (fun hc35 => ?_)
        · skip
          refine r_ld (pc' := 66) rfl rfl rfl rfl ?_
          refine r_c0 (pc' := 67) rfl rfl ?_
          refine r_pi (pc' := 70) rfl rfl sh_225 rfl rfl hst (inS_0 (by omega) (by omega) (by omega) (by omega)) (wr_225_77 ⟨by omega, by omega⟩) (fun z36 hq37 hs38 => ?_)
          have hf39 : z36 225 77 = 0 := ((congrFun (congrFun hq37 _) _).trans mu_eq)
          exact w_lv (sub_c rfl (sub_c rfl sub_n)) rfl (ih2 x1 z36 w ⟨by omega, by omega⟩ hs38 ((((congrFun (congrFun hq37 _) _).trans (mu_ne (by omega))).trans un_z_225_76)) (by first | omega | assumption | (simp only [hf39]; assumption)) (by omega))
        · skip
          refine r_ld (pc' := 13) rfl rfl rfl rfl ?_
          refine r_zle (pc' := 16) rfl rfl ⟨by omega, by omega⟩ (fun hc40 => ?_) (fun hc40 => ?_)
          · skip
            have hf41 : z 225 76 = z0 225 76 := un_z_225_76
            have hb42 := rd_225_77 hz
            exact w_lv (sub_c rfl (sub_c rfl (sub_c rfl sub_n))) rfl (ih1 x1 x2 z w ⟨by omega, by omega⟩ ⟨by omega, by omega⟩ ⟨by omega, by omega⟩ hst (un_z_225_76) (un_z_225_77) (by first | omega | assumption | (simp only [hf41]; assumption)) (by omega))
          · skip
            refine r_ld (pc' := 17) rfl rfl rfl rfl ?_
            refine r_gr (b := 272) (pc' := 20) rfl rfl sh_225 rfl pp_225_75 ?_
            refine r_ld (pc' := 21) rfl rfl rfl rfl ?_
            have hb43 := rd_272 hst.1 (i := x2.toNat) (by omega)
            refine r_ia (pc' := 22) rfl rfl sh_272 rfl (by omega) (by omega) rfl ?_
            refine r_ld (pc' := 23) rfl rfl rfl rfl ?_
            refine r_gr (b := 240) (pc' := 26) rfl rfl sh_225 rfl pp_225_29 ?_
            refine r_ld (pc' := 27) rfl rfl rfl rfl ?_
            refine r_gr (b := 272) (pc' := 30) rfl rfl sh_225 rfl pp_225_75 ?_
            refine r_ld (pc' := 31) rfl rfl rfl rfl ?_
            refine r_c0 (pc' := 32) rfl rfl ?_
            refine r_sub (pc' := 33) rfl rfl ?_
            have hb44 := rd_272 hst.1 (i := (x1 - 1).toNat) (by omega)
            refine r_ia (pc' := 34) rfl rfl sh_272 rfl (by omega) (by omega) rfl ?_
            have hb45 := rd_240 hz (i := (z 272 (x1 - 1).toNat).toNat) (by omega)
            refine r_ia (pc' := 35) rfl rfl sh_240 rfl (by omega) (by omega) (hst.2.2.1 _ _ (notS_c (by omega) (notS_c (by omega) (notS_c (by omega) notS_n)))) ?_
            refine r_ine (pc' := 38) rfl rfl ⟨by omega, by omega⟩ ⟨by omega, by omega⟩ (fun hc46 => ?_) (fun hc46 => ?_)
            · skip
              have hf47 : z 225 76 = z0 225 76 := un_z_225_76
              have hb48 := rd_225_77 hz
              exact w_lv (sub_c rfl (sub_c rfl (sub_c rfl sub_n))) rfl (ih1 x1 x2 z w ⟨by omega, by omega⟩ ⟨by omega, by omega⟩ ⟨by omega, by omega⟩ hst (un_z_225_76) (un_z_225_77) (by first | omega | assumption | (simp only [hf47]; assumption)) (by omega))
            · skip
              refine r_inc (pc' := 41) (lv' := [(0, _), (2, _)]) rfl rfl rfl rfl rfl ?_
              refine r_go rfl ?_
              refine r_inc (pc' := 62) (lv' := [(1, _), (0, _)]) rfl rfl rfl rfl rfl ?_
              refine r_go rfl ?_
              have hb49 := rd_225_77 hz
              exact w_lv (sub_c rfl (sub_c rfl (sub_c rfl sub_n))) rfl (ih0 (x1 + ((-1))) (x2 + 1) z w ⟨by omega, by omega⟩ ⟨by omega, by omega⟩ hst (un_z_225_76) (un_z_225_77) (by first | omega | assumption) (by omega))
      · intro x1 x2 z w  hx1 hx2 hz0_0 hst un_z_225_76 un_z_225_77 as1 hM
        refine r_ld (pc' := 45) rfl rfl rfl rfl ?_
        refine r_gr (b := 272) (pc' := 48) rfl rfl sh_225 rfl pp_225_75 ?_
        refine r_ld (pc' := 49) rfl rfl rfl rfl ?_
        refine r_ld (pc' := 50) rfl rfl rfl rfl ?_
        refine r_gr (b := 272) (pc' := 53) rfl rfl sh_225 rfl pp_225_75 ?_
        refine r_ld (pc' := 54) rfl rfl rfl rfl ?_
        have hb50 := rd_272 hst.1 (i := x2.toNat) (by omega)
        refine r_ia (pc' := 55) rfl rfl sh_272 rfl (by omega) (by omega) rfl ?_
        refine r_is (pc' := 56) rfl rfl sh_272 rfl (by omega) (by omega) hst (inS_s (inS_0 (by omega) (by omega) (by omega) (by omega))) (wr_272 ⟨by omega, by omega⟩) (fun z51 hq52 hs53 => ?_)
        refine r_inc (pc' := 59) (lv' := [(0, _), (2, _)]) rfl rfl rfl rfl rfl ?_
        refine r_inc (pc' := 62) (lv' := [(1, _), (0, _)]) rfl rfl rfl rfl rfl ?_
        refine r_go rfl ?_
        have hb54 := rd_225_77 hz
        exact w_lv (sub_c rfl (sub_c rfl (sub_c rfl sub_n))) rfl (ih0 (x1 + 1) (x2 + 1) z51 w ⟨by omega, by omega⟩ ⟨by omega, by omega⟩ hs53 ((((congrFun (congrFun hq52 _) _).trans (mu_ne (by omega))).trans un_z_225_76)) ((((congrFun (congrFun hq52 _) _).trans (mu_ne (by omega))).trans un_z_225_77)) (by first | omega | assumption) (by omega))
      · intro x1 z w  hx1 hst un_z_225_76 as1 hM
        refine r_ld (pc' := 71) rfl rfl rfl rfl ?_
        refine r_ld (pc' := 72) rfl rfl rfl rfl ?_
        have hb55 := rd_225_77 hst.1
        refine r_gi (pc' := 75) rfl rfl sh_225 rfl rfl ?_
        refine r_sub (pc' := 76) rfl rfl ?_
        refine r_c0 (pc' := 77) rfl rfl ?_
        refine r_ile (pc' := 80) rfl rfl ⟨by omega, by omega⟩ ⟨by decide, by decide⟩ (fun hc56 => ?_) (fun hc56 => ?_)
        · skip
          refine r_ld (pc' := 122) rfl rfl rfl rfl ?_
          refine r_ld (pc' := 123) rfl rfl rfl rfl ?_
          refine r_ld (pc' := 124) rfl rfl rfl rfl ?_
          refine r_gi (pc' := 127) rfl rfl sh_225 rfl rfl ?_
          refine r_sub (pc' := 128) rfl rfl ?_
          refine r_pi (pc' := 131) rfl rfl sh_225 rfl rfl hst (inS_s (inS_s (inS_0 (by omega) (by omega) (by omega) (by omega)))) (wr_225_76 ⟨by omega, by omega⟩) (fun z57 hq58 hs59 => ?_)
          have hf60 : z57 225 77 = z 225 77 := ((congrFun (congrFun hq58 _) _).trans (mu_ne (by omega)))
          have hf61 : z57 225 76 = x1 - (z 225 77) := ((congrFun (congrFun hq58 _) _).trans mu_eq)
          exact r_ret rfl (po_V hs59 ⟨rfl, (by first | omega | assumption | (simp only [hf60, hf61]; assumption))⟩)
        · skip
          refine r_ld (pc' := 81) rfl rfl rfl rfl ?_
          refine r_gr (b := 272) (pc' := 84) rfl rfl sh_225 rfl pp_225_75 ?_
          refine r_ld (pc' := 85) rfl rfl rfl rfl ?_
          refine r_c0 (pc' := 86) rfl rfl ?_
          refine r_sub (pc' := 87) rfl rfl ?_
          have hb62 := rd_272 hst.1 (i := (x1 - 1).toNat) (by omega)
          refine r_ia (pc' := 88) rfl rfl sh_272 rfl (by omega) (by omega) rfl ?_
          refine r_ld (pc' := 89) rfl rfl rfl rfl ?_
          refine r_gr (b := 240) (pc' := 92) rfl rfl sh_225 rfl pp_225_29 ?_
          refine r_ld (pc' := 93) rfl rfl rfl rfl ?_
          refine r_gr (b := 272) (pc' := 96) rfl rfl sh_225 rfl pp_225_75 ?_
          refine r_ld (pc' := 97) rfl rfl rfl rfl ?_
          refine r_gi (pc' := 100) rfl rfl sh_225 rfl rfl ?_
          have hb63 := rd_272 hst.1 (i := (z 225 77).toNat) (by omega)
          refine r_ia (pc' := 101) rfl rfl sh_272 rfl (by omega) (by omega) rfl ?_
          have hb64 := rd_240 hz (i := (z 272 (z 225 77).toNat).toNat) (by omega)
          refine r_ia (pc' := 102) rfl rfl sh_240 rfl (by omega) (by omega) (hst.2.2.1 _ _ (notS_c (by omega) (notS_c (by omega) (notS_c (by omega) notS_n)))) ?_
          refine r_ine (pc' := 105) rfl rfl ⟨by omega, by omega⟩ ⟨by omega, by omega⟩ (fun hc65 => ?_) (fun hc65 => ?_)
          · skip
            refine r_ld (pc' := 122) rfl rfl rfl rfl ?_
            refine r_ld (pc' := 123) rfl rfl rfl rfl ?_
            refine r_ld (pc' := 124) rfl rfl rfl rfl ?_
            refine r_gi (pc' := 127) rfl rfl sh_225 rfl rfl ?_
            refine r_sub (pc' := 128) rfl rfl ?_
            refine r_pi (pc' := 131) rfl rfl sh_225 rfl rfl hst (inS_s (inS_s (inS_0 (by omega) (by omega) (by omega) (by omega)))) (wr_225_76 ⟨by omega, by omega⟩) (fun z66 hq67 hs68 => ?_)
            have hf69 : z66 225 77 = z 225 77 := ((congrFun (congrFun hq67 _) _).trans (mu_ne (by omega)))
            have hf70 : z66 225 76 = x1 - (z 225 77) := ((congrFun (congrFun hq67 _) _).trans mu_eq)
            exact r_ret rfl (po_V hs68 ⟨rfl, (by first | omega | assumption | (simp only [hf69, hf70]; assumption))⟩)
          · skip
            refine r_inc (pc' := 108) (lv' := [(0, _)]) rfl rfl rfl rfl rfl ?_
            refine r_ld (pc' := 109) rfl rfl rfl rfl ?_
            refine r_al (pc' := 110) rfl rfl rfl rfl ?_
            refine r_gi (pc' := 113) rfl rfl sh_225 rfl rfl ?_
            refine r_c0 (pc' := 114) rfl rfl ?_
            refine r_add (pc' := 115) rfl rfl ?_
            refine r_pi (pc' := 118) rfl rfl sh_225 rfl rfl hst (inS_0 (by omega) (by omega) (by omega) (by omega)) (wr_225_77 ⟨by omega, by omega⟩) (fun z71 hq72 hs73 => ?_)
            refine r_go rfl ?_
            have hf74 : z71 225 77 = (z 225 77) + 1 := ((congrFun (congrFun hq72 _) _).trans mu_eq)
            have hb75 := rd_225_76 hz
            exact w_lv (sub_c rfl (sub_c rfl sub_n)) rfl (ih2 (x1 + ((-1))) z71 w ⟨by omega, by omega⟩ hs73 ((((congrFun (congrFun hq72 _) _).trans (mu_ne (by omega))).trans un_z_225_76)) (by first | omega | assumption | (simp only [hf74]; assumption)) (by omega))
  refine w_m rfl rfl ?_
  refine r_c0 (pc' := 1) rfl rfl ?_
  refine r_st (pc' := 2) (lv' := [(1, _), (0, _)]) rfl rfl rfl rfl ?_
  refine r_c0 (pc' := 3) rfl rfl ?_
  refine r_st (pc' := 4) (lv' := [(2, _), (1, _), (0, _)]) rfl rfl rfl rfl ?_
  have hb76 := rd_225_76 hz
  have hb77 := rd_225_77 hz
  exact w_lv (sub_c rfl (sub_c rfl (sub_c rfl sub_n))) rfl ((key ((76 * (1600 - 0) + 5071 : Int).toNat + 1)).1 0 0 z0 w0 ⟨by omega, by omega⟩ ⟨by omega, by omega⟩ hst (rfl) (rfl) (by first | omega | assumption) (by omega))
/-- LoopGroundModel isPath -/
abbrev S_251  : mS := []
abbrev E_251 (a1 : Int) (a2 : Int) (z0 w0 : mZ) (x y tx it mt tt ct : Option Nat) : Int → mZ → mZ → mP → Prop := fun v z w p => p = (pq x y tx it mt tt ct) ∧ z0 = z ∧ w0 = w ∧ 0 ≤ v ∧ v ≤ 1
theorem m_251 {d : Nat} {z0 w0 : mZ} {x y tx it mt tt ct : Option Nat} (a1 : Int) (a2 : Int) (hz : rz z0) (hw : rw_ w0) (ha1 : 0 ≤ a1 ∧ a1 ≤ 1599) (ha2 : 0 ≤ a2 ∧ a2 ≤ 1) (hq : z0 225 77 + z0 225 76 ≤ 1600) : wc (d + 1) 251 [.ref 225, .int (Int32.ofInt a1), .int (Int32.ofInt a2)] (mk z0 w0 (pq x y tx it mt tt ct)) (poI S_251 z0 w0 (E_251 a1 a2 z0 w0 x y tx it mt tt ct)) := by
  have hst : st_ S_251 z0 w0 z0 w0 := st_rf hz hw
  have hz15 := rd_225_76 hz
  have hz16 := rd_225_77 hz
  have key : ∀ N : Nat, (∀ (x3 : Int) , 0 ≤ x3 ∧ x3 ≤ 1600 → 49 * (1600 - x3) + 46 < (N : Int) → wp_ (d) 251 5 (some .boolean) (2, [(0, .ref 225), (1, .int (Int32.ofInt a1)), (2, .int (Int32.ofInt a2)), (3, .int (Int32.ofInt x3))], [], mk z0 w0 (pq x y tx it mt tt ct)) (poI S_251 z0 w0 (E_251 a1 a2 z0 w0 x y tx it mt tt ct))) := by
    intro N
    induction N with
    | zero =>
      intro x3 
      intros; exfalso; omega
    | succ N ih =>
      have ih0 := ih; clear ih
      intro x3  hx3 hM
      refine r_ld (pc' := 3) rfl rfl rfl rfl ?_
      refine r_ld (pc' := 4) rfl rfl rfl rfl ?_
      have hb17 := rd_225_76 hz
      refine r_gi (pc' := 7) rfl rfl sh_225 rfl rfl ?_
      refine r_ige (pc' := 10) rfl rfl ⟨by omega, by omega⟩ ⟨by omega, by omega⟩ (fun hc18 => ?_) (fun hc18 => ?_)
      · skip
        refine r_c0 (pc' := 80) rfl rfl ?_
        exact r_rz rfl (by omega) (po_I hst ⟨by decide, by decide⟩ ⟨rfl, rfl, rfl, by omega, by omega⟩)
      · skip
        refine r_ld (pc' := 11) rfl rfl rfl rfl ?_
        refine r_zeq (pc' := 14) rfl rfl ⟨by omega, by omega⟩ (fun hc19 => ?_) (fun hc19 => ?_)
        · skip
          refine r_ld (pc' := 41) rfl rfl rfl rfl ?_
          refine r_gr (b := 246) (pc' := 44) rfl rfl sh_225 rfl pp_225_41 ?_
          refine r_ld (pc' := 45) rfl rfl rfl rfl ?_
          refine r_ld (pc' := 46) rfl rfl rfl rfl ?_
          refine r_add (pc' := 47) rfl rfl ?_
          refine r_ld (pc' := 48) rfl rfl rfl rfl ?_
          refine r_gi (pc' := 51) rfl rfl sh_225 rfl rfl ?_
          refine r_rm (pc' := 52) (v := (a1 + x3) % (z0 225 76)) rfl rfl ⟨by omega, by omega⟩ ⟨by omega, by omega⟩ (by omega) (tmod_n (by omega)) ?_
          have h20 := And.intro (Int.emod_nonneg (a1 + x3) (show (z0 225 76) ≠ 0 by omega)) (Int.emod_lt_of_pos (a1 + x3) (show 0 < (z0 225 76) by omega))
          generalize hqh20 : (a1 + x3) % (z0 225 76) = qh20 at h20 ⊢
          have hb21 := rd_246 hz (i := qh20.toNat) (by omega)
          refine r_ia (pc' := 53) rfl rfl sh_246 rfl (by omega) (by omega) rfl ?_
          refine r_st (pc' := 55) (lv' := [(4, _), (0, _), (1, _), (2, _), (3, _)]) rfl rfl rfl rfl ?_
          refine r_ld (pc' := 56) rfl rfl rfl rfl ?_
          refine r_gr (b := 272) (pc' := 59) rfl rfl sh_225 rfl pp_225_75 ?_
          refine r_ld (pc' := 60) rfl rfl rfl rfl ?_
          have hb22 := rd_225_77 hz
          refine r_gi (pc' := 63) rfl rfl sh_225 rfl rfl ?_
          refine r_ld (pc' := 64) rfl rfl rfl rfl ?_
          refine r_add (pc' := 65) rfl rfl ?_
          have hb23 := rd_272 hz (i := ((z0 225 77) + x3).toNat) (by omega)
          refine r_ia (pc' := 66) rfl rfl sh_272 rfl (by omega) (by omega) rfl ?_
          refine r_ld (pc' := 68) rfl rfl rfl rfl ?_
          refine r_ieq (pc' := 71) rfl rfl ⟨by omega, by omega⟩ ⟨by omega, by omega⟩ (fun hc24 => ?_) (fun hc24 => ?_)
          · skip
            refine r_inc (pc' := 76) (lv' := [(4, _), (0, _), (1, _), (2, _)]) rfl rfl rfl rfl rfl ?_
            refine r_go rfl ?_
            exact w_lv (sub_c rfl (sub_c rfl (sub_c rfl (sub_c rfl sub_n)))) rfl (ih0 (x3 + 1) ⟨by omega, by omega⟩ (by omega))
          · skip
            refine r_c0 (pc' := 72) rfl rfl ?_
            exact r_rz rfl (by omega) (po_I hst ⟨by decide, by decide⟩ ⟨rfl, rfl, rfl, by omega, by omega⟩)
        · skip
          refine r_ld (pc' := 15) rfl rfl rfl rfl ?_
          refine r_gr (b := 240) (pc' := 18) rfl rfl sh_225 rfl pp_225_29 ?_
          refine r_ld (pc' := 19) rfl rfl rfl rfl ?_
          refine r_gr (b := 246) (pc' := 22) rfl rfl sh_225 rfl pp_225_41 ?_
          refine r_ld (pc' := 23) rfl rfl rfl rfl ?_
          refine r_ld (pc' := 24) rfl rfl rfl rfl ?_
          refine r_gi (pc' := 27) rfl rfl sh_225 rfl rfl ?_
          refine r_add (pc' := 28) rfl rfl ?_
          refine r_ld (pc' := 29) rfl rfl rfl rfl ?_
          refine r_sub (pc' := 30) rfl rfl ?_
          refine r_ld (pc' := 31) rfl rfl rfl rfl ?_
          refine r_gi (pc' := 34) rfl rfl sh_225 rfl rfl ?_
          refine r_rm (pc' := 35) (v := ((a1 + (z0 225 76)) - x3) % (z0 225 76)) rfl rfl ⟨by omega, by omega⟩ ⟨by omega, by omega⟩ (by omega) (tmod_n (by omega)) ?_
          have h25 := And.intro (Int.emod_nonneg ((a1 + (z0 225 76)) - x3) (show (z0 225 76) ≠ 0 by omega)) (Int.emod_lt_of_pos ((a1 + (z0 225 76)) - x3) (show 0 < (z0 225 76) by omega))
          generalize hqh25 : ((a1 + (z0 225 76)) - x3) % (z0 225 76) = qh25 at h25 ⊢
          have hb26 := rd_246 hz (i := qh25.toNat) (by omega)
          refine r_ia (pc' := 36) rfl rfl sh_246 rfl (by omega) (by omega) rfl ?_
          have hb27 := rd_240 hz (i := (z0 246 qh25.toNat).toNat) (by omega)
          refine r_ia (pc' := 37) rfl rfl sh_240 rfl (by omega) (by omega) rfl ?_
          refine r_go rfl ?_
          refine r_st (pc' := 55) (lv' := [(4, _), (0, _), (1, _), (2, _), (3, _)]) rfl rfl rfl rfl ?_
          refine r_ld (pc' := 56) rfl rfl rfl rfl ?_
          refine r_gr (b := 272) (pc' := 59) rfl rfl sh_225 rfl pp_225_75 ?_
          refine r_ld (pc' := 60) rfl rfl rfl rfl ?_
          have hb28 := rd_225_77 hz
          refine r_gi (pc' := 63) rfl rfl sh_225 rfl rfl ?_
          refine r_ld (pc' := 64) rfl rfl rfl rfl ?_
          refine r_add (pc' := 65) rfl rfl ?_
          have hb29 := rd_272 hz (i := ((z0 225 77) + x3).toNat) (by omega)
          refine r_ia (pc' := 66) rfl rfl sh_272 rfl (by omega) (by omega) rfl ?_
          refine r_ld (pc' := 68) rfl rfl rfl rfl ?_
          refine r_ieq (pc' := 71) rfl rfl ⟨by omega, by omega⟩ ⟨by omega, by omega⟩ (fun hc30 => ?_) (fun hc30 => ?_)
          · skip
            refine r_inc (pc' := 76) (lv' := [(4, _), (0, _), (1, _), (2, _)]) rfl rfl rfl rfl rfl ?_
            refine r_go rfl ?_
            exact w_lv (sub_c rfl (sub_c rfl (sub_c rfl (sub_c rfl sub_n)))) rfl (ih0 (x3 + 1) ⟨by omega, by omega⟩ (by omega))
          · skip
            refine r_c0 (pc' := 72) rfl rfl ?_
            exact r_rz rfl (by omega) (po_I hst ⟨by decide, by decide⟩ ⟨rfl, rfl, rfl, by omega, by omega⟩)
  refine w_m rfl rfl ?_
  refine r_c0 (pc' := 1) rfl rfl ?_
  refine r_st (pc' := 2) (lv' := [(3, _), (0, _), (1, _), (2, _)]) rfl rfl rfl rfl ?_
  exact w_lv (sub_c rfl (sub_c rfl (sub_c rfl (sub_c rfl sub_n)))) rfl ((key ((49 * (1600 - 0) + 46 : Int).toNat + 1)) 0 ⟨by omega, by omega⟩ (by omega))
/-- LoopGroundModel isBox -/
abbrev S_254  : mS := []
abbrev E_254 (a0 : Int) (z0 w0 : mZ) (x y tx it mt tt ct : Option Nat) : Int → mZ → mZ → mP → Prop := fun v z w p => p = (pq x y tx it mt tt ct) ∧ z0 = z ∧ w0 = w ∧ 0 ≤ v ∧ v ≤ 1 ∧ ((v = 1 ∧ 0 ≤ a0 ∧ a0 ≤ 2) ∨ (v = 0 ∧ (a0 < 0 ∨ 2 < a0)))
theorem m_254 {d : Nat} {z0 w0 : mZ} {x y tx it mt tt ct : Option Nat} (a0 : Int) (hz : rz z0) (hw : rw_ w0) (ha0 : (-2147483648) ≤ a0 ∧ a0 ≤ 2147483647) : wc (d + 1) 254 [.int (Int32.ofInt a0)] (mk z0 w0 (pq x y tx it mt tt ct)) (poI S_254 z0 w0 (E_254 a0 z0 w0 x y tx it mt tt ct)) := by
  have hst : st_ S_254 z0 w0 z0 w0 := st_rf hz hw
  refine w_m rfl rfl ?_
  refine r_ld (pc' := 1) rfl rfl rfl rfl ?_
  refine r_zlt (pc' := 4) rfl rfl ⟨by omega, by omega⟩ (fun hc3 => ?_) (fun hc3 => ?_)
  · skip
    refine r_c0 (pc' := 14) rfl rfl ?_
    exact r_rz rfl (by omega) (po_I hst ⟨by decide, by decide⟩ ⟨rfl, rfl, rfl, by omega, by omega, (by first | omega | assumption)⟩)
  · skip
    refine r_ld (pc' := 5) rfl rfl rfl rfl ?_
    refine r_c0 (pc' := 6) rfl rfl ?_
    refine r_ige (pc' := 9) rfl rfl ⟨by omega, by omega⟩ ⟨by decide, by decide⟩ (fun hc4 => ?_) (fun hc4 => ?_)
    · skip
      refine r_c0 (pc' := 14) rfl rfl ?_
      exact r_rz rfl (by omega) (po_I hst ⟨by decide, by decide⟩ ⟨rfl, rfl, rfl, by omega, by omega, (by first | omega | assumption)⟩)
    · skip
      refine r_c0 (pc' := 10) rfl rfl ?_
      refine r_go rfl ?_
      exact r_rz rfl (by omega) (po_I hst ⟨by decide, by decide⟩ ⟨rfl, rfl, rfl, by omega, by omega, (by first | omega | assumption)⟩)
/-- LoopGroundModel token -/
abbrev S_152  : mS := [(225, 225, 4, 4), (225, 225, 7, 7), (225, 225, 9, 9), (225, 225, 8, 8), (225, 225, 6, 6)]
abbrev E_152  (z0 w0 : mZ) (x y tx it mt tt ct : Option Nat) : mZ → mZ → mP → Prop := fun z w p => p = (pq x y tx it mt tt ct) ∧ (z0 225 4 ≤ z 225 4 ∧ z 225 4 ≤ z0 225 5 ∧ (z 225 6 = 0 ∨ z 225 6 = 3 ∨ z0 225 4 < z 225 4))
theorem m_152 {d : Nat} {z0 w0 : mZ} {x y tx it mt tt ct : Option Nat}  (hz : rz z0) (hw : rw_ w0) (hat : z0 225 4 ≤ z0 225 5) : wc (d + 2) 152 [.ref 225] (mk z0 w0 (pq x y tx it mt tt ct)) (poV S_152 z0 w0 (E_152  z0 w0 x y tx it mt tt ct)) := by
  have hst : st_ S_152 z0 w0 z0 w0 := st_rf hz hw
  have hz197 := rd_225_4 hz
  have hz198 := rd_225_5 hz
  have hz5 := rd_225_5 hz
  have key : ∀ N : Nat, (∀ (z w : mZ), st_ S_152 z0 w0 z w → w 225 9 = w0 225 9 → z 225 6 = z0 225 6 → z 225 7 = z0 225 7 → z 225 8 = z0 225 8 → (z0 225 4 ≤ z 225 4 ∧ z 225 4 ≤ z0 225 5) → 10000000 + (1600 - z 225 4) < (N : Int) → wp_ (d + 1) 152 3 none (0, [(0, .ref 225)], [], mk z w (pq x y tx it mt tt ct)) (poV S_152 z0 w0 (E_152  z0 w0 x y tx it mt tt ct))) ∧ (∀ (x2 : Int) (z w : mZ), 0 ≤ x2 ∧ x2 ≤ 1600 → st_ S_152 z0 w0 z w → z 225 6 = z0 225 6 → (z0 225 4 ≤ z 225 4 ∧ z 225 4 + x2 ≤ z0 225 5) → ((x2 = 0 → z 225 4 < z0 225 5 ∧ 97 ≤ z0 226 (z 225 4).toNat ∧ z0 226 (z 225 4).toNat ≤ 122)) → 135 * (1600 - x2) + 216369 < (N : Int) → wp_ (d + 1) 152 3 none (78, [(0, .ref 225), (2, .int (Int32.ofInt x2))], [], mk z w (pq x y tx it mt tt ct)) (poV S_152 z0 w0 (E_152  z0 w0 x y tx it mt tt ct))) ∧ (∀ (x2 : Int) (z w : mZ), 0 ≤ x2 ∧ x2 ≤ 1600 → st_ S_152 z0 w0 z w → z 225 6 = z0 225 6 → (z0 225 4 ≤ z 225 4 ∧ z 225 4 + x2 ≤ z0 225 5) → ((x2 = 0 → z 225 4 < z0 225 5 ∧ 48 ≤ z0 226 (z 225 4).toNat ∧ z0 226 (z 225 4).toNat ≤ 57)) → ((x2 = 0 → z 225 8 ≤ 0) ∧ (x2 = 1 → z 225 8 ≤ 9) ∧ (x2 = 2 → z 225 8 ≤ 99) ∧ (x2 = 3 → z 225 8 ≤ 999)) → 135 * (1600 - x2) + 66 < (N : Int) → wp_ (d + 1) 152 3 none (144, [(0, .ref 225), (2, .int (Int32.ofInt x2))], [], mk z w (pq x y tx it mt tt ct)) (poV S_152 z0 w0 (E_152  z0 w0 x y tx it mt tt ct))) ∧ (∀ (x2 : Int) (z w : mZ), 0 ≤ x2 ∧ x2 ≤ 1600 → st_ S_152 z0 w0 z w → (z0 225 4 ≤ z 225 4 ∧ z 225 4 + x2 ≤ z0 225 5 ∧ (z 225 6 = 0 ∨ z 225 6 = 3 ∨ 1 ≤ x2)) → 17 < (N : Int) → wp_ (d + 1) 152 3 none (237, [(0, .ref 225), (2, .int (Int32.ofInt x2))], [], mk z w (pq x y tx it mt tt ct)) (poV S_152 z0 w0 (E_152  z0 w0 x y tx it mt tt ct))) := by
    intro N
    induction N with
    | zero =>
      refine ⟨?_, ?_, ?_, ?_⟩
      · intro  z w
        intro hst
        have hb199 := rd_225_4 hst.1
        intros; exfalso; omega
      · intro x2 z w
        intros; exfalso; omega
      · intro x2 z w
        intros; exfalso; omega
      · intro x2 z w
        intros; exfalso; omega
    | succ N ih =>
      obtain ⟨ih0, ih1, ih2, ih3⟩ := ih
      refine ⟨?_, ?_, ?_, ?_⟩
      · intro  z w  hst un_w_225_9 un_z_225_6 un_z_225_7 un_z_225_8 as1 hM
        refine r_ld (pc' := 1) rfl rfl rfl rfl ?_
        refine r_c0 (pc' := 2) rfl rfl ?_
        have hb200 := rd_225_4 hst.1
        have hb201 := rd_225_5 hz
        have hf202 : z 225 5 = z0 225 5 := (hst.2.2.1 _ _ (notS_c (by omega) (notS_c (by omega) (notS_c (by omega) (notS_c (by omega) (notS_c (by omega) notS_n))))))
        refine r_cVI (pc' := 5) rfl rfl rfl rfl rfl sh_225 (m_149 (d := d) 0 hst.1 hst.2.1 ⟨by omega, by omega⟩) (fun v203 z204 w205 p206 h207 hs208 hE209 => ?_)
        obtain ⟨rfl, rfl, rfl, hE209⟩ := hE209
        refine r_cb (pc' := 7) rfl (by decide) rfl ?_
        refine r_ieq (pc' := 10) rfl rfl ⟨by omega, by omega⟩ ⟨by decide, by decide⟩ (fun hc211 => ?_) (fun hc211 => ?_)
        · skip
          refine r_ld (pc' := 21) rfl rfl rfl rfl ?_
          refine r_al (pc' := 22) rfl rfl rfl rfl ?_
          refine r_gi (pc' := 25) rfl rfl sh_225 rfl rfl ?_
          refine r_c0 (pc' := 26) rfl rfl ?_
          refine r_add (pc' := 27) rfl rfl ?_
          refine r_pi (pc' := 30) rfl rfl sh_225 rfl rfl hst (inS_0 (by omega) (by omega) (by omega) (by omega)) (wr_225_4 ⟨by omega, by omega⟩) (fun z212 hq213 hs214 => ?_)
          refine r_go rfl ?_
          have hf215 : z212 225 4 = (z 225 4) + 1 := ((congrFun (congrFun hq213 _) _).trans mu_eq)
          have hb216 := rd_225_9 hw
          have hb217 := rd_225_6 hz
          have hb218 := rd_225_7 hz
          have hb219 := rd_225_8 hz
          exact w_lv (sub_c rfl sub_n) rfl (ih0 z212 w hs214 (un_w_225_9) ((((congrFun (congrFun hq213 _) _).trans (mu_ne (by omega))).trans un_z_225_6)) ((((congrFun (congrFun hq213 _) _).trans (mu_ne (by omega))).trans un_z_225_7)) ((((congrFun (congrFun hq213 _) _).trans (mu_ne (by omega))).trans un_z_225_8)) (by first | omega | assumption | (simp only [hf215]; assumption)) (by omega))
        · skip
          refine r_ld (pc' := 11) rfl rfl rfl rfl ?_
          refine r_c0 (pc' := 12) rfl rfl ?_
          have hf220 : z 225 5 = z0 225 5 := (hst.2.2.1 _ _ (notS_c (by omega) (notS_c (by omega) (notS_c (by omega) (notS_c (by omega) (notS_c (by omega) notS_n))))))
          refine r_cVI (pc' := 15) rfl rfl rfl rfl rfl sh_225 (m_149 (d := d) 0 hst.1 hst.2.1 ⟨by omega, by omega⟩) (fun v221 z222 w223 p224 h225 hs226 hE227 => ?_)
          obtain ⟨rfl, rfl, rfl, hE227⟩ := hE227
          refine r_cb (pc' := 17) rfl (by decide) rfl ?_
          refine r_ine (pc' := 20) rfl rfl ⟨by omega, by omega⟩ ⟨by decide, by decide⟩ (fun hc229 => ?_) (fun hc229 => ?_)
          · skip
            refine r_ld (pc' := 34) rfl rfl rfl rfl ?_
            refine r_ld (pc' := 35) rfl rfl rfl rfl ?_
            refine r_gi (pc' := 38) rfl rfl sh_225 rfl rfl ?_
            refine r_pi (pc' := 41) rfl rfl sh_225 rfl rfl hst (inS_s (inS_0 (by omega) (by omega) (by omega) (by omega))) (wr_225_7 ⟨by omega, by omega⟩) (fun z230 hq231 hs232 => ?_)
            refine r_ld (pc' := 42) rfl rfl rfl rfl ?_
            refine r_c0 (pc' := 43) rfl rfl ?_
            have hf233 : z230 225 4 = z 225 4 := ((congrFun (congrFun hq231 _) _).trans (mu_ne (by omega)))
            have hf234 : z230 225 5 = z0 225 5 := (((congrFun (congrFun hq231 _) _).trans (mu_ne (by omega))).trans (hst.2.2.1 _ _ (notS_c (by omega) (notS_c (by omega) (notS_c (by omega) (notS_c (by omega) (notS_c (by omega) notS_n)))))))
            refine r_cVI (pc' := 46) rfl rfl rfl rfl rfl sh_225 (m_149 (d := d) 0 hs232.1 hs232.2.1 ⟨by omega, by omega⟩) (fun v235 z236 w237 p238 h239 hs240 hE241 => ?_)
            obtain ⟨rfl, rfl, rfl, hE241⟩ := hE241
            have h43 : z 225 4 < z0 225 5 → v235 = z0 226 (z 225 4).toNat := fun h => (hE241.2.2.2.2 (z 225 4).toNat (by omega) (by omega)).trans (hs232.2.2.1 226 _ (notS_c (by omega) (notS_c (by omega) (notS_c (by omega) (notS_c (by omega) (notS_c (by omega) notS_n))))))
            refine r_st (pc' := 47) (lv' := [(1, _), (0, _)]) rfl rfl rfl rfl ?_
            refine r_c0 (pc' := 48) rfl rfl ?_
            refine r_st (pc' := 49) (lv' := [(2, _), (1, _), (0, _)]) rfl rfl rfl rfl ?_
            refine r_ld (pc' := 50) rfl rfl rfl rfl ?_
            refine r_lc0 (pc' := 51) rfl rfl ?_
            refine r_pl (pc' := 54) rfl rfl sh_225 rfl rfl hs232 (inS_s (inS_s (inS_0 (by omega) (by omega) (by omega) (by omega)))) (wr_225_9 ⟨by omega, by omega⟩) (fun w243 hq244 hs245 => ?_)
            refine r_ld (pc' := 55) rfl rfl rfl rfl ?_
            refine r_c0 (pc' := 56) rfl rfl ?_
            refine r_pi (pc' := 59) rfl rfl sh_225 rfl rfl hs245 (inS_s (inS_s (inS_s (inS_0 (by omega) (by omega) (by omega) (by omega))))) (wr_225_8 ⟨by omega, by omega⟩) (fun z246 hq247 hs248 => ?_)
            refine r_ld (pc' := 60) rfl rfl rfl rfl ?_
            refine r_zge (pc' := 63) rfl rfl ⟨by omega, by omega⟩ (fun hc249 => ?_) (fun hc249 => ?_)
            · skip
              refine r_ld (pc' := 72) rfl rfl rfl rfl ?_
              refine r_cSI (pc' := 75) rfl rfl rfl rfl rfl (m_150 (d := d) v235 hs248.1 hs248.2.1 ⟨by omega, by omega⟩) (fun v250 z251 w252 p253 h254 hs255 hE256 => ?_)
              obtain ⟨rfl, rfl, rfl, hE256⟩ := hE256
              refine r_zeq (pc' := 78) rfl rfl ⟨by omega, by omega⟩ (fun hc258 => ?_) (fun hc258 => ?_)
              · skip
                refine r_ld (pc' := 138) rfl rfl rfl rfl ?_
                refine r_cSI (pc' := 141) rfl rfl rfl rfl rfl (m_151 (d := d) v235 hs248.1 hs248.2.1 ⟨by omega, by omega⟩) (fun v259 z260 w261 p262 h263 hs264 hE265 => ?_)
                obtain ⟨rfl, rfl, rfl, hE265⟩ := hE265
                refine r_zeq (pc' := 144) rfl rfl ⟨by omega, by omega⟩ (fun hc267 => ?_) (fun hc267 => ?_)
                · skip
                  refine r_c0 (pc' := 215) rfl rfl ?_
                  refine r_st (pc' := 216) (lv' := [(2, _), (1, _), (0, _)]) rfl rfl rfl rfl ?_
                  refine r_ld (pc' := 217) rfl rfl rfl rfl ?_
                  refine r_ld (pc' := 218) rfl rfl rfl rfl ?_
                  refine r_cb (pc' := 220) rfl (by decide) rfl ?_
                  refine r_ieq (pc' := 223) rfl rfl ⟨by omega, by omega⟩ ⟨by decide, by decide⟩ (fun hc268 => ?_) (fun hc268 => ?_)
                  · skip
                    refine r_ld (pc' := 230) rfl rfl rfl rfl ?_
                    refine r_go rfl ?_
                    refine r_pi (pc' := 237) rfl rfl sh_225 rfl rfl hs248 (inS_s (inS_s (inS_s (inS_s (inS_0 (by omega) (by omega) (by omega) (by omega)))))) (wr_225_6 ⟨by omega, by omega⟩) (fun z269 hq270 hs271 => ?_)
                    have hf272 : z269 225 4 = z 225 4 := (((congrFun (congrFun hq270 _) _).trans (mu_ne (by omega))).trans (((congrFun (congrFun hq247 _) _).trans (mu_ne (by omega))).trans ((congrFun (congrFun hq231 _) _).trans (mu_ne (by omega)))))
                    have hf273 : z269 225 6 = v235 := ((congrFun (congrFun hq270 _) _).trans mu_eq)
                    exact w_lv (sub_c rfl (sub_c rfl sub_n)) rfl (ih3 1 z269 w243 ⟨by omega, by omega⟩ hs271 (by first | omega | assumption | (simp only [hf272, hf273]; assumption)) (by omega))
                  · skip
                    refine r_ld (pc' := 224) rfl rfl rfl rfl ?_
                    refine r_cb (pc' := 226) rfl (by decide) rfl ?_
                    refine r_ine (pc' := 229) rfl rfl ⟨by omega, by omega⟩ ⟨by decide, by decide⟩ (fun hc274 => ?_) (fun hc274 => ?_)
                    · skip
                      refine r_c0 (pc' := 234) rfl rfl ?_
                      refine r_pi (pc' := 237) rfl rfl sh_225 rfl rfl hs248 (inS_s (inS_s (inS_s (inS_s (inS_0 (by omega) (by omega) (by omega) (by omega)))))) (wr_225_6 ⟨by omega, by omega⟩) (fun z275 hq276 hs277 => ?_)
                      have hf278 : z275 225 4 = z 225 4 := (((congrFun (congrFun hq276 _) _).trans (mu_ne (by omega))).trans (((congrFun (congrFun hq247 _) _).trans (mu_ne (by omega))).trans ((congrFun (congrFun hq231 _) _).trans (mu_ne (by omega)))))
                      have hf279 : z275 225 6 = 3 := ((congrFun (congrFun hq276 _) _).trans mu_eq)
                      exact w_lv (sub_c rfl (sub_c rfl sub_n)) rfl (ih3 1 z275 w243 ⟨by omega, by omega⟩ hs277 (by first | omega | assumption | (simp only [hf278, hf279]; assumption)) (by omega))
                    · skip
                      refine r_ld (pc' := 230) rfl rfl rfl rfl ?_
                      refine r_go rfl ?_
                      refine r_pi (pc' := 237) rfl rfl sh_225 rfl rfl hs248 (inS_s (inS_s (inS_s (inS_s (inS_0 (by omega) (by omega) (by omega) (by omega)))))) (wr_225_6 ⟨by omega, by omega⟩) (fun z280 hq281 hs282 => ?_)
                      have hf283 : z280 225 4 = z 225 4 := (((congrFun (congrFun hq281 _) _).trans (mu_ne (by omega))).trans (((congrFun (congrFun hq247 _) _).trans (mu_ne (by omega))).trans ((congrFun (congrFun hq231 _) _).trans (mu_ne (by omega)))))
                      have hf284 : z280 225 6 = v235 := ((congrFun (congrFun hq281 _) _).trans mu_eq)
                      exact w_lv (sub_c rfl (sub_c rfl sub_n)) rfl (ih3 1 z280 w243 ⟨by omega, by omega⟩ hs282 (by first | omega | assumption | (simp only [hf283, hf284]; assumption)) (by omega))
                · skip
                  have hf285 : z246 225 4 = z 225 4 := (((congrFun (congrFun hq247 _) _).trans (mu_ne (by omega))).trans ((congrFun (congrFun hq231 _) _).trans (mu_ne (by omega))))
                  have hf286 : z246 225 8 = 0 := ((congrFun (congrFun hq247 _) _).trans mu_eq)
                  have hb287 := rd_225_6 hz
                  exact w_lv (sub_c rfl (sub_c rfl sub_n)) rfl (ih2 0 z246 w243 ⟨by omega, by omega⟩ hs248 ((((congrFun (congrFun hq247 _) _).trans (mu_ne (by omega))).trans (((congrFun (congrFun hq231 _) _).trans (mu_ne (by omega))).trans un_z_225_6))) (by first | omega | assumption | (simp only [hf285, hf286]; assumption)) (by intro hx; rw [show z246 225 4 = z 225 4 by omega]; omega) (by first | omega | assumption | (simp only [hf285, hf286]; assumption)) (by omega))
              · skip
                have hf288 : z246 225 4 = z 225 4 := (((congrFun (congrFun hq247 _) _).trans (mu_ne (by omega))).trans ((congrFun (congrFun hq231 _) _).trans (mu_ne (by omega))))
                have hb289 := rd_225_6 hz
                exact w_lv (sub_c rfl (sub_c rfl sub_n)) rfl (ih1 0 z246 w243 ⟨by omega, by omega⟩ hs248 ((((congrFun (congrFun hq247 _) _).trans (mu_ne (by omega))).trans (((congrFun (congrFun hq231 _) _).trans (mu_ne (by omega))).trans un_z_225_6))) (by first | omega | assumption | (simp only [hf288]; assumption)) (by intro hx; rw [show z246 225 4 = z 225 4 by omega]; omega) (by omega))
            · skip
              refine r_ld (pc' := 64) rfl rfl rfl rfl ?_
              refine r_c0 (pc' := 65) rfl rfl ?_
              refine r_pi (pc' := 68) rfl rfl sh_225 rfl rfl hs248 (inS_s (inS_s (inS_s (inS_s (inS_0 (by omega) (by omega) (by omega) (by omega)))))) (wr_225_6 ⟨by omega, by omega⟩) (fun z290 hq291 hs292 => ?_)
              refine r_go rfl ?_
              have hf293 : z290 225 4 = z 225 4 := (((congrFun (congrFun hq291 _) _).trans (mu_ne (by omega))).trans (((congrFun (congrFun hq247 _) _).trans (mu_ne (by omega))).trans ((congrFun (congrFun hq231 _) _).trans (mu_ne (by omega)))))
              have hf294 : z290 225 6 = 0 := ((congrFun (congrFun hq291 _) _).trans mu_eq)
              exact w_lv (sub_c rfl (sub_c rfl sub_n)) rfl (ih3 0 z290 w243 ⟨by omega, by omega⟩ hs292 (by first | omega | assumption | (simp only [hf293, hf294]; assumption)) (by omega))
          · skip
            refine r_ld (pc' := 21) rfl rfl rfl rfl ?_
            refine r_al (pc' := 22) rfl rfl rfl rfl ?_
            refine r_gi (pc' := 25) rfl rfl sh_225 rfl rfl ?_
            refine r_c0 (pc' := 26) rfl rfl ?_
            refine r_add (pc' := 27) rfl rfl ?_
            refine r_pi (pc' := 30) rfl rfl sh_225 rfl rfl hst (inS_0 (by omega) (by omega) (by omega) (by omega)) (wr_225_4 ⟨by omega, by omega⟩) (fun z295 hq296 hs297 => ?_)
            refine r_go rfl ?_
            have hf298 : z295 225 4 = (z 225 4) + 1 := ((congrFun (congrFun hq296 _) _).trans mu_eq)
            have hb299 := rd_225_9 hw
            have hb300 := rd_225_6 hz
            have hb301 := rd_225_7 hz
            have hb302 := rd_225_8 hz
            exact w_lv (sub_c rfl sub_n) rfl (ih0 z295 w hs297 (un_w_225_9) ((((congrFun (congrFun hq296 _) _).trans (mu_ne (by omega))).trans un_z_225_6)) ((((congrFun (congrFun hq296 _) _).trans (mu_ne (by omega))).trans un_z_225_7)) ((((congrFun (congrFun hq296 _) _).trans (mu_ne (by omega))).trans un_z_225_8)) (by first | omega | assumption | (simp only [hf298]; assumption)) (by omega))
      · intro x2 z w  hx2 hst un_z_225_6 as1 as2 hM
        refine r_ld (pc' := 79) rfl rfl rfl rfl ?_
        refine r_ld (pc' := 80) rfl rfl rfl rfl ?_
        have hb303 := rd_225_4 hst.1
        have hb304 := rd_225_5 hz
        have hf305 : z 225 5 = z0 225 5 := (hst.2.2.1 _ _ (notS_c (by omega) (notS_c (by omega) (notS_c (by omega) (notS_c (by omega) (notS_c (by omega) notS_n))))))
        refine r_cVI (pc' := 83) rfl rfl rfl rfl rfl sh_225 (m_149 (d := d) x2 hst.1 hst.2.1 ⟨by omega, by omega⟩) (fun v306 z307 w308 p309 h310 hs311 hE312 => ?_)
        obtain ⟨rfl, rfl, rfl, hE312⟩ := hE312
        have h80 : x2 = 0 → z 225 4 < z0 225 5 → v306 = z0 226 (z 225 4).toNat := fun h0 h => (hE312.2.2.2.2 (z 225 4).toNat (by omega) (by omega)).trans (hst.2.2.1 226 _ (notS_c (by omega) (notS_c (by omega) (notS_c (by omega) (notS_c (by omega) (notS_c (by omega) notS_n))))))
        refine r_cSI (pc' := 86) rfl rfl rfl rfl rfl (m_150 (d := d) v306 hst.1 hst.2.1 ⟨by omega, by omega⟩) (fun v314 z315 w316 p317 h318 hs319 hE320 => ?_)
        obtain ⟨rfl, rfl, rfl, hE320⟩ := hE320
        refine r_zeq (pc' := 89) rfl rfl ⟨by omega, by omega⟩ (fun hc322 => ?_) (fun hc322 => ?_)
        · skip
          refine r_ld (pc' := 120) rfl rfl rfl rfl ?_
          refine r_ld (pc' := 121) rfl rfl rfl rfl ?_
          refine r_cb (pc' := 123) rfl (by decide) rfl ?_
          refine r_ile (pc' := 126) rfl rfl ⟨by omega, by omega⟩ ⟨by decide, by decide⟩ (fun hc323 => ?_) (fun hc323 => ?_)
          · skip
            refine r_c0 (pc' := 131) rfl rfl ?_
            refine r_pi (pc' := 134) rfl rfl sh_225 rfl rfl hst (inS_s (inS_s (inS_s (inS_s (inS_0 (by omega) (by omega) (by omega) (by omega)))))) (wr_225_6 ⟨by omega, by omega⟩) (fun z324 hq325 hs326 => ?_)
            refine r_go rfl ?_
            have hf327 : z324 225 4 = z 225 4 := ((congrFun (congrFun hq325 _) _).trans (mu_ne (by omega)))
            have hf328 : z324 225 6 = 1 := ((congrFun (congrFun hq325 _) _).trans mu_eq)
            exact w_lv (sub_c rfl (sub_c rfl sub_n)) rfl (ih3 x2 z324 w ⟨by omega, by omega⟩ hs326 (by first | omega | assumption | (simp only [hf327, hf328]; assumption)) (by omega))
          · skip
            refine r_c0 (pc' := 127) rfl rfl ?_
            refine r_go rfl ?_
            refine r_pi (pc' := 134) rfl rfl sh_225 rfl rfl hst (inS_s (inS_s (inS_s (inS_s (inS_0 (by omega) (by omega) (by omega) (by omega)))))) (wr_225_6 ⟨by omega, by omega⟩) (fun z329 hq330 hs331 => ?_)
            refine r_go rfl ?_
            have hf332 : z329 225 4 = z 225 4 := ((congrFun (congrFun hq330 _) _).trans (mu_ne (by omega)))
            have hf333 : z329 225 6 = 3 := ((congrFun (congrFun hq330 _) _).trans mu_eq)
            exact w_lv (sub_c rfl (sub_c rfl sub_n)) rfl (ih3 x2 z329 w ⟨by omega, by omega⟩ hs331 (by first | omega | assumption | (simp only [hf332, hf333]; assumption)) (by omega))
        · skip
          refine r_ld (pc' := 90) rfl rfl rfl rfl ?_
          refine r_cb (pc' := 92) rfl (by decide) rfl ?_
          refine r_ige (pc' := 95) rfl rfl ⟨by omega, by omega⟩ ⟨by decide, by decide⟩ (fun hc334 => ?_) (fun hc334 => ?_)
          · skip
            refine r_inc (pc' := 116) (lv' := [(0, _)]) rfl rfl rfl rfl rfl ?_
            refine r_go rfl ?_
            have hb335 := rd_225_6 hz
            exact w_lv (sub_c rfl (sub_c rfl sub_n)) rfl (ih1 (x2 + 1) z w ⟨by omega, by omega⟩ hst (un_z_225_6) (by first | omega | assumption) (by intro hx; rw [show z 225 4 = z 225 4 by omega]; omega) (by omega))
          · skip
            refine r_ld (pc' := 96) rfl rfl rfl rfl ?_
            refine r_ld (pc' := 97) rfl rfl rfl rfl ?_
            have hb336 := rd_225_9 hst.2.1
            refine r_gl (pc' := 100) rfl rfl sh_225 rfl rfl ?_
            refine r_cb (pc' := 102) rfl (by decide) rfl ?_
            refine r_aL (pc' := 103) rfl rfl rfl rfl (fun v337 h338 => ?_)
            unfold inL at h338
            refine r_ld (pc' := 104) rfl rfl rfl rfl ?_
            refine r_ld (pc' := 105) rfl rfl rfl rfl ?_
            have hf339 : z 225 5 = z0 225 5 := (hst.2.2.1 _ _ (notS_c (by omega) (notS_c (by omega) (notS_c (by omega) (notS_c (by omega) (notS_c (by omega) notS_n))))))
            refine r_cVI (pc' := 108) rfl rfl rfl rfl rfl sh_225 (m_149 (d := d) x2 hst.1 hst.2.1 ⟨by omega, by omega⟩) (fun v340 z341 w342 p343 h344 hs345 hE346 => ?_)
            obtain ⟨rfl, rfl, rfl, hE346⟩ := hE346
            refine r_i2l (pc' := 109) rfl rfl ⟨by omega, by omega⟩ ?_
            refine r_aL (pc' := 110) rfl rfl rfl rfl (fun v348 h349 => ?_)
            unfold inL at h349
            refine r_pl (pc' := 113) rfl rfl sh_225 rfl rfl hst (inS_s (inS_s (inS_0 (by omega) (by omega) (by omega) (by omega)))) (wr_225_9 ⟨by omega, by omega⟩) (fun w350 hq351 hs352 => ?_)
            refine r_inc (pc' := 116) (lv' := [(0, _)]) rfl rfl rfl rfl rfl ?_
            refine r_go rfl ?_
            have hb353 := rd_225_6 hz
            exact w_lv (sub_c rfl (sub_c rfl sub_n)) rfl (ih1 (x2 + 1) z w350 ⟨by omega, by omega⟩ hs352 (un_z_225_6) (by first | omega | assumption) (by intro hx; rw [show z 225 4 = z 225 4 by omega]; omega) (by omega))
      · intro x2 z w  hx2 hst un_z_225_6 as1 as2 as3 hM
        refine r_ld (pc' := 145) rfl rfl rfl rfl ?_
        refine r_ld (pc' := 146) rfl rfl rfl rfl ?_
        have hb354 := rd_225_4 hst.1
        have hb355 := rd_225_5 hz
        have hf356 : z 225 5 = z0 225 5 := (hst.2.2.1 _ _ (notS_c (by omega) (notS_c (by omega) (notS_c (by omega) (notS_c (by omega) (notS_c (by omega) notS_n))))))
        refine r_cVI (pc' := 149) rfl rfl rfl rfl rfl sh_225 (m_149 (d := d) x2 hst.1 hst.2.1 ⟨by omega, by omega⟩) (fun v357 z358 w359 p360 h361 hs362 hE363 => ?_)
        obtain ⟨rfl, rfl, rfl, hE363⟩ := hE363
        have h146 : x2 = 0 → z 225 4 < z0 225 5 → v357 = z0 226 (z 225 4).toNat := fun h0 h => (hE363.2.2.2.2 (z 225 4).toNat (by omega) (by omega)).trans (hst.2.2.1 226 _ (notS_c (by omega) (notS_c (by omega) (notS_c (by omega) (notS_c (by omega) (notS_c (by omega) notS_n))))))
        have h147 : z 225 4 + x2 < z 225 5 → v357 = z 226 (z 225 4 + x2).toNat := fun h => hE363.2.2.2.2 _ (by omega) (by omega)
        refine r_cSI (pc' := 152) rfl rfl rfl rfl rfl (m_151 (d := d) v357 hst.1 hst.2.1 ⟨by omega, by omega⟩) (fun v365 z366 w367 p368 h369 hs370 hE371 => ?_)
        obtain ⟨rfl, rfl, rfl, hE371⟩ := hE371
        refine r_zeq (pc' := 155) rfl rfl ⟨by omega, by omega⟩ (fun hc373 => ?_) (fun hc373 => ?_)
        · skip
          refine r_ld (pc' := 187) rfl rfl rfl rfl ?_
          refine r_ld (pc' := 188) rfl rfl rfl rfl ?_
          refine r_c0 (pc' := 189) rfl rfl ?_
          refine r_igt (pc' := 192) rfl rfl ⟨by omega, by omega⟩ ⟨by decide, by decide⟩ (fun hc374 => ?_) (fun hc374 => ?_)
          · skip
            refine r_c0 (pc' := 204) rfl rfl ?_
            refine r_go rfl ?_
            refine r_pi (pc' := 211) rfl rfl sh_225 rfl rfl hst (inS_s (inS_s (inS_s (inS_s (inS_0 (by omega) (by omega) (by omega) (by omega)))))) (wr_225_6 ⟨by omega, by omega⟩) (fun z375 hq376 hs377 => ?_)
            refine r_go rfl ?_
            have hf378 : z375 225 4 = z 225 4 := ((congrFun (congrFun hq376 _) _).trans (mu_ne (by omega)))
            have hf379 : z375 225 6 = 3 := ((congrFun (congrFun hq376 _) _).trans mu_eq)
            exact w_lv (sub_c rfl (sub_c rfl sub_n)) rfl (ih3 x2 z375 w ⟨by omega, by omega⟩ hs377 (by first | omega | assumption | (simp only [hf378, hf379]; assumption)) (by omega))
          · skip
            refine r_ld (pc' := 193) rfl rfl rfl rfl ?_
            refine r_ld (pc' := 194) rfl rfl rfl rfl ?_
            have hf380 : z 225 5 = z0 225 5 := (hst.2.2.1 _ _ (notS_c (by omega) (notS_c (by omega) (notS_c (by omega) (notS_c (by omega) (notS_c (by omega) notS_n))))))
            refine r_cVI (pc' := 197) rfl rfl rfl rfl rfl sh_225 (m_149 (d := d) x2 hst.1 hst.2.1 ⟨by omega, by omega⟩) (fun v381 z382 w383 p384 h385 hs386 hE387 => ?_)
            obtain ⟨rfl, rfl, rfl, hE387⟩ := hE387
            refine r_cSI (pc' := 200) rfl rfl rfl rfl rfl (m_150 (d := d) v381 hst.1 hst.2.1 ⟨by omega, by omega⟩) (fun v389 z390 w391 p392 h393 hs394 hE395 => ?_)
            obtain ⟨rfl, rfl, rfl, hE395⟩ := hE395
            refine r_zeq (pc' := 203) rfl rfl ⟨by omega, by omega⟩ (fun hc397 => ?_) (fun hc397 => ?_)
            · skip
              refine r_c0 (pc' := 208) rfl rfl ?_
              refine r_pi (pc' := 211) rfl rfl sh_225 rfl rfl hst (inS_s (inS_s (inS_s (inS_s (inS_0 (by omega) (by omega) (by omega) (by omega)))))) (wr_225_6 ⟨by omega, by omega⟩) (fun z398 hq399 hs400 => ?_)
              refine r_go rfl ?_
              have hf401 : z398 225 4 = z 225 4 := ((congrFun (congrFun hq399 _) _).trans (mu_ne (by omega)))
              have hf402 : z398 225 6 = 2 := ((congrFun (congrFun hq399 _) _).trans mu_eq)
              exact w_lv (sub_c rfl (sub_c rfl sub_n)) rfl (ih3 x2 z398 w ⟨by omega, by omega⟩ hs400 (by first | omega | assumption | (simp only [hf401, hf402]; assumption)) (by omega))
            · skip
              refine r_c0 (pc' := 204) rfl rfl ?_
              refine r_go rfl ?_
              refine r_pi (pc' := 211) rfl rfl sh_225 rfl rfl hst (inS_s (inS_s (inS_s (inS_s (inS_0 (by omega) (by omega) (by omega) (by omega)))))) (wr_225_6 ⟨by omega, by omega⟩) (fun z403 hq404 hs405 => ?_)
              refine r_go rfl ?_
              have hf406 : z403 225 4 = z 225 4 := ((congrFun (congrFun hq404 _) _).trans (mu_ne (by omega)))
              have hf407 : z403 225 6 = 3 := ((congrFun (congrFun hq404 _) _).trans mu_eq)
              exact w_lv (sub_c rfl (sub_c rfl sub_n)) rfl (ih3 x2 z403 w ⟨by omega, by omega⟩ hs405 (by first | omega | assumption | (simp only [hf406, hf407]; assumption)) (by omega))
        · skip
          refine r_ld (pc' := 156) rfl rfl rfl rfl ?_
          refine r_c0 (pc' := 157) rfl rfl ?_
          refine r_ige (pc' := 160) rfl rfl ⟨by omega, by omega⟩ ⟨by decide, by decide⟩ (fun hc408 => ?_) (fun hc408 => ?_)
          · skip
            refine r_inc (pc' := 183) (lv' := [(0, _)]) rfl rfl rfl rfl rfl ?_
            refine r_go rfl ?_
            have hb409 := rd_225_8 hst.1
            have hb410 := rd_225_6 hz
            exact w_lv (sub_c rfl (sub_c rfl sub_n)) rfl (ih2 (x2 + 1) z w ⟨by omega, by omega⟩ hst (un_z_225_6) (by first | omega | assumption) (by intro hx; rw [show z 225 4 = z 225 4 by omega]; omega) (by first | omega | assumption) (by omega))
          · skip
            refine r_ld (pc' := 161) rfl rfl rfl rfl ?_
            refine r_cb (pc' := 163) rfl (by decide) rfl ?_
            refine r_ld (pc' := 164) rfl rfl rfl rfl ?_
            have hb411 := rd_225_8 hst.1
            refine r_gi (pc' := 167) rfl rfl sh_225 rfl rfl ?_
            refine r_mul (pc' := 168) rfl rfl ?_
            refine r_ld (pc' := 169) rfl rfl rfl rfl ?_
            refine r_ld (pc' := 170) rfl rfl rfl rfl ?_
            have hf412 : z 225 5 = z0 225 5 := (hst.2.2.1 _ _ (notS_c (by omega) (notS_c (by omega) (notS_c (by omega) (notS_c (by omega) (notS_c (by omega) notS_n))))))
            refine r_cVI (pc' := 173) rfl rfl rfl rfl rfl sh_225 (m_149 (d := d) x2 hst.1 hst.2.1 ⟨by omega, by omega⟩) (fun v413 z414 w415 p416 h417 hs418 hE419 => ?_)
            obtain ⟨rfl, rfl, rfl, hE419⟩ := hE419
            have h170 : z 225 4 + x2 < z 225 5 → v413 = z 226 (z 225 4 + x2).toNat := fun h => hE419.2.2.2.2 _ (by omega) (by omega)
            refine r_add (pc' := 174) rfl rfl ?_
            refine r_cb (pc' := 176) rfl (by decide) rfl ?_
            refine r_sub (pc' := 177) rfl rfl ?_
            refine r_pi (pc' := 180) rfl rfl sh_225 rfl rfl hst (inS_s (inS_s (inS_s (inS_0 (by omega) (by omega) (by omega) (by omega))))) (wr_225_8 ⟨by omega, by omega⟩) (fun z421 hq422 hs423 => ?_)
            refine r_inc (pc' := 183) (lv' := [(0, _)]) rfl rfl rfl rfl rfl ?_
            refine r_go rfl ?_
            have hf424 : z421 225 4 = z 225 4 := ((congrFun (congrFun hq422 _) _).trans (mu_ne (by omega)))
            have hf425 : z421 225 8 = ((10 * (z 225 8)) + v413) - 48 := ((congrFun (congrFun hq422 _) _).trans mu_eq)
            have hb426 := rd_225_6 hz
            exact w_lv (sub_c rfl (sub_c rfl sub_n)) rfl (ih2 (x2 + 1) z421 w ⟨by omega, by omega⟩ hs423 ((((congrFun (congrFun hq422 _) _).trans (mu_ne (by omega))).trans un_z_225_6)) (by first | omega | assumption | (simp only [hf424, hf425]; assumption)) (by intro hx; rw [show z421 225 4 = z 225 4 by omega]; omega) (by first | omega | assumption | (simp only [hf424, hf425]; assumption)) (by omega))
      · intro x2 z w  hx2 hst as1 hM
        refine r_ld (pc' := 238) rfl rfl rfl rfl ?_
        have hb427 := rd_225_6 hst.1
        refine r_gi (pc' := 241) rfl rfl sh_225 rfl rfl ?_
        refine r_c0 (pc' := 242) rfl rfl ?_
        refine r_ieq (pc' := 245) rfl rfl ⟨by omega, by omega⟩ ⟨by decide, by decide⟩ (fun hc428 => ?_) (fun hc428 => ?_)
        · skip
          have hb429 := rd_225_4 hst.1
          exact r_ret rfl (po_V hst ⟨rfl, (by first | omega | assumption)⟩)
        · skip
          refine r_ld (pc' := 246) rfl rfl rfl rfl ?_
          refine r_al (pc' := 247) rfl rfl rfl rfl ?_
          have hb430 := rd_225_4 hst.1
          refine r_gi (pc' := 250) rfl rfl sh_225 rfl rfl ?_
          refine r_ld (pc' := 251) rfl rfl rfl rfl ?_
          refine r_add (pc' := 252) rfl rfl ?_
          refine r_pi (pc' := 255) rfl rfl sh_225 rfl rfl hst (inS_0 (by omega) (by omega) (by omega) (by omega)) (wr_225_4 ⟨by omega, by omega⟩) (fun z431 hq432 hs433 => ?_)
          have hf434 : z431 225 4 = (z 225 4) + x2 := ((congrFun (congrFun hq432 _) _).trans mu_eq)
          have hf435 : z431 225 6 = z 225 6 := ((congrFun (congrFun hq432 _) _).trans (mu_ne (by omega)))
          exact r_ret rfl (po_V hs433 ⟨rfl, (by first | omega | assumption | (simp only [hf434, hf435]; assumption))⟩)
  refine w_m rfl rfl ?_
  have hb436 := rd_225_4 hz
  have hb437 := rd_225_9 hw
  have hb438 := rd_225_6 hz
  have hb439 := rd_225_7 hz
  have hb440 := rd_225_8 hz
  exact w_lv (sub_c rfl sub_n) rfl ((key ((10000000 + (1600 - z0 225 4) : Int).toNat + 1)).1 z0 w0 hst (rfl) (rfl) (rfl) (rfl) (by first | omega | assumption) (by omega))
/-- LoopGroundModel wrong -/
abbrev S_154  : mS := [(225, 225, 2, 2), (225, 225, 3, 3)]
abbrev E_154 (a1 : Int) (z0 w0 : mZ) (x y tx it mt tt ct : Option Nat) : mZ → mZ → mP → Prop := fun z w p => p = (pq x y tx it mt tt ct) ∧ (0 < z 225 2)
theorem m_154 {d : Nat} {z0 w0 : mZ} {x y tx it mt tt ct : Option Nat} (a1 : Int) (hz : rz z0) (hw : rw_ w0) (ha1 : 1 ≤ a1 ∧ a1 ≤ 6) : wc (d + 2) 154 [.ref 225, .int (Int32.ofInt a1)] (mk z0 w0 (pq x y tx it mt tt ct)) (poV S_154 z0 w0 (E_154 a1 z0 w0 x y tx it mt tt ct)) := by
  have hst : st_ S_154 z0 w0 z0 w0 := st_rf hz hw
  refine w_m rfl rfl ?_
  refine r_ld (pc' := 1) rfl rfl rfl rfl ?_
  refine r_ld (pc' := 2) rfl rfl rfl rfl ?_
  refine r_ld (pc' := 3) rfl rfl rfl rfl ?_
  have hb11 := rd_225_7 hz
  refine r_gi (pc' := 6) rfl rfl sh_225 rfl rfl ?_
  refine r_cVV (pc' := 9) rfl rfl rfl rfl rfl sh_225 (m_153 (d := d) a1 (z0 225 7) hst.1 hst.2.1 ⟨by omega, by omega⟩ ⟨by omega, by omega⟩) (fun z13 w14 p15 hs17 hE18 => ?_)
  have hs19 := st_tr hst hs17 (sub_B rfl)
  obtain ⟨rfl, hE18⟩ := hE18
  have hb20 := rd_225_2 hs19.1
  exact r_ret rfl (po_V hs19 ⟨rfl, (by first | omega | assumption)⟩)
/-- LoopGroundModel isEdge -/
abbrev S_175  : mS := []
abbrev E_175 (a1 : Int) (z0 w0 : mZ) (x y tx it mt tt ct : Option Nat) : Int → mZ → mZ → mP → Prop := fun v z w p => p = (pq x y tx it mt tt ct) ∧ z0 = z ∧ w0 = w ∧ 0 ≤ v ∧ v ≤ 1 ∧ ((v = 1 ∧ 0 ≤ a1 ∧ a1 < 3 * z0 225 26 / 2) ∨ (v = 0 ∧ (a1 < 0 ∨ 3 * z0 225 26 / 2 ≤ a1)))
theorem m_175 {d : Nat} {z0 w0 : mZ} {x y tx it mt tt ct : Option Nat} (a1 : Int) (hz : rz z0) (hw : rw_ w0) (ha1 : (-2147483648) ≤ a1 ∧ a1 ≤ 2147483647) : wc (d + 2) 175 [.ref 225, .int (Int32.ofInt a1)] (mk z0 w0 (pq x y tx it mt tt ct)) (poI S_175 z0 w0 (E_175 a1 z0 w0 x y tx it mt tt ct)) := by
  have hst : st_ S_175 z0 w0 z0 w0 := st_rf hz hw
  have hz12 := rd_225_26 hz
  refine w_m rfl rfl ?_
  refine r_ld (pc' := 1) rfl rfl rfl rfl ?_
  refine r_zlt (pc' := 4) rfl rfl ⟨by omega, by omega⟩ (fun hc13 => ?_) (fun hc13 => ?_)
  · skip
    refine r_c0 (pc' := 17) rfl rfl ?_
    exact r_rz rfl (by omega) (po_I hst ⟨by decide, by decide⟩ ⟨rfl, rfl, rfl, by omega, by omega, (by first | omega | assumption)⟩)
  · skip
    refine r_ld (pc' := 5) rfl rfl rfl rfl ?_
    refine r_ld (pc' := 6) rfl rfl rfl rfl ?_
    have hb14 := rd_225_26 hz
    refine r_cVI (pc' := 9) rfl rfl rfl rfl rfl sh_225 (m_161 (d := d)  hst.1 hst.2.1 ) (fun v15 z16 w17 p18 h19 hs20 hE21 => ?_)
    obtain ⟨rfl, rfl, rfl, hE21⟩ := hE21
    refine r_ige (pc' := 12) rfl rfl ⟨by omega, by omega⟩ ⟨by omega, by omega⟩ (fun hc23 => ?_) (fun hc23 => ?_)
    · skip
      refine r_c0 (pc' := 17) rfl rfl ?_
      exact r_rz rfl (by omega) (po_I hst ⟨by decide, by decide⟩ ⟨rfl, rfl, rfl, by omega, by omega, (by first | omega | assumption)⟩)
    · skip
      refine r_c0 (pc' := 13) rfl rfl ?_
      refine r_go rfl ?_
      exact r_rz rfl (by omega) (po_I hst ⟨by decide, by decide⟩ ⟨rfl, rfl, rfl, by omega, by omega, (by first | omega | assumption)⟩)
/-- LoopGroundModel flips -/
abbrev S_202  : mS := []
abbrev E_202 (a1 : Int) (z0 w0 : mZ) (x y tx it mt tt ct : Option Nat) : Int → mZ → mZ → mP → Prop := fun v z w p => p = (pq x y tx it mt tt ct) ∧ z0 = z ∧ w0 = w ∧ (-2) ≤ v ∧ v ≤ 1782
theorem m_202 {d : Nat} {z0 w0 : mZ} {x y tx it mt tt ct : Option Nat} (a1 : Int) (hz : rz z0) (hw : rw_ w0) (ha1 : (-2147483648) ≤ a1 ∧ a1 ≤ 2147483647) : wc (d + 2) 202 [.ref 225, .int (Int32.ofInt a1)] (mk z0 w0 (pq x y tx it mt tt ct)) (poI S_202 z0 w0 (E_202 a1 z0 w0 x y tx it mt tt ct)) := by
  have hst : st_ S_202 z0 w0 z0 w0 := st_rf hz hw
  refine w_m rfl rfl ?_
  refine r_ld (pc' := 1) rfl rfl rfl rfl ?_
  refine r_ld (pc' := 2) rfl rfl rfl rfl ?_
  have hb16 := rd_225_27 hz
  refine r_cVI (pc' := 5) rfl rfl rfl rfl rfl sh_225 (m_173 (d := d) a1 hst.1 hst.2.1 ⟨by omega, by omega⟩) (fun v17 z18 w19 p20 h21 hs22 hE23 => ?_)
  obtain ⟨rfl, rfl, rfl, hE23⟩ := hE23
  refine r_zeq (pc' := 8) rfl rfl ⟨by omega, by omega⟩ (fun hc25 => ?_) (fun hc25 => ?_)
  · skip
    refine r_c0 (pc' := 18) rfl rfl ?_
    refine r_go rfl ?_
    exact r_ri rfl (po_I hst ⟨by decide, by decide⟩ ⟨rfl, rfl, rfl, by omega, by omega⟩)
  · skip
    refine r_ld (pc' := 9) rfl rfl rfl rfl ?_
    refine r_gr (b := 253) (pc' := 12) rfl rfl sh_225 rfl pp_225_49 ?_
    refine r_ld (pc' := 13) rfl rfl rfl rfl ?_
    have hb26 := rd_253 hz (i := a1.toNat) (by omega)
    refine r_ba (pc' := 14) rfl rfl sh_253 (Or.inr rfl) rfl (by omega) (by omega) rfl ?_
    refine r_zne (pc' := 17) rfl rfl ⟨by omega, by omega⟩ (fun hc27 => ?_) (fun hc27 => ?_)
    · skip
      refine r_ld (pc' := 22) rfl rfl rfl rfl ?_
      refine r_gr (b := 254) (pc' := 25) rfl rfl sh_225 rfl pp_225_50 ?_
      refine r_ld (pc' := 26) rfl rfl rfl rfl ?_
      have hb28 := rd_254 hz (i := a1.toNat) (by omega)
      refine r_ba (pc' := 27) rfl rfl sh_254 (Or.inr rfl) rfl (by omega) (by omega) rfl ?_
      refine r_zeq (pc' := 30) rfl rfl ⟨by omega, by omega⟩ (fun hc29 => ?_) (fun hc29 => ?_)
      · skip
        refine r_cb (pc' := 41) rfl (by decide) rfl ?_
        exact r_ri rfl (po_I hst ⟨by decide, by decide⟩ ⟨rfl, rfl, rfl, by omega, by omega⟩)
      · skip
        refine r_ld (pc' := 31) rfl rfl rfl rfl ?_
        refine r_gr (b := 248) (pc' := 34) rfl rfl sh_225 rfl pp_225_44 ?_
        refine r_ld (pc' := 35) rfl rfl rfl rfl ?_
        have hb30 := rd_248 hz (i := a1.toNat) (by omega)
        refine r_ia (pc' := 36) rfl rfl sh_248 rfl (by omega) (by omega) rfl ?_
        refine r_go rfl ?_
        exact r_ri rfl (po_I hst ⟨by omega, by omega⟩ ⟨rfl, rfl, rfl, by omega, by omega⟩)
    · skip
      refine r_c0 (pc' := 18) rfl rfl ?_
      refine r_go rfl ?_
      exact r_ri rfl (po_I hst ⟨by decide, by decide⟩ ⟨rfl, rfl, rfl, by omega, by omega⟩)
/-- LoopGroundModel flip -/
abbrev S_203  : mS := []
abbrev E_203 (a1 : Int) (a2 : Int) (z0 w0 : mZ) (x y tx it mt tt ct : Option Nat) : Int → mZ → mZ → mP → Prop := fun v z w p => p = (pq x y tx it mt tt ct) ∧ z0 = z ∧ w0 = w ∧ (-1) ≤ v ∧ v ≤ 17
theorem m_203 {d : Nat} {z0 w0 : mZ} {x y tx it mt tt ct : Option Nat} (a1 : Int) (a2 : Int) (hz : rz z0) (hw : rw_ w0) (ha1 : (-2147483648) ≤ a1 ∧ a1 ≤ 2147483647) (ha2 : (-2147483648) ≤ a2 ∧ a2 ≤ 2147483647) : wc (d + 2) 203 [.ref 225, .int (Int32.ofInt a1), .int (Int32.ofInt a2)] (mk z0 w0 (pq x y tx it mt tt ct)) (poI S_203 z0 w0 (E_203 a1 a2 z0 w0 x y tx it mt tt ct)) := by
  have hst : st_ S_203 z0 w0 z0 w0 := st_rf hz hw
  refine w_m rfl rfl ?_
  refine r_ld (pc' := 1) rfl rfl rfl rfl ?_
  refine r_ld (pc' := 2) rfl rfl rfl rfl ?_
  have hb17 := rd_225_27 hz
  refine r_cVI (pc' := 5) rfl rfl rfl rfl rfl sh_225 (m_173 (d := d) a1 hst.1 hst.2.1 ⟨by omega, by omega⟩) (fun v18 z19 w20 p21 h22 hs23 hE24 => ?_)
  obtain ⟨rfl, rfl, rfl, hE24⟩ := hE24
  refine r_zeq (pc' := 8) rfl rfl ⟨by omega, by omega⟩ (fun hc26 => ?_) (fun hc26 => ?_)
  · skip
    refine r_c0 (pc' := 32) rfl rfl ?_
    refine r_go rfl ?_
    exact r_ri rfl (po_I hst ⟨by decide, by decide⟩ ⟨rfl, rfl, rfl, by omega, by omega⟩)
  · skip
    refine r_ld (pc' := 9) rfl rfl rfl rfl ?_
    refine r_gr (b := 254) (pc' := 12) rfl rfl sh_225 rfl pp_225_50 ?_
    refine r_ld (pc' := 13) rfl rfl rfl rfl ?_
    have hb27 := rd_254 hz (i := a1.toNat) (by omega)
    refine r_ba (pc' := 14) rfl rfl sh_254 (Or.inr rfl) rfl (by omega) (by omega) rfl ?_
    refine r_zeq (pc' := 17) rfl rfl ⟨by omega, by omega⟩ (fun hc28 => ?_) (fun hc28 => ?_)
    · skip
      refine r_c0 (pc' := 32) rfl rfl ?_
      refine r_go rfl ?_
      exact r_ri rfl (po_I hst ⟨by decide, by decide⟩ ⟨rfl, rfl, rfl, by omega, by omega⟩)
    · skip
      refine r_ld (pc' := 18) rfl rfl rfl rfl ?_
      refine r_zlt (pc' := 21) rfl rfl ⟨by omega, by omega⟩ (fun hc29 => ?_) (fun hc29 => ?_)
      · skip
        refine r_c0 (pc' := 32) rfl rfl ?_
        refine r_go rfl ?_
        exact r_ri rfl (po_I hst ⟨by decide, by decide⟩ ⟨rfl, rfl, rfl, by omega, by omega⟩)
      · skip
        refine r_ld (pc' := 22) rfl rfl rfl rfl ?_
        refine r_ld (pc' := 23) rfl rfl rfl rfl ?_
        refine r_gr (b := 248) (pc' := 26) rfl rfl sh_225 rfl pp_225_44 ?_
        refine r_ld (pc' := 27) rfl rfl rfl rfl ?_
        have hb30 := rd_248 hz (i := a1.toNat) (by omega)
        refine r_ia (pc' := 28) rfl rfl sh_248 rfl (by omega) (by omega) rfl ?_
        refine r_ilt (pc' := 31) rfl rfl ⟨by omega, by omega⟩ ⟨by omega, by omega⟩ (fun hc31 => ?_) (fun hc31 => ?_)
        · skip
          refine r_ld (pc' := 36) rfl rfl rfl rfl ?_
          refine r_gr (b := 247) (pc' := 39) rfl rfl sh_225 rfl pp_225_43 ?_
          refine r_c0 (pc' := 40) rfl rfl ?_
          refine r_cs (pc' := 43) rfl (by decide) rfl ?_
          refine r_ld (pc' := 44) rfl rfl rfl rfl ?_
          refine r_mul (pc' := 45) rfl rfl ?_
          refine r_ld (pc' := 46) rfl rfl rfl rfl ?_
          refine r_add (pc' := 47) rfl rfl ?_
          refine r_mul (pc' := 48) rfl rfl ?_
          have hb32 := rd_247 hz (i := (5 * ((1782 * a1) + a2)).toNat) (by omega)
          refine r_ia (pc' := 49) rfl rfl sh_247 rfl (by omega) (by omega) rfl ?_
          exact r_ri rfl (po_I hst ⟨by omega, by omega⟩ ⟨rfl, rfl, rfl, by omega, by omega⟩)
        · skip
          refine r_c0 (pc' := 32) rfl rfl ?_
          refine r_go rfl ?_
          exact r_ri rfl (po_I hst ⟨by decide, by decide⟩ ⟨rfl, rfl, rfl, by omega, by omega⟩)
/-- LoopGroundModel greater -/
abbrev S_205  : mS := [(259, 259, 0, 17), (258, 258, 0, 323), (257, 257, 0, 17), (225, 225, 58, 58)]
abbrev E_205 (a1 : Int) (a2 : Int) (a3 : Int) (a4 : Int) (a5 : Int) (a6 : Int) (z0 w0 : mZ) (x y tx it mt tt ct : Option Nat) : mZ → mZ → mP → Prop := fun z w p => p = (pq x y tx it mt tt ct)
theorem m_205 {d : Nat} {z0 w0 : mZ} {x y tx it mt tt ct : Option Nat} (a1 : Int) (a2 : Int) (a3 : Int) (a4 : Int) (a5 : Int) (a6 : Int) (hz : rz z0) (hw : rw_ w0) (ha1 : 0 ≤ a1 ∧ a1 ≤ 17) (ha2 : 0 ≤ a2 ∧ a2 ≤ 17) (ha3 : 0 ≤ a3 ∧ a3 ≤ 17) (ha4 : 0 ≤ a4 ∧ a4 ≤ 17) (ha5 : 0 ≤ a5 ∧ a5 ≤ 17) (ha6 : 0 ≤ a6 ∧ a6 ≤ 17) : wc (d + 2) 205 [.ref 225, .int (Int32.ofInt a1), .int (Int32.ofInt a2), .int (Int32.ofInt a3), .int (Int32.ofInt a4), .int (Int32.ofInt a5), .int (Int32.ofInt a6)] (mk z0 w0 (pq x y tx it mt tt ct)) (poV S_205 z0 w0 (E_205 a1 a2 a3 a4 a5 a6 z0 w0 x y tx it mt tt ct)) := by
  have hst : st_ S_205 z0 w0 z0 w0 := st_rf hz hw
  refine w_m rfl rfl ?_
  refine r_ld (pc' := 1) rfl rfl rfl rfl ?_
  refine r_gr (b := 257) (pc' := 4) rfl rfl sh_225 rfl pp_225_55 ?_
  refine r_ld (pc' := 5) rfl rfl rfl rfl ?_
  have hb114 := rd_257 hw (i := a2.toNat) (by omega)
  refine r_la (pc' := 6) rfl rfl sh_257 rfl (by omega) (by omega) rfl ?_
  refine r_ld (pc' := 7) rfl rfl rfl rfl ?_
  refine r_gr (b := 257) (pc' := 10) rfl rfl sh_225 rfl pp_225_55 ?_
  refine r_ld (pc' := 11) rfl rfl rfl rfl ?_
  have hb115 := rd_257 hw (i := a3.toNat) (by omega)
  refine r_la (pc' := 12) rfl rfl sh_257 rfl (by omega) (by omega) rfl ?_
  refine r_ladd (pc' := 13) rfl rfl ?_
  refine w_hxl (fun v116 h117 h118 => ?_)
  refine r_st (pc' := 15) (lv' := [(7, _), (0, _), (1, _), (2, _), (3, _), (4, _), (5, _), (6, _)]) rfl rfl rfl rfl ?_
  refine r_ld (pc' := 16) rfl rfl rfl rfl ?_
  refine r_gr (b := 257) (pc' := 19) rfl rfl sh_225 rfl pp_225_55 ?_
  refine r_ld (pc' := 21) rfl rfl rfl rfl ?_
  have hb119 := rd_257 hw (i := a4.toNat) (by omega)
  refine r_la (pc' := 22) rfl rfl sh_257 rfl (by omega) (by omega) rfl ?_
  refine r_ld (pc' := 23) rfl rfl rfl rfl ?_
  refine r_gr (b := 257) (pc' := 26) rfl rfl sh_225 rfl pp_225_55 ?_
  refine r_ld (pc' := 28) rfl rfl rfl rfl ?_
  have hb120 := rd_257 hw (i := a5.toNat) (by omega)
  refine r_la (pc' := 29) rfl rfl sh_257 rfl (by omega) (by omega) rfl ?_
  refine r_ladd (pc' := 30) rfl rfl ?_
  refine w_hxl (fun v121 h122 h123 => ?_)
  refine r_st (pc' := 32) (lv' := [(9, _), (7, _), (0, _), (1, _), (2, _), (3, _), (4, _), (5, _), (6, _)]) rfl rfl rfl rfl ?_
  refine r_ld (pc' := 34) rfl rfl rfl rfl ?_
  refine r_ld (pc' := 36) rfl rfl rfl rfl ?_
  refine r_lge (pc' := 40) rfl rfl rfl ⟨by omega, by omega⟩ ⟨by omega, by omega⟩ (fun hc124 => ?_) (fun hc124 => ?_)
  · skip
    refine r_ld (pc' := 47) rfl rfl rfl rfl ?_
    refine r_ld (pc' := 48) rfl rfl rfl rfl ?_
    refine r_gr (b := 257) (pc' := 51) rfl rfl sh_225 rfl pp_225_55 ?_
    refine r_ld (pc' := 53) rfl rfl rfl rfl ?_
    have hb125 := rd_257 hw (i := a6.toNat) (by omega)
    refine r_la (pc' := 54) rfl rfl sh_257 rfl (by omega) (by omega) rfl ?_
    refine r_lsub (pc' := 55) rfl rfl ?_
    refine w_hxl (fun v126 h127 h128 => ?_)
    refine r_st (pc' := 57) (lv' := [(11, _), (9, _), (7, _), (0, _), (1, _), (2, _), (3, _), (4, _), (5, _), (6, _)]) rfl rfl rfl rfl ?_
    refine r_ld (pc' := 58) rfl rfl rfl rfl ?_
    refine r_ld (pc' := 59) rfl rfl rfl rfl ?_
    refine r_ld (pc' := 61) rfl rfl rfl rfl ?_
    refine r_ld (pc' := 63) rfl rfl rfl rfl ?_
    refine r_lge (pc' := 67) rfl rfl rfl ⟨by omega, by omega⟩ ⟨by omega, by omega⟩ (fun hc129 => ?_) (fun hc129 => ?_)
    · skip
      refine r_c0 (pc' := 72) rfl rfl ?_
      refine r_ld (pc' := 73) rfl rfl rfl rfl ?_
      refine r_ld (pc' := 74) rfl rfl rfl rfl ?_
      refine r_ld (pc' := 76) rfl rfl rfl rfl ?_
      refine r_ld (pc' := 78) rfl rfl rfl rfl ?_
      refine r_ld (pc' := 80) rfl rfl rfl rfl ?_
      refine r_cVV (pc' := 83) rfl rfl rfl rfl rfl sh_225 (m_204 (d := d) a1 0 a2 a3 a4 a5 a6 hst.1 hst.2.1 ⟨by omega, by omega⟩ ⟨by omega, by omega⟩ ⟨by omega, by omega⟩ ⟨by omega, by omega⟩ ⟨by omega, by omega⟩ ⟨by omega, by omega⟩ ⟨by omega, by omega⟩) (fun z131 w132 p133 hs135 hE136 => ?_)
      have hs137 := st_tr hst hs135 (sub_B rfl)
      obtain rfl := hE136
      refine r_ld (pc' := 84) rfl rfl rfl rfl ?_
      refine r_gr (b := 257) (pc' := 87) rfl rfl sh_225 rfl pp_225_55 ?_
      refine r_ld (pc' := 88) rfl rfl rfl rfl ?_
      refine r_ld (pc' := 90) rfl rfl rfl rfl ?_
      refine r_ls (pc' := 91) rfl rfl sh_257 rfl (by omega) (by omega) hs137 (inS_s (inS_s (inS_0 (by omega) (by omega) (by omega) (by omega)))) (wr_257 ⟨by omega, by omega⟩) (fun w138 hq139 hs140 => ?_)
      refine r_ld (pc' := 92) rfl rfl rfl rfl ?_
      refine r_ld (pc' := 93) rfl rfl rfl rfl ?_
      have hb141 := rd_225_58 hz
      refine r_gi (pc' := 96) rfl rfl sh_225 rfl (hs135.2.2.1 _ _ (notS_c (by omega) (notS_c (by omega) notS_n))) ?_
      refine r_zne (pc' := 99) rfl rfl ⟨by omega, by omega⟩ (fun hc142 => ?_) (fun hc142 => ?_)
      · skip
        refine r_c0 (pc' := 109) rfl rfl ?_
        refine r_go rfl ?_
        refine r_pi (pc' := 116) rfl rfl sh_225 rfl (fit_b (by omega)) hs140 (inS_s (inS_s (inS_s (inS_0 (by omega) (by omega) (by omega) (by omega))))) (wr_225_58 ⟨by omega, by omega⟩) (fun z143 hq144 hs145 => ?_)
        exact r_ret rfl (po_V hs145 rfl)
      · skip
        refine r_ld (pc' := 101) rfl rfl rfl rfl ?_
        refine r_al (pc' := 104) rfl rfl rfl rfl ?_
        refine r_lle (pc' := 108) rfl rfl rfl ⟨by omega, by omega⟩ ⟨by decide, by decide⟩ (fun hc146 => ?_) (fun hc146 => ?_)
        · skip
          refine r_c0 (pc' := 113) rfl rfl ?_
          refine r_pi (pc' := 116) rfl rfl sh_225 rfl (fit_b (by omega)) hs140 (inS_s (inS_s (inS_s (inS_0 (by omega) (by omega) (by omega) (by omega))))) (wr_225_58 ⟨by omega, by omega⟩) (fun z147 hq148 hs149 => ?_)
          exact r_ret rfl (po_V hs149 rfl)
        · skip
          refine r_c0 (pc' := 109) rfl rfl ?_
          refine r_go rfl ?_
          refine r_pi (pc' := 116) rfl rfl sh_225 rfl (fit_b (by omega)) hs140 (inS_s (inS_s (inS_s (inS_0 (by omega) (by omega) (by omega) (by omega))))) (wr_225_58 ⟨by omega, by omega⟩) (fun z150 hq151 hs152 => ?_)
          exact r_ret rfl (po_V hs152 rfl)
    · skip
      refine r_c0 (pc' := 68) rfl rfl ?_
      refine r_go rfl ?_
      refine r_ld (pc' := 73) rfl rfl rfl rfl ?_
      refine r_ld (pc' := 74) rfl rfl rfl rfl ?_
      refine r_ld (pc' := 76) rfl rfl rfl rfl ?_
      refine r_ld (pc' := 78) rfl rfl rfl rfl ?_
      refine r_ld (pc' := 80) rfl rfl rfl rfl ?_
      refine r_cVV (pc' := 83) rfl rfl rfl rfl rfl sh_225 (m_204 (d := d) a1 1 a2 a3 a4 a5 a6 hst.1 hst.2.1 ⟨by omega, by omega⟩ ⟨by omega, by omega⟩ ⟨by omega, by omega⟩ ⟨by omega, by omega⟩ ⟨by omega, by omega⟩ ⟨by omega, by omega⟩ ⟨by omega, by omega⟩) (fun z154 w155 p156 hs158 hE159 => ?_)
      have hs160 := st_tr hst hs158 (sub_B rfl)
      obtain rfl := hE159
      refine r_ld (pc' := 84) rfl rfl rfl rfl ?_
      refine r_gr (b := 257) (pc' := 87) rfl rfl sh_225 rfl pp_225_55 ?_
      refine r_ld (pc' := 88) rfl rfl rfl rfl ?_
      refine r_ld (pc' := 90) rfl rfl rfl rfl ?_
      refine r_ls (pc' := 91) rfl rfl sh_257 rfl (by omega) (by omega) hs160 (inS_s (inS_s (inS_0 (by omega) (by omega) (by omega) (by omega)))) (wr_257 ⟨by omega, by omega⟩) (fun w161 hq162 hs163 => ?_)
      refine r_ld (pc' := 92) rfl rfl rfl rfl ?_
      refine r_ld (pc' := 93) rfl rfl rfl rfl ?_
      have hb164 := rd_225_58 hz
      refine r_gi (pc' := 96) rfl rfl sh_225 rfl (hs158.2.2.1 _ _ (notS_c (by omega) (notS_c (by omega) notS_n))) ?_
      refine r_zne (pc' := 99) rfl rfl ⟨by omega, by omega⟩ (fun hc165 => ?_) (fun hc165 => ?_)
      · skip
        refine r_c0 (pc' := 109) rfl rfl ?_
        refine r_go rfl ?_
        refine r_pi (pc' := 116) rfl rfl sh_225 rfl (fit_b (by omega)) hs163 (inS_s (inS_s (inS_s (inS_0 (by omega) (by omega) (by omega) (by omega))))) (wr_225_58 ⟨by omega, by omega⟩) (fun z166 hq167 hs168 => ?_)
        exact r_ret rfl (po_V hs168 rfl)
      · skip
        refine r_ld (pc' := 101) rfl rfl rfl rfl ?_
        refine r_al (pc' := 104) rfl rfl rfl rfl ?_
        refine r_lle (pc' := 108) rfl rfl rfl ⟨by omega, by omega⟩ ⟨by decide, by decide⟩ (fun hc169 => ?_) (fun hc169 => ?_)
        · skip
          refine r_c0 (pc' := 113) rfl rfl ?_
          refine r_pi (pc' := 116) rfl rfl sh_225 rfl (fit_b (by omega)) hs163 (inS_s (inS_s (inS_s (inS_0 (by omega) (by omega) (by omega) (by omega))))) (wr_225_58 ⟨by omega, by omega⟩) (fun z170 hq171 hs172 => ?_)
          exact r_ret rfl (po_V hs172 rfl)
        · skip
          refine r_c0 (pc' := 109) rfl rfl ?_
          refine r_go rfl ?_
          refine r_pi (pc' := 116) rfl rfl sh_225 rfl (fit_b (by omega)) hs163 (inS_s (inS_s (inS_s (inS_0 (by omega) (by omega) (by omega) (by omega))))) (wr_225_58 ⟨by omega, by omega⟩) (fun z173 hq174 hs175 => ?_)
          exact r_ret rfl (po_V hs175 rfl)
  · skip
    refine r_ld (pc' := 42) rfl rfl rfl rfl ?_
    refine r_go rfl ?_
    refine r_ld (pc' := 48) rfl rfl rfl rfl ?_
    refine r_gr (b := 257) (pc' := 51) rfl rfl sh_225 rfl pp_225_55 ?_
    refine r_ld (pc' := 53) rfl rfl rfl rfl ?_
    have hb176 := rd_257 hw (i := a6.toNat) (by omega)
    refine r_la (pc' := 54) rfl rfl sh_257 rfl (by omega) (by omega) rfl ?_
    refine r_lsub (pc' := 55) rfl rfl ?_
    refine w_hxl (fun v177 h178 h179 => ?_)
    refine r_st (pc' := 57) (lv' := [(11, _), (9, _), (7, _), (0, _), (1, _), (2, _), (3, _), (4, _), (5, _), (6, _)]) rfl rfl rfl rfl ?_
    refine r_ld (pc' := 58) rfl rfl rfl rfl ?_
    refine r_ld (pc' := 59) rfl rfl rfl rfl ?_
    refine r_ld (pc' := 61) rfl rfl rfl rfl ?_
    refine r_ld (pc' := 63) rfl rfl rfl rfl ?_
    refine r_lge (pc' := 67) rfl rfl rfl ⟨by omega, by omega⟩ ⟨by omega, by omega⟩ (fun hc180 => ?_) (fun hc180 => ?_)
    · skip
      refine r_c0 (pc' := 72) rfl rfl ?_
      refine r_ld (pc' := 73) rfl rfl rfl rfl ?_
      refine r_ld (pc' := 74) rfl rfl rfl rfl ?_
      refine r_ld (pc' := 76) rfl rfl rfl rfl ?_
      refine r_ld (pc' := 78) rfl rfl rfl rfl ?_
      refine r_ld (pc' := 80) rfl rfl rfl rfl ?_
      refine r_cVV (pc' := 83) rfl rfl rfl rfl rfl sh_225 (m_204 (d := d) a1 0 a2 a3 a4 a5 a6 hst.1 hst.2.1 ⟨by omega, by omega⟩ ⟨by omega, by omega⟩ ⟨by omega, by omega⟩ ⟨by omega, by omega⟩ ⟨by omega, by omega⟩ ⟨by omega, by omega⟩ ⟨by omega, by omega⟩) (fun z182 w183 p184 hs186 hE187 => ?_)
      have hs188 := st_tr hst hs186 (sub_B rfl)
      obtain rfl := hE187
      refine r_ld (pc' := 84) rfl rfl rfl rfl ?_
      refine r_gr (b := 257) (pc' := 87) rfl rfl sh_225 rfl pp_225_55 ?_
      refine r_ld (pc' := 88) rfl rfl rfl rfl ?_
      refine r_ld (pc' := 90) rfl rfl rfl rfl ?_
      refine r_ls (pc' := 91) rfl rfl sh_257 rfl (by omega) (by omega) hs188 (inS_s (inS_s (inS_0 (by omega) (by omega) (by omega) (by omega)))) (wr_257 ⟨by omega, by omega⟩) (fun w189 hq190 hs191 => ?_)
      refine r_ld (pc' := 92) rfl rfl rfl rfl ?_
      refine r_ld (pc' := 93) rfl rfl rfl rfl ?_
      have hb192 := rd_225_58 hz
      refine r_gi (pc' := 96) rfl rfl sh_225 rfl (hs186.2.2.1 _ _ (notS_c (by omega) (notS_c (by omega) notS_n))) ?_
      refine r_zne (pc' := 99) rfl rfl ⟨by omega, by omega⟩ (fun hc193 => ?_) (fun hc193 => ?_)
      · skip
        refine r_c0 (pc' := 109) rfl rfl ?_
        refine r_go rfl ?_
        refine r_pi (pc' := 116) rfl rfl sh_225 rfl (fit_b (by omega)) hs191 (inS_s (inS_s (inS_s (inS_0 (by omega) (by omega) (by omega) (by omega))))) (wr_225_58 ⟨by omega, by omega⟩) (fun z194 hq195 hs196 => ?_)
        exact r_ret rfl (po_V hs196 rfl)
      · skip
        refine r_ld (pc' := 101) rfl rfl rfl rfl ?_
        refine r_al (pc' := 104) rfl rfl rfl rfl ?_
        refine r_lle (pc' := 108) rfl rfl rfl ⟨by omega, by omega⟩ ⟨by decide, by decide⟩ (fun hc197 => ?_) (fun hc197 => ?_)
        · skip
          refine r_c0 (pc' := 113) rfl rfl ?_
          refine r_pi (pc' := 116) rfl rfl sh_225 rfl (fit_b (by omega)) hs191 (inS_s (inS_s (inS_s (inS_0 (by omega) (by omega) (by omega) (by omega))))) (wr_225_58 ⟨by omega, by omega⟩) (fun z198 hq199 hs200 => ?_)
          exact r_ret rfl (po_V hs200 rfl)
        · skip
          refine r_c0 (pc' := 109) rfl rfl ?_
          refine r_go rfl ?_
          refine r_pi (pc' := 116) rfl rfl sh_225 rfl (fit_b (by omega)) hs191 (inS_s (inS_s (inS_s (inS_0 (by omega) (by omega) (by omega) (by omega))))) (wr_225_58 ⟨by omega, by omega⟩) (fun z201 hq202 hs203 => ?_)
          exact r_ret rfl (po_V hs203 rfl)
    · skip
      refine r_c0 (pc' := 68) rfl rfl ?_
      refine r_go rfl ?_
      refine r_ld (pc' := 73) rfl rfl rfl rfl ?_
      refine r_ld (pc' := 74) rfl rfl rfl rfl ?_
      refine r_ld (pc' := 76) rfl rfl rfl rfl ?_
      refine r_ld (pc' := 78) rfl rfl rfl rfl ?_
      refine r_ld (pc' := 80) rfl rfl rfl rfl ?_
      refine r_cVV (pc' := 83) rfl rfl rfl rfl rfl sh_225 (m_204 (d := d) a1 1 a2 a3 a4 a5 a6 hst.1 hst.2.1 ⟨by omega, by omega⟩ ⟨by omega, by omega⟩ ⟨by omega, by omega⟩ ⟨by omega, by omega⟩ ⟨by omega, by omega⟩ ⟨by omega, by omega⟩ ⟨by omega, by omega⟩) (fun z205 w206 p207 hs209 hE210 => ?_)
      have hs211 := st_tr hst hs209 (sub_B rfl)
      obtain rfl := hE210
      refine r_ld (pc' := 84) rfl rfl rfl rfl ?_
      refine r_gr (b := 257) (pc' := 87) rfl rfl sh_225 rfl pp_225_55 ?_
      refine r_ld (pc' := 88) rfl rfl rfl rfl ?_
      refine r_ld (pc' := 90) rfl rfl rfl rfl ?_
      refine r_ls (pc' := 91) rfl rfl sh_257 rfl (by omega) (by omega) hs211 (inS_s (inS_s (inS_0 (by omega) (by omega) (by omega) (by omega)))) (wr_257 ⟨by omega, by omega⟩) (fun w212 hq213 hs214 => ?_)
      refine r_ld (pc' := 92) rfl rfl rfl rfl ?_
      refine r_ld (pc' := 93) rfl rfl rfl rfl ?_
      have hb215 := rd_225_58 hz
      refine r_gi (pc' := 96) rfl rfl sh_225 rfl (hs209.2.2.1 _ _ (notS_c (by omega) (notS_c (by omega) notS_n))) ?_
      refine r_zne (pc' := 99) rfl rfl ⟨by omega, by omega⟩ (fun hc216 => ?_) (fun hc216 => ?_)
      · skip
        refine r_c0 (pc' := 109) rfl rfl ?_
        refine r_go rfl ?_
        refine r_pi (pc' := 116) rfl rfl sh_225 rfl (fit_b (by omega)) hs214 (inS_s (inS_s (inS_s (inS_0 (by omega) (by omega) (by omega) (by omega))))) (wr_225_58 ⟨by omega, by omega⟩) (fun z217 hq218 hs219 => ?_)
        exact r_ret rfl (po_V hs219 rfl)
      · skip
        refine r_ld (pc' := 101) rfl rfl rfl rfl ?_
        refine r_al (pc' := 104) rfl rfl rfl rfl ?_
        refine r_lle (pc' := 108) rfl rfl rfl ⟨by omega, by omega⟩ ⟨by decide, by decide⟩ (fun hc220 => ?_) (fun hc220 => ?_)
        · skip
          refine r_c0 (pc' := 113) rfl rfl ?_
          refine r_pi (pc' := 116) rfl rfl sh_225 rfl (fit_b (by omega)) hs214 (inS_s (inS_s (inS_s (inS_0 (by omega) (by omega) (by omega) (by omega))))) (wr_225_58 ⟨by omega, by omega⟩) (fun z221 hq222 hs223 => ?_)
          exact r_ret rfl (po_V hs223 rfl)
        · skip
          refine r_c0 (pc' := 109) rfl rfl ?_
          refine r_go rfl ?_
          refine r_pi (pc' := 116) rfl rfl sh_225 rfl (fit_b (by omega)) hs214 (inS_s (inS_s (inS_s (inS_0 (by omega) (by omega) (by omega) (by omega))))) (wr_225_58 ⟨by omega, by omega⟩) (fun z224 hq225 hs226 => ?_)
          exact r_ret rfl (po_V hs226 rfl)
/-- LoopGroundModel begin -/
abbrev S_212  : mS := [(257, 257, 0, 17), (225, 225, 58, 58), (225, 225, 59, 59)]
abbrev E_212 (a1 : Int) (z0 w0 : mZ) (x y tx it mt tt ct : Option Nat) : mZ → mZ → mP → Prop := fun z w p => p = (pq x y tx it mt tt ct)
theorem m_212 {d : Nat} {z0 w0 : mZ} {x y tx it mt tt ct : Option Nat} (a1 : Int) (hz : rz z0) (hw : rw_ w0) (ha1 : (-1) ≤ a1 ∧ a1 ≤ 7) : wc (d + 2) 212 [.ref 225, .int (Int32.ofInt a1)] (mk z0 w0 (pq x y tx it mt tt ct)) (poV S_212 z0 w0 (E_212 a1 z0 w0 x y tx it mt tt ct)) := by
  have hst : st_ S_212 z0 w0 z0 w0 := st_rf hz hw
  have key : ∀ N : Nat, (∀ (x2 : Int) (z w : mZ), 0 ≤ x2 ∧ x2 ≤ 18 → st_ S_212 z0 w0 z w → z 225 58 = z0 225 58 → z 225 59 = z0 225 59 → 40 * (18 - x2) + 37 < (N : Int) → wp_ (d + 1) 212 3 none (2, [(0, .ref 225), (1, .int (Int32.ofInt a1)), (2, .int (Int32.ofInt x2))], [], mk z w (pq x y tx it mt tt ct)) (poV S_212 z0 w0 (E_212 a1 z0 w0 x y tx it mt tt ct))) := by
    intro N
    induction N with
    | zero =>
      intro x2 z w
      intros; exfalso; omega
    | succ N ih =>
      have ih0 := ih; clear ih
      intro x2 z w  hx2 hst un_z_225_58 un_z_225_59 hM
      refine r_ld (pc' := 3) rfl rfl rfl rfl ?_
      refine r_cb (pc' := 5) rfl (by decide) rfl ?_
      refine r_ige (pc' := 8) rfl rfl ⟨by omega, by omega⟩ ⟨by decide, by decide⟩ (fun hc31 => ?_) (fun hc31 => ?_)
      · skip
        refine r_ld (pc' := 58) rfl rfl rfl rfl ?_
        refine r_c0 (pc' := 59) rfl rfl ?_
        refine r_pi (pc' := 62) rfl rfl sh_225 rfl (fit_b (by omega)) hst (inS_s (inS_0 (by omega) (by omega) (by omega) (by omega))) (wr_225_58 ⟨by omega, by omega⟩) (fun z32 hq33 hs34 => ?_)
        refine r_ld (pc' := 63) rfl rfl rfl rfl ?_
        refine r_c0 (pc' := 64) rfl rfl ?_
        refine r_pi (pc' := 67) rfl rfl sh_225 rfl (fit_b (by omega)) hs34 (inS_s (inS_s (inS_0 (by omega) (by omega) (by omega) (by omega)))) (wr_225_59 ⟨by omega, by omega⟩) (fun z35 hq36 hs37 => ?_)
        exact r_ret rfl (po_V hs37 rfl)
      · skip
        refine r_ld (pc' := 9) rfl rfl rfl rfl ?_
        refine r_gr (b := 257) (pc' := 12) rfl rfl sh_225 rfl pp_225_55 ?_
        refine r_ld (pc' := 13) rfl rfl rfl rfl ?_
        refine r_ld (pc' := 14) rfl rfl rfl rfl ?_
        refine r_ld (pc' := 15) rfl rfl rfl rfl ?_
        have hb38 := rd_225_26 hz
        have hf39 : z 225 26 = z0 225 26 := (hst.2.2.1 _ _ (notS_c (by omega) (notS_c (by omega) (notS_c (by omega) notS_n))))
        refine r_cVI (pc' := 18) rfl rfl rfl rfl rfl sh_225 (m_161 (d := d)  hst.1 hst.2.1 ) (fun v40 z41 w42 p43 h44 hs45 hE46 => ?_)
        obtain ⟨rfl, rfl, rfl, hE46⟩ := hE46
        refine r_ilt (pc' := 21) rfl rfl ⟨by omega, by omega⟩ ⟨by omega, by omega⟩ (fun hc48 => ?_) (fun hc48 => ?_)
        · skip
          refine r_ld (pc' := 26) rfl rfl rfl rfl ?_
          refine r_zge (pc' := 29) rfl rfl ⟨by omega, by omega⟩ (fun hc49 => ?_) (fun hc49 => ?_)
          · skip
            refine r_ld (pc' := 39) rfl rfl rfl rfl ?_
            refine r_gr (b := 236) (pc' := 42) rfl rfl sh_225 rfl pp_225_19 ?_
            refine r_cb (pc' := 44) rfl (by decide) rfl ?_
            refine r_ld (pc' := 45) rfl rfl rfl rfl ?_
            refine r_mul (pc' := 46) rfl rfl ?_
            refine r_ld (pc' := 47) rfl rfl rfl rfl ?_
            refine r_add (pc' := 48) rfl rfl ?_
            have hb50 := rd_236 hz (i := ((18 * a1) + x2).toNat) (by omega)
            refine r_ia (pc' := 49) rfl rfl sh_236 rfl (by omega) (by omega) (hst.2.2.1 _ _ (notS_c (by omega) (notS_c (by omega) (notS_c (by omega) notS_n)))) ?_
            refine r_i2l (pc' := 50) rfl rfl ⟨by omega, by omega⟩ ?_
            refine r_ls (pc' := 51) rfl rfl sh_257 rfl (by omega) (by omega) hst (inS_0 (by omega) (by omega) (by omega) (by omega)) (wr_257 ⟨by omega, by omega⟩) (fun w51 hq52 hs53 => ?_)
            refine r_inc (pc' := 54) (lv' := [(0, _), (1, _)]) rfl rfl rfl rfl rfl ?_
            refine r_go rfl ?_
            have hb54 := rd_225_58 hz
            have hb55 := rd_225_59 hz
            exact w_lv (sub_c rfl (sub_c rfl (sub_c rfl sub_n))) rfl (ih0 (x2 + 1) z w51 ⟨by omega, by omega⟩ hs53 (un_z_225_58) (un_z_225_59) (by omega))
          · skip
            refine r_ld (pc' := 30) rfl rfl rfl rfl ?_
            refine r_gr (b := 270) (pc' := 33) rfl rfl sh_225 rfl pp_225_71 ?_
            refine r_ld (pc' := 34) rfl rfl rfl rfl ?_
            have hb56 := rd_270 hw (i := x2.toNat) (by omega)
            refine r_la (pc' := 35) rfl rfl sh_270 rfl (by omega) (by omega) (hst.2.2.2 _ _ (notS_c (by omega) (notS_c (by omega) (notS_c (by omega) notS_n)))) ?_
            refine r_go rfl ?_
            refine r_ls (pc' := 51) rfl rfl sh_257 rfl (by omega) (by omega) hst (inS_0 (by omega) (by omega) (by omega) (by omega)) (wr_257 ⟨by omega, by omega⟩) (fun w57 hq58 hs59 => ?_)
            refine r_inc (pc' := 54) (lv' := [(0, _), (1, _)]) rfl rfl rfl rfl rfl ?_
            refine r_go rfl ?_
            have hb60 := rd_225_58 hz
            have hb61 := rd_225_59 hz
            exact w_lv (sub_c rfl (sub_c rfl (sub_c rfl sub_n))) rfl (ih0 (x2 + 1) z w57 ⟨by omega, by omega⟩ hs59 (un_z_225_58) (un_z_225_59) (by omega))
        · skip
          refine r_lc0 (pc' := 22) rfl rfl ?_
          refine r_go rfl ?_
          refine r_ls (pc' := 51) rfl rfl sh_257 rfl (by omega) (by omega) hst (inS_0 (by omega) (by omega) (by omega) (by omega)) (wr_257 ⟨by omega, by omega⟩) (fun w62 hq63 hs64 => ?_)
          refine r_inc (pc' := 54) (lv' := [(0, _), (1, _)]) rfl rfl rfl rfl rfl ?_
          refine r_go rfl ?_
          have hb65 := rd_225_58 hz
          have hb66 := rd_225_59 hz
          exact w_lv (sub_c rfl (sub_c rfl (sub_c rfl sub_n))) rfl (ih0 (x2 + 1) z w62 ⟨by omega, by omega⟩ hs64 (un_z_225_58) (un_z_225_59) (by omega))
  refine w_m rfl rfl ?_
  refine r_c0 (pc' := 1) rfl rfl ?_
  refine r_st (pc' := 2) (lv' := [(2, _), (0, _), (1, _)]) rfl rfl rfl rfl ?_
  have hb67 := rd_225_58 hz
  have hb68 := rd_225_59 hz
  exact w_lv (sub_c rfl (sub_c rfl (sub_c rfl sub_n))) rfl ((key ((40 * (18 - 0) + 37 : Int).toNat + 1)) 0 z0 w0 ⟨by omega, by omega⟩ hst (rfl) (rfl) (by omega))
/-- LoopGroundModel isFairWord -/
abbrev S_218  : mS := []
abbrev E_218 (a1 : Int) (z0 w0 : mZ) (x y tx it mt tt ct : Option Nat) : Int → mZ → mZ → mP → Prop := fun v z w p => p = (pq x y tx it mt tt ct) ∧ z0 = z ∧ w0 = w ∧ 0 ≤ v ∧ v ≤ 1 ∧ (v = 1 → 0 ≤ a1 ∧ a1 < z0 225 28)
theorem m_218 {d : Nat} {z0 w0 : mZ} {x y tx it mt tt ct : Option Nat} (a1 : Int) (hz : rz z0) (hw : rw_ w0) (ha1 : (-2147483648) ≤ a1 ∧ a1 ≤ 2147483647) : wc (d + 2) 218 [.ref 225, .int (Int32.ofInt a1)] (mk z0 w0 (pq x y tx it mt tt ct)) (poI S_218 z0 w0 (E_218 a1 z0 w0 x y tx it mt tt ct)) := by
  have hst : st_ S_218 z0 w0 z0 w0 := st_rf hz hw
  have hz15 := rd_225_28 hz
  have key : ∀ N : Nat, (∀ (x2 x3 : Int) , 0 ≤ x2 ∧ x2 ≤ 1 → 0 ≤ x3 ∧ x3 ≤ 8 → (x2 = 1 → 0 ≤ a1 ∧ a1 < z0 225 28) → 30 * (8 - x3) + 23 < (N : Int) → wp_ (d + 1) 218 4 (some .boolean) (8, [(0, .ref 225), (1, .int (Int32.ofInt a1)), (2, .int (Int32.ofInt x2)), (3, .int (Int32.ofInt x3))], [], mk z0 w0 (pq x y tx it mt tt ct)) (poI S_218 z0 w0 (E_218 a1 z0 w0 x y tx it mt tt ct))) := by
    intro N
    induction N with
    | zero =>
      intro x2 x3 
      intros; exfalso; omega
    | succ N ih =>
      have ih0 := ih; clear ih
      intro x2 x3  hx2 hx3 as1 hM
      refine r_ld (pc' := 9) rfl rfl rfl rfl ?_
      refine r_zeq (pc' := 12) rfl rfl ⟨by omega, by omega⟩ (fun hc16 => ?_) (fun hc16 => ?_)
      · skip
        refine r_ld (pc' := 46) rfl rfl rfl rfl ?_
        exact r_rz rfl (by omega) (po_I hst ⟨by omega, by omega⟩ ⟨rfl, rfl, rfl, by omega, by omega, (by first | omega | assumption)⟩)
      · skip
        refine r_ld (pc' := 13) rfl rfl rfl rfl ?_
        refine r_ld (pc' := 14) rfl rfl rfl rfl ?_
        refine r_gr (b := 239) (pc' := 17) rfl rfl sh_225 rfl pp_225_22 ?_
        refine r_ld (pc' := 18) rfl rfl rfl rfl ?_
        have hb17 := rd_239 hz (i := a1.toNat) (by omega)
        refine r_ia (pc' := 19) rfl rfl sh_239 rfl (by omega) (by omega) rfl ?_
        refine r_ige (pc' := 22) rfl rfl ⟨by omega, by omega⟩ ⟨by omega, by omega⟩ (fun hc18 => ?_) (fun hc18 => ?_)
        · skip
          refine r_ld (pc' := 46) rfl rfl rfl rfl ?_
          exact r_rz rfl (by omega) (po_I hst ⟨by omega, by omega⟩ ⟨rfl, rfl, rfl, by omega, by omega, (by first | omega | assumption)⟩)
        · skip
          refine r_ld (pc' := 23) rfl rfl rfl rfl ?_
          refine r_gr (b := 254) (pc' := 26) rfl rfl sh_225 rfl pp_225_50 ?_
          refine r_ld (pc' := 27) rfl rfl rfl rfl ?_
          refine r_gr (b := 237) (pc' := 30) rfl rfl sh_225 rfl pp_225_20 ?_
          refine r_cb (pc' := 32) rfl (by decide) rfl ?_
          refine r_ld (pc' := 33) rfl rfl rfl rfl ?_
          refine r_mul (pc' := 34) rfl rfl ?_
          refine r_ld (pc' := 35) rfl rfl rfl rfl ?_
          refine r_add (pc' := 36) rfl rfl ?_
          have hb19 := rd_237 hz (i := ((8 * a1) + x3).toNat) (by omega)
          refine r_ia (pc' := 37) rfl rfl sh_237 rfl (by omega) (by omega) rfl ?_
          have hb20 := rd_254 hz (i := (z0 237 ((8 * a1) + x3).toNat).toNat) (by omega)
          refine r_ba (pc' := 38) rfl rfl sh_254 (Or.inr rfl) rfl (by omega) (by omega) rfl ?_
          refine r_st (pc' := 39) (lv' := [(2, _), (0, _), (1, _), (3, _)]) rfl rfl rfl rfl ?_
          refine r_inc (pc' := 42) (lv' := [(2, _), (0, _), (1, _)]) rfl rfl rfl rfl rfl ?_
          refine r_go rfl ?_
          exact w_lv (sub_c rfl (sub_c rfl (sub_c rfl (sub_c rfl sub_n)))) rfl (ih0 (z0 254 (z0 237 ((8 * a1) + x3).toNat).toNat) (x3 + 1) ⟨by omega, by omega⟩ ⟨by omega, by omega⟩ (by first | omega | assumption) (by omega))
  refine w_m rfl rfl ?_
  refine r_ld (pc' := 1) rfl rfl rfl rfl ?_
  refine r_ld (pc' := 2) rfl rfl rfl rfl ?_
  have hb21 := rd_225_28 hz
  refine r_cVI (pc' := 5) rfl rfl rfl rfl rfl sh_225 (m_174 (d := d) a1 hst.1 hst.2.1 ⟨by omega, by omega⟩) (fun v22 z23 w24 p25 h26 hs27 hE28 => ?_)
  obtain ⟨rfl, rfl, rfl, hE28⟩ := hE28
  refine r_st (pc' := 6) (lv' := [(2, _), (0, _), (1, _)]) rfl rfl rfl rfl ?_
  refine r_c0 (pc' := 7) rfl rfl ?_
  refine r_st (pc' := 8) (lv' := [(3, _), (2, _), (0, _), (1, _)]) rfl rfl rfl rfl ?_
  exact w_lv (sub_c rfl (sub_c rfl (sub_c rfl (sub_c rfl sub_n)))) rfl ((key ((30 * (8 - 0) + 23 : Int).toNat + 1)) v22 0 ⟨by omega, by omega⟩ ⟨by omega, by omega⟩ (by first | omega | assumption) (by omega))
/-- LoopGroundModel isAsWas -/
abbrev S_219  : mS := []
abbrev E_219 (a1 : Int) (z0 w0 : mZ) (x y tx it mt tt ct : Option Nat) : Int → mZ → mZ → mP → Prop := fun v z w p => p = (pq x y tx it mt tt ct) ∧ z0 = z ∧ w0 = w ∧ 0 ≤ v ∧ v ≤ 1
theorem m_219 {d : Nat} {z0 w0 : mZ} {x y tx it mt tt ct : Option Nat} (a1 : Int) (hz : rz z0) (hw : rw_ w0) (ha1 : 0 ≤ a1 ∧ a1 ≤ 7) : wc (d + 2) 219 [.ref 225, .int (Int32.ofInt a1)] (mk z0 w0 (pq x y tx it mt tt ct)) (poI S_219 z0 w0 (E_219 a1 z0 w0 x y tx it mt tt ct)) := by
  have hst : st_ S_219 z0 w0 z0 w0 := st_rf hz hw
  have key : ∀ N : Nat, (∀ (x2 x3 : Int) , 0 ≤ x2 ∧ x2 ≤ 1 → 0 ≤ x3 ∧ x3 ≤ 18 → 38 * (18 - x3) + 28 < (N : Int) → wp_ (d + 1) 219 4 (some .boolean) (15, [(0, .ref 225), (1, .int (Int32.ofInt a1)), (2, .int (Int32.ofInt x2)), (3, .int (Int32.ofInt x3))], [], mk z0 w0 (pq x y tx it mt tt ct)) (poI S_219 z0 w0 (E_219 a1 z0 w0 x y tx it mt tt ct))) ∧ (∀ (x3 : Int) , 0 ≤ x3 ∧ x3 ≤ 17 → 38 * (18 - x3) + 5 < (N : Int) → wp_ (d + 1) 219 4 (some .boolean) (53, [(0, .ref 225), (1, .int (Int32.ofInt a1)), (3, .int (Int32.ofInt x3))], [], mk z0 w0 (pq x y tx it mt tt ct)) (poI S_219 z0 w0 (E_219 a1 z0 w0 x y tx it mt tt ct))) := by
    intro N
    induction N with
    | zero =>
      refine ⟨?_, ?_⟩
      · intro x2 x3 
        intros; exfalso; omega
      · intro x3 
        intros; exfalso; omega
    | succ N ih =>
      obtain ⟨ih0, ih1⟩ := ih
      refine ⟨?_, ?_⟩
      · intro x2 x3  hx2 hx3 hM
        refine r_ld (pc' := 16) rfl rfl rfl rfl ?_
        refine r_ld (pc' := 17) rfl rfl rfl rfl ?_
        have hb17 := rd_225_26 hz
        refine r_cVI (pc' := 20) rfl rfl rfl rfl rfl sh_225 (m_161 (d := d)  hst.1 hst.2.1 ) (fun v18 z19 w20 p21 h22 hs23 hE24 => ?_)
        obtain ⟨rfl, rfl, rfl, hE24⟩ := hE24
        refine r_ige (pc' := 23) rfl rfl ⟨by omega, by omega⟩ ⟨by omega, by omega⟩ (fun hc26 => ?_) (fun hc26 => ?_)
        · skip
          refine r_ld (pc' := 62) rfl rfl rfl rfl ?_
          exact r_rz rfl (by omega) (po_I hst ⟨by omega, by omega⟩ ⟨rfl, rfl, rfl, by omega, by omega⟩)
        · skip
          refine r_ld (pc' := 24) rfl rfl rfl rfl ?_
          refine r_zeq (pc' := 27) rfl rfl ⟨by omega, by omega⟩ (fun hc27 => ?_) (fun hc27 => ?_)
          · skip
            exact w_lv (sub_c rfl (sub_c rfl (sub_c rfl sub_n))) rfl (ih1 x3 ⟨by omega, by omega⟩ (by omega))
          · skip
            refine r_ld (pc' := 28) rfl rfl rfl rfl ?_
            refine r_gr (b := 257) (pc' := 31) rfl rfl sh_225 rfl pp_225_55 ?_
            refine r_ld (pc' := 32) rfl rfl rfl rfl ?_
            have hb28 := rd_257 hw (i := x3.toNat) (by omega)
            refine r_la (pc' := 33) rfl rfl sh_257 rfl (by omega) (by omega) rfl ?_
            refine r_ld (pc' := 34) rfl rfl rfl rfl ?_
            refine r_gr (b := 236) (pc' := 37) rfl rfl sh_225 rfl pp_225_19 ?_
            refine r_cb (pc' := 39) rfl (by decide) rfl ?_
            refine r_ld (pc' := 40) rfl rfl rfl rfl ?_
            refine r_mul (pc' := 41) rfl rfl ?_
            refine r_ld (pc' := 42) rfl rfl rfl rfl ?_
            refine r_add (pc' := 43) rfl rfl ?_
            have hb29 := rd_236 hz (i := ((18 * a1) + x3).toNat) (by omega)
            refine r_ia (pc' := 44) rfl rfl sh_236 rfl (by omega) (by omega) rfl ?_
            refine r_i2l (pc' := 45) rfl rfl ⟨by omega, by omega⟩ ?_
            refine r_lne (pc' := 49) rfl rfl rfl ⟨by omega, by omega⟩ ⟨by omega, by omega⟩ (fun hc30 => ?_) (fun hc30 => ?_)
            · skip
              exact w_lv (sub_c rfl (sub_c rfl (sub_c rfl sub_n))) rfl (ih1 x3 ⟨by omega, by omega⟩ (by omega))
            · skip
              refine r_c0 (pc' := 50) rfl rfl ?_
              refine r_go rfl ?_
              refine r_st (pc' := 55) (lv' := [(2, _), (0, _), (1, _), (3, _)]) rfl rfl rfl rfl ?_
              refine r_inc (pc' := 58) (lv' := [(2, _), (0, _), (1, _)]) rfl rfl rfl rfl rfl ?_
              refine r_go rfl ?_
              exact w_lv (sub_c rfl (sub_c rfl (sub_c rfl (sub_c rfl sub_n)))) rfl (ih0 1 (x3 + 1) ⟨by omega, by omega⟩ ⟨by omega, by omega⟩ (by omega))
      · intro x3  hx3 hM
        refine r_c0 (pc' := 54) rfl rfl ?_
        refine r_st (pc' := 55) (lv' := [(2, _), (0, _), (1, _), (3, _)]) rfl rfl rfl rfl ?_
        refine r_inc (pc' := 58) (lv' := [(2, _), (0, _), (1, _)]) rfl rfl rfl rfl rfl ?_
        refine r_go rfl ?_
        exact w_lv (sub_c rfl (sub_c rfl (sub_c rfl (sub_c rfl sub_n)))) rfl (ih0 0 (x3 + 1) ⟨by omega, by omega⟩ ⟨by omega, by omega⟩ (by omega))
  refine w_m rfl rfl ?_
  refine r_ld (pc' := 1) rfl rfl rfl rfl ?_
  have hb31 := rd_225_58 hz
  refine r_gi (pc' := 4) rfl rfl sh_225 rfl rfl ?_
  refine r_zne (pc' := 7) rfl rfl ⟨by omega, by omega⟩ (fun hc32 => ?_) (fun hc32 => ?_)
  · skip
    refine r_c0 (pc' := 12) rfl rfl ?_
    refine r_st (pc' := 13) (lv' := [(2, _), (0, _), (1, _)]) rfl rfl rfl rfl ?_
    refine r_c0 (pc' := 14) rfl rfl ?_
    refine r_st (pc' := 15) (lv' := [(3, _), (2, _), (0, _), (1, _)]) rfl rfl rfl rfl ?_
    exact w_lv (sub_c rfl (sub_c rfl (sub_c rfl (sub_c rfl sub_n)))) rfl ((key ((38 * (18 - 0) + 28 : Int).toNat + 1)).1 0 0 ⟨by omega, by omega⟩ ⟨by omega, by omega⟩ (by omega))
  · skip
    refine r_c0 (pc' := 8) rfl rfl ?_
    refine r_go rfl ?_
    refine r_st (pc' := 13) (lv' := [(2, _), (0, _), (1, _)]) rfl rfl rfl rfl ?_
    refine r_c0 (pc' := 14) rfl rfl ?_
    refine r_st (pc' := 15) (lv' := [(3, _), (2, _), (0, _), (1, _)]) rfl rfl rfl rfl ?_
    exact w_lv (sub_c rfl (sub_c rfl (sub_c rfl (sub_c rfl sub_n)))) rfl ((key ((38 * (18 - 0) + 28 : Int).toNat + 1)).1 1 0 ⟨by omega, by omega⟩ ⟨by omega, by omega⟩ (by omega))
/-- LoopGroundModel layPolynomial -/
abbrev S_229  : mS := [(267, 267, 0, 18), (265, 265, 0, 323), (266, 266, 0, 323)]
abbrev E_229  (z0 w0 : mZ) (x y tx it mt tt ct : Option Nat) : mZ → mZ → mP → Prop := fun z w p => p = (pq x y tx it mt tt ct)
theorem m_229 {d : Nat} {z0 w0 : mZ} {x y tx it mt tt ct : Option Nat}  (hz : rz z0) (hw : rw_ w0) : wc (d + 2) 229 [.ref 225] (mk z0 w0 (pq x y tx it mt tt ct)) (poV S_229 z0 w0 (E_229  z0 w0 x y tx it mt tt ct)) := by
  have hst : st_ S_229 z0 w0 z0 w0 := st_rf hz hw
  have key : ∀ N : Nat, (∀ (x1 x2 : Int) (z w : mZ), 0 ≤ x1 ∧ x1 ≤ 18 → 0 ≤ x2 ∧ x2 ≤ 19 → st_ S_229 z0 w0 z w → 131 * (19 - x2) + 1004371 < (N : Int) → wp_ (d + 1) 229 6 none (7, [(0, .ref 225), (1, .int (Int32.ofInt x1)), (2, .int (Int32.ofInt x2))], [], mk z w (pq x y tx it mt tt ct)) (poV S_229 z0 w0 (E_229  z0 w0 x y tx it mt tt ct))) ∧ (∀ (x1 x2 : Int) (z w : mZ), 0 ≤ x1 ∧ x1 ≤ 18 → 0 ≤ x2 ∧ x2 ≤ 324 → st_ S_229 z0 w0 z w → 131 * (324 - x2) + 961653 < (N : Int) → wp_ (d + 1) 229 6 none (28, [(0, .ref 225), (1, .int (Int32.ofInt x1)), (2, .int (Int32.ofInt x2))], [], mk z w (pq x y tx it mt tt ct)) (poV S_229 z0 w0 (E_229  z0 w0 x y tx it mt tt ct))) ∧ (∀ (x1 x2 : Int) (z w : mZ), 0 ≤ x1 ∧ x1 ≤ 18 → 1 ≤ x2 ∧ x2 ≤ 19 → st_ S_229 z0 w0 z w → 48077 * (19 - x2) + 48042 < (N : Int) → wp_ (d + 1) 229 6 none (57, [(0, .ref 225), (1, .int (Int32.ofInt x1)), (2, .int (Int32.ofInt x2))], [], mk z w (pq x y tx it mt tt ct)) (poV S_229 z0 w0 (E_229  z0 w0 x y tx it mt tt ct))) ∧ (∀ (x1 x2 x3 : Int) (z w : mZ), 1 ≤ x1 ∧ x1 ≤ 18 → 1 ≤ x2 ∧ x2 ≤ 18 → 0 ≤ x3 ∧ x3 ≤ 18 → st_ S_229 z0 w0 z w → (x2 ≤ x1) → 48077 * (19 - x2) + 131 * (18 - x3) + 45417 < (N : Int) → wp_ (d + 1) 229 6 none (64, [(0, .ref 225), (1, .int (Int32.ofInt x1)), (2, .int (Int32.ofInt x2)), (3, .int (Int32.ofInt x3))], [], mk z w (pq x y tx it mt tt ct)) (poV S_229 z0 w0 (E_229  z0 w0 x y tx it mt tt ct))) ∧ (∀ (x1 x2 x3 x5 : Int) (z w : mZ), 1 ≤ x1 ∧ x1 ≤ 18 → 1 ≤ x2 ∧ x2 ≤ 18 → (-9223372036854775808) ≤ x3 ∧ x3 ≤ 9223372036854775807 → 0 ≤ x5 ∧ x5 ≤ 18 → st_ S_229 z0 w0 z w → (x2 ≤ x1) → 48077 * (19 - x2) + 131 * (18 - x5) + 42759 < (N : Int) → wp_ (d + 1) 229 6 none (121, [(0, .ref 225), (1, .int (Int32.ofInt x1)), (2, .int (Int32.ofInt x2)), (3, .long (Int64.ofInt x3)), (5, .int (Int32.ofInt x5))], [], mk z w (pq x y tx it mt tt ct)) (poV S_229 z0 w0 (E_229  z0 w0 x y tx it mt tt ct))) ∧ (∀ (x1 x2 x5 : Int) (z w : mZ), 1 ≤ x1 ∧ x1 ≤ 18 → 1 ≤ x2 ∧ x2 ≤ 18 → 0 ≤ x5 ∧ x5 ≤ 324 → st_ S_229 z0 w0 z w → (x2 ≤ x1) → 48077 * (19 - x2) + 131 * (324 - x5) + 15 < (N : Int) → wp_ (d + 1) 229 6 none (186, [(0, .ref 225), (1, .int (Int32.ofInt x1)), (2, .int (Int32.ofInt x2)), (5, .int (Int32.ofInt x5))], [], mk z w (pq x y tx it mt tt ct)) (poV S_229 z0 w0 (E_229  z0 w0 x y tx it mt tt ct))) := by
    intro N
    induction N with
    | zero =>
      refine ⟨?_, ?_, ?_, ?_, ?_, ?_⟩
      · intro x1 x2 z w
        intros; exfalso; omega
      · intro x1 x2 z w
        intros; exfalso; omega
      · intro x1 x2 z w
        intros; exfalso; omega
      · intro x1 x2 x3 z w
        intros; exfalso; omega
      · intro x1 x2 x3 x5 z w
        intros; exfalso; omega
      · intro x1 x2 x5 z w
        intros; exfalso; omega
    | succ N ih =>
      obtain ⟨ih0, ih1, ih2, ih3, ih4, ih5⟩ := ih
      refine ⟨?_, ?_, ?_, ?_, ?_, ?_⟩
      · intro x1 x2 z w  hx1 hx2 hst hM
        refine r_ld (pc' := 8) rfl rfl rfl rfl ?_
        refine r_cb (pc' := 10) rfl (by decide) rfl ?_
        refine r_ige (pc' := 13) rfl rfl ⟨by omega, by omega⟩ ⟨by decide, by decide⟩ (fun hc74 => ?_) (fun hc74 => ?_)
        · skip
          refine r_c0 (pc' := 27) rfl rfl ?_
          refine r_st (pc' := 28) (lv' := [(2, _), (0, _), (1, _)]) rfl rfl rfl rfl ?_
          exact w_lv (sub_c rfl (sub_c rfl (sub_c rfl sub_n))) rfl (ih1 x1 0 z w ⟨by omega, by omega⟩ ⟨by omega, by omega⟩ hst (by omega))
        · skip
          refine r_ld (pc' := 14) rfl rfl rfl rfl ?_
          refine r_gr (b := 267) (pc' := 17) rfl rfl sh_225 rfl pp_225_67 ?_
          refine r_ld (pc' := 18) rfl rfl rfl rfl ?_
          refine r_lc0 (pc' := 19) rfl rfl ?_
          refine r_ls (pc' := 20) rfl rfl sh_267 rfl (by omega) (by omega) hst (inS_0 (by omega) (by omega) (by omega) (by omega)) (wr_267 ⟨by omega, by omega⟩) (fun w75 hq76 hs77 => ?_)
          refine r_inc (pc' := 23) (lv' := [(0, _), (1, _)]) rfl rfl rfl rfl rfl ?_
          refine r_go rfl ?_
          exact w_lv (sub_c rfl (sub_c rfl (sub_c rfl sub_n))) rfl (ih0 x1 (x2 + 1) z w75 ⟨by omega, by omega⟩ ⟨by omega, by omega⟩ hs77 (by omega))
      · intro x1 x2 z w  hx1 hx2 hst hM
        refine r_ld (pc' := 29) rfl rfl rfl rfl ?_
        refine r_cs (pc' := 32) rfl (by decide) rfl ?_
        refine r_ige (pc' := 35) rfl rfl ⟨by omega, by omega⟩ ⟨by decide, by decide⟩ (fun hc78 => ?_) (fun hc78 => ?_)
        · skip
          refine r_ld (pc' := 49) rfl rfl rfl rfl ?_
          refine r_gr (b := 267) (pc' := 52) rfl rfl sh_225 rfl pp_225_67 ?_
          refine r_ld (pc' := 53) rfl rfl rfl rfl ?_
          refine r_lc1 (pc' := 54) rfl rfl ?_
          refine r_ls (pc' := 55) rfl rfl sh_267 rfl (by omega) (by omega) hst (inS_0 (by omega) (by omega) (by omega) (by omega)) (wr_267 ⟨by omega, by omega⟩) (fun w79 hq80 hs81 => ?_)
          refine r_c0 (pc' := 56) rfl rfl ?_
          refine r_st (pc' := 57) (lv' := [(2, _), (0, _), (1, _)]) rfl rfl rfl rfl ?_
          exact w_lv (sub_c rfl (sub_c rfl (sub_c rfl sub_n))) rfl (ih2 x1 1 z w79 ⟨by omega, by omega⟩ ⟨by omega, by omega⟩ hs81 (by omega))
        · skip
          refine r_ld (pc' := 36) rfl rfl rfl rfl ?_
          refine r_gr (b := 265) (pc' := 39) rfl rfl sh_225 rfl pp_225_65 ?_
          refine r_ld (pc' := 40) rfl rfl rfl rfl ?_
          refine r_lc0 (pc' := 41) rfl rfl ?_
          refine r_ls (pc' := 42) rfl rfl sh_265 rfl (by omega) (by omega) hst (inS_s (inS_0 (by omega) (by omega) (by omega) (by omega))) (wr_265 ⟨by omega, by omega⟩) (fun w82 hq83 hs84 => ?_)
          refine r_inc (pc' := 45) (lv' := [(0, _), (1, _)]) rfl rfl rfl rfl rfl ?_
          refine r_go rfl ?_
          exact w_lv (sub_c rfl (sub_c rfl (sub_c rfl sub_n))) rfl (ih1 x1 (x2 + 1) z w82 ⟨by omega, by omega⟩ ⟨by omega, by omega⟩ hs84 (by omega))
      · intro x1 x2 z w  hx1 hx2 hst hM
        refine r_ld (pc' := 58) rfl rfl rfl rfl ?_
        refine r_ld (pc' := 59) rfl rfl rfl rfl ?_
        refine r_igt (pc' := 62) rfl rfl ⟨by omega, by omega⟩ ⟨by omega, by omega⟩ (fun hc85 => ?_) (fun hc85 => ?_)
        · skip
          exact r_ret rfl (po_V hst rfl)
        · skip
          refine r_c0 (pc' := 63) rfl rfl ?_
          refine r_st (pc' := 64) (lv' := [(3, _), (0, _), (1, _), (2, _)]) rfl rfl rfl rfl ?_
          exact w_lv (sub_c rfl (sub_c rfl (sub_c rfl (sub_c rfl sub_n)))) rfl (ih3 x1 x2 0 z w ⟨by omega, by omega⟩ ⟨by omega, by omega⟩ ⟨by omega, by omega⟩ hst (by first | omega | assumption) (by omega))
      · intro x1 x2 x3 z w  hx1 hx2 hx3 hst as1 hM
        refine r_ld (pc' := 65) rfl rfl rfl rfl ?_
        refine r_ld (pc' := 66) rfl rfl rfl rfl ?_
        refine r_ige (pc' := 69) rfl rfl ⟨by omega, by omega⟩ ⟨by omega, by omega⟩ (fun hc86 => ?_) (fun hc86 => ?_)
        · skip
          refine r_ld (pc' := 113) rfl rfl rfl rfl ?_
          refine r_cVV (pc' := 116) rfl rfl rfl rfl rfl sh_225 (m_228 (d := d)  hst.1 hst.2.1 ) (fun z88 w89 p90 hs92 hE93 => ?_)
          have hs94 := st_tr hst hs92 (sub_B rfl)
          obtain rfl := hE93
          refine r_lc0 (pc' := 117) rfl rfl ?_
          refine r_st (pc' := 118) (lv' := [(3, _), (0, _), (1, _), (2, _)]) rfl rfl rfl rfl ?_
          refine r_c0 (pc' := 119) rfl rfl ?_
          refine r_st (pc' := 121) (lv' := [(5, _), (3, _), (0, _), (1, _), (2, _)]) rfl rfl rfl rfl ?_
          exact w_lv (sub_c rfl (sub_c rfl (sub_c rfl (sub_c rfl (sub_c rfl sub_n))))) rfl (ih4 x1 x2 0 0 z88 w89 ⟨by omega, by omega⟩ ⟨by omega, by omega⟩ ⟨by omega, by omega⟩ ⟨by omega, by omega⟩ hs94 (by first | omega | assumption) (by omega))
        · skip
          refine r_ld (pc' := 70) rfl rfl rfl rfl ?_
          refine r_gr (b := 265) (pc' := 73) rfl rfl sh_225 rfl pp_225_65 ?_
          refine r_cb (pc' := 75) rfl (by decide) rfl ?_
          refine r_ld (pc' := 76) rfl rfl rfl rfl ?_
          refine r_mul (pc' := 77) rfl rfl ?_
          refine r_ld (pc' := 78) rfl rfl rfl rfl ?_
          refine r_add (pc' := 79) rfl rfl ?_
          refine r_ld (pc' := 80) rfl rfl rfl rfl ?_
          refine r_gr (b := 265) (pc' := 83) rfl rfl sh_225 rfl pp_225_65 ?_
          refine r_cb (pc' := 85) rfl (by decide) rfl ?_
          refine r_ld (pc' := 86) rfl rfl rfl rfl ?_
          refine r_mul (pc' := 87) rfl rfl ?_
          refine r_ld (pc' := 88) rfl rfl rfl rfl ?_
          refine r_add (pc' := 89) rfl rfl ?_
          have hb95 := rd_265 hst.2.1 (i := ((18 * x3) + x3).toNat) (by omega)
          refine r_la (pc' := 90) rfl rfl sh_265 rfl (by omega) (by omega) rfl ?_
          refine r_ld (pc' := 91) rfl rfl rfl rfl ?_
          refine r_gr (b := 267) (pc' := 94) rfl rfl sh_225 rfl pp_225_67 ?_
          refine r_ld (pc' := 95) rfl rfl rfl rfl ?_
          refine r_ld (pc' := 96) rfl rfl rfl rfl ?_
          refine r_sub (pc' := 97) rfl rfl ?_
          refine r_c0 (pc' := 98) rfl rfl ?_
          refine r_add (pc' := 99) rfl rfl ?_
          have hb96 := rd_267 hst.2.1 (i := ((x1 - x2) + 1).toNat) (by omega)
          refine r_la (pc' := 100) rfl rfl sh_267 rfl (by omega) (by omega) rfl ?_
          refine r_ladd (pc' := 101) rfl rfl ?_
          refine w_hxl (fun v97 h98 h99 => ?_)
          refine r_al (pc' := 104) rfl rfl rfl rfl ?_
          refine r_lrmh (pc' := 105) rfl rfl ⟨by decide, by decide⟩ (by decide) (fun v100 h101 h102 h103 => ?_)
          refine r_ls (pc' := 106) rfl rfl sh_265 rfl (by omega) (by omega) hst (inS_s (inS_0 (by omega) (by omega) (by omega) (by omega))) (wr_265 ⟨by omega, by omega⟩) (fun w104 hq105 hs106 => ?_)
          refine r_inc (pc' := 109) (lv' := [(0, _), (1, _), (2, _)]) rfl rfl rfl rfl rfl ?_
          refine r_go rfl ?_
          exact w_lv (sub_c rfl (sub_c rfl (sub_c rfl (sub_c rfl sub_n)))) rfl (ih3 x1 x2 (x3 + 1) z w104 ⟨by omega, by omega⟩ ⟨by omega, by omega⟩ ⟨by omega, by omega⟩ hs106 (by first | omega | assumption) (by omega))
      · intro x1 x2 x3 x5 z w  hx1 hx2 hx3 hx5 hst as1 hM
        refine r_ld (pc' := 123) rfl rfl rfl rfl ?_
        refine r_ld (pc' := 124) rfl rfl rfl rfl ?_
        refine r_ige (pc' := 127) rfl rfl ⟨by omega, by omega⟩ ⟨by omega, by omega⟩ (fun hc107 => ?_) (fun hc107 => ?_)
        · skip
          refine r_ld (pc' := 150) rfl rfl rfl rfl ?_
          refine r_gr (b := 267) (pc' := 153) rfl rfl sh_225 rfl pp_225_67 ?_
          refine r_ld (pc' := 154) rfl rfl rfl rfl ?_
          refine r_ld (pc' := 155) rfl rfl rfl rfl ?_
          refine r_sub (pc' := 156) rfl rfl ?_
          refine r_al (pc' := 159) rfl rfl rfl rfl ?_
          refine r_ld (pc' := 160) rfl rfl rfl rfl ?_
          refine r_al (pc' := 163) rfl rfl rfl rfl ?_
          refine r_lrmh (pc' := 164) rfl rfl ⟨by decide, by decide⟩ (by decide) (fun v108 h109 h110 h111 => ?_)
          refine r_lsub (pc' := 165) rfl rfl ?_
          refine r_al (pc' := 168) rfl rfl rfl rfl ?_
          refine r_lrm (pc' := 169) (v := (1000003 - v108) % 1000003) rfl rfl ⟨by omega, by omega⟩ ⟨by decide, by decide⟩ (by decide) (tmod_n (by omega)) ?_
          refine r_ld (pc' := 170) rfl rfl rfl rfl ?_
          refine r_i2l (pc' := 171) rfl rfl ⟨by omega, by omega⟩ ?_
          refine r_al (pc' := 174) rfl rfl rfl rfl ?_
          refine r_cSL (pc' := 177) rfl rfl rfl rfl rfl (m_227 (d := d) x2 1000001 hst.1 hst.2.1 ⟨by omega, by omega⟩ ⟨by omega, by omega⟩) (fun v112 z113 w114 p115 h116 hs117 hE118 => ?_)
          obtain ⟨rfl, rfl, rfl, hE118⟩ := hE118
          refine r_lmul (pc' := 178) rfl rfl ?_
          refine w_hl (fun v120 h121 => ?_)
          unfold inL at h121
          refine r_al (pc' := 181) rfl rfl rfl rfl ?_
          refine r_lrmh (pc' := 182) rfl rfl ⟨by decide, by decide⟩ (by decide) (fun v122 h123 h124 h125 => ?_)
          refine r_ls (pc' := 183) rfl rfl sh_267 rfl (by omega) (by omega) hst (inS_0 (by omega) (by omega) (by omega) (by omega)) (wr_267 ⟨by omega, by omega⟩) (fun w126 hq127 hs128 => ?_)
          refine r_c0 (pc' := 184) rfl rfl ?_
          refine r_st (pc' := 186) (lv' := [(5, _), (0, _), (1, _), (2, _), (3, _)]) rfl rfl rfl rfl ?_
          exact w_lv (sub_c rfl (sub_c rfl (sub_c rfl (sub_c rfl sub_n)))) rfl (ih5 x1 x2 0 z w126 ⟨by omega, by omega⟩ ⟨by omega, by omega⟩ ⟨by omega, by omega⟩ hs128 (by first | omega | assumption) (by omega))
        · skip
          refine r_ld (pc' := 128) rfl rfl rfl rfl ?_
          refine r_ld (pc' := 129) rfl rfl rfl rfl ?_
          refine r_gr (b := 266) (pc' := 132) rfl rfl sh_225 rfl pp_225_66 ?_
          refine r_cb (pc' := 134) rfl (by decide) rfl ?_
          refine r_ld (pc' := 136) rfl rfl rfl rfl ?_
          refine r_mul (pc' := 137) rfl rfl ?_
          refine r_ld (pc' := 139) rfl rfl rfl rfl ?_
          refine r_add (pc' := 140) rfl rfl ?_
          have hb129 := rd_266 hst.2.1 (i := ((18 * x5) + x5).toNat) (by omega)
          refine r_la (pc' := 141) rfl rfl sh_266 rfl (by omega) (by omega) rfl ?_
          refine r_ladd (pc' := 142) rfl rfl ?_
          refine w_hxl (fun v130 h131 h132 => ?_)
          refine r_st (pc' := 143) (lv' := [(3, _), (0, _), (1, _), (2, _), (5, _)]) rfl rfl rfl rfl ?_
          refine r_inc (pc' := 146) (lv' := [(3, _), (0, _), (1, _), (2, _)]) rfl rfl rfl rfl rfl ?_
          refine r_go rfl ?_
          exact w_lv (sub_c rfl (sub_c rfl (sub_c rfl (sub_c rfl (sub_c rfl sub_n))))) rfl (ih4 x1 x2 v130 (x5 + 1) z w ⟨by omega, by omega⟩ ⟨by omega, by omega⟩ ⟨by omega, by omega⟩ ⟨by omega, by omega⟩ hst (by first | omega | assumption) (by omega))
      · intro x1 x2 x5 z w  hx1 hx2 hx5 hst as1 hM
        refine r_ld (pc' := 188) rfl rfl rfl rfl ?_
        refine r_cs (pc' := 191) rfl (by decide) rfl ?_
        refine r_ige (pc' := 194) rfl rfl ⟨by omega, by omega⟩ ⟨by decide, by decide⟩ (fun hc133 => ?_) (fun hc133 => ?_)
        · skip
          refine r_inc (pc' := 217) (lv' := [(0, _), (1, _), (5, _)]) rfl rfl rfl rfl rfl ?_
          refine r_go rfl ?_
          exact w_lv (sub_c rfl (sub_c rfl (sub_c rfl sub_n))) rfl (ih2 x1 (x2 + 1) z w ⟨by omega, by omega⟩ ⟨by omega, by omega⟩ hst (by omega))
        · skip
          refine r_ld (pc' := 195) rfl rfl rfl rfl ?_
          refine r_gr (b := 265) (pc' := 198) rfl rfl sh_225 rfl pp_225_65 ?_
          refine r_ld (pc' := 200) rfl rfl rfl rfl ?_
          refine r_ld (pc' := 201) rfl rfl rfl rfl ?_
          refine r_gr (b := 266) (pc' := 204) rfl rfl sh_225 rfl pp_225_66 ?_
          refine r_ld (pc' := 206) rfl rfl rfl rfl ?_
          have hb134 := rd_266 hst.2.1 (i := x5.toNat) (by omega)
          refine r_la (pc' := 207) rfl rfl sh_266 rfl (by omega) (by omega) rfl ?_
          refine r_ls (pc' := 208) rfl rfl sh_265 rfl (by omega) (by omega) hst (inS_s (inS_0 (by omega) (by omega) (by omega) (by omega))) (wr_265 ⟨by omega, by omega⟩) (fun w135 hq136 hs137 => ?_)
          refine r_inc (pc' := 211) (lv' := [(0, _), (1, _), (2, _)]) rfl rfl rfl rfl rfl ?_
          refine r_go rfl ?_
          exact w_lv (sub_c rfl (sub_c rfl (sub_c rfl (sub_c rfl sub_n)))) rfl (ih5 x1 x2 (x5 + 1) z w135 ⟨by omega, by omega⟩ ⟨by omega, by omega⟩ ⟨by omega, by omega⟩ hs137 (by first | omega | assumption) (by omega))
  refine w_m rfl rfl ?_
  refine r_ld (pc' := 1) rfl rfl rfl rfl ?_
  have hb138 := rd_225_26 hz
  refine r_cVI (pc' := 4) rfl rfl rfl rfl rfl sh_225 (m_161 (d := d)  hst.1 hst.2.1 ) (fun v139 z140 w141 p142 h143 hs144 hE145 => ?_)
  obtain ⟨rfl, rfl, rfl, hE145⟩ := hE145
  refine r_st (pc' := 5) (lv' := [(1, _), (0, _)]) rfl rfl rfl rfl ?_
  refine r_c0 (pc' := 6) rfl rfl ?_
  refine r_st (pc' := 7) (lv' := [(2, _), (1, _), (0, _)]) rfl rfl rfl rfl ?_
  exact w_lv (sub_c rfl (sub_c rfl (sub_c rfl sub_n))) rfl ((key ((131 * (19 - 0) + 1004371 : Int).toNat + 1)).1 v139 0 z0 w0 ⟨by omega, by omega⟩ ⟨by omega, by omega⟩ hst (by omega))
/-- LoopGroundModel lainAll -/
abbrev S_237  : mS := []
abbrev E_237  (z0 w0 : mZ) (x y tx it mt tt ct : Option Nat) : Int → mZ → mZ → mP → Prop := fun v z w p => p = (pq x y tx it mt tt ct) ∧ z0 = z ∧ w0 = w ∧ (-2147483648) ≤ v ∧ v ≤ 2147483647
theorem m_237 {d : Nat} {z0 w0 : mZ} {x y tx it mt tt ct : Option Nat}  (hz : rz z0) (hw : rw_ w0) : wc (d + 2) 237 [.ref 225] (mk z0 w0 (pq x y tx it mt tt ct)) (poI S_237 z0 w0 (E_237  z0 w0 x y tx it mt tt ct)) := by
  have hst : st_ S_237 z0 w0 z0 w0 := st_rf hz hw
  have key : ∀ N : Nat, (∀ (x1 x2 : Int) , (-2147483648) ≤ x1 ∧ x1 ≤ 2147483647 → 0 ≤ x2 ∧ x2 ≤ 18 → 19 * (18 - x2) + 14 < (N : Int) → wp_ (d + 1) 237 3 (some .int) (4, [(0, .ref 225), (1, .int (Int32.ofInt x1)), (2, .int (Int32.ofInt x2))], [], mk z0 w0 (pq x y tx it mt tt ct)) (poI S_237 z0 w0 (E_237  z0 w0 x y tx it mt tt ct))) := by
    intro N
    induction N with
    | zero =>
      intro x1 x2 
      intros; exfalso; omega
    | succ N ih =>
      have ih0 := ih; clear ih
      intro x1 x2  hx1 hx2 hM
      refine r_ld (pc' := 5) rfl rfl rfl rfl ?_
      refine r_ld (pc' := 6) rfl rfl rfl rfl ?_
      have hb15 := rd_225_26 hz
      refine r_cVI (pc' := 9) rfl rfl rfl rfl rfl sh_225 (m_161 (d := d)  hst.1 hst.2.1 ) (fun v16 z17 w18 p19 h20 hs21 hE22 => ?_)
      obtain ⟨rfl, rfl, rfl, hE22⟩ := hE22
      refine r_ige (pc' := 12) rfl rfl ⟨by omega, by omega⟩ ⟨by omega, by omega⟩ (fun hc24 => ?_) (fun hc24 => ?_)
      · skip
        refine r_ld (pc' := 28) rfl rfl rfl rfl ?_
        exact r_ri rfl (po_I hst ⟨by omega, by omega⟩ ⟨rfl, rfl, rfl, by omega, by omega⟩)
      · skip
        refine r_ld (pc' := 13) rfl rfl rfl rfl ?_
        refine r_ld (pc' := 14) rfl rfl rfl rfl ?_
        refine r_gr (b := 268) (pc' := 17) rfl rfl sh_225 rfl pp_225_68 ?_
        refine r_ld (pc' := 18) rfl rfl rfl rfl ?_
        have hb25 := rd_268 hz (i := x2.toNat) (by omega)
        refine r_ia (pc' := 19) rfl rfl sh_268 rfl (by omega) (by omega) rfl ?_
        refine r_add (pc' := 20) rfl rfl ?_
        refine w_hxi (fun v26 h27 h28 => ?_)
        refine r_st (pc' := 21) (lv' := [(1, _), (0, _), (2, _)]) rfl rfl rfl rfl ?_
        refine r_inc (pc' := 24) (lv' := [(1, _), (0, _)]) rfl rfl rfl rfl rfl ?_
        refine r_go rfl ?_
        exact w_lv (sub_c rfl (sub_c rfl (sub_c rfl sub_n))) rfl (ih0 v26 (x2 + 1) ⟨by omega, by omega⟩ ⟨by omega, by omega⟩ (by omega))
  refine w_m rfl rfl ?_
  refine r_c0 (pc' := 1) rfl rfl ?_
  refine r_st (pc' := 2) (lv' := [(1, _), (0, _)]) rfl rfl rfl rfl ?_
  refine r_c0 (pc' := 3) rfl rfl ?_
  refine r_st (pc' := 4) (lv' := [(2, _), (1, _), (0, _)]) rfl rfl rfl rfl ?_
  exact w_lv (sub_c rfl (sub_c rfl (sub_c rfl sub_n))) rfl ((key ((19 * (18 - 0) + 14 : Int).toNat + 1)) 0 0 ⟨by omega, by omega⟩ ⟨by omega, by omega⟩ (by omega))
/-- LoopGroundModel readSketch -/
abbrev S_249  : mS := [(225, 225, 76, 76), (272, 272, 0, 1599)]
abbrev E_249 (a1 : Int) (z0 w0 : mZ) (x y tx it mt tt ct : Option Nat) : Int → mZ → mZ → mP → Prop := fun v z w p => p = (pq x y tx it mt tt ct) ∧ 0 ≤ v ∧ v ≤ 1
theorem m_249 {d : Nat} {z0 w0 : mZ} {x y tx it mt tt ct : Option Nat} (a1 : Int) (hz : rz z0) (hw : rw_ w0) (ha1 : 0 ≤ a1 ∧ a1 ≤ 1600) : wc (d + 2) 249 [.ref 225, .int (Int32.ofInt a1)] (mk z0 w0 (pq x y tx it mt tt ct)) (poI S_249 z0 w0 (E_249 a1 z0 w0 x y tx it mt tt ct)) := by
  have hst : st_ S_249 z0 w0 z0 w0 := st_rf hz hw
  have key : ∀ N : Nat, (∀ (x2 x3 x4 : Int) (z w : mZ), 0 ≤ x2 ∧ x2 ≤ 11 → 0 ≤ x3 ∧ x3 ≤ 11 → 1 ≤ x4 ∧ x4 ≤ 1600 → 1 ≤ a1 ∧ a1 ≤ 1600 → 1 ≤ z0 225 26 ∧ z0 225 26 ≤ 12 → st_ S_249 z0 w0 z w → (z 225 76 = x4 - 1) → 71 * (1600 - x4) + 46 < (N : Int) → wp_ (d + 1) 249 6 (some .boolean) (42, [(0, .ref 225), (1, .int (Int32.ofInt a1)), (2, .int (Int32.ofInt x2)), (3, .int (Int32.ofInt x3)), (4, .int (Int32.ofInt x4))], [], mk z w (pq x y tx it mt tt ct)) (poI S_249 z0 w0 (E_249 a1 z0 w0 x y tx it mt tt ct))) := by
    intro N
    induction N with
    | zero =>
      intro x2 x3 x4 z w
      intros; exfalso; omega
    | succ N ih =>
      have ih0 := ih; clear ih
      intro x2 x3 x4 z w  hx2 hx3 hx4 hpa1 hz0_0 hst as1 hM
      refine r_ld (pc' := 44) rfl rfl rfl rfl ?_
      refine r_ld (pc' := 45) rfl rfl rfl rfl ?_
      refine r_ige (pc' := 48) rfl rfl ⟨by omega, by omega⟩ ⟨by omega, by omega⟩ (fun hc30 => ?_) (fun hc30 => ?_)
      · skip
        refine r_ld (pc' := 110) rfl rfl rfl rfl ?_
        refine r_ld (pc' := 111) rfl rfl rfl rfl ?_
        refine r_ine (pc' := 114) rfl rfl ⟨by omega, by omega⟩ ⟨by omega, by omega⟩ (fun hc31 => ?_) (fun hc31 => ?_)
        · skip
          refine r_c0 (pc' := 119) rfl rfl ?_
          exact r_rz rfl (by omega) (po_I hst ⟨by decide, by decide⟩ ⟨rfl, by omega, by omega⟩)
        · skip
          refine r_c0 (pc' := 115) rfl rfl ?_
          refine r_go rfl ?_
          exact r_rz rfl (by omega) (po_I hst ⟨by decide, by decide⟩ ⟨rfl, by omega, by omega⟩)
      · skip
        refine r_ld (pc' := 49) rfl rfl rfl rfl ?_
        refine r_ld (pc' := 50) rfl rfl rfl rfl ?_
        refine r_ld (pc' := 51) rfl rfl rfl rfl ?_
        refine r_gr (b := 226) (pc' := 54) rfl rfl sh_225 rfl pp_225_0 ?_
        refine r_ld (pc' := 56) rfl rfl rfl rfl ?_
        have hb32 := rd_226 hz (i := x4.toNat) (by omega)
        refine r_ia (pc' := 57) rfl rfl sh_226 rfl (by omega) (by omega) (hst.2.2.1 _ _ (notS_c (by omega) (notS_c (by omega) notS_n))) ?_
        refine r_cb (pc' := 59) rfl (by decide) rfl ?_
        refine r_sub (pc' := 60) rfl rfl ?_
        refine r_cVI (pc' := 63) rfl rfl rfl rfl rfl sh_225 (m_248 (d := d) x2 ((z0 226 x4.toNat) - 97) hst.1 hst.2.1 ⟨by omega, by omega⟩ ⟨by omega, by omega⟩) (fun v33 z34 w35 p36 h37 hs38 hE39 => ?_)
        obtain ⟨rfl, rfl, rfl, hE39⟩ := hE39
        refine r_st (pc' := 65) (lv' := [(5, _), (0, _), (1, _), (2, _), (3, _), (4, _)]) rfl rfl rfl rfl ?_
        refine r_ld (pc' := 67) rfl rfl rfl rfl ?_
        refine r_zge (pc' := 70) rfl rfl ⟨by omega, by omega⟩ (fun hc41 => ?_) (fun hc41 => ?_)
        · skip
          refine r_ld (pc' := 73) rfl rfl rfl rfl ?_
          refine r_gr (b := 272) (pc' := 76) rfl rfl sh_225 rfl pp_225_75 ?_
          refine r_ld (pc' := 77) rfl rfl rfl rfl ?_
          have hb42 := rd_225_76 hst.1
          refine r_gi (pc' := 80) rfl rfl sh_225 rfl rfl ?_
          refine r_ld (pc' := 82) rfl rfl rfl rfl ?_
          refine r_is (pc' := 83) rfl rfl sh_272 rfl (by omega) (by omega) hst (inS_s (inS_0 (by omega) (by omega) (by omega) (by omega))) (wr_272 ⟨by omega, by omega⟩) (fun z43 hq44 hs45 => ?_)
          refine r_ld (pc' := 84) rfl rfl rfl rfl ?_
          refine r_al (pc' := 85) rfl rfl rfl rfl ?_
          refine r_gi (pc' := 88) rfl rfl sh_225 rfl ((congrFun (congrFun hq44 _) _).trans (mu_ne (by omega))) ?_
          refine r_c0 (pc' := 89) rfl rfl ?_
          refine r_add (pc' := 90) rfl rfl ?_
          refine r_pi (pc' := 93) rfl rfl sh_225 rfl rfl hs45 (inS_0 (by omega) (by omega) (by omega) (by omega)) (wr_225_76 ⟨by omega, by omega⟩) (fun z46 hq47 hs48 => ?_)
          refine r_ld (pc' := 94) rfl rfl rfl rfl ?_
          refine r_gr (b := 240) (pc' := 97) rfl rfl sh_225 rfl pp_225_29 ?_
          refine r_ld (pc' := 99) rfl rfl rfl rfl ?_
          have hb49 := rd_240 hz (i := v33.toNat) (by omega)
          refine r_ia (pc' := 100) rfl rfl sh_240 rfl (by omega) (by omega) (((congrFun (congrFun hq47 _) _).trans (mu_ne (by omega))).trans (((congrFun (congrFun hq44 _) _).trans (mu_ne (by omega))).trans (hst.2.2.1 _ _ (notS_c (by omega) (notS_c (by omega) notS_n))))) ?_
          refine r_c0 (pc' := 101) rfl rfl ?_
          refine r_dv (pc' := 102) (v := (z0 240 v33.toNat) / 3) rfl rfl ⟨by omega, by omega⟩ ⟨by decide, by decide⟩ (by decide) (tdiv_n (by omega)) ?_
          refine r_st (pc' := 103) (lv' := [(2, _), (5, _), (0, _), (1, _), (3, _), (4, _)]) rfl rfl rfl rfl ?_
          refine r_inc (pc' := 106) (lv' := [(2, _), (5, _), (0, _), (1, _), (3, _)]) rfl rfl rfl rfl rfl ?_
          refine r_go rfl ?_
          have hf50 : z46 225 76 = (z 225 76) + 1 := ((congrFun (congrFun hq47 _) _).trans mu_eq)
          exact w_lv (sub_c rfl (sub_c rfl (sub_c rfl (sub_c rfl (sub_c rfl sub_n))))) rfl (ih0 ((z0 240 v33.toNat) / 3) x3 (x4 + 1) z46 w ⟨by omega, by omega⟩ ⟨by omega, by omega⟩ ⟨by omega, by omega⟩ ⟨by omega, by omega⟩ ⟨by omega, by omega⟩ hs48 (by first | omega | assumption | (simp only [hf50]; assumption)) (by omega))
        · skip
          refine r_c0 (pc' := 71) rfl rfl ?_
          exact r_rz rfl (by omega) (po_I hst ⟨by decide, by decide⟩ ⟨rfl, by omega, by omega⟩)
  refine w_m rfl rfl ?_
  refine r_ld (pc' := 1) rfl rfl rfl rfl ?_
  refine r_c0 (pc' := 2) rfl rfl ?_
  refine r_pi (pc' := 5) rfl rfl sh_225 rfl rfl hst (inS_0 (by omega) (by omega) (by omega) (by omega)) (wr_225_76 ⟨by omega, by omega⟩) (fun z51 hq52 hs53 => ?_)
  refine r_ld (pc' := 6) rfl rfl rfl rfl ?_
  refine r_zne (pc' := 9) rfl rfl ⟨by omega, by omega⟩ (fun hc54 => ?_) (fun hc54 => ?_)
  · skip
    refine r_ld (pc' := 14) rfl rfl rfl rfl ?_
    refine r_gr (b := 226) (pc' := 17) rfl rfl sh_225 rfl pp_225_0 ?_
    refine r_c0 (pc' := 18) rfl rfl ?_
    have hb55 := rd_226 hz (i := (0 : Int).toNat) (by omega)
    refine r_ia (pc' := 19) rfl rfl sh_226 rfl (by omega) (by omega) ((congrFun (congrFun hq52 _) _).trans (mu_ne (by omega))) ?_
    refine r_cb (pc' := 21) rfl (by decide) rfl ?_
    refine r_sub (pc' := 22) rfl rfl ?_
    refine r_st (pc' := 23) (lv' := [(2, _), (0, _), (1, _)]) rfl rfl rfl rfl ?_
    refine r_ld (pc' := 24) rfl rfl rfl rfl ?_
    refine r_st (pc' := 25) (lv' := [(3, _), (2, _), (0, _), (1, _)]) rfl rfl rfl rfl ?_
    refine r_ld (pc' := 26) rfl rfl rfl rfl ?_
    refine r_zlt (pc' := 29) rfl rfl ⟨by omega, by omega⟩ (fun hc56 => ?_) (fun hc56 => ?_)
    · skip
      refine r_c0 (pc' := 38) rfl rfl ?_
      exact r_rz rfl (by omega) (po_I hs53 ⟨by decide, by decide⟩ ⟨rfl, by omega, by omega⟩)
    · skip
      refine r_ld (pc' := 30) rfl rfl rfl rfl ?_
      refine r_ld (pc' := 31) rfl rfl rfl rfl ?_
      have hb57 := rd_225_26 hz
      refine r_gi (pc' := 34) rfl rfl sh_225 rfl ((congrFun (congrFun hq52 _) _).trans (mu_ne (by omega))) ?_
      refine r_ilt (pc' := 37) rfl rfl ⟨by omega, by omega⟩ ⟨by omega, by omega⟩ (fun hc58 => ?_) (fun hc58 => ?_)
      · skip
        refine r_c0 (pc' := 40) rfl rfl ?_
        refine r_st (pc' := 42) (lv' := [(4, _), (3, _), (2, _), (0, _), (1, _)]) rfl rfl rfl rfl ?_
        have hf59 : z51 225 76 = 0 := ((congrFun (congrFun hq52 _) _).trans mu_eq)
        exact w_lv (sub_c rfl (sub_c rfl (sub_c rfl (sub_c rfl (sub_c rfl sub_n))))) rfl ((key ((71 * (1600 - 1) + 46 : Int).toNat + 1)) ((z0 226 (0 : Int).toNat) - 48) ((z0 226 (0 : Int).toNat) - 48) 1 z51 w0 ⟨by omega, by omega⟩ ⟨by omega, by omega⟩ ⟨by omega, by omega⟩ ⟨by omega, by omega⟩ ⟨by omega, by omega⟩ hs53 (by first | omega | assumption | (simp only [hf59]; assumption)) (by omega))
      · skip
        refine r_c0 (pc' := 38) rfl rfl ?_
        exact r_rz rfl (by omega) (po_I hs53 ⟨by decide, by decide⟩ ⟨rfl, by omega, by omega⟩)
  · skip
    refine r_c0 (pc' := 10) rfl rfl ?_
    refine r_go rfl ?_
    refine r_st (pc' := 23) (lv' := [(2, _), (0, _), (1, _)]) rfl rfl rfl rfl ?_
    refine r_ld (pc' := 24) rfl rfl rfl rfl ?_
    refine r_st (pc' := 25) (lv' := [(3, _), (2, _), (0, _), (1, _)]) rfl rfl rfl rfl ?_
    refine r_ld (pc' := 26) rfl rfl rfl rfl ?_
    refine r_zlt (pc' := 29) rfl rfl ⟨by decide, by decide⟩ (fun hc60 => ?_) (fun hc60 => ?_)
    · skip
      refine r_c0 (pc' := 38) rfl rfl ?_
      exact r_rz rfl (by omega) (po_I hs53 ⟨by decide, by decide⟩ ⟨rfl, by omega, by omega⟩)
    · exfalso; omega
/-- LoopGroundModel want -/
abbrev S_157  : mS := [(225, 225, 4, 4), (225, 225, 7, 7), (225, 225, 9, 9), (225, 225, 8, 8), (225, 225, 6, 6), (225, 225, 2, 2), (225, 225, 3, 3)]
abbrev E_157 (a1 : Int) (z0 w0 : mZ) (x y tx it mt tt ct : Option Nat) : mZ → mZ → mP → Prop := fun z w p => p = (pq x y tx it mt tt ct) ∧ (z0 225 4 ≤ z 225 4 ∧ z 225 4 ≤ z0 225 5 ∧ (z 225 2 = 0 → z0 225 2 = 0 ∧ z0 225 6 = 1) ∧ (z 225 6 = 59 → z0 225 6 = 59 ∨ z0 225 4 < z 225 4))
theorem m_157 {d : Nat} {z0 w0 : mZ} {x y tx it mt tt ct : Option Nat} (a1 : Int) (hz : rz z0) (hw : rw_ w0) (ha1 : (-9223372036854775808) ≤ a1 ∧ a1 ≤ 9223372036854775807) (hat : z0 225 4 ≤ z0 225 5) : wc (d + 3) 157 [.ref 225, .long (Int64.ofInt a1)] (mk z0 w0 (pq x y tx it mt tt ct)) (poV S_157 z0 w0 (E_157 a1 z0 w0 x y tx it mt tt ct)) := by
  have hst : st_ S_157 z0 w0 z0 w0 := st_rf hz hw
  have hz41 := rd_225_2 hz
  have hz42 := rd_225_4 hz
  have hz43 := rd_225_5 hz
  have hz44 := rd_225_6 hz
  refine w_m rfl rfl ?_
  refine r_ld (pc' := 1) rfl rfl rfl rfl ?_
  have hb45 := rd_225_2 hz
  refine r_gi (pc' := 4) rfl rfl sh_225 rfl rfl ?_
  refine r_zle (pc' := 7) rfl rfl ⟨by omega, by omega⟩ (fun hc46 => ?_) (fun hc46 => ?_)
  · skip
    refine r_ld (pc' := 9) rfl rfl rfl rfl ?_
    refine r_ld (pc' := 10) rfl rfl rfl rfl ?_
    have hb47 := rd_225_6 hz
    have hb48 := rd_225_9 hw
    refine r_cVI (pc' := 13) rfl rfl rfl rfl rfl sh_225 (m_155 (d := d + 1) a1 hst.1 hst.2.1 ⟨by omega, by omega⟩) (fun v49 z50 w51 p52 h53 hs54 hE55 => ?_)
    obtain ⟨rfl, rfl, rfl, hE55⟩ := hE55
    refine r_zne (pc' := 16) rfl rfl ⟨by omega, by omega⟩ (fun hc57 => ?_) (fun hc57 => ?_)
    · skip
      refine r_ld (pc' := 25) rfl rfl rfl rfl ?_
      have hb58 := rd_225_4 hz
      have hb59 := rd_225_5 hz
      refine r_cVV (pc' := 28) rfl rfl rfl rfl rfl sh_225 (m_152 (d := d)  hst.1 hst.2.1 (by first | omega | assumption)) (fun z61 w62 p63 hs65 hE66 => ?_)
      have hs67 := st_tr hst hs65 (sub_B rfl)
      obtain ⟨rfl, hE66⟩ := hE66
      have hb68 := rd_225_4 hs67.1
      have hf69 : z61 225 2 = z0 225 2 := (hs65.2.2.1 _ _ (notS_c (by omega) (notS_c (by omega) (notS_c (by omega) (notS_c (by omega) (notS_c (by omega) notS_n))))))
      have hb70 := rd_225_6 hs67.1
      exact r_ret rfl (po_V hs67 ⟨rfl, (by first | omega | assumption | (simp only [hf69]; assumption))⟩)
    · skip
      refine r_ld (pc' := 17) rfl rfl rfl rfl ?_
      refine r_c0 (pc' := 18) rfl rfl ?_
      refine r_cVV (pc' := 21) rfl rfl rfl rfl rfl sh_225 (m_154 (d := d) 2 hst.1 hst.2.1 ⟨by omega, by omega⟩) (fun z72 w73 p74 hs76 hE77 => ?_)
      have hs78 := st_tr hst hs76 (sub_B rfl)
      obtain ⟨rfl, hE77⟩ := hE77
      refine r_go rfl ?_
      have hb79 := rd_225_4 hz
      have hf80 : z72 225 4 = z0 225 4 := (hs76.2.2.1 _ _ (notS_c (by omega) (notS_c (by omega) notS_n)))
      have hb81 := rd_225_2 hs78.1
      have hf82 : z72 225 6 = z0 225 6 := (hs76.2.2.1 _ _ (notS_c (by omega) (notS_c (by omega) notS_n)))
      exact r_ret rfl (po_V hs78 ⟨rfl, (by first | omega | assumption | (simp only [hf80, hf82]; assumption))⟩)
  · skip
    have hb83 := rd_225_4 hz
    have hb84 := rd_225_6 hz
    exact r_ret rfl (po_V hst ⟨rfl, (by first | omega | assumption)⟩)
/-- LoopGroundModel toldNumber -/
abbrev S_158  : mS := [(225, 225, 2, 2), (225, 225, 3, 3), (225, 225, 4, 4), (225, 225, 7, 7), (225, 225, 9, 9), (225, 225, 8, 8), (225, 225, 6, 6)]
abbrev E_158 (a1 : Int) (a2 : Int) (z0 w0 : mZ) (x y tx it mt tt ct : Option Nat) : Int → mZ → mZ → mP → Prop := fun v z w p => p = (pq x y tx it mt tt ct) ∧ 0 ≤ v ∧ v ≤ 9999 ∧ (z0 225 4 ≤ z 225 4 ∧ z 225 4 ≤ z0 225 5 ∧ (z 225 2 = 0 → z0 225 2 = 0 ∧ a1 ≤ v ∧ v ≤ a2 ∧ v = z0 225 8 ∧ z0 225 6 = 2) ∧ (z 225 6 = 59 → z0 225 6 = 59 ∨ z0 225 4 < z 225 4))
theorem m_158 {d : Nat} {z0 w0 : mZ} {x y tx it mt tt ct : Option Nat} (a1 : Int) (a2 : Int) (hz : rz z0) (hw : rw_ w0) (ha1 : (-2147483648) ≤ a1 ∧ a1 ≤ 2147483647) (ha2 : (-2147483648) ≤ a2 ∧ a2 ≤ 2147483647) (hat : z0 225 4 ≤ z0 225 5) : wc (d + 3) 158 [.ref 225, .int (Int32.ofInt a1), .int (Int32.ofInt a2)] (mk z0 w0 (pq x y tx it mt tt ct)) (poI S_158 z0 w0 (E_158 a1 a2 z0 w0 x y tx it mt tt ct)) := by
  have hst : st_ S_158 z0 w0 z0 w0 := st_rf hz hw
  have hz48 := rd_225_2 hz
  have hz49 := rd_225_4 hz
  have hz50 := rd_225_5 hz
  have hz51 := rd_225_6 hz
  have hz52 := rd_225_8 hz
  have key : ∀ N : Nat, (∀ (z w : mZ), 0 ≤ z0 225 2 ∧ z0 225 2 ≤ 0 → 2 ≤ z0 225 6 ∧ z0 225 6 ≤ 2 → st_ S_158 z0 w0 z w → w 225 9 = w0 225 9 → z 225 2 = z0 225 2 → z 225 3 = z0 225 3 → z 225 4 = z0 225 4 → z 225 6 = z0 225 6 → z 225 7 = z0 225 7 → z 225 8 = z0 225 8 → 12 < (N : Int) → wp_ (d + 2) 158 4 (some .int) (41, [(0, .ref 225)], [], mk z w (pq x y tx it mt tt ct)) (poI S_158 z0 w0 (E_158 a1 a2 z0 w0 x y tx it mt tt ct))) ∧ (∀ (z w : mZ), 0 ≤ z0 225 2 ∧ z0 225 2 ≤ 0 → st_ S_158 z0 w0 z w → w 225 9 = w0 225 9 → z 225 4 = z0 225 4 → z 225 6 = z0 225 6 → z 225 7 = z0 225 7 → z 225 8 = z0 225 8 → ((z 225 2 = 0 → z0 225 2 = 0 ∧ z0 225 6 = 2 ∧ a1 ≤ z0 225 8 ∧ z0 225 8 ≤ a2)) → 9 < (N : Int) → wp_ (d + 2) 158 4 (some .int) (46, [(0, .ref 225)], [], mk z w (pq x y tx it mt tt ct)) (poI S_158 z0 w0 (E_158 a1 a2 z0 w0 x y tx it mt tt ct))) := by
    intro N
    induction N with
    | zero =>
      refine ⟨?_, ?_⟩
      · intro  z w
        intros; exfalso; omega
      · intro  z w
        intros; exfalso; omega
    | succ N ih =>
      obtain ⟨ih0, ih1⟩ := ih
      refine ⟨?_, ?_⟩
      · intro  z w  hz0_0 hz0_1 hst un_w_225_9 un_z_225_2 un_z_225_3 un_z_225_4 un_z_225_6 un_z_225_7 un_z_225_8 hM
        refine r_ld (pc' := 42) rfl rfl rfl rfl ?_
        refine r_c0 (pc' := 43) rfl rfl ?_
        refine r_cVV (pc' := 46) rfl rfl rfl rfl rfl sh_225 (m_154 (d := d) 4 hst.1 hst.2.1 ⟨by omega, by omega⟩) (fun z54 w55 p56 hs58 hE59 => ?_)
        have hs60 := st_tr hst hs58 (sub_B rfl)
        obtain ⟨rfl, hE59⟩ := hE59
        have hb61 := rd_225_2 hs60.1
        have hb62 := rd_225_9 hw
        have hb63 := rd_225_4 hz
        have hb64 := rd_225_7 hz
        have hb65 := rd_225_8 hz
        exact w_lv (sub_c rfl sub_n) rfl (ih1 z54 w55 ⟨by omega, by omega⟩ hs60 (((hs58.2.2.2 _ _ (notS_c (by omega) (notS_c (by omega) notS_n))).trans un_w_225_9)) (((hs58.2.2.1 _ _ (notS_c (by omega) (notS_c (by omega) notS_n))).trans un_z_225_4)) (((hs58.2.2.1 _ _ (notS_c (by omega) (notS_c (by omega) notS_n))).trans un_z_225_6)) (((hs58.2.2.1 _ _ (notS_c (by omega) (notS_c (by omega) notS_n))).trans un_z_225_7)) (((hs58.2.2.1 _ _ (notS_c (by omega) (notS_c (by omega) notS_n))).trans un_z_225_8)) (by first | omega | assumption) (by omega))
      · intro  z w  hz0_0 hst un_w_225_9 un_z_225_4 un_z_225_6 un_z_225_7 un_z_225_8 as1 hM
        refine r_ld (pc' := 47) rfl rfl rfl rfl ?_
        have hb66 := rd_225_8 hz
        refine r_gi (pc' := 50) rfl rfl sh_225 rfl un_z_225_8 ?_
        refine r_st (pc' := 51) (lv' := [(3, _), (0, _)]) rfl rfl rfl rfl ?_
        refine r_ld (pc' := 52) rfl rfl rfl rfl ?_
        have hb67 := rd_225_2 hst.1
        refine r_gi (pc' := 55) rfl rfl sh_225 rfl rfl ?_
        refine r_zne (pc' := 58) rfl rfl ⟨by omega, by omega⟩ (fun hc68 => ?_) (fun hc68 => ?_)
        · skip
          refine r_ld (pc' := 63) rfl rfl rfl rfl ?_
          have hb69 := rd_225_4 hz
          have hf70 : z 225 4 = z0 225 4 := un_z_225_4
          have hb71 := rd_225_6 hz
          have hf72 : z 225 6 = z0 225 6 := un_z_225_6
          exact r_ri rfl (po_I hst ⟨by omega, by omega⟩ ⟨rfl, by omega, by omega, (by first | omega | assumption | (simp only [hf70, hf72]; assumption))⟩)
        · skip
          refine r_ld (pc' := 59) rfl rfl rfl rfl ?_
          have hb73 := rd_225_4 hz
          have hf74 : z 225 4 = z0 225 4 := un_z_225_4
          have hb75 := rd_225_5 hz
          have hf76 : z 225 5 = z0 225 5 := (hst.2.2.1 _ _ (notS_c (by omega) (notS_c (by omega) (notS_c (by omega) (notS_c (by omega) (notS_c (by omega) (notS_c (by omega) (notS_c (by omega) notS_n))))))))
          refine r_cVV (pc' := 62) rfl rfl rfl rfl rfl sh_225 (m_152 (d := d)  hst.1 hst.2.1 (by first | omega | assumption | (simp only [hf74, hf76]; assumption))) (fun z78 w79 p80 hs82 hE83 => ?_)
          have hs84 := st_tr hst hs82 (sub_B rfl)
          obtain ⟨rfl, hE83⟩ := hE83
          refine r_ld (pc' := 63) rfl rfl rfl rfl ?_
          have hb85 := rd_225_4 hs84.1
          have hf86 : z78 225 2 = z 225 2 := (hs82.2.2.1 _ _ (notS_c (by omega) (notS_c (by omega) (notS_c (by omega) (notS_c (by omega) (notS_c (by omega) notS_n))))))
          have hb87 := rd_225_6 hs84.1
          exact r_ri rfl (po_I hs84 ⟨by omega, by omega⟩ ⟨rfl, by omega, by omega, (by first | omega | assumption | (simp only [hf86]; assumption))⟩)
  refine w_m rfl rfl ?_
  refine r_ld (pc' := 1) rfl rfl rfl rfl ?_
  have hb88 := rd_225_2 hz
  refine r_gi (pc' := 4) rfl rfl sh_225 rfl rfl ?_
  refine r_zle (pc' := 7) rfl rfl ⟨by omega, by omega⟩ (fun hc89 => ?_) (fun hc89 => ?_)
  · skip
    refine r_ld (pc' := 10) rfl rfl rfl rfl ?_
    have hb90 := rd_225_6 hz
    refine r_gi (pc' := 13) rfl rfl sh_225 rfl rfl ?_
    refine r_c0 (pc' := 14) rfl rfl ?_
    refine r_ieq (pc' := 17) rfl rfl ⟨by omega, by omega⟩ ⟨by decide, by decide⟩ (fun hc91 => ?_) (fun hc91 => ?_)
    · skip
      refine r_ld (pc' := 26) rfl rfl rfl rfl ?_
      have hb92 := rd_225_8 hz
      refine r_gi (pc' := 29) rfl rfl sh_225 rfl rfl ?_
      refine r_ld (pc' := 30) rfl rfl rfl rfl ?_
      refine r_ilt (pc' := 33) rfl rfl ⟨by omega, by omega⟩ ⟨by omega, by omega⟩ (fun hc93 => ?_) (fun hc93 => ?_)
      · skip
        have hb94 := rd_225_9 hw
        have hb95 := rd_225_3 hz
        have hb96 := rd_225_4 hz
        have hb97 := rd_225_7 hz
        exact w_lv (sub_c rfl sub_n) rfl ((key ((12 : Int).toNat + 1)).1 z0 w0 ⟨by omega, by omega⟩ ⟨by omega, by omega⟩ hst (rfl) (rfl) (rfl) (rfl) (rfl) (rfl) (rfl) (by omega))
      · skip
        refine r_ld (pc' := 34) rfl rfl rfl rfl ?_
        refine r_gi (pc' := 37) rfl rfl sh_225 rfl rfl ?_
        refine r_ld (pc' := 38) rfl rfl rfl rfl ?_
        refine r_ile (pc' := 41) rfl rfl ⟨by omega, by omega⟩ ⟨by omega, by omega⟩ (fun hc98 => ?_) (fun hc98 => ?_)
        · skip
          have hb99 := rd_225_9 hw
          have hb100 := rd_225_4 hz
          have hb101 := rd_225_7 hz
          exact w_lv (sub_c rfl sub_n) rfl ((key ((9 : Int).toNat + 1)).2 z0 w0 ⟨by omega, by omega⟩ hst (rfl) (rfl) (rfl) (rfl) (rfl) (by first | omega | assumption) (by omega))
        · skip
          have hb102 := rd_225_9 hw
          have hb103 := rd_225_3 hz
          have hb104 := rd_225_4 hz
          have hb105 := rd_225_7 hz
          exact w_lv (sub_c rfl sub_n) rfl ((key ((12 : Int).toNat + 1)).1 z0 w0 ⟨by omega, by omega⟩ ⟨by omega, by omega⟩ hst (rfl) (rfl) (rfl) (rfl) (rfl) (rfl) (rfl) (by omega))
    · skip
      refine r_ld (pc' := 18) rfl rfl rfl rfl ?_
      refine r_c0 (pc' := 19) rfl rfl ?_
      refine r_cVV (pc' := 22) rfl rfl rfl rfl rfl sh_225 (m_154 (d := d) 2 hst.1 hst.2.1 ⟨by omega, by omega⟩) (fun z107 w108 p109 hs111 hE112 => ?_)
      have hs113 := st_tr hst hs111 (sub_B rfl)
      obtain ⟨rfl, hE112⟩ := hE112
      refine r_go rfl ?_
      have hb114 := rd_225_2 hs113.1
      have hb115 := rd_225_9 hw
      have hb116 := rd_225_4 hz
      have hb117 := rd_225_7 hz
      have hb118 := rd_225_8 hz
      exact w_lv (sub_c rfl sub_n) rfl ((key ((9 : Int).toNat + 1)).2 z107 w108 ⟨by omega, by omega⟩ hs113 ((hs111.2.2.2 _ _ (notS_c (by omega) (notS_c (by omega) notS_n)))) ((hs111.2.2.1 _ _ (notS_c (by omega) (notS_c (by omega) notS_n)))) ((hs111.2.2.1 _ _ (notS_c (by omega) (notS_c (by omega) notS_n)))) ((hs111.2.2.1 _ _ (notS_c (by omega) (notS_c (by omega) notS_n)))) ((hs111.2.2.1 _ _ (notS_c (by omega) (notS_c (by omega) notS_n)))) (by first | omega | assumption) (by omega))
  · skip
    refine r_c0 (pc' := 8) rfl rfl ?_
    have hb119 := rd_225_4 hz
    have hb120 := rd_225_6 hz
    exact r_ri rfl (po_I hst ⟨by decide, by decide⟩ ⟨rfl, by omega, by omega, (by first | omega | assumption)⟩)
/-- LoopGroundModel times -/
abbrev S_159  : mS := [(225, 225, 4, 4), (225, 225, 7, 7), (225, 225, 9, 9), (225, 225, 8, 8), (225, 225, 6, 6), (225, 225, 2, 2), (225, 225, 3, 3)]
abbrev E_159  (z0 w0 : mZ) (x y tx it mt tt ct : Option Nat) : Int → mZ → mZ → mP → Prop := fun v z w p => p = (pq x y tx it mt tt ct) ∧ (-9999) ≤ v ∧ v ≤ 9999 ∧ (z0 225 4 ≤ z 225 4 ∧ z 225 4 ≤ z0 225 5 ∧ (z 225 2 = 0 → z0 225 2 = 0 ∧ -9 ≤ v ∧ v ≤ 9) ∧ (z 225 6 = 59 → z0 225 6 = 59 ∨ z0 225 4 < z 225 4))
theorem m_159 {d : Nat} {z0 w0 : mZ} {x y tx it mt tt ct : Option Nat}  (hz : rz z0) (hw : rw_ w0) (hat : z0 225 4 ≤ z0 225 5) : wc (d + 3) 159 [.ref 225] (mk z0 w0 (pq x y tx it mt tt ct)) (poI S_159 z0 w0 (E_159  z0 w0 x y tx it mt tt ct)) := by
  have hst : st_ S_159 z0 w0 z0 w0 := st_rf hz hw
  have hz82 := rd_225_2 hz
  have hz83 := rd_225_4 hz
  have hz84 := rd_225_5 hz
  have hz85 := rd_225_6 hz
  have key : ∀ N : Nat, (∀ (x1 x2 : Int) (z w : mZ), 0 ≤ x1 ∧ x1 ≤ 1600 → 0 ≤ x2 ∧ x2 ≤ 1 → 0 ≤ z0 225 2 ∧ z0 225 2 ≤ 0 → st_ S_159 z0 w0 z w → z 225 2 = z0 225 2 → z 225 3 = z0 225 3 → (z0 225 4 ≤ z 225 4 ∧ z 225 4 ≤ z0 225 5 ∧ (z 225 6 = 59 → z0 225 6 = 59 ∨ z0 225 4 < z 225 4)) → 36 < (N : Int) → wp_ (d + 2) 159 4 (some .int) (37, [(0, .ref 225), (1, .int (Int32.ofInt x1)), (2, .int (Int32.ofInt x2))], [], mk z w (pq x y tx it mt tt ct)) (poI S_159 z0 w0 (E_159  z0 w0 x y tx it mt tt ct))) ∧ (∀ (x1 x2 : Int) (z w : mZ), 0 ≤ x1 ∧ x1 ≤ 1600 → 0 ≤ x2 ∧ x2 ≤ 1 → 0 ≤ z0 225 2 ∧ z0 225 2 ≤ 0 → st_ S_159 z0 w0 z w → (z0 225 4 ≤ z 225 4 ∧ z 225 4 ≤ z0 225 5 ∧ (z 225 6 = 59 → z0 225 6 = 59 ∨ z0 225 4 < z 225 4)) → 29 < (N : Int) → wp_ (d + 2) 159 4 (some .int) (50, [(0, .ref 225), (1, .int (Int32.ofInt x1)), (2, .int (Int32.ofInt x2))], [], mk z w (pq x y tx it mt tt ct)) (poI S_159 z0 w0 (E_159  z0 w0 x y tx it mt tt ct))) ∧ (∀ (x1 x2 : Int) (z w : mZ), 0 ≤ x1 ∧ x1 ≤ 1600 → 0 ≤ x2 ∧ x2 ≤ 1 → 0 ≤ z0 225 2 ∧ z0 225 2 ≤ 0 → st_ S_159 z0 w0 z w → (z0 225 4 ≤ z 225 4 ∧ z 225 4 ≤ z0 225 5 ∧ (z 225 6 = 59 → z0 225 6 = 59 ∨ z0 225 4 < z 225 4)) → 19 < (N : Int) → wp_ (d + 2) 159 4 (some .int) (73, [(0, .ref 225), (1, .int (Int32.ofInt x1)), (2, .int (Int32.ofInt x2))], [], mk z w (pq x y tx it mt tt ct)) (poI S_159 z0 w0 (E_159  z0 w0 x y tx it mt tt ct))) ∧ (∀ (x2 : Int) (z w : mZ), 0 ≤ x2 ∧ x2 ≤ 1 → 0 ≤ z0 225 2 ∧ z0 225 2 ≤ 0 → st_ S_159 z0 w0 z w → (z0 225 4 ≤ z 225 4 ∧ z 225 4 ≤ z0 225 5 ∧ (z 225 6 = 59 → z0 225 6 = 59 ∨ z0 225 4 < z 225 4) ∧ (z 225 2 = 0 → z 225 8 ≤ 9)) → 15 < (N : Int) → wp_ (d + 2) 159 4 (some .int) (79, [(0, .ref 225), (2, .int (Int32.ofInt x2))], [], mk z w (pq x y tx it mt tt ct)) (poI S_159 z0 w0 (E_159  z0 w0 x y tx it mt tt ct))) := by
    intro N
    induction N with
    | zero =>
      refine ⟨?_, ?_, ?_, ?_⟩
      · intro x1 x2 z w
        intros; exfalso; omega
      · intro x1 x2 z w
        intros; exfalso; omega
      · intro x1 x2 z w
        intros; exfalso; omega
      · intro x2 z w
        intros; exfalso; omega
    | succ N ih =>
      obtain ⟨ih0, ih1, ih2, ih3⟩ := ih
      refine ⟨?_, ?_, ?_, ?_⟩
      · intro x1 x2 z w  hx1 hx2 hz0_0 hst un_z_225_2 un_z_225_3 as1 hM
        refine r_ld (pc' := 38) rfl rfl rfl rfl ?_
        have hb86 := rd_225_6 hst.1
        refine r_gi (pc' := 41) rfl rfl sh_225 rfl rfl ?_
        refine r_c0 (pc' := 42) rfl rfl ?_
        refine r_ieq (pc' := 45) rfl rfl ⟨by omega, by omega⟩ ⟨by decide, by decide⟩ (fun hc87 => ?_) (fun hc87 => ?_)
        · skip
          have hb88 := rd_225_4 hst.1
          exact w_lv (sub_c rfl (sub_c rfl (sub_c rfl sub_n))) rfl (ih1 x1 x2 z w ⟨by omega, by omega⟩ ⟨by omega, by omega⟩ ⟨by omega, by omega⟩ hst (by first | omega | assumption) (by omega))
        · skip
          refine r_ld (pc' := 46) rfl rfl rfl rfl ?_
          refine r_c0 (pc' := 47) rfl rfl ?_
          refine r_cVV (pc' := 50) rfl rfl rfl rfl rfl sh_225 (m_154 (d := d) 2 hst.1 hst.2.1 ⟨by omega, by omega⟩) (fun z90 w91 p92 hs94 hE95 => ?_)
          have hs96 := st_tr hst hs94 (sub_B rfl)
          obtain ⟨rfl, hE95⟩ := hE95
          have hb97 := rd_225_4 hst.1
          have hf98 : z90 225 4 = z 225 4 := (hs94.2.2.1 _ _ (notS_c (by omega) (notS_c (by omega) notS_n)))
          have hf99 : z90 225 6 = z 225 6 := (hs94.2.2.1 _ _ (notS_c (by omega) (notS_c (by omega) notS_n)))
          exact w_lv (sub_c rfl (sub_c rfl (sub_c rfl sub_n))) rfl (ih1 x1 x2 z90 w91 ⟨by omega, by omega⟩ ⟨by omega, by omega⟩ ⟨by omega, by omega⟩ hs96 (by first | omega | assumption | (simp only [hf98, hf99]; assumption)) (by omega))
      · intro x1 x2 z w  hx1 hx2 hz0_0 hst as1 hM
        refine r_ld (pc' := 51) rfl rfl rfl rfl ?_
        have hb100 := rd_225_2 hst.1
        refine r_gi (pc' := 54) rfl rfl sh_225 rfl rfl ?_
        refine r_zne (pc' := 57) rfl rfl ⟨by omega, by omega⟩ (fun hc101 => ?_) (fun hc101 => ?_)
        · skip
          have hb102 := rd_225_4 hst.1
          have hb103 := rd_225_6 hst.1
          have hb104 := rd_225_8 hst.1
          exact w_lv (sub_c rfl (sub_c rfl sub_n)) rfl (ih3 x2 z w ⟨by omega, by omega⟩ ⟨by omega, by omega⟩ hst (by first | omega | assumption) (by omega))
        · skip
          refine r_ld (pc' := 58) rfl rfl rfl rfl ?_
          have hb105 := rd_225_8 hst.1
          refine r_gi (pc' := 61) rfl rfl sh_225 rfl rfl ?_
          refine r_zeq (pc' := 64) rfl rfl ⟨by omega, by omega⟩ (fun hc106 => ?_) (fun hc106 => ?_)
          · skip
            have hb107 := rd_225_4 hst.1
            have hb108 := rd_225_6 hst.1
            exact w_lv (sub_c rfl (sub_c rfl (sub_c rfl sub_n))) rfl (ih2 x1 x2 z w ⟨by omega, by omega⟩ ⟨by omega, by omega⟩ ⟨by omega, by omega⟩ hst (by first | omega | assumption) (by omega))
          · skip
            refine r_ld (pc' := 65) rfl rfl rfl rfl ?_
            refine r_gi (pc' := 68) rfl rfl sh_225 rfl rfl ?_
            refine r_cb (pc' := 70) rfl (by decide) rfl ?_
            refine r_ile (pc' := 73) rfl rfl ⟨by omega, by omega⟩ ⟨by decide, by decide⟩ (fun hc109 => ?_) (fun hc109 => ?_)
            · skip
              have hb110 := rd_225_4 hst.1
              have hb111 := rd_225_6 hst.1
              exact w_lv (sub_c rfl (sub_c rfl sub_n)) rfl (ih3 x2 z w ⟨by omega, by omega⟩ ⟨by omega, by omega⟩ hst (by first | omega | assumption) (by omega))
            · skip
              have hb112 := rd_225_4 hst.1
              have hb113 := rd_225_6 hst.1
              exact w_lv (sub_c rfl (sub_c rfl (sub_c rfl sub_n))) rfl (ih2 x1 x2 z w ⟨by omega, by omega⟩ ⟨by omega, by omega⟩ ⟨by omega, by omega⟩ hst (by first | omega | assumption) (by omega))
      · intro x1 x2 z w  hx1 hx2 hz0_0 hst as1 hM
        refine r_ld (pc' := 74) rfl rfl rfl rfl ?_
        refine r_c0 (pc' := 75) rfl rfl ?_
        refine r_ld (pc' := 76) rfl rfl rfl rfl ?_
        refine r_cVV (pc' := 79) rfl rfl rfl rfl rfl sh_225 (m_153 (d := d + 1) 4 x1 hst.1 hst.2.1 ⟨by omega, by omega⟩ ⟨by omega, by omega⟩) (fun z115 w116 p117 hs119 hE120 => ?_)
        have hs121 := st_tr hst hs119 (sub_B rfl)
        obtain ⟨rfl, hE120⟩ := hE120
        have hb122 := rd_225_4 hst.1
        have hf123 : z115 225 4 = z 225 4 := (hs119.2.2.1 _ _ (notS_c (by omega) (notS_c (by omega) notS_n)))
        have hb124 := rd_225_6 hst.1
        have hf125 : z115 225 6 = z 225 6 := (hs119.2.2.1 _ _ (notS_c (by omega) (notS_c (by omega) notS_n)))
        have hb126 := rd_225_2 hs121.1
        have hb127 := rd_225_8 hst.1
        have hf128 : z115 225 8 = z 225 8 := (hs119.2.2.1 _ _ (notS_c (by omega) (notS_c (by omega) notS_n)))
        exact w_lv (sub_c rfl (sub_c rfl sub_n)) rfl (ih3 x2 z115 w116 ⟨by omega, by omega⟩ ⟨by omega, by omega⟩ hs121 (by first | omega | assumption | (simp only [hf123, hf125, hf128]; assumption)) (by omega))
      · intro x2 z w  hx2 hz0_0 hst as1 hM
        refine r_ld (pc' := 80) rfl rfl rfl rfl ?_
        refine r_zeq (pc' := 83) rfl rfl ⟨by omega, by omega⟩ (fun hc129 => ?_) (fun hc129 => ?_)
        · skip
          refine r_ld (pc' := 92) rfl rfl rfl rfl ?_
          have hb130 := rd_225_8 hst.1
          refine r_gi (pc' := 95) rfl rfl sh_225 rfl rfl ?_
          refine r_st (pc' := 96) (lv' := [(3, _), (0, _), (2, _)]) rfl rfl rfl rfl ?_
          refine r_ld (pc' := 97) rfl rfl rfl rfl ?_
          have hb131 := rd_225_2 hst.1
          refine r_gi (pc' := 100) rfl rfl sh_225 rfl rfl ?_
          refine r_zne (pc' := 103) rfl rfl ⟨by omega, by omega⟩ (fun hc132 => ?_) (fun hc132 => ?_)
          · skip
            refine r_ld (pc' := 108) rfl rfl rfl rfl ?_
            have hb133 := rd_225_4 hst.1
            have hb134 := rd_225_6 hst.1
            exact r_ri rfl (po_I hst ⟨by omega, by omega⟩ ⟨rfl, by omega, by omega, (by first | omega | assumption)⟩)
          · skip
            refine r_ld (pc' := 104) rfl rfl rfl rfl ?_
            have hb135 := rd_225_4 hst.1
            have hb136 := rd_225_5 hz
            have hf137 : z 225 5 = z0 225 5 := (hst.2.2.1 _ _ (notS_c (by omega) (notS_c (by omega) (notS_c (by omega) (notS_c (by omega) (notS_c (by omega) (notS_c (by omega) (notS_c (by omega) notS_n))))))))
            refine r_cVV (pc' := 107) rfl rfl rfl rfl rfl sh_225 (m_152 (d := d)  hst.1 hst.2.1 (by first | omega | assumption | (simp only [hf137]; assumption))) (fun z139 w140 p141 hs143 hE144 => ?_)
            have hs145 := st_tr hst hs143 (sub_B rfl)
            obtain ⟨rfl, hE144⟩ := hE144
            refine r_ld (pc' := 108) rfl rfl rfl rfl ?_
            have hb146 := rd_225_4 hs145.1
            have hf147 : z139 225 2 = z 225 2 := (hs143.2.2.1 _ _ (notS_c (by omega) (notS_c (by omega) (notS_c (by omega) (notS_c (by omega) (notS_c (by omega) notS_n))))))
            have hb148 := rd_225_6 hs145.1
            exact r_ri rfl (po_I hs145 ⟨by omega, by omega⟩ ⟨rfl, by omega, by omega, (by first | omega | assumption | (simp only [hf147]; assumption))⟩)
        · skip
          refine r_ld (pc' := 84) rfl rfl rfl rfl ?_
          have hb149 := rd_225_8 hst.1
          refine r_gi (pc' := 87) rfl rfl sh_225 rfl rfl ?_
          refine r_neg (pc' := 88) rfl rfl ?_
          refine r_go rfl ?_
          refine r_st (pc' := 96) (lv' := [(3, _), (0, _), (2, _)]) rfl rfl rfl rfl ?_
          refine r_ld (pc' := 97) rfl rfl rfl rfl ?_
          have hb150 := rd_225_2 hst.1
          refine r_gi (pc' := 100) rfl rfl sh_225 rfl rfl ?_
          refine r_zne (pc' := 103) rfl rfl ⟨by omega, by omega⟩ (fun hc151 => ?_) (fun hc151 => ?_)
          · skip
            refine r_ld (pc' := 108) rfl rfl rfl rfl ?_
            have hb152 := rd_225_4 hst.1
            have hb153 := rd_225_6 hst.1
            exact r_ri rfl (po_I hst ⟨by omega, by omega⟩ ⟨rfl, by omega, by omega, (by first | omega | assumption)⟩)
          · skip
            refine r_ld (pc' := 104) rfl rfl rfl rfl ?_
            have hb154 := rd_225_4 hst.1
            have hb155 := rd_225_5 hz
            have hf156 : z 225 5 = z0 225 5 := (hst.2.2.1 _ _ (notS_c (by omega) (notS_c (by omega) (notS_c (by omega) (notS_c (by omega) (notS_c (by omega) (notS_c (by omega) (notS_c (by omega) notS_n))))))))
            refine r_cVV (pc' := 107) rfl rfl rfl rfl rfl sh_225 (m_152 (d := d)  hst.1 hst.2.1 (by first | omega | assumption | (simp only [hf156]; assumption))) (fun z158 w159 p160 hs162 hE163 => ?_)
            have hs164 := st_tr hst hs162 (sub_B rfl)
            obtain ⟨rfl, hE163⟩ := hE163
            refine r_ld (pc' := 108) rfl rfl rfl rfl ?_
            have hb165 := rd_225_4 hs164.1
            have hf166 : z158 225 2 = z 225 2 := (hs162.2.2.1 _ _ (notS_c (by omega) (notS_c (by omega) (notS_c (by omega) (notS_c (by omega) (notS_c (by omega) notS_n))))))
            have hb167 := rd_225_6 hs164.1
            exact r_ri rfl (po_I hs164 ⟨by omega, by omega⟩ ⟨rfl, by omega, by omega, (by first | omega | assumption | (simp only [hf166]; assumption))⟩)
  refine w_m rfl rfl ?_
  refine r_ld (pc' := 1) rfl rfl rfl rfl ?_
  have hb168 := rd_225_2 hz
  refine r_gi (pc' := 4) rfl rfl sh_225 rfl rfl ?_
  refine r_zle (pc' := 7) rfl rfl ⟨by omega, by omega⟩ (fun hc169 => ?_) (fun hc169 => ?_)
  · skip
    refine r_ld (pc' := 10) rfl rfl rfl rfl ?_
    have hb170 := rd_225_7 hz
    refine r_gi (pc' := 13) rfl rfl sh_225 rfl rfl ?_
    refine r_st (pc' := 14) (lv' := [(1, _), (0, _)]) rfl rfl rfl rfl ?_
    refine r_ld (pc' := 15) rfl rfl rfl rfl ?_
    have hb171 := rd_225_6 hz
    refine r_gi (pc' := 18) rfl rfl sh_225 rfl rfl ?_
    refine r_cb (pc' := 20) rfl (by decide) rfl ?_
    refine r_ine (pc' := 23) rfl rfl ⟨by omega, by omega⟩ ⟨by decide, by decide⟩ (fun hc172 => ?_) (fun hc172 => ?_)
    · skip
      refine r_c0 (pc' := 28) rfl rfl ?_
      refine r_st (pc' := 29) (lv' := [(2, _), (1, _), (0, _)]) rfl rfl rfl rfl ?_
      refine r_ld (pc' := 30) rfl rfl rfl rfl ?_
      refine r_zeq (pc' := 33) rfl rfl ⟨by decide, by decide⟩ (fun hc173 => ?_) (fun hc173 => ?_)
      · skip
        have hb174 := rd_225_4 hz
        have hb175 := rd_225_3 hz
        exact w_lv (sub_c rfl (sub_c rfl (sub_c rfl sub_n))) rfl ((key ((36 : Int).toNat + 1)).1 (z0 225 7) 0 z0 w0 ⟨by omega, by omega⟩ ⟨by omega, by omega⟩ ⟨by omega, by omega⟩ hst (rfl) (rfl) (by first | omega | assumption) (by omega))
      · exfalso; omega
    · skip
      refine r_c0 (pc' := 24) rfl rfl ?_
      refine r_go rfl ?_
      refine r_st (pc' := 29) (lv' := [(2, _), (1, _), (0, _)]) rfl rfl rfl rfl ?_
      refine r_ld (pc' := 30) rfl rfl rfl rfl ?_
      refine r_zeq (pc' := 33) rfl rfl ⟨by decide, by decide⟩ (fun hc176 => ?_) (fun hc176 => ?_)
      · exfalso; omega
      · skip
        refine r_ld (pc' := 34) rfl rfl rfl rfl ?_
        have hb177 := rd_225_4 hz
        have hb178 := rd_225_5 hz
        refine r_cVV (pc' := 37) rfl rfl rfl rfl rfl sh_225 (m_152 (d := d)  hst.1 hst.2.1 (by first | omega | assumption)) (fun z180 w181 p182 hs184 hE185 => ?_)
        have hs186 := st_tr hst hs184 (sub_B rfl)
        obtain ⟨rfl, hE185⟩ := hE185
        have hb187 := rd_225_4 hs186.1
        have hb188 := rd_225_6 hs186.1
        have hb189 := rd_225_3 hz
        exact w_lv (sub_c rfl (sub_c rfl (sub_c rfl sub_n))) rfl ((key ((36 : Int).toNat + 1)).1 (z0 225 7) 1 z180 w181 ⟨by omega, by omega⟩ ⟨by omega, by omega⟩ ⟨by omega, by omega⟩ hs186 ((hs184.2.2.1 _ _ (notS_c (by omega) (notS_c (by omega) (notS_c (by omega) (notS_c (by omega) (notS_c (by omega) notS_n))))))) ((hs184.2.2.1 _ _ (notS_c (by omega) (notS_c (by omega) (notS_c (by omega) (notS_c (by omega) (notS_c (by omega) notS_n))))))) (by first | omega | assumption) (by omega))
  · skip
    refine r_c0 (pc' := 8) rfl rfl ?_
    have hb190 := rd_225_4 hz
    have hb191 := rd_225_6 hz
    exact r_ri rfl (po_I hst ⟨by decide, by decide⟩ ⟨rfl, by omega, by omega, (by first | omega | assumption)⟩)
/-- LoopGroundModel number -/
abbrev S_191  : mS := []
abbrev E_191 (a1 : Int) (a2 : Int) (z0 w0 : mZ) (x y tx it mt tt ct : Option Nat) : Int → mZ → mZ → mP → Prop := fun v z w p => p = (pq x y tx it mt tt ct) ∧ z0 = z ∧ w0 = w ∧ (-2) ≤ v ∧ v ≤ 100000000000000
theorem m_191 {d : Nat} {z0 w0 : mZ} {x y tx it mt tt ct : Option Nat} (a1 : Int) (a2 : Int) (hz : rz z0) (hw : rw_ w0) (ha1 : (-2147483648) ≤ a1 ∧ a1 ≤ 2147483647) (ha2 : (-2147483648) ≤ a2 ∧ a2 ≤ 2147483647) : wc (d + 3) 191 [.ref 225, .int (Int32.ofInt a1), .int (Int32.ofInt a2)] (mk z0 w0 (pq x y tx it mt tt ct)) (poL S_191 z0 w0 (E_191 a1 a2 z0 w0 x y tx it mt tt ct)) := by
  have hst : st_ S_191 z0 w0 z0 w0 := st_rf hz hw
  have key : ∀ N : Nat, ((-1) ≤ a1 ∧ a1 ≤ 7 → 22 < (N : Int) → wp_ (d + 2) 191 3 (some .long) (13, [(0, .ref 225), (1, .int (Int32.ofInt a1)), (2, .int (Int32.ofInt a2))], [], mk z0 w0 (pq x y tx it mt tt ct)) (poL S_191 z0 w0 (E_191 a1 a2 z0 w0 x y tx it mt tt ct))) := by
    intro N
    induction N with
    | zero =>
      skip
      intros; exfalso; omega
    | succ N ih =>
      have ih0 := ih; clear ih
      intro   hpa1 hM
      refine r_ld (pc' := 14) rfl rfl rfl rfl ?_
      refine r_ld (pc' := 15) rfl rfl rfl rfl ?_
      have hb25 := rd_225_26 hz
      refine r_cVI (pc' := 18) rfl rfl rfl rfl rfl sh_225 (m_175 (d := d) a2 hst.1 hst.2.1 ⟨by omega, by omega⟩) (fun v26 z27 w28 p29 h30 hs31 hE32 => ?_)
      obtain ⟨rfl, rfl, rfl, hE32⟩ := hE32
      refine r_zne (pc' := 21) rfl rfl ⟨by omega, by omega⟩ (fun hc34 => ?_) (fun hc34 => ?_)
      · skip
        refine r_ld (pc' := 28) rfl rfl rfl rfl ?_
        refine r_zge (pc' := 31) rfl rfl ⟨by omega, by omega⟩ (fun hc35 => ?_) (fun hc35 => ?_)
        · skip
          refine r_ld (pc' := 41) rfl rfl rfl rfl ?_
          refine r_gr (b := 236) (pc' := 44) rfl rfl sh_225 rfl pp_225_19 ?_
          refine r_cb (pc' := 46) rfl (by decide) rfl ?_
          refine r_ld (pc' := 47) rfl rfl rfl rfl ?_
          refine r_mul (pc' := 48) rfl rfl ?_
          refine r_ld (pc' := 49) rfl rfl rfl rfl ?_
          refine r_add (pc' := 50) rfl rfl ?_
          have hb36 := rd_236 hz (i := ((18 * a1) + a2).toNat) (by omega)
          refine r_ia (pc' := 51) rfl rfl sh_236 rfl (by omega) (by omega) rfl ?_
          refine r_i2l (pc' := 52) rfl rfl ⟨by omega, by omega⟩ ?_
          exact r_rl rfl (po_L hst ⟨by omega, by omega⟩ ⟨rfl, rfl, rfl, by omega, by omega⟩)
        · skip
          refine r_ld (pc' := 32) rfl rfl rfl rfl ?_
          refine r_gr (b := 270) (pc' := 35) rfl rfl sh_225 rfl pp_225_71 ?_
          refine r_ld (pc' := 36) rfl rfl rfl rfl ?_
          have hb37 := rd_270 hw (i := a2.toNat) (by omega)
          refine r_la (pc' := 37) rfl rfl sh_270 rfl (by omega) (by omega) rfl ?_
          refine r_go rfl ?_
          exact r_rl rfl (po_L hst ⟨by omega, by omega⟩ ⟨rfl, rfl, rfl, by omega, by omega⟩)
      · skip
        refine r_al (pc' := 24) rfl rfl rfl rfl ?_
        refine r_go rfl ?_
        exact r_rl rfl (po_L hst ⟨by decide, by decide⟩ ⟨rfl, rfl, rfl, by omega, by omega⟩)
  refine w_m rfl rfl ?_
  refine r_ld (pc' := 1) rfl rfl rfl rfl ?_
  refine r_c0 (pc' := 2) rfl rfl ?_
  refine r_ieq (pc' := 5) rfl rfl ⟨by omega, by omega⟩ ⟨by decide, by decide⟩ (fun hc38 => ?_) (fun hc38 => ?_)
  · skip
    exact w_lv (sub_c rfl (sub_c rfl (sub_c rfl sub_n))) rfl ((key ((22 : Int).toNat + 1))  ⟨by omega, by omega⟩ (by omega))
  · skip
    refine r_ld (pc' := 6) rfl rfl rfl rfl ?_
    refine r_ld (pc' := 7) rfl rfl rfl rfl ?_
    have hb39 := rd_225_27 hz
    refine r_cVI (pc' := 10) rfl rfl rfl rfl rfl sh_225 (m_173 (d := d + 1) a1 hst.1 hst.2.1 ⟨by omega, by omega⟩) (fun v40 z41 w42 p43 h44 hs45 hE46 => ?_)
    obtain ⟨rfl, rfl, rfl, hE46⟩ := hE46
    refine r_zeq (pc' := 13) rfl rfl ⟨by omega, by omega⟩ (fun hc48 => ?_) (fun hc48 => ?_)
    · skip
      refine r_al (pc' := 24) rfl rfl rfl rfl ?_
      refine r_go rfl ?_
      exact r_rl rfl (po_L hst ⟨by decide, by decide⟩ ⟨rfl, rfl, rfl, by omega, by omega⟩)
    · skip
      exact w_lv (sub_c rfl (sub_c rfl (sub_c rfl sub_n))) rfl ((key ((22 : Int).toNat + 1))  ⟨by omega, by omega⟩ (by omega))
/-- LoopGroundModel goFlip -/
abbrev S_207  : mS := [(259, 259, 0, 17), (258, 258, 0, 323), (257, 257, 0, 17), (225, 225, 58, 58)]
abbrev E_207 (a1 : Int) (z0 w0 : mZ) (x y tx it mt tt ct : Option Nat) : mZ → mZ → mP → Prop := fun z w p => p = (pq x y tx it mt tt ct)
theorem m_207 {d : Nat} {z0 w0 : mZ} {x y tx it mt tt ct : Option Nat} (a1 : Int) (hz : rz z0) (hw : rw_ w0) (ha1 : 0 ≤ a1 ∧ a1 ≤ 71275) : wc (d + 3) 207 [.ref 225, .int (Int32.ofInt a1)] (mk z0 w0 (pq x y tx it mt tt ct)) (poV S_207 z0 w0 (E_207 a1 z0 w0 x y tx it mt tt ct)) := by
  have hst : st_ S_207 z0 w0 z0 w0 := st_rf hz hw
  refine w_m rfl rfl ?_
  refine r_ld (pc' := 1) rfl rfl rfl rfl ?_
  refine r_ld (pc' := 2) rfl rfl rfl rfl ?_
  refine r_gr (b := 247) (pc' := 5) rfl rfl sh_225 rfl pp_225_43 ?_
  refine r_ld (pc' := 6) rfl rfl rfl rfl ?_
  have hb14 := rd_247 hz (i := a1.toNat) (by omega)
  refine r_ia (pc' := 7) rfl rfl sh_247 rfl (by omega) (by omega) rfl ?_
  refine r_ld (pc' := 8) rfl rfl rfl rfl ?_
  refine r_gr (b := 247) (pc' := 11) rfl rfl sh_225 rfl pp_225_43 ?_
  refine r_ld (pc' := 12) rfl rfl rfl rfl ?_
  refine r_c0 (pc' := 13) rfl rfl ?_
  refine r_add (pc' := 14) rfl rfl ?_
  have hb15 := rd_247 hz (i := (a1 + 1).toNat) (by omega)
  refine r_ia (pc' := 15) rfl rfl sh_247 rfl (by omega) (by omega) rfl ?_
  refine r_ld (pc' := 16) rfl rfl rfl rfl ?_
  refine r_gr (b := 247) (pc' := 19) rfl rfl sh_225 rfl pp_225_43 ?_
  refine r_ld (pc' := 20) rfl rfl rfl rfl ?_
  refine r_c0 (pc' := 21) rfl rfl ?_
  refine r_add (pc' := 22) rfl rfl ?_
  have hb16 := rd_247 hz (i := (a1 + 3).toNat) (by omega)
  refine r_ia (pc' := 23) rfl rfl sh_247 rfl (by omega) (by omega) rfl ?_
  refine r_ld (pc' := 24) rfl rfl rfl rfl ?_
  refine r_gr (b := 247) (pc' := 27) rfl rfl sh_225 rfl pp_225_43 ?_
  refine r_ld (pc' := 28) rfl rfl rfl rfl ?_
  refine r_c0 (pc' := 29) rfl rfl ?_
  refine r_add (pc' := 30) rfl rfl ?_
  have hb17 := rd_247 hz (i := (a1 + 2).toNat) (by omega)
  refine r_ia (pc' := 31) rfl rfl sh_247 rfl (by omega) (by omega) rfl ?_
  refine r_ld (pc' := 32) rfl rfl rfl rfl ?_
  refine r_gr (b := 247) (pc' := 35) rfl rfl sh_225 rfl pp_225_43 ?_
  refine r_ld (pc' := 36) rfl rfl rfl rfl ?_
  refine r_c0 (pc' := 37) rfl rfl ?_
  refine r_add (pc' := 38) rfl rfl ?_
  have hb18 := rd_247 hz (i := (a1 + 4).toNat) (by omega)
  refine r_ia (pc' := 39) rfl rfl sh_247 rfl (by omega) (by omega) rfl ?_
  refine r_ld (pc' := 40) rfl rfl rfl rfl ?_
  refine r_gr (b := 247) (pc' := 43) rfl rfl sh_225 rfl pp_225_43 ?_
  refine r_ld (pc' := 44) rfl rfl rfl rfl ?_
  refine r_ia (pc' := 45) rfl rfl sh_247 rfl (by omega) (by omega) rfl ?_
  refine r_cVV (pc' := 48) rfl rfl rfl rfl rfl sh_225 (m_205 (d := d) (z0 247 a1.toNat) (z0 247 (a1 + 1).toNat) (z0 247 (a1 + 3).toNat) (z0 247 (a1 + 2).toNat) (z0 247 (a1 + 4).toNat) (z0 247 a1.toNat) hst.1 hst.2.1 ⟨by omega, by omega⟩ ⟨by omega, by omega⟩ ⟨by omega, by omega⟩ ⟨by omega, by omega⟩ ⟨by omega, by omega⟩ ⟨by omega, by omega⟩) (fun z20 w21 p22 hs24 hE25 => ?_)
  have hs26 := st_tr hst hs24 (sub_B rfl)
  obtain rfl := hE25
  exact r_ret rfl (po_V hs26 rfl)
/-- LoopGroundModel turnOnce -/
abbrev S_209  : mS := [(260, 260, 0, 17), (259, 259, 0, 17), (258, 258, 0, 323), (257, 257, 0, 17), (225, 225, 58, 58)]
abbrev E_209 (a1 : Int) (a2 : Int) (a3 : Int) (z0 w0 : mZ) (x y tx it mt tt ct : Option Nat) : mZ → mZ → mP → Prop := fun z w p => p = (pq x y tx it mt tt ct)
theorem m_209 {d : Nat} {z0 w0 : mZ} {x y tx it mt tt ct : Option Nat} (a1 : Int) (a2 : Int) (a3 : Int) (hz : rz z0) (hw : rw_ w0) (ha1 : 0 ≤ a1 ∧ a1 ≤ 7) (ha2 : 0 ≤ a2 ∧ a2 ≤ 17) (ha3 : 0 ≤ a3 ∧ a3 ≤ 17) : wc (d + 3) 209 [.ref 225, .int (Int32.ofInt a1), .int (Int32.ofInt a2), .int (Int32.ofInt a3)] (mk z0 w0 (pq x y tx it mt tt ct)) (poV S_209 z0 w0 (E_209 a1 a2 a3 z0 w0 x y tx it mt tt ct)) := by
  have hst : st_ S_209 z0 w0 z0 w0 := st_rf hz hw
  have key : ∀ N : Nat, (∀ (x4 : Int) (z w : mZ), 0 ≤ x4 ∧ x4 ≤ 18 → st_ S_209 z0 w0 z w → z 225 58 = z0 225 58 → 69 * (18 - x4) + 1446 < (N : Int) → wp_ (d + 2) 209 7 none (3, [(0, .ref 225), (1, .int (Int32.ofInt a1)), (2, .int (Int32.ofInt a2)), (3, .int (Int32.ofInt a3)), (4, .int (Int32.ofInt x4))], [], mk z w (pq x y tx it mt tt ct)) (poV S_209 z0 w0 (E_209 a1 a2 a3 z0 w0 x y tx it mt tt ct))) ∧ (∀ (z w : mZ), st_ S_209 z0 w0 z w → z 225 58 = z0 225 58 → 1426 < (N : Int) → wp_ (d + 2) 209 7 none (42, [(0, .ref 225), (1, .int (Int32.ofInt a1)), (2, .int (Int32.ofInt a2)), (3, .int (Int32.ofInt a3))], [], mk z w (pq x y tx it mt tt ct)) (poV S_209 z0 w0 (E_209 a1 a2 a3 z0 w0 x y tx it mt tt ct))) ∧ (∀ (x6 : Int) (z w : mZ), 0 ≤ x6 ∧ x6 ≤ 18 → st_ S_209 z0 w0 z w → 69 * (18 - x6) + 20 < (N : Int) → wp_ (d + 2) 209 7 none (81, [(0, .ref 225), (3, .int (Int32.ofInt a3)), (6, .int (Int32.ofInt x6))], [], mk z w (pq x y tx it mt tt ct)) (poV S_209 z0 w0 (E_209 a1 a2 a3 z0 w0 x y tx it mt tt ct))) := by
    intro N
    induction N with
    | zero =>
      refine ⟨?_, ?_, ?_⟩
      · intro x4 z w
        intros; exfalso; omega
      · intro  z w
        intros; exfalso; omega
      · intro x6 z w
        intros; exfalso; omega
    | succ N ih =>
      obtain ⟨ih0, ih1, ih2⟩ := ih
      refine ⟨?_, ?_, ?_⟩
      · intro x4 z w  hx4 hst un_z_225_58 hM
        refine r_ld (pc' := 5) rfl rfl rfl rfl ?_
        refine r_cb (pc' := 7) rfl (by decide) rfl ?_
        refine r_ige (pc' := 10) rfl rfl ⟨by omega, by omega⟩ ⟨by decide, by decide⟩ (fun hc29 => ?_) (fun hc29 => ?_)
        · skip
          have hb30 := rd_225_58 hz
          exact w_lv (sub_c rfl (sub_c rfl (sub_c rfl (sub_c rfl sub_n)))) rfl (ih1 z w hst (un_z_225_58) (by omega))
        · skip
          refine r_ld (pc' := 11) rfl rfl rfl rfl ?_
          have hb31 := rd_225_59 hz
          refine r_gi (pc' := 14) rfl rfl sh_225 rfl (hst.2.2.1 _ _ (notS_c (by omega) (notS_c (by omega) (notS_c (by omega) (notS_c (by omega) (notS_c (by omega) notS_n)))))) ?_
          refine r_zeq (pc' := 17) rfl rfl ⟨by omega, by omega⟩ (fun hc32 => ?_) (fun hc32 => ?_)
          · skip
            have hb33 := rd_225_58 hz
            exact w_lv (sub_c rfl (sub_c rfl (sub_c rfl (sub_c rfl sub_n)))) rfl (ih1 z w hst (un_z_225_58) (by omega))
          · skip
            refine r_ld (pc' := 18) rfl rfl rfl rfl ?_
            refine r_gr (b := 260) (pc' := 21) rfl rfl sh_225 rfl pp_225_60 ?_
            refine r_ld (pc' := 23) rfl rfl rfl rfl ?_
            refine r_ld (pc' := 24) rfl rfl rfl rfl ?_
            refine r_gr (b := 258) (pc' := 27) rfl rfl sh_225 rfl pp_225_56 ?_
            refine r_cb (pc' := 29) rfl (by decide) rfl ?_
            refine r_ld (pc' := 30) rfl rfl rfl rfl ?_
            refine r_mul (pc' := 31) rfl rfl ?_
            refine r_ld (pc' := 33) rfl rfl rfl rfl ?_
            refine r_add (pc' := 34) rfl rfl ?_
            have hb34 := rd_258 hst.2.1 (i := ((18 * a2) + x4).toNat) (by omega)
            refine r_la (pc' := 35) rfl rfl sh_258 rfl (by omega) (by omega) rfl ?_
            refine r_ls (pc' := 36) rfl rfl sh_260 rfl (by omega) (by omega) hst (inS_0 (by omega) (by omega) (by omega) (by omega)) (wr_260 ⟨by omega, by omega⟩) (fun w35 hq36 hs37 => ?_)
            refine r_inc (pc' := 39) (lv' := [(0, _), (1, _), (2, _), (3, _)]) rfl rfl rfl rfl rfl ?_
            refine r_go rfl ?_
            have hb38 := rd_225_58 hz
            exact w_lv (sub_c rfl (sub_c rfl (sub_c rfl (sub_c rfl (sub_c rfl sub_n))))) rfl (ih0 (x4 + 1) z w35 ⟨by omega, by omega⟩ hs37 (un_z_225_58) (by omega))
      · intro  z w  hst un_z_225_58 hM
        refine r_ld (pc' := 43) rfl rfl rfl rfl ?_
        refine r_gr (b := 257) (pc' := 46) rfl rfl sh_225 rfl pp_225_55 ?_
        refine r_ld (pc' := 47) rfl rfl rfl rfl ?_
        have hb39 := rd_257 hst.2.1 (i := a2.toNat) (by omega)
        refine r_la (pc' := 48) rfl rfl sh_257 rfl (by omega) (by omega) rfl ?_
        refine r_st (pc' := 50) (lv' := [(4, _), (0, _), (1, _), (2, _), (3, _)]) rfl rfl rfl rfl ?_
        refine r_ld (pc' := 51) rfl rfl rfl rfl ?_
        refine r_ld (pc' := 52) rfl rfl rfl rfl ?_
        refine r_ld (pc' := 53) rfl rfl rfl rfl ?_
        refine r_gr (b := 251) (pc' := 56) rfl rfl sh_225 rfl pp_225_47 ?_
        refine r_ld (pc' := 57) rfl rfl rfl rfl ?_
        have hb40 := rd_251 hz (i := a1.toNat) (by omega)
        refine r_ia (pc' := 58) rfl rfl sh_251 rfl (by omega) (by omega) (hst.2.2.1 _ _ (notS_c (by omega) (notS_c (by omega) (notS_c (by omega) (notS_c (by omega) (notS_c (by omega) notS_n)))))) ?_
        refine r_ld (pc' := 59) rfl rfl rfl rfl ?_
        refine r_gr (b := 252) (pc' := 62) rfl rfl sh_225 rfl pp_225_48 ?_
        refine r_ld (pc' := 63) rfl rfl rfl rfl ?_
        have hb41 := rd_252 hz (i := a1.toNat) (by omega)
        refine r_ia (pc' := 64) rfl rfl sh_252 rfl (by omega) (by omega) (hst.2.2.1 _ _ (notS_c (by omega) (notS_c (by omega) (notS_c (by omega) (notS_c (by omega) (notS_c (by omega) notS_n)))))) ?_
        refine r_ld (pc' := 65) rfl rfl rfl rfl ?_
        refine r_ld (pc' := 66) rfl rfl rfl rfl ?_
        refine r_ld (pc' := 67) rfl rfl rfl rfl ?_
        refine r_cVV (pc' := 70) rfl rfl rfl rfl rfl sh_225 (m_205 (d := d) a2 (z0 251 a1.toNat) (z0 252 a1.toNat) a2 a2 a3 hst.1 hst.2.1 ⟨by omega, by omega⟩ ⟨by omega, by omega⟩ ⟨by omega, by omega⟩ ⟨by omega, by omega⟩ ⟨by omega, by omega⟩ ⟨by omega, by omega⟩) (fun z43 w44 p45 hs47 hE48 => ?_)
        have hs49 := st_tr hst hs47 (sub_B rfl)
        obtain rfl := hE48
        refine r_ld (pc' := 71) rfl rfl rfl rfl ?_
        refine r_gr (b := 257) (pc' := 74) rfl rfl sh_225 rfl pp_225_55 ?_
        refine r_ld (pc' := 75) rfl rfl rfl rfl ?_
        refine r_ld (pc' := 77) rfl rfl rfl rfl ?_
        refine r_ls (pc' := 78) rfl rfl sh_257 rfl (by omega) (by omega) hs49 (inS_s (inS_s (inS_s (inS_0 (by omega) (by omega) (by omega) (by omega))))) (wr_257 ⟨by omega, by omega⟩) (fun w50 hq51 hs52 => ?_)
        refine r_c0 (pc' := 79) rfl rfl ?_
        refine r_st (pc' := 81) (lv' := [(6, _), (4, _), (0, _), (1, _), (2, _), (3, _)]) rfl rfl rfl rfl ?_
        exact w_lv (sub_c rfl (sub_c rfl (sub_c rfl sub_n))) rfl (ih2 0 z43 w50 ⟨by omega, by omega⟩ hs52 (by omega))
      · intro x6 z w  hx6 hst hM
        refine r_ld (pc' := 83) rfl rfl rfl rfl ?_
        refine r_cb (pc' := 85) rfl (by decide) rfl ?_
        refine r_ige (pc' := 88) rfl rfl ⟨by omega, by omega⟩ ⟨by decide, by decide⟩ (fun hc53 => ?_) (fun hc53 => ?_)
        · skip
          exact r_ret rfl (po_V hst rfl)
        · skip
          refine r_ld (pc' := 89) rfl rfl rfl rfl ?_
          have hb54 := rd_225_59 hz
          refine r_gi (pc' := 92) rfl rfl sh_225 rfl (hst.2.2.1 _ _ (notS_c (by omega) (notS_c (by omega) (notS_c (by omega) (notS_c (by omega) (notS_c (by omega) notS_n)))))) ?_
          refine r_zeq (pc' := 95) rfl rfl ⟨by omega, by omega⟩ (fun hc55 => ?_) (fun hc55 => ?_)
          · skip
            exact r_ret rfl (po_V hst rfl)
          · skip
            refine r_ld (pc' := 96) rfl rfl rfl rfl ?_
            refine r_gr (b := 258) (pc' := 99) rfl rfl sh_225 rfl pp_225_56 ?_
            refine r_cb (pc' := 101) rfl (by decide) rfl ?_
            refine r_ld (pc' := 102) rfl rfl rfl rfl ?_
            refine r_mul (pc' := 103) rfl rfl ?_
            refine r_ld (pc' := 105) rfl rfl rfl rfl ?_
            refine r_add (pc' := 106) rfl rfl ?_
            refine r_ld (pc' := 107) rfl rfl rfl rfl ?_
            refine r_gr (b := 260) (pc' := 110) rfl rfl sh_225 rfl pp_225_60 ?_
            refine r_ld (pc' := 112) rfl rfl rfl rfl ?_
            have hb56 := rd_260 hst.2.1 (i := x6.toNat) (by omega)
            refine r_la (pc' := 113) rfl rfl sh_260 rfl (by omega) (by omega) rfl ?_
            refine r_ls (pc' := 114) rfl rfl sh_258 rfl (by omega) (by omega) hst (inS_s (inS_s (inS_0 (by omega) (by omega) (by omega) (by omega)))) (wr_258 ⟨by omega, by omega⟩) (fun w57 hq58 hs59 => ?_)
            refine r_inc (pc' := 117) (lv' := [(0, _), (3, _)]) rfl rfl rfl rfl rfl ?_
            refine r_go rfl ?_
            exact w_lv (sub_c rfl (sub_c rfl (sub_c rfl sub_n))) rfl (ih2 (x6 + 1) z w57 ⟨by omega, by omega⟩ hs59 (by omega))
  refine w_m rfl rfl ?_
  refine r_c0 (pc' := 1) rfl rfl ?_
  refine r_st (pc' := 3) (lv' := [(4, _), (0, _), (1, _), (2, _), (3, _)]) rfl rfl rfl rfl ?_
  have hb60 := rd_225_58 hz
  exact w_lv (sub_c rfl (sub_c rfl (sub_c rfl (sub_c rfl (sub_c rfl sub_n))))) rfl ((key ((69 * (18 - 0) + 1446 : Int).toNat + 1)).1 0 z0 w0 ⟨by omega, by omega⟩ hst (rfl) (by omega))
/-- LoopGroundModel lies -/
abbrev S_238  : mS := []
abbrev E_238 (a1 : Int) (z0 w0 : mZ) (x y tx it mt tt ct : Option Nat) : Int → mZ → mZ → mP → Prop := fun v z w p => p = (pq x y tx it mt tt ct) ∧ z0 = z ∧ w0 = w ∧ (-2147483648) ≤ v ∧ v ≤ 2147483647
theorem m_238 {d : Nat} {z0 w0 : mZ} {x y tx it mt tt ct : Option Nat} (a1 : Int) (hz : rz z0) (hw : rw_ w0) (ha1 : (-2147483648) ≤ a1 ∧ a1 ≤ 2147483647) : wc (d + 3) 238 [.ref 225, .int (Int32.ofInt a1)] (mk z0 w0 (pq x y tx it mt tt ct)) (poI S_238 z0 w0 (E_238 a1 z0 w0 x y tx it mt tt ct)) := by
  have hst : st_ S_238 z0 w0 z0 w0 := st_rf hz hw
  refine w_m rfl rfl ?_
  refine r_ld (pc' := 1) rfl rfl rfl rfl ?_
  have hb14 := rd_225_70 hz
  refine r_gi (pc' := 4) rfl rfl sh_225 rfl rfl ?_
  refine r_zeq (pc' := 7) rfl rfl ⟨by omega, by omega⟩ (fun hc15 => ?_) (fun hc15 => ?_)
  · skip
    refine r_c0 (pc' := 25) rfl rfl ?_
    exact r_ri rfl (po_I hst ⟨by decide, by decide⟩ ⟨rfl, rfl, rfl, by omega, by omega⟩)
  · skip
    refine r_ld (pc' := 8) rfl rfl rfl rfl ?_
    refine r_ld (pc' := 9) rfl rfl rfl rfl ?_
    have hb16 := rd_225_26 hz
    refine r_cVI (pc' := 12) rfl rfl rfl rfl rfl sh_225 (m_175 (d := d) a1 hst.1 hst.2.1 ⟨by omega, by omega⟩) (fun v17 z18 w19 p20 h21 hs22 hE23 => ?_)
    obtain ⟨rfl, rfl, rfl, hE23⟩ := hE23
    refine r_zeq (pc' := 15) rfl rfl ⟨by omega, by omega⟩ (fun hc25 => ?_) (fun hc25 => ?_)
    · skip
      refine r_c0 (pc' := 25) rfl rfl ?_
      exact r_ri rfl (po_I hst ⟨by decide, by decide⟩ ⟨rfl, rfl, rfl, by omega, by omega⟩)
    · skip
      refine r_ld (pc' := 16) rfl rfl rfl rfl ?_
      refine r_gr (b := 268) (pc' := 19) rfl rfl sh_225 rfl pp_225_68 ?_
      refine r_ld (pc' := 20) rfl rfl rfl rfl ?_
      have hb26 := rd_268 hz (i := a1.toNat) (by omega)
      refine r_ia (pc' := 21) rfl rfl sh_268 rfl (by omega) (by omega) rfl ?_
      refine r_go rfl ?_
      exact r_ri rfl (po_I hst ⟨by omega, by omega⟩ ⟨rfl, rfl, rfl, by omega, by omega⟩)
/-- LoopGroundModel goFlips -/
abbrev S_206  : mS := [(259, 259, 0, 17), (258, 258, 0, 323), (257, 257, 0, 17), (225, 225, 58, 58)]
abbrev E_206 (a1 : Int) (z0 w0 : mZ) (x y tx it mt tt ct : Option Nat) : mZ → mZ → mP → Prop := fun z w p => p = (pq x y tx it mt tt ct)
theorem m_206 {d : Nat} {z0 w0 : mZ} {x y tx it mt tt ct : Option Nat} (a1 : Int) (hz : rz z0) (hw : rw_ w0) (ha1 : 0 ≤ a1 ∧ a1 ≤ 7) : wc (d + 4) 206 [.ref 225, .int (Int32.ofInt a1)] (mk z0 w0 (pq x y tx it mt tt ct)) (poV S_206 z0 w0 (E_206 a1 z0 w0 x y tx it mt tt ct)) := by
  have hst : st_ S_206 z0 w0 z0 w0 := st_rf hz hw
  have key : ∀ N : Nat, (∀ (x2 : Int) (z w : mZ), 0 ≤ x2 ∧ x2 ≤ 1782 → st_ S_206 z0 w0 z w → 23 * (1782 - x2) + 20 < (N : Int) → wp_ (d + 3) 206 3 none (2, [(0, .ref 225), (1, .int (Int32.ofInt a1)), (2, .int (Int32.ofInt x2))], [], mk z w (pq x y tx it mt tt ct)) (poV S_206 z0 w0 (E_206 a1 z0 w0 x y tx it mt tt ct))) := by
    intro N
    induction N with
    | zero =>
      intro x2 z w
      intros; exfalso; omega
    | succ N ih =>
      have ih0 := ih; clear ih
      intro x2 z w  hx2 hst hM
      refine r_ld (pc' := 3) rfl rfl rfl rfl ?_
      refine r_ld (pc' := 4) rfl rfl rfl rfl ?_
      refine r_gr (b := 248) (pc' := 7) rfl rfl sh_225 rfl pp_225_44 ?_
      refine r_ld (pc' := 8) rfl rfl rfl rfl ?_
      have hb13 := rd_248 hz (i := a1.toNat) (by omega)
      refine r_ia (pc' := 9) rfl rfl sh_248 rfl (by omega) (by omega) (hst.2.2.1 _ _ (notS_c (by omega) (notS_c (by omega) (notS_c (by omega) (notS_c (by omega) notS_n))))) ?_
      refine r_ige (pc' := 12) rfl rfl ⟨by omega, by omega⟩ ⟨by omega, by omega⟩ (fun hc14 => ?_) (fun hc14 => ?_)
      · skip
        exact r_ret rfl (po_V hst rfl)
      · skip
        refine r_ld (pc' := 13) rfl rfl rfl rfl ?_
        have hb15 := rd_225_58 hst.1
        refine r_gi (pc' := 16) rfl rfl sh_225 rfl rfl ?_
        refine r_zne (pc' := 19) rfl rfl ⟨by omega, by omega⟩ (fun hc16 => ?_) (fun hc16 => ?_)
        · skip
          exact r_ret rfl (po_V hst rfl)
        · skip
          refine r_ld (pc' := 20) rfl rfl rfl rfl ?_
          refine r_c0 (pc' := 21) rfl rfl ?_
          refine r_cs (pc' := 24) rfl (by decide) rfl ?_
          refine r_ld (pc' := 25) rfl rfl rfl rfl ?_
          refine r_mul (pc' := 26) rfl rfl ?_
          refine r_ld (pc' := 27) rfl rfl rfl rfl ?_
          refine r_add (pc' := 28) rfl rfl ?_
          refine r_mul (pc' := 29) rfl rfl ?_
          refine r_cVV (pc' := 32) rfl rfl rfl rfl rfl sh_225 (m_207 (d := d) (5 * ((1782 * a1) + x2)) hst.1 hst.2.1 ⟨by omega, by omega⟩) (fun z18 w19 p20 hs22 hE23 => ?_)
          have hs24 := st_tr hst hs22 (sub_B rfl)
          obtain rfl := hE23
          refine r_inc (pc' := 35) (lv' := [(0, _), (1, _)]) rfl rfl rfl rfl rfl ?_
          refine r_go rfl ?_
          exact w_lv (sub_c rfl (sub_c rfl (sub_c rfl sub_n))) rfl (ih0 (x2 + 1) z18 w19 ⟨by omega, by omega⟩ hs24 (by omega))
  refine w_m rfl rfl ?_
  refine r_c0 (pc' := 1) rfl rfl ?_
  refine r_st (pc' := 2) (lv' := [(2, _), (0, _), (1, _)]) rfl rfl rfl rfl ?_
  exact w_lv (sub_c rfl (sub_c rfl (sub_c rfl sub_n))) rfl ((key ((23 * (1782 - 0) + 20 : Int).toNat + 1)) 0 z0 w0 ⟨by omega, by omega⟩ hst (by omega))
/-- LoopGroundModel goBack -/
abbrev S_208  : mS := [(259, 259, 0, 17), (258, 258, 0, 323), (257, 257, 0, 17), (225, 225, 58, 58)]
abbrev E_208 (a1 : Int) (z0 w0 : mZ) (x y tx it mt tt ct : Option Nat) : mZ → mZ → mP → Prop := fun z w p => p = (pq x y tx it mt tt ct)
theorem m_208 {d : Nat} {z0 w0 : mZ} {x y tx it mt tt ct : Option Nat} (a1 : Int) (hz : rz z0) (hw : rw_ w0) (ha1 : 0 ≤ a1 ∧ a1 ≤ 7) : wc (d + 4) 208 [.ref 225, .int (Int32.ofInt a1)] (mk z0 w0 (pq x y tx it mt tt ct)) (poV S_208 z0 w0 (E_208 a1 z0 w0 x y tx it mt tt ct)) := by
  have hst : st_ S_208 z0 w0 z0 w0 := st_rf hz hw
  have key : ∀ N : Nat, (∀ (x2 : Int) (z w : mZ), (-1) ≤ x2 ∧ x2 ≤ 1781 → st_ S_208 z0 w0 z w → 24 * (x2 - (-1)) + 16 < (N : Int) → wp_ (d + 3) 208 3 none (9, [(0, .ref 225), (1, .int (Int32.ofInt a1)), (2, .int (Int32.ofInt x2))], [], mk z w (pq x y tx it mt tt ct)) (poV S_208 z0 w0 (E_208 a1 z0 w0 x y tx it mt tt ct))) := by
    intro N
    induction N with
    | zero =>
      intro x2 z w
      intros; exfalso; omega
    | succ N ih =>
      have ih0 := ih; clear ih
      intro x2 z w  hx2 hst hM
      refine r_ld (pc' := 10) rfl rfl rfl rfl ?_
      refine r_zlt (pc' := 13) rfl rfl ⟨by omega, by omega⟩ (fun hc13 => ?_) (fun hc13 => ?_)
      · skip
        exact r_ret rfl (po_V hst rfl)
      · skip
        refine r_ld (pc' := 14) rfl rfl rfl rfl ?_
        have hb14 := rd_225_58 hst.1
        refine r_gi (pc' := 17) rfl rfl sh_225 rfl rfl ?_
        refine r_zne (pc' := 20) rfl rfl ⟨by omega, by omega⟩ (fun hc15 => ?_) (fun hc15 => ?_)
        · skip
          exact r_ret rfl (po_V hst rfl)
        · skip
          refine r_ld (pc' := 21) rfl rfl rfl rfl ?_
          refine r_c0 (pc' := 22) rfl rfl ?_
          refine r_cs (pc' := 25) rfl (by decide) rfl ?_
          refine r_ld (pc' := 26) rfl rfl rfl rfl ?_
          refine r_mul (pc' := 27) rfl rfl ?_
          refine r_ld (pc' := 28) rfl rfl rfl rfl ?_
          refine r_add (pc' := 29) rfl rfl ?_
          refine r_mul (pc' := 30) rfl rfl ?_
          refine r_cVV (pc' := 33) rfl rfl rfl rfl rfl sh_225 (m_207 (d := d) (5 * ((1782 * a1) + x2)) hst.1 hst.2.1 ⟨by omega, by omega⟩) (fun z17 w18 p19 hs21 hE22 => ?_)
          have hs23 := st_tr hst hs21 (sub_B rfl)
          obtain rfl := hE22
          refine r_inc (pc' := 36) (lv' := [(0, _), (1, _)]) rfl rfl rfl rfl rfl ?_
          refine r_go rfl ?_
          exact w_lv (sub_c rfl (sub_c rfl (sub_c rfl sub_n))) rfl (ih0 (x2 + ((-1))) z17 w18 ⟨by omega, by omega⟩ hs23 (by omega))
  refine w_m rfl rfl ?_
  refine r_ld (pc' := 1) rfl rfl rfl rfl ?_
  refine r_gr (b := 248) (pc' := 4) rfl rfl sh_225 rfl pp_225_44 ?_
  refine r_ld (pc' := 5) rfl rfl rfl rfl ?_
  have hb24 := rd_248 hz (i := a1.toNat) (by omega)
  refine r_ia (pc' := 6) rfl rfl sh_248 rfl (by omega) (by omega) rfl ?_
  refine r_c0 (pc' := 7) rfl rfl ?_
  refine r_sub (pc' := 8) rfl rfl ?_
  refine r_st (pc' := 9) (lv' := [(2, _), (0, _), (1, _)]) rfl rfl rfl rfl ?_
  exact w_lv (sub_c rfl (sub_c rfl (sub_c rfl sub_n))) rfl ((key ((24 * (((z0 248 a1.toNat) - 1) - (-1)) + 16 : Int).toNat + 1)) ((z0 248 a1.toNat) - 1) z0 w0 ⟨by omega, by omega⟩ hst (by omega))
/-- LoopGroundModel goTwist -/
abbrev S_210  : mS := [(259, 259, 0, 17), (258, 258, 0, 323), (257, 257, 0, 17), (225, 225, 58, 58), (260, 260, 0, 17)]
abbrev E_210 (a1 : Int) (a2 : Int) (z0 w0 : mZ) (x y tx it mt tt ct : Option Nat) : mZ → mZ → mP → Prop := fun z w p => p = (pq x y tx it mt tt ct)
theorem m_210 {d : Nat} {z0 w0 : mZ} {x y tx it mt tt ct : Option Nat} (a1 : Int) (a2 : Int) (hz : rz z0) (hw : rw_ w0) (ha1 : 0 ≤ a1 ∧ a1 ≤ 7) (ha2 : (-99) ≤ a2 ∧ a2 ≤ 99) : wc (d + 5) 210 [.ref 225, .int (Int32.ofInt a1), .int (Int32.ofInt a2)] (mk z0 w0 (pq x y tx it mt tt ct)) (poV S_210 z0 w0 (E_210 a1 a2 z0 w0 x y tx it mt tt ct)) := by
  have hst : st_ S_210 z0 w0 z0 w0 := st_rf hz hw
  have key : ∀ N : Nat, (∀ (x3 : Int) (z w : mZ), 0 ≤ x3 ∧ x3 ≤ 99 → st_ S_210 z0 w0 z w → 49 * (99 - x3) + 4992 < (N : Int) → wp_ (d + 4) 210 4 none (7, [(0, .ref 225), (1, .int (Int32.ofInt a1)), (2, .int (Int32.ofInt a2)), (3, .int (Int32.ofInt x3))], [], mk z w (pq x y tx it mt tt ct)) (poV S_210 z0 w0 (E_210 a1 a2 z0 w0 x y tx it mt tt ct))) ∧ (∀ (x3 : Int) (z w : mZ), (-99) ≤ x3 ∧ x3 ≤ 0 → st_ S_210 z0 w0 z w → 49 * (x3 - (-99)) + 22 < (N : Int) → wp_ (d + 4) 210 4 none (44, [(0, .ref 225), (1, .int (Int32.ofInt a1)), (2, .int (Int32.ofInt a2)), (3, .int (Int32.ofInt x3))], [], mk z w (pq x y tx it mt tt ct)) (poV S_210 z0 w0 (E_210 a1 a2 z0 w0 x y tx it mt tt ct))) ∧ (∀ (z w : mZ), st_ S_210 z0 w0 z w → 3 < (N : Int) → wp_ (d + 4) 210 4 none (79, [(0, .ref 225), (1, .int (Int32.ofInt a1))], [], mk z w (pq x y tx it mt tt ct)) (poV S_210 z0 w0 (E_210 a1 a2 z0 w0 x y tx it mt tt ct))) := by
    intro N
    induction N with
    | zero =>
      refine ⟨?_, ?_, ?_⟩
      · intro x3 z w
        intros; exfalso; omega
      · intro x3 z w
        intros; exfalso; omega
      · intro  z w
        intros; exfalso; omega
    | succ N ih =>
      obtain ⟨ih0, ih1, ih2⟩ := ih
      refine ⟨?_, ?_, ?_⟩
      · intro x3 z w  hx3 hst hM
        refine r_ld (pc' := 8) rfl rfl rfl rfl ?_
        refine r_ld (pc' := 9) rfl rfl rfl rfl ?_
        refine r_ige (pc' := 12) rfl rfl ⟨by omega, by omega⟩ ⟨by omega, by omega⟩ (fun hc43 => ?_) (fun hc43 => ?_)
        · skip
          refine r_c0 (pc' := 43) rfl rfl ?_
          refine r_st (pc' := 44) (lv' := [(3, _), (0, _), (1, _), (2, _)]) rfl rfl rfl rfl ?_
          exact w_lv (sub_c rfl (sub_c rfl (sub_c rfl (sub_c rfl sub_n)))) rfl (ih1 0 z w ⟨by omega, by omega⟩ hst (by omega))
        · skip
          refine r_ld (pc' := 13) rfl rfl rfl rfl ?_
          have hb44 := rd_225_58 hst.1
          refine r_gi (pc' := 16) rfl rfl sh_225 rfl rfl ?_
          refine r_zne (pc' := 19) rfl rfl ⟨by omega, by omega⟩ (fun hc45 => ?_) (fun hc45 => ?_)
          · skip
            refine r_c0 (pc' := 43) rfl rfl ?_
            refine r_st (pc' := 44) (lv' := [(3, _), (0, _), (1, _), (2, _)]) rfl rfl rfl rfl ?_
            exact w_lv (sub_c rfl (sub_c rfl (sub_c rfl (sub_c rfl sub_n)))) rfl (ih1 0 z w ⟨by omega, by omega⟩ hst (by omega))
          · skip
            refine r_ld (pc' := 20) rfl rfl rfl rfl ?_
            refine r_ld (pc' := 21) rfl rfl rfl rfl ?_
            refine r_ld (pc' := 22) rfl rfl rfl rfl ?_
            refine r_gr (b := 250) (pc' := 25) rfl rfl sh_225 rfl pp_225_46 ?_
            refine r_ld (pc' := 26) rfl rfl rfl rfl ?_
            have hb46 := rd_250 hz (i := a1.toNat) (by omega)
            refine r_ia (pc' := 27) rfl rfl sh_250 rfl (by omega) (by omega) (hst.2.2.1 _ _ (notS_c (by omega) (notS_c (by omega) (notS_c (by omega) (notS_c (by omega) (notS_c (by omega) notS_n)))))) ?_
            refine r_ld (pc' := 28) rfl rfl rfl rfl ?_
            refine r_gr (b := 249) (pc' := 31) rfl rfl sh_225 rfl pp_225_45 ?_
            refine r_ld (pc' := 32) rfl rfl rfl rfl ?_
            have hb47 := rd_249 hz (i := a1.toNat) (by omega)
            refine r_ia (pc' := 33) rfl rfl sh_249 rfl (by omega) (by omega) (hst.2.2.1 _ _ (notS_c (by omega) (notS_c (by omega) (notS_c (by omega) (notS_c (by omega) (notS_c (by omega) notS_n)))))) ?_
            refine r_cVV (pc' := 36) rfl rfl rfl rfl rfl sh_225 (m_209 (d := d + 1) a1 (z0 250 a1.toNat) (z0 249 a1.toNat) hst.1 hst.2.1 ⟨by omega, by omega⟩ ⟨by omega, by omega⟩ ⟨by omega, by omega⟩) (fun z49 w50 p51 hs53 hE54 => ?_)
            have hs55 := st_tr hst hs53 (sub_B rfl)
            obtain rfl := hE54
            refine r_inc (pc' := 39) (lv' := [(0, _), (1, _), (2, _)]) rfl rfl rfl rfl rfl ?_
            refine r_go rfl ?_
            exact w_lv (sub_c rfl (sub_c rfl (sub_c rfl (sub_c rfl sub_n)))) rfl (ih0 (x3 + 1) z49 w50 ⟨by omega, by omega⟩ hs55 (by omega))
      · intro x3 z w  hx3 hst hM
        refine r_ld (pc' := 45) rfl rfl rfl rfl ?_
        refine r_ld (pc' := 46) rfl rfl rfl rfl ?_
        refine r_ile (pc' := 49) rfl rfl ⟨by omega, by omega⟩ ⟨by omega, by omega⟩ (fun hc56 => ?_) (fun hc56 => ?_)
        · skip
          exact w_lv (sub_c rfl (sub_c rfl sub_n)) rfl (ih2 z w hst (by omega))
        · skip
          refine r_ld (pc' := 50) rfl rfl rfl rfl ?_
          have hb57 := rd_225_58 hst.1
          refine r_gi (pc' := 53) rfl rfl sh_225 rfl rfl ?_
          refine r_zne (pc' := 56) rfl rfl ⟨by omega, by omega⟩ (fun hc58 => ?_) (fun hc58 => ?_)
          · skip
            exact w_lv (sub_c rfl (sub_c rfl sub_n)) rfl (ih2 z w hst (by omega))
          · skip
            refine r_ld (pc' := 57) rfl rfl rfl rfl ?_
            refine r_ld (pc' := 58) rfl rfl rfl rfl ?_
            refine r_ld (pc' := 59) rfl rfl rfl rfl ?_
            refine r_gr (b := 249) (pc' := 62) rfl rfl sh_225 rfl pp_225_45 ?_
            refine r_ld (pc' := 63) rfl rfl rfl rfl ?_
            have hb59 := rd_249 hz (i := a1.toNat) (by omega)
            refine r_ia (pc' := 64) rfl rfl sh_249 rfl (by omega) (by omega) (hst.2.2.1 _ _ (notS_c (by omega) (notS_c (by omega) (notS_c (by omega) (notS_c (by omega) (notS_c (by omega) notS_n)))))) ?_
            refine r_ld (pc' := 65) rfl rfl rfl rfl ?_
            refine r_gr (b := 250) (pc' := 68) rfl rfl sh_225 rfl pp_225_46 ?_
            refine r_ld (pc' := 69) rfl rfl rfl rfl ?_
            have hb60 := rd_250 hz (i := a1.toNat) (by omega)
            refine r_ia (pc' := 70) rfl rfl sh_250 rfl (by omega) (by omega) (hst.2.2.1 _ _ (notS_c (by omega) (notS_c (by omega) (notS_c (by omega) (notS_c (by omega) (notS_c (by omega) notS_n)))))) ?_
            refine r_cVV (pc' := 73) rfl rfl rfl rfl rfl sh_225 (m_209 (d := d + 1) a1 (z0 249 a1.toNat) (z0 250 a1.toNat) hst.1 hst.2.1 ⟨by omega, by omega⟩ ⟨by omega, by omega⟩ ⟨by omega, by omega⟩) (fun z62 w63 p64 hs66 hE67 => ?_)
            have hs68 := st_tr hst hs66 (sub_B rfl)
            obtain rfl := hE67
            refine r_inc (pc' := 76) (lv' := [(0, _), (1, _), (2, _)]) rfl rfl rfl rfl rfl ?_
            refine r_go rfl ?_
            exact w_lv (sub_c rfl (sub_c rfl (sub_c rfl (sub_c rfl sub_n)))) rfl (ih1 (x3 + ((-1))) z62 w63 ⟨by omega, by omega⟩ hs68 (by omega))
      · intro  z w  hst hM
        refine r_ld (pc' := 80) rfl rfl rfl rfl ?_
        refine r_ld (pc' := 81) rfl rfl rfl rfl ?_
        refine r_cVV (pc' := 84) rfl rfl rfl rfl rfl sh_225 (m_208 (d := d) a1 hst.1 hst.2.1 ⟨by omega, by omega⟩) (fun z70 w71 p72 hs74 hE75 => ?_)
        have hs76 := st_tr hst hs74 (sub_B rfl)
        obtain rfl := hE75
        exact r_ret rfl (po_V hs76 rfl)
  refine w_m rfl rfl ?_
  refine r_ld (pc' := 1) rfl rfl rfl rfl ?_
  refine r_ld (pc' := 2) rfl rfl rfl rfl ?_
  refine r_cVV (pc' := 5) rfl rfl rfl rfl rfl sh_225 (m_206 (d := d) a1 hst.1 hst.2.1 ⟨by omega, by omega⟩) (fun z78 w79 p80 hs82 hE83 => ?_)
  have hs84 := st_tr hst hs82 (sub_B rfl)
  obtain rfl := hE83
  refine r_c0 (pc' := 6) rfl rfl ?_
  refine r_st (pc' := 7) (lv' := [(3, _), (0, _), (1, _), (2, _)]) rfl rfl rfl rfl ?_
  exact w_lv (sub_c rfl (sub_c rfl (sub_c rfl (sub_c rfl sub_n)))) rfl ((key ((49 * (99 - 0) + 4992 : Int).toNat + 1)).1 0 z78 w79 ⟨by omega, by omega⟩ hs84 (by omega))
/-- LoopGroundModel cross -/
abbrev S_215  : mS := [(257, 257, 0, 17), (225, 225, 58, 58), (225, 225, 59, 59), (259, 259, 0, 17), (258, 258, 0, 323)]
abbrev E_215 (a1 : Int) (a2 : Int) (z0 w0 : mZ) (x y tx it mt tt ct : Option Nat) : Int → mZ → mZ → mP → Prop := fun v z w p => p = (pq x y tx it mt tt ct) ∧ (-9223372036854775808) ≤ v ∧ v ≤ 9223372036854775807
theorem m_215 {d : Nat} {z0 w0 : mZ} {x y tx it mt tt ct : Option Nat} (a1 : Int) (a2 : Int) (hz : rz z0) (hw : rw_ w0) (ha1 : (-2147483648) ≤ a1 ∧ a1 ≤ 2147483647) (ha2 : (-2147483648) ≤ a2 ∧ a2 ≤ 2147483647) : wc (d + 5) 215 [.ref 225, .int (Int32.ofInt a1), .int (Int32.ofInt a2)] (mk z0 w0 (pq x y tx it mt tt ct)) (poL S_215 z0 w0 (E_215 a1 a2 z0 w0 x y tx it mt tt ct)) := by
  have hst : st_ S_215 z0 w0 z0 w0 := st_rf hz hw
  have key : ∀ N : Nat, (∀ (z w : mZ), (-1) ≤ a1 ∧ a1 ≤ 7 → st_ S_215 z0 w0 z w → z 225 58 = z0 225 58 → z 225 59 = z0 225 59 → 70 < (N : Int) → wp_ (d + 4) 215 11 (some .long) (13, [(0, .ref 225), (1, .int (Int32.ofInt a1)), (2, .int (Int32.ofInt a2))], [], mk z w (pq x y tx it mt tt ct)) (poL S_215 z0 w0 (E_215 a1 a2 z0 w0 x y tx it mt tt ct))) := by
    intro N
    induction N with
    | zero =>
      intro  z w
      intros; exfalso; omega
    | succ N ih =>
      have ih0 := ih; clear ih
      intro  z w  hpa1 hst un_z_225_58 un_z_225_59 hM
      refine r_ld (pc' := 14) rfl rfl rfl rfl ?_
      refine r_ld (pc' := 15) rfl rfl rfl rfl ?_
      have hb72 := rd_225_27 hz
      have hf73 : z 225 27 = z0 225 27 := (hst.2.2.1 _ _ (notS_c (by omega) (notS_c (by omega) (notS_c (by omega) (notS_c (by omega) (notS_c (by omega) notS_n))))))
      refine r_cVI (pc' := 18) rfl rfl rfl rfl rfl sh_225 (m_173 (d := d + 3) a2 hst.1 hst.2.1 ⟨by omega, by omega⟩) (fun v74 z75 w76 p77 h78 hs79 hE80 => ?_)
      obtain ⟨rfl, rfl, rfl, hE80⟩ := hE80
      refine r_zeq (pc' := 21) rfl rfl ⟨by omega, by omega⟩ (fun hc82 => ?_) (fun hc82 => ?_)
      · skip
        refine r_al (pc' := 33) rfl rfl rfl rfl ?_
        exact r_rl rfl (po_L hst ⟨by decide, by decide⟩ ⟨rfl, by omega, by omega⟩)
      · skip
        refine r_ld (pc' := 22) rfl rfl rfl rfl ?_
        refine r_gr (b := 254) (pc' := 25) rfl rfl sh_225 rfl pp_225_50 ?_
        refine r_ld (pc' := 26) rfl rfl rfl rfl ?_
        have hb83 := rd_254 hz (i := a2.toNat) (by omega)
        refine r_ba (pc' := 27) rfl rfl sh_254 (Or.inr rfl) rfl (by omega) (by omega) (hst.2.2.1 _ _ (notS_c (by omega) (notS_c (by omega) (notS_c (by omega) (notS_c (by omega) (notS_c (by omega) notS_n)))))) ?_
        refine r_zne (pc' := 30) rfl rfl ⟨by omega, by omega⟩ (fun hc84 => ?_) (fun hc84 => ?_)
        · skip
          refine r_ld (pc' := 35) rfl rfl rfl rfl ?_
          refine r_ld (pc' := 36) rfl rfl rfl rfl ?_
          refine r_cVV (pc' := 39) rfl rfl rfl rfl rfl sh_225 (m_212 (d := d + 2) a1 hst.1 hst.2.1 ⟨by omega, by omega⟩) (fun z86 w87 p88 hs90 hE91 => ?_)
          have hs92 := st_tr hst hs90 (sub_B rfl)
          obtain rfl := hE91
          refine r_ld (pc' := 40) rfl rfl rfl rfl ?_
          refine r_ld (pc' := 41) rfl rfl rfl rfl ?_
          refine r_cVV (pc' := 44) rfl rfl rfl rfl rfl sh_225 (m_206 (d := d) a2 hs92.1 hs92.2.1 ⟨by omega, by omega⟩) (fun z94 w95 p96 hs98 hE99 => ?_)
          have hs100 := st_tr hs92 hs98 (sub_B rfl)
          obtain rfl := hE99
          refine r_ld (pc' := 45) rfl rfl rfl rfl ?_
          have hb101 := rd_225_58 hs100.1
          refine r_gi (pc' := 48) rfl rfl sh_225 rfl rfl ?_
          refine r_zeq (pc' := 51) rfl rfl ⟨by omega, by omega⟩ (fun hc102 => ?_) (fun hc102 => ?_)
          · skip
            refine r_ld (pc' := 56) rfl rfl rfl rfl ?_
            refine r_gr (b := 257) (pc' := 59) rfl rfl sh_225 rfl pp_225_55 ?_
            refine r_ld (pc' := 60) rfl rfl rfl rfl ?_
            refine r_gr (b := 249) (pc' := 63) rfl rfl sh_225 rfl pp_225_45 ?_
            refine r_ld (pc' := 64) rfl rfl rfl rfl ?_
            have hb103 := rd_249 hz (i := a2.toNat) (by omega)
            refine r_ia (pc' := 65) rfl rfl sh_249 rfl (by omega) (by omega) ((hs98.2.2.1 _ _ (notS_c (by omega) (notS_c (by omega) (notS_c (by omega) (notS_c (by omega) notS_n))))).trans ((hs90.2.2.1 _ _ (notS_c (by omega) (notS_c (by omega) (notS_c (by omega) notS_n)))).trans (hst.2.2.1 _ _ (notS_c (by omega) (notS_c (by omega) (notS_c (by omega) (notS_c (by omega) (notS_c (by omega) notS_n)))))))) ?_
            have hb104 := rd_257 hs100.2.1 (i := (z0 249 a2.toNat).toNat) (by omega)
            refine r_la (pc' := 66) rfl rfl sh_257 rfl (by omega) (by omega) rfl ?_
            refine r_st (pc' := 67) (lv' := [(3, _), (0, _), (1, _), (2, _)]) rfl rfl rfl rfl ?_
            refine r_ld (pc' := 68) rfl rfl rfl rfl ?_
            refine r_gr (b := 257) (pc' := 71) rfl rfl sh_225 rfl pp_225_55 ?_
            refine r_ld (pc' := 72) rfl rfl rfl rfl ?_
            refine r_gr (b := 250) (pc' := 75) rfl rfl sh_225 rfl pp_225_46 ?_
            refine r_ld (pc' := 76) rfl rfl rfl rfl ?_
            have hb105 := rd_250 hz (i := a2.toNat) (by omega)
            refine r_ia (pc' := 77) rfl rfl sh_250 rfl (by omega) (by omega) ((hs98.2.2.1 _ _ (notS_c (by omega) (notS_c (by omega) (notS_c (by omega) (notS_c (by omega) notS_n))))).trans ((hs90.2.2.1 _ _ (notS_c (by omega) (notS_c (by omega) (notS_c (by omega) notS_n)))).trans (hst.2.2.1 _ _ (notS_c (by omega) (notS_c (by omega) (notS_c (by omega) (notS_c (by omega) (notS_c (by omega) notS_n)))))))) ?_
            have hb106 := rd_257 hs100.2.1 (i := (z0 250 a2.toNat).toNat) (by omega)
            refine r_la (pc' := 78) rfl rfl sh_257 rfl (by omega) (by omega) rfl ?_
            refine r_st (pc' := 80) (lv' := [(5, _), (3, _), (0, _), (1, _), (2, _)]) rfl rfl rfl rfl ?_
            refine r_ld (pc' := 82) rfl rfl rfl rfl ?_
            refine r_ld (pc' := 83) rfl rfl rfl rfl ?_
            refine r_lsub (pc' := 84) rfl rfl ?_
            refine w_hxl (fun v107 h108 h109 => ?_)
            refine r_cSL (pc' := 87) rfl rfl rfl rfl rfl (m_214 (d := d + 3) v107 hs100.1 hs100.2.1 ⟨by omega, by omega⟩) (fun v110 z111 w112 p113 h114 hs115 hE116 => ?_)
            obtain ⟨rfl, rfl, rfl, hE116⟩ := hE116
            refine r_st (pc' := 89) (lv' := [(7, _), (5, _), (3, _), (0, _), (1, _), (2, _)]) rfl rfl rfl rfl ?_
            refine r_ld (pc' := 90) rfl rfl rfl rfl ?_
            refine r_gr (b := 257) (pc' := 93) rfl rfl sh_225 rfl pp_225_55 ?_
            refine r_ld (pc' := 94) rfl rfl rfl rfl ?_
            refine r_gr (b := 251) (pc' := 97) rfl rfl sh_225 rfl pp_225_47 ?_
            refine r_ld (pc' := 98) rfl rfl rfl rfl ?_
            have hb118 := rd_251 hz (i := a2.toNat) (by omega)
            refine r_ia (pc' := 99) rfl rfl sh_251 rfl (by omega) (by omega) ((hs98.2.2.1 _ _ (notS_c (by omega) (notS_c (by omega) (notS_c (by omega) (notS_c (by omega) notS_n))))).trans ((hs90.2.2.1 _ _ (notS_c (by omega) (notS_c (by omega) (notS_c (by omega) notS_n)))).trans (hst.2.2.1 _ _ (notS_c (by omega) (notS_c (by omega) (notS_c (by omega) (notS_c (by omega) (notS_c (by omega) notS_n)))))))) ?_
            have hb119 := rd_257 hs100.2.1 (i := (z0 251 a2.toNat).toNat) (by omega)
            refine r_la (pc' := 100) rfl rfl sh_257 rfl (by omega) (by omega) rfl ?_
            refine r_ld (pc' := 101) rfl rfl rfl rfl ?_
            refine r_gr (b := 257) (pc' := 104) rfl rfl sh_225 rfl pp_225_55 ?_
            refine r_ld (pc' := 105) rfl rfl rfl rfl ?_
            refine r_gr (b := 252) (pc' := 108) rfl rfl sh_225 rfl pp_225_48 ?_
            refine r_ld (pc' := 109) rfl rfl rfl rfl ?_
            have hb120 := rd_252 hz (i := a2.toNat) (by omega)
            refine r_ia (pc' := 110) rfl rfl sh_252 rfl (by omega) (by omega) ((hs98.2.2.1 _ _ (notS_c (by omega) (notS_c (by omega) (notS_c (by omega) (notS_c (by omega) notS_n))))).trans ((hs90.2.2.1 _ _ (notS_c (by omega) (notS_c (by omega) (notS_c (by omega) notS_n)))).trans (hst.2.2.1 _ _ (notS_c (by omega) (notS_c (by omega) (notS_c (by omega) (notS_c (by omega) (notS_c (by omega) notS_n)))))))) ?_
            have hb121 := rd_257 hs100.2.1 (i := (z0 252 a2.toNat).toNat) (by omega)
            refine r_la (pc' := 111) rfl rfl sh_257 rfl (by omega) (by omega) rfl ?_
            refine r_ladd (pc' := 112) rfl rfl ?_
            refine w_hxl (fun v122 h123 h124 => ?_)
            refine r_ld (pc' := 113) rfl rfl rfl rfl ?_
            refine r_lsub (pc' := 114) rfl rfl ?_
            refine w_hxl (fun v125 h126 h127 => ?_)
            refine r_ld (pc' := 116) rfl rfl rfl rfl ?_
            refine r_lsub (pc' := 117) rfl rfl ?_
            refine w_hxl (fun v128 h129 h130 => ?_)
            refine r_st (pc' := 119) (lv' := [(9, _), (7, _), (5, _), (3, _), (0, _), (1, _), (2, _)]) rfl rfl rfl rfl ?_
            refine r_ld (pc' := 121) rfl rfl rfl rfl ?_
            refine r_ld (pc' := 123) rfl rfl rfl rfl ?_
            refine r_lle (pc' := 127) rfl rfl rfl ⟨by omega, by omega⟩ ⟨by omega, by omega⟩ (fun hc131 => ?_) (fun hc131 => ?_)
            · skip
              refine r_ld (pc' := 134) rfl rfl rfl rfl ?_
              exact r_rl rfl (po_L hs100 ⟨by omega, by omega⟩ ⟨rfl, by omega, by omega⟩)
            · skip
              refine r_ld (pc' := 129) rfl rfl rfl rfl ?_
              refine r_go rfl ?_
              exact r_rl rfl (po_L hs100 ⟨by omega, by omega⟩ ⟨rfl, by omega, by omega⟩)
          · skip
            refine r_al (pc' := 54) rfl rfl rfl rfl ?_
            exact r_rl rfl (po_L hs100 ⟨by decide, by decide⟩ ⟨rfl, by omega, by omega⟩)
        · skip
          refine r_al (pc' := 33) rfl rfl rfl rfl ?_
          exact r_rl rfl (po_L hst ⟨by decide, by decide⟩ ⟨rfl, by omega, by omega⟩)
  refine w_m rfl rfl ?_
  refine r_ld (pc' := 1) rfl rfl rfl rfl ?_
  refine r_c0 (pc' := 2) rfl rfl ?_
  refine r_ieq (pc' := 5) rfl rfl ⟨by omega, by omega⟩ ⟨by decide, by decide⟩ (fun hc132 => ?_) (fun hc132 => ?_)
  · skip
    have hb133 := rd_225_58 hz
    have hb134 := rd_225_59 hz
    exact w_lv (sub_c rfl (sub_c rfl (sub_c rfl sub_n))) rfl ((key ((70 : Int).toNat + 1)) z0 w0 ⟨by omega, by omega⟩ hst (rfl) (rfl) (by omega))
  · skip
    refine r_ld (pc' := 6) rfl rfl rfl rfl ?_
    refine r_ld (pc' := 7) rfl rfl rfl rfl ?_
    have hb135 := rd_225_27 hz
    refine r_cVI (pc' := 10) rfl rfl rfl rfl rfl sh_225 (m_173 (d := d + 3) a1 hst.1 hst.2.1 ⟨by omega, by omega⟩) (fun v136 z137 w138 p139 h140 hs141 hE142 => ?_)
    obtain ⟨rfl, rfl, rfl, hE142⟩ := hE142
    refine r_zeq (pc' := 13) rfl rfl ⟨by omega, by omega⟩ (fun hc144 => ?_) (fun hc144 => ?_)
    · skip
      refine r_al (pc' := 33) rfl rfl rfl rfl ?_
      exact r_rl rfl (po_L hst ⟨by decide, by decide⟩ ⟨rfl, by omega, by omega⟩)
    · skip
      have hb145 := rd_225_58 hz
      have hb146 := rd_225_59 hz
      exact w_lv (sub_c rfl (sub_c rfl (sub_c rfl sub_n))) rfl ((key ((70 : Int).toNat + 1)) z0 w0 ⟨by omega, by omega⟩ hst (rfl) (rfl) (by omega))
/-- LoopGroundModel goWord -/
abbrev S_211  : mS := [(259, 259, 0, 17), (258, 258, 0, 323), (257, 257, 0, 17), (225, 225, 58, 58), (260, 260, 0, 17)]
abbrev E_211 (a1 : Int) (z0 w0 : mZ) (x y tx it mt tt ct : Option Nat) : mZ → mZ → mP → Prop := fun z w p => p = (pq x y tx it mt tt ct)
theorem m_211 {d : Nat} {z0 w0 : mZ} {x y tx it mt tt ct : Option Nat} (a1 : Int) (hz : rz z0) (hw : rw_ w0) (ha1 : 0 ≤ a1 ∧ a1 ≤ 5) : wc (d + 6) 211 [.ref 225, .int (Int32.ofInt a1)] (mk z0 w0 (pq x y tx it mt tt ct)) (poV S_211 z0 w0 (E_211 a1 z0 w0 x y tx it mt tt ct)) := by
  have hst : st_ S_211 z0 w0 z0 w0 := st_rf hz hw
  have key : ∀ N : Nat, (∀ (x2 : Int) (z w : mZ), 0 ≤ x2 ∧ x2 ≤ 8 → st_ S_211 z0 w0 z w → 32 * (8 - x2) + 29 < (N : Int) → wp_ (d + 5) 211 3 none (2, [(0, .ref 225), (1, .int (Int32.ofInt a1)), (2, .int (Int32.ofInt x2))], [], mk z w (pq x y tx it mt tt ct)) (poV S_211 z0 w0 (E_211 a1 z0 w0 x y tx it mt tt ct))) := by
    intro N
    induction N with
    | zero =>
      intro x2 z w
      intros; exfalso; omega
    | succ N ih =>
      have ih0 := ih; clear ih
      intro x2 z w  hx2 hst hM
      refine r_ld (pc' := 3) rfl rfl rfl rfl ?_
      refine r_ld (pc' := 4) rfl rfl rfl rfl ?_
      refine r_gr (b := 239) (pc' := 7) rfl rfl sh_225 rfl pp_225_22 ?_
      refine r_ld (pc' := 8) rfl rfl rfl rfl ?_
      have hb15 := rd_239 hz (i := a1.toNat) (by omega)
      refine r_ia (pc' := 9) rfl rfl sh_239 rfl (by omega) (by omega) (hst.2.2.1 _ _ (notS_c (by omega) (notS_c (by omega) (notS_c (by omega) (notS_c (by omega) (notS_c (by omega) notS_n)))))) ?_
      refine r_ige (pc' := 12) rfl rfl ⟨by omega, by omega⟩ ⟨by omega, by omega⟩ (fun hc16 => ?_) (fun hc16 => ?_)
      · skip
        exact r_ret rfl (po_V hst rfl)
      · skip
        refine r_ld (pc' := 13) rfl rfl rfl rfl ?_
        have hb17 := rd_225_58 hst.1
        refine r_gi (pc' := 16) rfl rfl sh_225 rfl rfl ?_
        refine r_zne (pc' := 19) rfl rfl ⟨by omega, by omega⟩ (fun hc18 => ?_) (fun hc18 => ?_)
        · skip
          exact r_ret rfl (po_V hst rfl)
        · skip
          refine r_ld (pc' := 20) rfl rfl rfl rfl ?_
          refine r_ld (pc' := 21) rfl rfl rfl rfl ?_
          refine r_gr (b := 237) (pc' := 24) rfl rfl sh_225 rfl pp_225_20 ?_
          refine r_cb (pc' := 26) rfl (by decide) rfl ?_
          refine r_ld (pc' := 27) rfl rfl rfl rfl ?_
          refine r_mul (pc' := 28) rfl rfl ?_
          refine r_ld (pc' := 29) rfl rfl rfl rfl ?_
          refine r_add (pc' := 30) rfl rfl ?_
          have hb19 := rd_237 hz (i := ((8 * a1) + x2).toNat) (by omega)
          refine r_ia (pc' := 31) rfl rfl sh_237 rfl (by omega) (by omega) (hst.2.2.1 _ _ (notS_c (by omega) (notS_c (by omega) (notS_c (by omega) (notS_c (by omega) (notS_c (by omega) notS_n)))))) ?_
          refine r_ld (pc' := 32) rfl rfl rfl rfl ?_
          refine r_gr (b := 238) (pc' := 35) rfl rfl sh_225 rfl pp_225_21 ?_
          refine r_cb (pc' := 37) rfl (by decide) rfl ?_
          refine r_ld (pc' := 38) rfl rfl rfl rfl ?_
          refine r_mul (pc' := 39) rfl rfl ?_
          refine r_ld (pc' := 40) rfl rfl rfl rfl ?_
          refine r_add (pc' := 41) rfl rfl ?_
          have hb20 := rd_238 hz (i := ((8 * a1) + x2).toNat) (by omega)
          refine r_ia (pc' := 42) rfl rfl sh_238 rfl (by omega) (by omega) (hst.2.2.1 _ _ (notS_c (by omega) (notS_c (by omega) (notS_c (by omega) (notS_c (by omega) (notS_c (by omega) notS_n)))))) ?_
          refine r_cVV (pc' := 45) rfl rfl rfl rfl rfl sh_225 (m_210 (d := d) (z0 237 ((8 * a1) + x2).toNat) (z0 238 ((8 * a1) + x2).toNat) hst.1 hst.2.1 ⟨by omega, by omega⟩ ⟨by omega, by omega⟩) (fun z22 w23 p24 hs26 hE27 => ?_)
          have hs28 := st_tr hst hs26 (sub_B rfl)
          obtain rfl := hE27
          refine r_inc (pc' := 48) (lv' := [(0, _), (1, _)]) rfl rfl rfl rfl rfl ?_
          refine r_go rfl ?_
          exact w_lv (sub_c rfl (sub_c rfl (sub_c rfl sub_n))) rfl (ih0 (x2 + 1) z22 w23 ⟨by omega, by omega⟩ hs28 (by omega))
  refine w_m rfl rfl ?_
  refine r_c0 (pc' := 1) rfl rfl ?_
  refine r_st (pc' := 2) (lv' := [(2, _), (0, _), (1, _)]) rfl rfl rfl rfl ?_
  exact w_lv (sub_c rfl (sub_c rfl (sub_c rfl sub_n))) rfl ((key ((32 * (8 - 0) + 29 : Int).toNat + 1)) 0 z0 w0 ⟨by omega, by omega⟩ hst (by omega))
/-- LoopGroundModel kept -/
abbrev S_220  : mS := [(257, 257, 0, 17), (225, 225, 58, 58), (225, 225, 59, 59), (259, 259, 0, 17), (258, 258, 0, 323), (260, 260, 0, 17)]
abbrev E_220 (a1 : Int) (z0 w0 : mZ) (x y tx it mt tt ct : Option Nat) : Int → mZ → mZ → mP → Prop := fun v z w p => p = (pq x y tx it mt tt ct) ∧ (-2147483648) ≤ v ∧ v ≤ 2147483647
theorem m_220 {d : Nat} {z0 w0 : mZ} {x y tx it mt tt ct : Option Nat} (a1 : Int) (hz : rz z0) (hw : rw_ w0) (ha1 : (-2147483648) ≤ a1 ∧ a1 ≤ 2147483647) : wc (d + 7) 220 [.ref 225, .int (Int32.ofInt a1)] (mk z0 w0 (pq x y tx it mt tt ct)) (poI S_220 z0 w0 (E_220 a1 z0 w0 x y tx it mt tt ct)) := by
  have hst : st_ S_220 z0 w0 z0 w0 := st_rf hz hw
  have key : ∀ N : Nat, (∀ (x2 x3 : Int) (z w : mZ), (-2147483648) ≤ x2 ∧ x2 ≤ 2147483647 → 0 ≤ x3 ∧ x3 ≤ 8 → 0 ≤ a1 ∧ a1 ≤ 5 → 1 ≤ z0 225 28 ∧ z0 225 28 ≤ 6 → st_ S_220 z0 w0 z w → 36 * (8 - x3) + 25 < (N : Int) → wp_ (d + 6) 220 4 (some .int) (14, [(0, .ref 225), (1, .int (Int32.ofInt a1)), (2, .int (Int32.ofInt x2)), (3, .int (Int32.ofInt x3))], [], mk z w (pq x y tx it mt tt ct)) (poI S_220 z0 w0 (E_220 a1 z0 w0 x y tx it mt tt ct))) := by
    intro N
    induction N with
    | zero =>
      intro x2 x3 z w
      intros; exfalso; omega
    | succ N ih =>
      have ih0 := ih; clear ih
      intro x2 x3 z w  hx2 hx3 hpa1 hz0_0 hst hM
      refine r_ld (pc' := 15) rfl rfl rfl rfl ?_
      refine r_ld (pc' := 16) rfl rfl rfl rfl ?_
      have hb44 := rd_225_27 hz
      refine r_gi (pc' := 19) rfl rfl sh_225 rfl (hst.2.2.1 _ _ (notS_c (by omega) (notS_c (by omega) (notS_c (by omega) (notS_c (by omega) (notS_c (by omega) (notS_c (by omega) notS_n))))))) ?_
      refine r_ige (pc' := 22) rfl rfl ⟨by omega, by omega⟩ ⟨by omega, by omega⟩ (fun hc45 => ?_) (fun hc45 => ?_)
      · skip
        refine r_ld (pc' := 57) rfl rfl rfl rfl ?_
        exact r_ri rfl (po_I hst ⟨by omega, by omega⟩ ⟨rfl, by omega, by omega⟩)
      · skip
        refine r_ld (pc' := 23) rfl rfl rfl rfl ?_
        refine r_ld (pc' := 24) rfl rfl rfl rfl ?_
        refine r_cVV (pc' := 27) rfl rfl rfl rfl rfl sh_225 (m_212 (d := d + 4) x3 hst.1 hst.2.1 ⟨by omega, by omega⟩) (fun z47 w48 p49 hs51 hE52 => ?_)
        have hs53 := st_tr hst hs51 (sub_B rfl)
        obtain rfl := hE52
        refine r_ld (pc' := 28) rfl rfl rfl rfl ?_
        refine r_ld (pc' := 29) rfl rfl rfl rfl ?_
        refine r_cVV (pc' := 32) rfl rfl rfl rfl rfl sh_225 (m_211 (d := d) a1 hs53.1 hs53.2.1 ⟨by omega, by omega⟩) (fun z55 w56 p57 hs59 hE60 => ?_)
        have hs61 := st_tr hs53 hs59 (sub_B rfl)
        obtain rfl := hE60
        refine r_ld (pc' := 33) rfl rfl rfl rfl ?_
        refine r_ld (pc' := 34) rfl rfl rfl rfl ?_
        refine r_ld (pc' := 35) rfl rfl rfl rfl ?_
        refine r_cVI (pc' := 38) rfl rfl rfl rfl rfl sh_225 (m_219 (d := d + 4) x3 hs61.1 hs61.2.1 ⟨by omega, by omega⟩) (fun v62 z63 w64 p65 h66 hs67 hE68 => ?_)
        obtain ⟨rfl, rfl, rfl, hE68⟩ := hE68
        refine r_zeq (pc' := 41) rfl rfl ⟨by omega, by omega⟩ (fun hc70 => ?_) (fun hc70 => ?_)
        · skip
          refine r_c0 (pc' := 48) rfl rfl ?_
          refine r_ai (pc' := 49) rfl rfl rfl rfl (fun v71 h72 => ?_)
          unfold inI at h72
          refine r_st (pc' := 50) (lv' := [(2, _), (0, _), (1, _), (3, _)]) rfl rfl rfl rfl ?_
          refine r_inc (pc' := 53) (lv' := [(2, _), (0, _), (1, _)]) rfl rfl rfl rfl rfl ?_
          refine r_go rfl ?_
          exact w_lv (sub_c rfl (sub_c rfl (sub_c rfl (sub_c rfl sub_n)))) rfl (ih0 v71 (x3 + 1) z55 w56 ⟨by omega, by omega⟩ ⟨by omega, by omega⟩ ⟨by omega, by omega⟩ ⟨by omega, by omega⟩ hs61 (by omega))
        · skip
          refine r_c0 (pc' := 42) rfl rfl ?_
          refine r_ld (pc' := 43) rfl rfl rfl rfl ?_
          refine r_ai (pc' := 44) rfl rfl rfl rfl (fun v73 h74 => ?_)
          unfold inI at h74
          refine r_go rfl ?_
          refine r_ai (pc' := 49) rfl rfl rfl rfl (fun v75 h76 => ?_)
          unfold inI at h76
          refine r_st (pc' := 50) (lv' := [(2, _), (0, _), (1, _), (3, _)]) rfl rfl rfl rfl ?_
          refine r_inc (pc' := 53) (lv' := [(2, _), (0, _), (1, _)]) rfl rfl rfl rfl rfl ?_
          refine r_go rfl ?_
          exact w_lv (sub_c rfl (sub_c rfl (sub_c rfl (sub_c rfl sub_n)))) rfl (ih0 v75 (x3 + 1) z55 w56 ⟨by omega, by omega⟩ ⟨by omega, by omega⟩ ⟨by omega, by omega⟩ ⟨by omega, by omega⟩ hs61 (by omega))
  refine w_m rfl rfl ?_
  refine r_ld (pc' := 1) rfl rfl rfl rfl ?_
  refine r_ld (pc' := 2) rfl rfl rfl rfl ?_
  have hb77 := rd_225_28 hz
  refine r_cVI (pc' := 5) rfl rfl rfl rfl rfl sh_225 (m_218 (d := d + 4) a1 hst.1 hst.2.1 ⟨by omega, by omega⟩) (fun v78 z79 w80 p81 h82 hs83 hE84 => ?_)
  obtain ⟨rfl, rfl, rfl, hE84⟩ := hE84
  refine r_zne (pc' := 8) rfl rfl ⟨by omega, by omega⟩ (fun hc86 => ?_) (fun hc86 => ?_)
  · skip
    refine r_c0 (pc' := 11) rfl rfl ?_
    refine r_st (pc' := 12) (lv' := [(2, _), (0, _), (1, _)]) rfl rfl rfl rfl ?_
    refine r_c0 (pc' := 13) rfl rfl ?_
    refine r_st (pc' := 14) (lv' := [(3, _), (2, _), (0, _), (1, _)]) rfl rfl rfl rfl ?_
    exact w_lv (sub_c rfl (sub_c rfl (sub_c rfl (sub_c rfl sub_n)))) rfl ((key ((36 * (8 - 0) + 25 : Int).toNat + 1)) 0 0 z0 w0 ⟨by omega, by omega⟩ ⟨by omega, by omega⟩ ⟨by omega, by omega⟩ ⟨by omega, by omega⟩ hst (by omega))
  · skip
    refine r_c0 (pc' := 9) rfl rfl ?_
    exact r_ri rfl (po_I hst ⟨by decide, by decide⟩ ⟨rfl, by omega, by omega⟩)
/-- LoopGroundModel alike -/
abbrev S_221  : mS := [(257, 257, 0, 17), (225, 225, 58, 58), (225, 225, 59, 59), (259, 259, 0, 17), (258, 258, 0, 323), (260, 260, 0, 17), (262, 262, 0, 17)]
abbrev E_221 (a1 : Int) (a2 : Int) (z0 w0 : mZ) (x y tx it mt tt ct : Option Nat) : Int → mZ → mZ → mP → Prop := fun v z w p => p = (pq x y tx it mt tt ct) ∧ (-1) ≤ v ∧ v ≤ 1
theorem m_221 {d : Nat} {z0 w0 : mZ} {x y tx it mt tt ct : Option Nat} (a1 : Int) (a2 : Int) (hz : rz z0) (hw : rw_ w0) (ha1 : (-2147483648) ≤ a1 ∧ a1 ≤ 2147483647) (ha2 : (-2147483648) ≤ a2 ∧ a2 ≤ 2147483647) : wc (d + 7) 221 [.ref 225, .int (Int32.ofInt a1), .int (Int32.ofInt a2)] (mk z0 w0 (pq x y tx it mt tt ct)) (poI S_221 z0 w0 (E_221 a1 a2 z0 w0 x y tx it mt tt ct)) := by
  have hst : st_ S_221 z0 w0 z0 w0 := st_rf hz hw
  have key : ∀ N : Nat, (∀ (x3 : Int) (z w : mZ), 0 ≤ x3 ∧ x3 ≤ 8 → 0 ≤ a1 ∧ a1 ≤ 5 → 0 ≤ a2 ∧ a2 ≤ 5 → 1 ≤ z0 225 28 ∧ z0 225 28 ≤ 6 → st_ S_221 z0 w0 z w → 3198 * (8 - x3) + 3187 < (N : Int) → wp_ (d + 6) 221 6 (some .int) (20, [(0, .ref 225), (1, .int (Int32.ofInt a1)), (2, .int (Int32.ofInt a2)), (3, .int (Int32.ofInt x3))], [], mk z w (pq x y tx it mt tt ct)) (poI S_221 z0 w0 (E_221 a1 a2 z0 w0 x y tx it mt tt ct))) ∧ (∀ (x3 x4 x5 : Int) (z w : mZ), 0 ≤ x3 ∧ x3 ≤ 7 → 0 ≤ x4 ∧ x4 ≤ 1 → 0 ≤ x5 ∧ x5 ≤ 18 → 0 ≤ a1 ∧ a1 ≤ 5 → 0 ≤ a2 ∧ a2 ≤ 5 → 1 ≤ z0 225 27 ∧ z0 225 27 ≤ 8 → 1 ≤ z0 225 28 ∧ z0 225 28 ≤ 6 → st_ S_221 z0 w0 z w → 3198 * (8 - x3) + 78 * (18 - x5) + 1612 < (N : Int) → wp_ (d + 6) 221 6 (some .int) (47, [(0, .ref 225), (1, .int (Int32.ofInt a1)), (2, .int (Int32.ofInt a2)), (3, .int (Int32.ofInt x3)), (4, .int (Int32.ofInt x4)), (5, .int (Int32.ofInt x5))], [], mk z w (pq x y tx it mt tt ct)) (poI S_221 z0 w0 (E_221 a1 a2 z0 w0 x y tx it mt tt ct))) ∧ (∀ (x3 x4 x5 : Int) (z w : mZ), 0 ≤ x3 ∧ x3 ≤ 7 → 0 ≤ x4 ∧ x4 ≤ 1 → 0 ≤ x5 ∧ x5 ≤ 18 → 0 ≤ a1 ∧ a1 ≤ 5 → 0 ≤ a2 ∧ a2 ≤ 5 → 1 ≤ z0 225 27 ∧ z0 225 27 ≤ 8 → 1 ≤ z0 225 28 ∧ z0 225 28 ≤ 6 → st_ S_221 z0 w0 z w → 3198 * (8 - x3) + 78 * (18 - x5) + 25 < (N : Int) → wp_ (d + 6) 221 6 (some .int) (98, [(0, .ref 225), (1, .int (Int32.ofInt a1)), (2, .int (Int32.ofInt a2)), (3, .int (Int32.ofInt x3)), (4, .int (Int32.ofInt x4)), (5, .int (Int32.ofInt x5))], [], mk z w (pq x y tx it mt tt ct)) (poI S_221 z0 w0 (E_221 a1 a2 z0 w0 x y tx it mt tt ct))) := by
    intro N
    induction N with
    | zero =>
      refine ⟨?_, ?_, ?_⟩
      · intro x3 z w
        intros; exfalso; omega
      · intro x3 x4 x5 z w
        intros; exfalso; omega
      · intro x3 x4 x5 z w
        intros; exfalso; omega
    | succ N ih =>
      obtain ⟨ih0, ih1, ih2⟩ := ih
      refine ⟨?_, ?_, ?_⟩
      · intro x3 z w  hx3 hpa1 hpa2 hz0_0 hst hM
        refine r_ld (pc' := 21) rfl rfl rfl rfl ?_
        refine r_ld (pc' := 22) rfl rfl rfl rfl ?_
        have hb77 := rd_225_27 hz
        refine r_gi (pc' := 25) rfl rfl sh_225 rfl (hst.2.2.1 _ _ (notS_c (by omega) (notS_c (by omega) (notS_c (by omega) (notS_c (by omega) (notS_c (by omega) (notS_c (by omega) (notS_c (by omega) notS_n)))))))) ?_
        refine r_ige (pc' := 28) rfl rfl ⟨by omega, by omega⟩ ⟨by omega, by omega⟩ (fun hc78 => ?_) (fun hc78 => ?_)
        · skip
          refine r_c0 (pc' := 145) rfl rfl ?_
          exact r_ri rfl (po_I hst ⟨by decide, by decide⟩ ⟨rfl, by omega, by omega⟩)
        · skip
          refine r_ld (pc' := 29) rfl rfl rfl rfl ?_
          refine r_ld (pc' := 30) rfl rfl rfl rfl ?_
          refine r_cVV (pc' := 33) rfl rfl rfl rfl rfl sh_225 (m_212 (d := d + 4) x3 hst.1 hst.2.1 ⟨by omega, by omega⟩) (fun z80 w81 p82 hs84 hE85 => ?_)
          have hs86 := st_tr hst hs84 (sub_B rfl)
          obtain rfl := hE85
          refine r_ld (pc' := 34) rfl rfl rfl rfl ?_
          refine r_ld (pc' := 35) rfl rfl rfl rfl ?_
          refine r_cVV (pc' := 38) rfl rfl rfl rfl rfl sh_225 (m_211 (d := d) a1 hs86.1 hs86.2.1 ⟨by omega, by omega⟩) (fun z88 w89 p90 hs92 hE93 => ?_)
          have hs94 := st_tr hs86 hs92 (sub_B rfl)
          obtain rfl := hE93
          refine r_ld (pc' := 39) rfl rfl rfl rfl ?_
          have hb95 := rd_225_58 hs94.1
          refine r_gi (pc' := 42) rfl rfl sh_225 rfl rfl ?_
          refine r_st (pc' := 44) (lv' := [(4, _), (0, _), (1, _), (2, _), (3, _)]) rfl rfl rfl rfl ?_
          refine r_c0 (pc' := 45) rfl rfl ?_
          refine r_st (pc' := 47) (lv' := [(5, _), (4, _), (0, _), (1, _), (2, _), (3, _)]) rfl rfl rfl rfl ?_
          exact w_lv (sub_c rfl (sub_c rfl (sub_c rfl (sub_c rfl (sub_c rfl (sub_c rfl sub_n)))))) rfl (ih1 x3 (z88 225 58) 0 z88 w89 ⟨by omega, by omega⟩ ⟨by omega, by omega⟩ ⟨by omega, by omega⟩ ⟨by omega, by omega⟩ ⟨by omega, by omega⟩ ⟨by omega, by omega⟩ ⟨by omega, by omega⟩ hs94 (by omega))
      · intro x3 x4 x5 z w  hx3 hx4 hx5 hpa1 hpa2 hz0_0 hz0_1 hst hM
        refine r_ld (pc' := 49) rfl rfl rfl rfl ?_
        refine r_cb (pc' := 51) rfl (by decide) rfl ?_
        refine r_ige (pc' := 54) rfl rfl ⟨by omega, by omega⟩ ⟨by decide, by decide⟩ (fun hc96 => ?_) (fun hc96 => ?_)
        · skip
          refine r_ld (pc' := 75) rfl rfl rfl rfl ?_
          refine r_ld (pc' := 76) rfl rfl rfl rfl ?_
          refine r_cVV (pc' := 79) rfl rfl rfl rfl rfl sh_225 (m_212 (d := d + 4) x3 hst.1 hst.2.1 ⟨by omega, by omega⟩) (fun z98 w99 p100 hs102 hE103 => ?_)
          have hs104 := st_tr hst hs102 (sub_B rfl)
          obtain rfl := hE103
          refine r_ld (pc' := 80) rfl rfl rfl rfl ?_
          refine r_ld (pc' := 81) rfl rfl rfl rfl ?_
          refine r_cVV (pc' := 84) rfl rfl rfl rfl rfl sh_225 (m_211 (d := d) a2 hs104.1 hs104.2.1 ⟨by omega, by omega⟩) (fun z106 w107 p108 hs110 hE111 => ?_)
          have hs112 := st_tr hs104 hs110 (sub_B rfl)
          obtain rfl := hE111
          refine r_ld (pc' := 86) rfl rfl rfl rfl ?_
          refine r_ld (pc' := 87) rfl rfl rfl rfl ?_
          have hb113 := rd_225_58 hs112.1
          refine r_gi (pc' := 90) rfl rfl sh_225 rfl rfl ?_
          refine r_ieq (pc' := 93) rfl rfl ⟨by omega, by omega⟩ ⟨by omega, by omega⟩ (fun hc114 => ?_) (fun hc114 => ?_)
          · skip
            refine r_c0 (pc' := 96) rfl rfl ?_
            refine r_st (pc' := 98) (lv' := [(5, _), (0, _), (1, _), (2, _), (3, _), (4, _)]) rfl rfl rfl rfl ?_
            exact w_lv (sub_c rfl (sub_c rfl (sub_c rfl (sub_c rfl (sub_c rfl (sub_c rfl sub_n)))))) rfl (ih2 x3 x4 0 z106 w107 ⟨by omega, by omega⟩ ⟨by omega, by omega⟩ ⟨by omega, by omega⟩ ⟨by omega, by omega⟩ ⟨by omega, by omega⟩ ⟨by omega, by omega⟩ ⟨by omega, by omega⟩ hs112 (by omega))
          · skip
            refine r_c0 (pc' := 94) rfl rfl ?_
            exact r_ri rfl (po_I hs112 ⟨by decide, by decide⟩ ⟨rfl, by omega, by omega⟩)
        · skip
          refine r_ld (pc' := 55) rfl rfl rfl rfl ?_
          refine r_gr (b := 262) (pc' := 58) rfl rfl sh_225 rfl pp_225_62 ?_
          refine r_ld (pc' := 60) rfl rfl rfl rfl ?_
          refine r_ld (pc' := 61) rfl rfl rfl rfl ?_
          refine r_gr (b := 257) (pc' := 64) rfl rfl sh_225 rfl pp_225_55 ?_
          refine r_ld (pc' := 66) rfl rfl rfl rfl ?_
          have hb115 := rd_257 hst.2.1 (i := x5.toNat) (by omega)
          refine r_la (pc' := 67) rfl rfl sh_257 rfl (by omega) (by omega) rfl ?_
          refine r_ls (pc' := 68) rfl rfl sh_262 rfl (by omega) (by omega) hst (inS_s (inS_s (inS_s (inS_s (inS_s (inS_s (inS_0 (by omega) (by omega) (by omega) (by omega)))))))) (wr_262 ⟨by omega, by omega⟩) (fun w116 hq117 hs118 => ?_)
          refine r_inc (pc' := 71) (lv' := [(0, _), (1, _), (2, _), (3, _), (4, _)]) rfl rfl rfl rfl rfl ?_
          refine r_go rfl ?_
          exact w_lv (sub_c rfl (sub_c rfl (sub_c rfl (sub_c rfl (sub_c rfl (sub_c rfl sub_n)))))) rfl (ih1 x3 x4 (x5 + 1) z w116 ⟨by omega, by omega⟩ ⟨by omega, by omega⟩ ⟨by omega, by omega⟩ ⟨by omega, by omega⟩ ⟨by omega, by omega⟩ ⟨by omega, by omega⟩ ⟨by omega, by omega⟩ hs118 (by omega))
      · intro x3 x4 x5 z w  hx3 hx4 hx5 hpa1 hpa2 hz0_0 hz0_1 hst hM
        refine r_ld (pc' := 100) rfl rfl rfl rfl ?_
        refine r_ld (pc' := 101) rfl rfl rfl rfl ?_
        have hb119 := rd_225_26 hz
        have hf120 : z 225 26 = z0 225 26 := (hst.2.2.1 _ _ (notS_c (by omega) (notS_c (by omega) (notS_c (by omega) (notS_c (by omega) (notS_c (by omega) (notS_c (by omega) (notS_c (by omega) notS_n))))))))
        refine r_cVI (pc' := 104) rfl rfl rfl rfl rfl sh_225 (m_161 (d := d + 5)  hst.1 hst.2.1 ) (fun v121 z122 w123 p124 h125 hs126 hE127 => ?_)
        obtain ⟨rfl, rfl, rfl, hE127⟩ := hE127
        refine r_ige (pc' := 107) rfl rfl ⟨by omega, by omega⟩ ⟨by omega, by omega⟩ (fun hc129 => ?_) (fun hc129 => ?_)
        · skip
          refine r_inc (pc' := 141) (lv' := [(0, _), (1, _), (2, _), (4, _), (5, _)]) rfl rfl rfl rfl rfl ?_
          refine r_go rfl ?_
          exact w_lv (sub_c rfl (sub_c rfl (sub_c rfl (sub_c rfl sub_n)))) rfl (ih0 (x3 + 1) z w ⟨by omega, by omega⟩ ⟨by omega, by omega⟩ ⟨by omega, by omega⟩ ⟨by omega, by omega⟩ hst (by omega))
        · skip
          refine r_ld (pc' := 109) rfl rfl rfl rfl ?_
          refine r_zne (pc' := 112) rfl rfl ⟨by omega, by omega⟩ (fun hc130 => ?_) (fun hc130 => ?_)
          · skip
            refine r_inc (pc' := 141) (lv' := [(0, _), (1, _), (2, _), (4, _), (5, _)]) rfl rfl rfl rfl rfl ?_
            refine r_go rfl ?_
            exact w_lv (sub_c rfl (sub_c rfl (sub_c rfl (sub_c rfl sub_n)))) rfl (ih0 (x3 + 1) z w ⟨by omega, by omega⟩ ⟨by omega, by omega⟩ ⟨by omega, by omega⟩ ⟨by omega, by omega⟩ hst (by omega))
          · skip
            refine r_ld (pc' := 113) rfl rfl rfl rfl ?_
            refine r_gr (b := 262) (pc' := 116) rfl rfl sh_225 rfl pp_225_62 ?_
            refine r_ld (pc' := 118) rfl rfl rfl rfl ?_
            have hb131 := rd_262 hst.2.1 (i := x5.toNat) (by omega)
            refine r_la (pc' := 119) rfl rfl sh_262 rfl (by omega) (by omega) rfl ?_
            refine r_ld (pc' := 120) rfl rfl rfl rfl ?_
            refine r_gr (b := 257) (pc' := 123) rfl rfl sh_225 rfl pp_225_55 ?_
            refine r_ld (pc' := 125) rfl rfl rfl rfl ?_
            have hb132 := rd_257 hst.2.1 (i := x5.toNat) (by omega)
            refine r_la (pc' := 126) rfl rfl sh_257 rfl (by omega) (by omega) rfl ?_
            refine r_leq (pc' := 130) rfl rfl rfl ⟨by omega, by omega⟩ ⟨by omega, by omega⟩ (fun hc133 => ?_) (fun hc133 => ?_)
            · skip
              refine r_inc (pc' := 135) (lv' := [(0, _), (1, _), (2, _), (3, _), (4, _)]) rfl rfl rfl rfl rfl ?_
              refine r_go rfl ?_
              exact w_lv (sub_c rfl (sub_c rfl (sub_c rfl (sub_c rfl (sub_c rfl (sub_c rfl sub_n)))))) rfl (ih2 x3 x4 (x5 + 1) z w ⟨by omega, by omega⟩ ⟨by omega, by omega⟩ ⟨by omega, by omega⟩ ⟨by omega, by omega⟩ ⟨by omega, by omega⟩ ⟨by omega, by omega⟩ ⟨by omega, by omega⟩ hst (by omega))
            · skip
              refine r_c0 (pc' := 131) rfl rfl ?_
              exact r_ri rfl (po_I hst ⟨by decide, by decide⟩ ⟨rfl, by omega, by omega⟩)
  refine w_m rfl rfl ?_
  refine r_ld (pc' := 1) rfl rfl rfl rfl ?_
  refine r_ld (pc' := 2) rfl rfl rfl rfl ?_
  have hb134 := rd_225_28 hz
  refine r_cVI (pc' := 5) rfl rfl rfl rfl rfl sh_225 (m_218 (d := d + 4) a1 hst.1 hst.2.1 ⟨by omega, by omega⟩) (fun v135 z136 w137 p138 h139 hs140 hE141 => ?_)
  obtain ⟨rfl, rfl, rfl, hE141⟩ := hE141
  refine r_zeq (pc' := 8) rfl rfl ⟨by omega, by omega⟩ (fun hc143 => ?_) (fun hc143 => ?_)
  · skip
    refine r_c0 (pc' := 17) rfl rfl ?_
    exact r_ri rfl (po_I hst ⟨by decide, by decide⟩ ⟨rfl, by omega, by omega⟩)
  · skip
    refine r_ld (pc' := 9) rfl rfl rfl rfl ?_
    refine r_ld (pc' := 10) rfl rfl rfl rfl ?_
    refine r_cVI (pc' := 13) rfl rfl rfl rfl rfl sh_225 (m_218 (d := d + 4) a2 hst.1 hst.2.1 ⟨by omega, by omega⟩) (fun v144 z145 w146 p147 h148 hs149 hE150 => ?_)
    obtain ⟨rfl, rfl, rfl, hE150⟩ := hE150
    refine r_zne (pc' := 16) rfl rfl ⟨by omega, by omega⟩ (fun hc152 => ?_) (fun hc152 => ?_)
    · skip
      refine r_c0 (pc' := 19) rfl rfl ?_
      refine r_st (pc' := 20) (lv' := [(3, _), (0, _), (1, _), (2, _)]) rfl rfl rfl rfl ?_
      exact w_lv (sub_c rfl (sub_c rfl (sub_c rfl (sub_c rfl sub_n)))) rfl ((key ((3198 * (8 - 0) + 3187 : Int).toNat + 1)).1 0 z0 w0 ⟨by omega, by omega⟩ ⟨by omega, by omega⟩ ⟨by omega, by omega⟩ ⟨by omega, by omega⟩ hst (by omega))
    · skip
      refine r_c0 (pc' := 17) rfl rfl ?_
      exact r_ri rfl (po_I hst ⟨by decide, by decide⟩ ⟨rfl, by omega, by omega⟩)
/-- LoopGroundModel goOn -/
abbrev S_222  : mS := [(225, 225, 58, 58), (225, 225, 59, 59), (257, 257, 0, 17), (259, 259, 0, 17), (258, 258, 0, 323), (260, 260, 0, 17), (264, 264, 0, 7), (263, 263, 0, 143)]
abbrev E_222 (a1 : Int) (a2 : Int) (z0 w0 : mZ) (x y tx it mt tt ct : Option Nat) : Int → mZ → mZ → mP → Prop := fun v z w p => p = (pq x y tx it mt tt ct) ∧ 0 ≤ v ∧ v ≤ 1
theorem m_222 {d : Nat} {z0 w0 : mZ} {x y tx it mt tt ct : Option Nat} (a1 : Int) (a2 : Int) (hz : rz z0) (hw : rw_ w0) (ha1 : 0 ≤ a1 ∧ a1 ≤ 7) (ha2 : 0 ≤ a2 ∧ a2 ≤ 5) : wc (d + 7) 222 [.ref 225, .int (Int32.ofInt a1), .int (Int32.ofInt a2)] (mk z0 w0 (pq x y tx it mt tt ct)) (poI S_222 z0 w0 (E_222 a1 a2 z0 w0 x y tx it mt tt ct)) := by
  have hst : st_ S_222 z0 w0 z0 w0 := st_rf hz hw
  have key : ∀ N : Nat, (∀ (x3 : Int) (z w : mZ), 0 ≤ x3 ∧ x3 ≤ 18 → st_ S_222 z0 w0 z w → 64 * (18 - x3) + 1328 < (N : Int) → wp_ (d + 6) 222 4 (some .boolean) (23, [(0, .ref 225), (1, .int (Int32.ofInt a1)), (2, .int (Int32.ofInt a2)), (3, .int (Int32.ofInt x3))], [], mk z w (pq x y tx it mt tt ct)) (poI S_222 z0 w0 (E_222 a1 a2 z0 w0 x y tx it mt tt ct))) ∧ (∀ (x3 : Int) (z w : mZ), 0 ≤ x3 ∧ x3 ≤ 18 → st_ S_222 z0 w0 z w → 64 * (18 - x3) + 20 < (N : Int) → wp_ (d + 6) 222 4 (some .boolean) (69, [(0, .ref 225), (1, .int (Int32.ofInt a1)), (3, .int (Int32.ofInt x3))], [], mk z w (pq x y tx it mt tt ct)) (poI S_222 z0 w0 (E_222 a1 a2 z0 w0 x y tx it mt tt ct))) := by
    intro N
    induction N with
    | zero =>
      refine ⟨?_, ?_⟩
      · intro x3 z w
        intros; exfalso; omega
      · intro x3 z w
        intros; exfalso; omega
    | succ N ih =>
      obtain ⟨ih0, ih1⟩ := ih
      refine ⟨?_, ?_⟩
      · intro x3 z w  hx3 hst hM
        refine r_ld (pc' := 24) rfl rfl rfl rfl ?_
        refine r_cb (pc' := 26) rfl (by decide) rfl ?_
        refine r_ige (pc' := 29) rfl rfl ⟨by omega, by omega⟩ ⟨by decide, by decide⟩ (fun hc39 => ?_) (fun hc39 => ?_)
        · skip
          refine r_ld (pc' := 53) rfl rfl rfl rfl ?_
          refine r_ld (pc' := 54) rfl rfl rfl rfl ?_
          refine r_cVV (pc' := 57) rfl rfl rfl rfl rfl sh_225 (m_211 (d := d) a2 hst.1 hst.2.1 ⟨by omega, by omega⟩) (fun z41 w42 p43 hs45 hE46 => ?_)
          have hs47 := st_tr hst hs45 (sub_B rfl)
          obtain rfl := hE46
          refine r_ld (pc' := 58) rfl rfl rfl rfl ?_
          refine r_gr (b := 264) (pc' := 61) rfl rfl sh_225 rfl pp_225_64 ?_
          refine r_ld (pc' := 62) rfl rfl rfl rfl ?_
          refine r_ld (pc' := 63) rfl rfl rfl rfl ?_
          have hb48 := rd_225_58 hs47.1
          refine r_gi (pc' := 66) rfl rfl sh_225 rfl rfl ?_
          refine r_zs (pc' := 67) rfl rfl sh_264 rfl (by omega) (by omega) (by omega) hs47 (inS_s (inS_s (inS_s (inS_s (inS_s (inS_s (inS_0 (by omega) (by omega) (by omega) (by omega)))))))) (wr_264 ⟨by omega, by omega⟩) (fun z49 hq50 hs51 => ?_)
          refine r_c0 (pc' := 68) rfl rfl ?_
          refine r_st (pc' := 69) (lv' := [(3, _), (0, _), (1, _), (2, _)]) rfl rfl rfl rfl ?_
          exact w_lv (sub_c rfl (sub_c rfl (sub_c rfl sub_n))) rfl (ih1 0 z49 w42 ⟨by omega, by omega⟩ hs51 (by omega))
        · skip
          refine r_ld (pc' := 30) rfl rfl rfl rfl ?_
          refine r_gr (b := 257) (pc' := 33) rfl rfl sh_225 rfl pp_225_55 ?_
          refine r_ld (pc' := 34) rfl rfl rfl rfl ?_
          refine r_ld (pc' := 35) rfl rfl rfl rfl ?_
          refine r_gr (b := 263) (pc' := 38) rfl rfl sh_225 rfl pp_225_63 ?_
          refine r_cb (pc' := 40) rfl (by decide) rfl ?_
          refine r_ld (pc' := 41) rfl rfl rfl rfl ?_
          refine r_mul (pc' := 42) rfl rfl ?_
          refine r_ld (pc' := 43) rfl rfl rfl rfl ?_
          refine r_add (pc' := 44) rfl rfl ?_
          have hb52 := rd_263 hst.2.1 (i := ((18 * a1) + x3).toNat) (by omega)
          refine r_la (pc' := 45) rfl rfl sh_263 rfl (by omega) (by omega) rfl ?_
          refine r_ls (pc' := 46) rfl rfl sh_257 rfl (by omega) (by omega) hst (inS_s (inS_s (inS_0 (by omega) (by omega) (by omega) (by omega)))) (wr_257 ⟨by omega, by omega⟩) (fun w53 hq54 hs55 => ?_)
          refine r_inc (pc' := 49) (lv' := [(0, _), (1, _), (2, _)]) rfl rfl rfl rfl rfl ?_
          refine r_go rfl ?_
          exact w_lv (sub_c rfl (sub_c rfl (sub_c rfl (sub_c rfl sub_n)))) rfl (ih0 (x3 + 1) z w53 ⟨by omega, by omega⟩ hs55 (by omega))
      · intro x3 z w  hx3 hst hM
        refine r_ld (pc' := 70) rfl rfl rfl rfl ?_
        refine r_cb (pc' := 72) rfl (by decide) rfl ?_
        refine r_ige (pc' := 75) rfl rfl ⟨by omega, by omega⟩ ⟨by decide, by decide⟩ (fun hc56 => ?_) (fun hc56 => ?_)
        · skip
          refine r_ld (pc' := 99) rfl rfl rfl rfl ?_
          refine r_ld (pc' := 100) rfl rfl rfl rfl ?_
          refine r_cVI (pc' := 103) rfl rfl rfl rfl rfl sh_225 (m_219 (d := d + 4) a1 hst.1 hst.2.1 ⟨by omega, by omega⟩) (fun v57 z58 w59 p60 h61 hs62 hE63 => ?_)
          obtain ⟨rfl, rfl, rfl, hE63⟩ := hE63
          exact r_rz rfl (by omega) (po_I hst ⟨by omega, by omega⟩ ⟨rfl, by omega, by omega⟩)
        · skip
          refine r_ld (pc' := 76) rfl rfl rfl rfl ?_
          refine r_gr (b := 263) (pc' := 79) rfl rfl sh_225 rfl pp_225_63 ?_
          refine r_cb (pc' := 81) rfl (by decide) rfl ?_
          refine r_ld (pc' := 82) rfl rfl rfl rfl ?_
          refine r_mul (pc' := 83) rfl rfl ?_
          refine r_ld (pc' := 84) rfl rfl rfl rfl ?_
          refine r_add (pc' := 85) rfl rfl ?_
          refine r_ld (pc' := 86) rfl rfl rfl rfl ?_
          refine r_gr (b := 257) (pc' := 89) rfl rfl sh_225 rfl pp_225_55 ?_
          refine r_ld (pc' := 90) rfl rfl rfl rfl ?_
          have hb65 := rd_257 hst.2.1 (i := x3.toNat) (by omega)
          refine r_la (pc' := 91) rfl rfl sh_257 rfl (by omega) (by omega) rfl ?_
          refine r_ls (pc' := 92) rfl rfl sh_263 rfl (by omega) (by omega) hst (inS_s (inS_s (inS_s (inS_s (inS_s (inS_s (inS_s (inS_0 (by omega) (by omega) (by omega) (by omega))))))))) (wr_263 ⟨by omega, by omega⟩) (fun w66 hq67 hs68 => ?_)
          refine r_inc (pc' := 95) (lv' := [(0, _), (1, _)]) rfl rfl rfl rfl rfl ?_
          refine r_go rfl ?_
          exact w_lv (sub_c rfl (sub_c rfl (sub_c rfl sub_n))) rfl (ih1 (x3 + 1) z w66 ⟨by omega, by omega⟩ hs68 (by omega))
  refine w_m rfl rfl ?_
  refine r_ld (pc' := 1) rfl rfl rfl rfl ?_
  refine r_gr (b := 264) (pc' := 4) rfl rfl sh_225 rfl pp_225_64 ?_
  refine r_ld (pc' := 5) rfl rfl rfl rfl ?_
  have hb69 := rd_264 hz (i := a1.toNat) (by omega)
  refine r_ba (pc' := 6) rfl rfl sh_264 (Or.inr rfl) rfl (by omega) (by omega) rfl ?_
  refine r_zeq (pc' := 9) rfl rfl ⟨by omega, by omega⟩ (fun hc70 => ?_) (fun hc70 => ?_)
  · skip
    refine r_ld (pc' := 12) rfl rfl rfl rfl ?_
    refine r_c0 (pc' := 13) rfl rfl ?_
    refine r_pi (pc' := 16) rfl rfl sh_225 rfl (fit_b (by omega)) hst (inS_0 (by omega) (by omega) (by omega) (by omega)) (wr_225_58 ⟨by omega, by omega⟩) (fun z71 hq72 hs73 => ?_)
    refine r_ld (pc' := 17) rfl rfl rfl rfl ?_
    refine r_c0 (pc' := 18) rfl rfl ?_
    refine r_pi (pc' := 21) rfl rfl sh_225 rfl (fit_b (by omega)) hs73 (inS_s (inS_0 (by omega) (by omega) (by omega) (by omega))) (wr_225_59 ⟨by omega, by omega⟩) (fun z74 hq75 hs76 => ?_)
    refine r_c0 (pc' := 22) rfl rfl ?_
    refine r_st (pc' := 23) (lv' := [(3, _), (0, _), (1, _), (2, _)]) rfl rfl rfl rfl ?_
    exact w_lv (sub_c rfl (sub_c rfl (sub_c rfl (sub_c rfl sub_n)))) rfl ((key ((64 * (18 - 0) + 1328 : Int).toNat + 1)).1 0 z74 w0 ⟨by omega, by omega⟩ hs76 (by omega))
  · skip
    refine r_c0 (pc' := 10) rfl rfl ?_
    exact r_rz rfl (by omega) (po_I hst ⟨by decide, by decide⟩ ⟨rfl, by omega, by omega⟩)
/-- LoopGroundModel layTable -/
abbrev S_225  : mS := [(257, 257, 0, 17), (225, 225, 58, 58), (225, 225, 59, 59), (258, 258, 0, 323), (259, 259, 0, 17), (260, 260, 0, 17)]
abbrev E_225 (a1 : Int) (a2 : Int) (z0 w0 : mZ) (x y tx it mt tt ct : Option Nat) : Int → mZ → mZ → mP → Prop := fun v z w p => p = (pq x y tx it mt tt ct) ∧ 0 ≤ v ∧ v ≤ 1
theorem m_225 {d : Nat} {z0 w0 : mZ} {x y tx it mt tt ct : Option Nat} (a1 : Int) (a2 : Int) (hz : rz z0) (hw : rw_ w0) (ha1 : 0 ≤ a1 ∧ a1 ≤ 5) (ha2 : 0 ≤ a2 ∧ a2 ≤ 7) : wc (d + 7) 225 [.ref 225, .int (Int32.ofInt a1), .int (Int32.ofInt a2)] (mk z0 w0 (pq x y tx it mt tt ct)) (poI S_225 z0 w0 (E_225 a1 a2 z0 w0 x y tx it mt tt ct)) := by
  have hst : st_ S_225 z0 w0 z0 w0 := st_rf hz hw
  have key : ∀ N : Nat, (∀ (x3 : Int) (z w : mZ), 0 ≤ x3 ∧ x3 ≤ 324 → st_ S_225 z0 w0 z w → 37 * (324 - x3) + 28 < (N : Int) → wp_ (d + 6) 225 4 (some .boolean) (12, [(0, .ref 225), (1, .int (Int32.ofInt a1)), (3, .int (Int32.ofInt x3))], [], mk z w (pq x y tx it mt tt ct)) (poI S_225 z0 w0 (E_225 a1 a2 z0 w0 x y tx it mt tt ct))) := by
    intro N
    induction N with
    | zero =>
      intro x3 z w
      intros; exfalso; omega
    | succ N ih =>
      have ih0 := ih; clear ih
      intro x3 z w  hx3 hst hM
      refine r_ld (pc' := 13) rfl rfl rfl rfl ?_
      refine r_cs (pc' := 16) rfl (by decide) rfl ?_
      refine r_ige (pc' := 19) rfl rfl ⟨by omega, by omega⟩ ⟨by decide, by decide⟩ (fun hc30 => ?_) (fun hc30 => ?_)
      · skip
        refine r_ld (pc' := 48) rfl rfl rfl rfl ?_
        refine r_ld (pc' := 49) rfl rfl rfl rfl ?_
        refine r_cVV (pc' := 52) rfl rfl rfl rfl rfl sh_225 (m_211 (d := d) a1 hst.1 hst.2.1 ⟨by omega, by omega⟩) (fun z32 w33 p34 hs36 hE37 => ?_)
        have hs38 := st_tr hst hs36 (sub_B rfl)
        obtain rfl := hE37
        refine r_ld (pc' := 53) rfl rfl rfl rfl ?_
        have hb39 := rd_225_58 hs38.1
        refine r_gi (pc' := 56) rfl rfl sh_225 rfl rfl ?_
        refine r_zne (pc' := 59) rfl rfl ⟨by omega, by omega⟩ (fun hc40 => ?_) (fun hc40 => ?_)
        · skip
          refine r_c0 (pc' := 64) rfl rfl ?_
          exact r_rz rfl (by omega) (po_I hs38 ⟨by decide, by decide⟩ ⟨rfl, by omega, by omega⟩)
        · skip
          refine r_c0 (pc' := 60) rfl rfl ?_
          refine r_go rfl ?_
          exact r_rz rfl (by omega) (po_I hs38 ⟨by decide, by decide⟩ ⟨rfl, by omega, by omega⟩)
      · skip
        refine r_ld (pc' := 20) rfl rfl rfl rfl ?_
        refine r_gr (b := 258) (pc' := 23) rfl rfl sh_225 rfl pp_225_56 ?_
        refine r_ld (pc' := 24) rfl rfl rfl rfl ?_
        refine r_ld (pc' := 25) rfl rfl rfl rfl ?_
        refine r_cb (pc' := 27) rfl (by decide) rfl ?_
        refine r_dv (pc' := 28) (v := x3 / 18) rfl rfl ⟨by omega, by omega⟩ ⟨by decide, by decide⟩ (by decide) (tdiv_n (by omega)) ?_
        refine r_ld (pc' := 29) rfl rfl rfl rfl ?_
        refine r_cb (pc' := 31) rfl (by decide) rfl ?_
        refine r_rm (pc' := 32) (v := x3 % 18) rfl rfl ⟨by omega, by omega⟩ ⟨by decide, by decide⟩ (by decide) (tmod_n (by omega)) ?_
        refine r_ine (pc' := 35) rfl rfl ⟨by omega, by omega⟩ ⟨by omega, by omega⟩ (fun hc41 => ?_) (fun hc41 => ?_)
        · skip
          refine r_lc0 (pc' := 40) rfl rfl ?_
          refine r_ls (pc' := 41) rfl rfl sh_258 rfl (by omega) (by omega) hst (inS_s (inS_s (inS_s (inS_0 (by omega) (by omega) (by omega) (by omega))))) (wr_258 ⟨by omega, by omega⟩) (fun w42 hq43 hs44 => ?_)
          refine r_inc (pc' := 44) (lv' := [(0, _), (1, _)]) rfl rfl rfl rfl rfl ?_
          refine r_go rfl ?_
          exact w_lv (sub_c rfl (sub_c rfl (sub_c rfl sub_n))) rfl (ih0 (x3 + 1) z w42 ⟨by omega, by omega⟩ hs44 (by omega))
        · skip
          refine r_lc1 (pc' := 36) rfl rfl ?_
          refine r_go rfl ?_
          refine r_ls (pc' := 41) rfl rfl sh_258 rfl (by omega) (by omega) hst (inS_s (inS_s (inS_s (inS_0 (by omega) (by omega) (by omega) (by omega))))) (wr_258 ⟨by omega, by omega⟩) (fun w45 hq46 hs47 => ?_)
          refine r_inc (pc' := 44) (lv' := [(0, _), (1, _)]) rfl rfl rfl rfl rfl ?_
          refine r_go rfl ?_
          exact w_lv (sub_c rfl (sub_c rfl (sub_c rfl sub_n))) rfl (ih0 (x3 + 1) z w45 ⟨by omega, by omega⟩ hs47 (by omega))
  refine w_m rfl rfl ?_
  refine r_ld (pc' := 1) rfl rfl rfl rfl ?_
  refine r_ld (pc' := 2) rfl rfl rfl rfl ?_
  refine r_cVV (pc' := 5) rfl rfl rfl rfl rfl sh_225 (m_212 (d := d + 4) a2 hst.1 hst.2.1 ⟨by omega, by omega⟩) (fun z49 w50 p51 hs53 hE54 => ?_)
  have hs55 := st_tr hst hs53 (sub_B rfl)
  obtain rfl := hE54
  refine r_ld (pc' := 6) rfl rfl rfl rfl ?_
  refine r_c0 (pc' := 7) rfl rfl ?_
  refine r_pi (pc' := 10) rfl rfl sh_225 rfl (fit_b (by omega)) hs55 (inS_s (inS_s (inS_0 (by omega) (by omega) (by omega) (by omega)))) (wr_225_59 ⟨by omega, by omega⟩) (fun z56 hq57 hs58 => ?_)
  refine r_c0 (pc' := 11) rfl rfl ?_
  refine r_st (pc' := 12) (lv' := [(3, _), (0, _), (1, _), (2, _)]) rfl rfl rfl rfl ?_
  exact w_lv (sub_c rfl (sub_c rfl (sub_c rfl sub_n))) rfl ((key ((37 * (324 - 0) + 28 : Int).toNat + 1)) 0 z56 w50 ⟨by omega, by omega⟩ hs58 (by omega))
/-- LoopGroundModel isLeft -/
abbrev S_233  : mS := [(257, 257, 0, 17), (225, 225, 58, 58), (225, 225, 59, 59), (259, 259, 0, 17), (258, 258, 0, 323), (260, 260, 0, 17)]
abbrev E_233 (a1 : Int) (z0 w0 : mZ) (x y tx it mt tt ct : Option Nat) : Int → mZ → mZ → mP → Prop := fun v z w p => p = (pq x y tx it mt tt ct) ∧ 0 ≤ v ∧ v ≤ 1
theorem m_233 {d : Nat} {z0 w0 : mZ} {x y tx it mt tt ct : Option Nat} (a1 : Int) (hz : rz z0) (hw : rw_ w0) (ha1 : 0 ≤ a1 ∧ a1 ≤ 5) : wc (d + 7) 233 [.ref 225, .int (Int32.ofInt a1)] (mk z0 w0 (pq x y tx it mt tt ct)) (poI S_233 z0 w0 (E_233 a1 z0 w0 x y tx it mt tt ct)) := by
  have hst : st_ S_233 z0 w0 z0 w0 := st_rf hz hw
  have key : ∀ N : Nat, (∀ (x2 : Int) (z w : mZ), 0 ≤ x2 ∧ x2 ≤ 18 → st_ S_233 z0 w0 z w → z 225 58 = z0 225 58 → z 225 59 = z0 225 59 → 65 * (18 - x2) + 1362 < (N : Int) → wp_ (d + 6) 233 4 (some .boolean) (2, [(0, .ref 225), (1, .int (Int32.ofInt a1)), (2, .int (Int32.ofInt x2))], [], mk z w (pq x y tx it mt tt ct)) (poI S_233 z0 w0 (E_233 a1 z0 w0 x y tx it mt tt ct))) ∧ (∀ (x2 x3 : Int) (z w : mZ), 0 ≤ x2 ∧ x2 ≤ 1 → 0 ≤ x3 ∧ x3 ≤ 18 → st_ S_233 z0 w0 z w → 65 * (18 - x3) + 24 < (N : Int) → wp_ (d + 6) 233 4 (some .boolean) (69, [(0, .ref 225), (2, .int (Int32.ofInt x2)), (3, .int (Int32.ofInt x3))], [], mk z w (pq x y tx it mt tt ct)) (poI S_233 z0 w0 (E_233 a1 z0 w0 x y tx it mt tt ct))) ∧ (∀ (x3 : Int) (z w : mZ), 0 ≤ x3 ∧ x3 ≤ 17 → st_ S_233 z0 w0 z w → 65 * (18 - x3) + 5 < (N : Int) → wp_ (d + 6) 233 4 (some .boolean) (102, [(0, .ref 225), (3, .int (Int32.ofInt x3))], [], mk z w (pq x y tx it mt tt ct)) (poI S_233 z0 w0 (E_233 a1 z0 w0 x y tx it mt tt ct))) := by
    intro N
    induction N with
    | zero =>
      refine ⟨?_, ?_, ?_⟩
      · intro x2 z w
        intros; exfalso; omega
      · intro x2 x3 z w
        intros; exfalso; omega
      · intro x3 z w
        intros; exfalso; omega
    | succ N ih =>
      obtain ⟨ih0, ih1, ih2⟩ := ih
      refine ⟨?_, ?_, ?_⟩
      · intro x2 z w  hx2 hst un_z_225_58 un_z_225_59 hM
        refine r_ld (pc' := 3) rfl rfl rfl rfl ?_
        refine r_cb (pc' := 5) rfl (by decide) rfl ?_
        refine r_ige (pc' := 8) rfl rfl ⟨by omega, by omega⟩ ⟨by decide, by decide⟩ (fun hc51 => ?_) (fun hc51 => ?_)
        · skip
          refine r_ld (pc' := 40) rfl rfl rfl rfl ?_
          refine r_c0 (pc' := 41) rfl rfl ?_
          refine r_pi (pc' := 44) rfl rfl sh_225 rfl (fit_b (by omega)) hst (inS_s (inS_0 (by omega) (by omega) (by omega) (by omega))) (wr_225_58 ⟨by omega, by omega⟩) (fun z52 hq53 hs54 => ?_)
          refine r_ld (pc' := 45) rfl rfl rfl rfl ?_
          refine r_c0 (pc' := 46) rfl rfl ?_
          refine r_pi (pc' := 49) rfl rfl sh_225 rfl (fit_b (by omega)) hs54 (inS_s (inS_s (inS_0 (by omega) (by omega) (by omega) (by omega)))) (wr_225_59 ⟨by omega, by omega⟩) (fun z55 hq56 hs57 => ?_)
          refine r_ld (pc' := 50) rfl rfl rfl rfl ?_
          refine r_ld (pc' := 51) rfl rfl rfl rfl ?_
          refine r_cVV (pc' := 54) rfl rfl rfl rfl rfl sh_225 (m_211 (d := d) a1 hs57.1 hs57.2.1 ⟨by omega, by omega⟩) (fun z59 w60 p61 hs63 hE64 => ?_)
          have hs65 := st_tr hs57 hs63 (sub_B rfl)
          obtain rfl := hE64
          refine r_ld (pc' := 55) rfl rfl rfl rfl ?_
          have hb66 := rd_225_58 hs65.1
          refine r_gi (pc' := 58) rfl rfl sh_225 rfl rfl ?_
          refine r_zne (pc' := 61) rfl rfl ⟨by omega, by omega⟩ (fun hc67 => ?_) (fun hc67 => ?_)
          · skip
            refine r_c0 (pc' := 66) rfl rfl ?_
            refine r_st (pc' := 67) (lv' := [(2, _), (0, _), (1, _)]) rfl rfl rfl rfl ?_
            refine r_c0 (pc' := 68) rfl rfl ?_
            refine r_st (pc' := 69) (lv' := [(3, _), (2, _), (0, _), (1, _)]) rfl rfl rfl rfl ?_
            exact w_lv (sub_c rfl (sub_c rfl (sub_c rfl sub_n))) rfl (ih1 0 0 z59 w60 ⟨by omega, by omega⟩ ⟨by omega, by omega⟩ hs65 (by omega))
          · skip
            refine r_c0 (pc' := 62) rfl rfl ?_
            refine r_go rfl ?_
            refine r_st (pc' := 67) (lv' := [(2, _), (0, _), (1, _)]) rfl rfl rfl rfl ?_
            refine r_c0 (pc' := 68) rfl rfl ?_
            refine r_st (pc' := 69) (lv' := [(3, _), (2, _), (0, _), (1, _)]) rfl rfl rfl rfl ?_
            exact w_lv (sub_c rfl (sub_c rfl (sub_c rfl sub_n))) rfl (ih1 1 0 z59 w60 ⟨by omega, by omega⟩ ⟨by omega, by omega⟩ hs65 (by omega))
        · skip
          refine r_ld (pc' := 9) rfl rfl rfl rfl ?_
          refine r_gr (b := 257) (pc' := 12) rfl rfl sh_225 rfl pp_225_55 ?_
          refine r_ld (pc' := 13) rfl rfl rfl rfl ?_
          refine r_ld (pc' := 14) rfl rfl rfl rfl ?_
          refine r_ld (pc' := 15) rfl rfl rfl rfl ?_
          have hb68 := rd_225_26 hz
          have hf69 : z 225 26 = z0 225 26 := (hst.2.2.1 _ _ (notS_c (by omega) (notS_c (by omega) (notS_c (by omega) (notS_c (by omega) (notS_c (by omega) (notS_c (by omega) notS_n)))))))
          refine r_cVI (pc' := 18) rfl rfl rfl rfl rfl sh_225 (m_161 (d := d + 5)  hst.1 hst.2.1 ) (fun v70 z71 w72 p73 h74 hs75 hE76 => ?_)
          obtain ⟨rfl, rfl, rfl, hE76⟩ := hE76
          refine r_ige (pc' := 21) rfl rfl ⟨by omega, by omega⟩ ⟨by omega, by omega⟩ (fun hc78 => ?_) (fun hc78 => ?_)
          · skip
            refine r_lc0 (pc' := 32) rfl rfl ?_
            refine r_ls (pc' := 33) rfl rfl sh_257 rfl (by omega) (by omega) hst (inS_0 (by omega) (by omega) (by omega) (by omega)) (wr_257 ⟨by omega, by omega⟩) (fun w79 hq80 hs81 => ?_)
            refine r_inc (pc' := 36) (lv' := [(0, _), (1, _)]) rfl rfl rfl rfl rfl ?_
            refine r_go rfl ?_
            have hb82 := rd_225_58 hz
            have hb83 := rd_225_59 hz
            exact w_lv (sub_c rfl (sub_c rfl (sub_c rfl sub_n))) rfl (ih0 (x2 + 1) z w79 ⟨by omega, by omega⟩ hs81 (un_z_225_58) (un_z_225_59) (by omega))
          · skip
            refine r_ld (pc' := 22) rfl rfl rfl rfl ?_
            refine r_gr (b := 269) (pc' := 25) rfl rfl sh_225 rfl pp_225_69 ?_
            refine r_ld (pc' := 26) rfl rfl rfl rfl ?_
            have hb84 := rd_269 hz (i := x2.toNat) (by omega)
            refine r_ia (pc' := 27) rfl rfl sh_269 rfl (by omega) (by omega) (hst.2.2.1 _ _ (notS_c (by omega) (notS_c (by omega) (notS_c (by omega) (notS_c (by omega) (notS_c (by omega) (notS_c (by omega) notS_n))))))) ?_
            refine r_i2l (pc' := 28) rfl rfl ⟨by omega, by omega⟩ ?_
            refine r_go rfl ?_
            refine r_ls (pc' := 33) rfl rfl sh_257 rfl (by omega) (by omega) hst (inS_0 (by omega) (by omega) (by omega) (by omega)) (wr_257 ⟨by omega, by omega⟩) (fun w85 hq86 hs87 => ?_)
            refine r_inc (pc' := 36) (lv' := [(0, _), (1, _)]) rfl rfl rfl rfl rfl ?_
            refine r_go rfl ?_
            have hb88 := rd_225_58 hz
            have hb89 := rd_225_59 hz
            exact w_lv (sub_c rfl (sub_c rfl (sub_c rfl sub_n))) rfl (ih0 (x2 + 1) z w85 ⟨by omega, by omega⟩ hs87 (un_z_225_58) (un_z_225_59) (by omega))
      · intro x2 x3 z w  hx2 hx3 hst hM
        refine r_ld (pc' := 70) rfl rfl rfl rfl ?_
        refine r_ld (pc' := 71) rfl rfl rfl rfl ?_
        have hb90 := rd_225_26 hz
        have hf91 : z 225 26 = z0 225 26 := (hst.2.2.1 _ _ (notS_c (by omega) (notS_c (by omega) (notS_c (by omega) (notS_c (by omega) (notS_c (by omega) (notS_c (by omega) notS_n)))))))
        refine r_cVI (pc' := 74) rfl rfl rfl rfl rfl sh_225 (m_161 (d := d + 5)  hst.1 hst.2.1 ) (fun v92 z93 w94 p95 h96 hs97 hE98 => ?_)
        obtain ⟨rfl, rfl, rfl, hE98⟩ := hE98
        refine r_ige (pc' := 77) rfl rfl ⟨by omega, by omega⟩ ⟨by omega, by omega⟩ (fun hc100 => ?_) (fun hc100 => ?_)
        · skip
          refine r_ld (pc' := 111) rfl rfl rfl rfl ?_
          exact r_rz rfl (by omega) (po_I hst ⟨by omega, by omega⟩ ⟨rfl, by omega, by omega⟩)
        · skip
          refine r_ld (pc' := 78) rfl rfl rfl rfl ?_
          refine r_zeq (pc' := 81) rfl rfl ⟨by omega, by omega⟩ (fun hc101 => ?_) (fun hc101 => ?_)
          · skip
            exact w_lv (sub_c rfl (sub_c rfl sub_n)) rfl (ih2 x3 z w ⟨by omega, by omega⟩ hst (by omega))
          · skip
            refine r_ld (pc' := 82) rfl rfl rfl rfl ?_
            refine r_gr (b := 257) (pc' := 85) rfl rfl sh_225 rfl pp_225_55 ?_
            refine r_ld (pc' := 86) rfl rfl rfl rfl ?_
            have hb102 := rd_257 hst.2.1 (i := x3.toNat) (by omega)
            refine r_la (pc' := 87) rfl rfl sh_257 rfl (by omega) (by omega) rfl ?_
            refine r_ld (pc' := 88) rfl rfl rfl rfl ?_
            refine r_gr (b := 269) (pc' := 91) rfl rfl sh_225 rfl pp_225_69 ?_
            refine r_ld (pc' := 92) rfl rfl rfl rfl ?_
            have hb103 := rd_269 hz (i := x3.toNat) (by omega)
            refine r_ia (pc' := 93) rfl rfl sh_269 rfl (by omega) (by omega) (hst.2.2.1 _ _ (notS_c (by omega) (notS_c (by omega) (notS_c (by omega) (notS_c (by omega) (notS_c (by omega) (notS_c (by omega) notS_n))))))) ?_
            refine r_i2l (pc' := 94) rfl rfl ⟨by omega, by omega⟩ ?_
            refine r_lne (pc' := 98) rfl rfl rfl ⟨by omega, by omega⟩ ⟨by omega, by omega⟩ (fun hc104 => ?_) (fun hc104 => ?_)
            · skip
              exact w_lv (sub_c rfl (sub_c rfl sub_n)) rfl (ih2 x3 z w ⟨by omega, by omega⟩ hst (by omega))
            · skip
              refine r_c0 (pc' := 99) rfl rfl ?_
              refine r_go rfl ?_
              refine r_st (pc' := 104) (lv' := [(2, _), (0, _), (3, _)]) rfl rfl rfl rfl ?_
              refine r_inc (pc' := 107) (lv' := [(2, _), (0, _)]) rfl rfl rfl rfl rfl ?_
              refine r_go rfl ?_
              exact w_lv (sub_c rfl (sub_c rfl (sub_c rfl sub_n))) rfl (ih1 1 (x3 + 1) z w ⟨by omega, by omega⟩ ⟨by omega, by omega⟩ hst (by omega))
      · intro x3 z w  hx3 hst hM
        refine r_c0 (pc' := 103) rfl rfl ?_
        refine r_st (pc' := 104) (lv' := [(2, _), (0, _), (3, _)]) rfl rfl rfl rfl ?_
        refine r_inc (pc' := 107) (lv' := [(2, _), (0, _)]) rfl rfl rfl rfl rfl ?_
        refine r_go rfl ?_
        exact w_lv (sub_c rfl (sub_c rfl (sub_c rfl sub_n))) rfl (ih1 0 (x3 + 1) z w ⟨by omega, by omega⟩ ⟨by omega, by omega⟩ hst (by omega))
  refine w_m rfl rfl ?_
  refine r_c0 (pc' := 1) rfl rfl ?_
  refine r_st (pc' := 2) (lv' := [(2, _), (0, _), (1, _)]) rfl rfl rfl rfl ?_
  have hb105 := rd_225_58 hz
  have hb106 := rd_225_59 hz
  exact w_lv (sub_c rfl (sub_c rfl (sub_c rfl sub_n))) rfl ((key ((65 * (18 - 0) + 1362 : Int).toNat + 1)).1 0 z0 w0 ⟨by omega, by omega⟩ hst (rfl) (rfl) (by omega))
/-- LoopGroundModel order -/
abbrev S_223  : mS := [(264, 264, 0, 7), (263, 263, 0, 143), (225, 225, 58, 58), (225, 225, 59, 59), (257, 257, 0, 17), (259, 259, 0, 17), (258, 258, 0, 323), (260, 260, 0, 17)]
abbrev E_223 (a1 : Int) (z0 w0 : mZ) (x y tx it mt tt ct : Option Nat) : Int → mZ → mZ → mP → Prop := fun v z w p => p = (pq x y tx it mt tt ct) ∧ (-1) ≤ v ∧ v ≤ 40
theorem m_223 {d : Nat} {z0 w0 : mZ} {x y tx it mt tt ct : Option Nat} (a1 : Int) (hz : rz z0) (hw : rw_ w0) (ha1 : (-2147483648) ≤ a1 ∧ a1 ≤ 2147483647) : wc (d + 8) 223 [.ref 225, .int (Int32.ofInt a1)] (mk z0 w0 (pq x y tx it mt tt ct)) (poI S_223 z0 w0 (E_223 a1 z0 w0 x y tx it mt tt ct)) := by
  have hst : st_ S_223 z0 w0 z0 w0 := st_rf hz hw
  have key : ∀ N : Nat, (∀ (x2 : Int) (z w : mZ), 0 ≤ x2 ∧ x2 ≤ 8 → 0 ≤ a1 ∧ a1 ≤ 5 → 1 ≤ z0 225 28 ∧ z0 225 28 ≤ 6 → st_ S_223 z0 w0 z w → z 225 58 = z0 225 58 → z 225 59 = z0 225 59 → 1785 * (8 - x2) + 41046 < (N : Int) → wp_ (d + 7) 223 6 (some .int) (12, [(0, .ref 225), (1, .int (Int32.ofInt a1)), (2, .int (Int32.ofInt x2))], [], mk z w (pq x y tx it mt tt ct)) (poI S_223 z0 w0 (E_223 a1 z0 w0 x y tx it mt tt ct))) ∧ (∀ (x2 x3 : Int) (z w : mZ), 0 ≤ x2 ∧ x2 ≤ 7 → 0 ≤ x3 ∧ x3 ≤ 18 → 0 ≤ a1 ∧ a1 ≤ 5 → 1 ≤ z0 225 27 ∧ z0 225 27 ≤ 8 → 1 ≤ z0 225 28 ∧ z0 225 28 ≤ 6 → st_ S_223 z0 w0 z w → z 225 58 = z0 225 58 → z 225 59 = z0 225 59 → 1785 * (8 - x2) + 85 * (18 - x3) + 39335 < (N : Int) → wp_ (d + 7) 223 6 (some .int) (29, [(0, .ref 225), (1, .int (Int32.ofInt a1)), (2, .int (Int32.ofInt x2)), (3, .int (Int32.ofInt x3))], [], mk z w (pq x y tx it mt tt ct)) (poI S_223 z0 w0 (E_223 a1 z0 w0 x y tx it mt tt ct))) ∧ (∀ (x2 : Int) (z w : mZ), 1 ≤ x2 ∧ x2 ≤ 41 → 0 ≤ a1 ∧ a1 ≤ 5 → 1 ≤ z0 225 28 ∧ z0 225 28 ≤ 6 → st_ S_223 z0 w0 z w → 935 * (41 - x2) + 883 < (N : Int) → wp_ (d + 7) 223 6 (some .int) (84, [(0, .ref 225), (1, .int (Int32.ofInt a1)), (2, .int (Int32.ofInt x2))], [], mk z w (pq x y tx it mt tt ct)) (poI S_223 z0 w0 (E_223 a1 z0 w0 x y tx it mt tt ct))) ∧ (∀ (x2 x3 x4 : Int) (z w : mZ), 1 ≤ x2 ∧ x2 ≤ 40 → 0 ≤ x3 ∧ x3 ≤ 1 → 0 ≤ x4 ∧ x4 ≤ 8 → 0 ≤ a1 ∧ a1 ≤ 5 → 1 ≤ z0 225 28 ∧ z0 225 28 ≤ 6 → st_ S_223 z0 w0 z w → 935 * (41 - x2) + 85 * (8 - x4) + 26 < (N : Int) → wp_ (d + 7) 223 6 (some .int) (95, [(0, .ref 225), (1, .int (Int32.ofInt a1)), (2, .int (Int32.ofInt x2)), (3, .int (Int32.ofInt x3)), (4, .int (Int32.ofInt x4))], [], mk z w (pq x y tx it mt tt ct)) (poI S_223 z0 w0 (E_223 a1 z0 w0 x y tx it mt tt ct))) ∧ (∀ (x2 x4 : Int) (z w : mZ), 1 ≤ x2 ∧ x2 ≤ 40 → 0 ≤ x4 ∧ x4 ≤ 7 → 0 ≤ a1 ∧ a1 ≤ 5 → 1 ≤ z0 225 27 ∧ z0 225 27 ≤ 8 → 1 ≤ z0 225 28 ∧ z0 225 28 ≤ 6 → st_ S_223 z0 w0 z w → 935 * (41 - x2) + 85 * (8 - x4) + 11 < (N : Int) → wp_ (d + 7) 223 6 (some .int) (126, [(0, .ref 225), (1, .int (Int32.ofInt a1)), (2, .int (Int32.ofInt x2)), (4, .int (Int32.ofInt x4))], [], mk z w (pq x y tx it mt tt ct)) (poI S_223 z0 w0 (E_223 a1 z0 w0 x y tx it mt tt ct))) := by
    intro N
    induction N with
    | zero =>
      refine ⟨?_, ?_, ?_, ?_, ?_⟩
      · intro x2 z w
        intros; exfalso; omega
      · intro x2 x3 z w
        intros; exfalso; omega
      · intro x2 z w
        intros; exfalso; omega
      · intro x2 x3 x4 z w
        intros; exfalso; omega
      · intro x2 x4 z w
        intros; exfalso; omega
    | succ N ih =>
      obtain ⟨ih0, ih1, ih2, ih3, ih4⟩ := ih
      refine ⟨?_, ?_, ?_, ?_, ?_⟩
      · intro x2 z w  hx2 hpa1 hz0_0 hst un_z_225_58 un_z_225_59 hM
        refine r_ld (pc' := 13) rfl rfl rfl rfl ?_
        refine r_ld (pc' := 14) rfl rfl rfl rfl ?_
        have hb49 := rd_225_27 hz
        refine r_gi (pc' := 17) rfl rfl sh_225 rfl (hst.2.2.1 _ _ (notS_c (by omega) (notS_c (by omega) (notS_c (by omega) (notS_c (by omega) (notS_c (by omega) (notS_c (by omega) (notS_c (by omega) (notS_c (by omega) notS_n))))))))) ?_
        refine r_ige (pc' := 20) rfl rfl ⟨by omega, by omega⟩ ⟨by omega, by omega⟩ (fun hc50 => ?_) (fun hc50 => ?_)
        · skip
          refine r_c0 (pc' := 83) rfl rfl ?_
          refine r_st (pc' := 84) (lv' := [(2, _), (0, _), (1, _)]) rfl rfl rfl rfl ?_
          exact w_lv (sub_c rfl (sub_c rfl (sub_c rfl sub_n))) rfl (ih2 1 z w ⟨by omega, by omega⟩ ⟨by omega, by omega⟩ ⟨by omega, by omega⟩ hst (by omega))
        · skip
          refine r_ld (pc' := 21) rfl rfl rfl rfl ?_
          refine r_gr (b := 264) (pc' := 24) rfl rfl sh_225 rfl pp_225_64 ?_
          refine r_ld (pc' := 25) rfl rfl rfl rfl ?_
          refine r_c0 (pc' := 26) rfl rfl ?_
          refine r_zs (pc' := 27) rfl rfl sh_264 rfl (by omega) (by omega) (by omega) hst (inS_0 (by omega) (by omega) (by omega) (by omega)) (wr_264 ⟨by omega, by omega⟩) (fun z51 hq52 hs53 => ?_)
          refine r_c0 (pc' := 28) rfl rfl ?_
          refine r_st (pc' := 29) (lv' := [(3, _), (0, _), (1, _), (2, _)]) rfl rfl rfl rfl ?_
          have hb54 := rd_225_58 hz
          have hb55 := rd_225_59 hz
          exact w_lv (sub_c rfl (sub_c rfl (sub_c rfl (sub_c rfl sub_n)))) rfl (ih1 x2 0 z51 w ⟨by omega, by omega⟩ ⟨by omega, by omega⟩ ⟨by omega, by omega⟩ ⟨by omega, by omega⟩ ⟨by omega, by omega⟩ hs53 ((((congrFun (congrFun hq52 _) _).trans (mu_ne (by omega))).trans un_z_225_58)) ((((congrFun (congrFun hq52 _) _).trans (mu_ne (by omega))).trans un_z_225_59)) (by omega))
      · intro x2 x3 z w  hx2 hx3 hpa1 hz0_0 hz0_1 hst un_z_225_58 un_z_225_59 hM
        refine r_ld (pc' := 30) rfl rfl rfl rfl ?_
        refine r_cb (pc' := 32) rfl (by decide) rfl ?_
        refine r_ige (pc' := 35) rfl rfl ⟨by omega, by omega⟩ ⟨by decide, by decide⟩ (fun hc56 => ?_) (fun hc56 => ?_)
        · skip
          refine r_inc (pc' := 79) (lv' := [(0, _), (1, _), (3, _)]) rfl rfl rfl rfl rfl ?_
          refine r_go rfl ?_
          have hb57 := rd_225_58 hz
          have hb58 := rd_225_59 hz
          exact w_lv (sub_c rfl (sub_c rfl (sub_c rfl sub_n))) rfl (ih0 (x2 + 1) z w ⟨by omega, by omega⟩ ⟨by omega, by omega⟩ ⟨by omega, by omega⟩ hst (un_z_225_58) (un_z_225_59) (by omega))
        · skip
          refine r_ld (pc' := 36) rfl rfl rfl rfl ?_
          refine r_gr (b := 263) (pc' := 39) rfl rfl sh_225 rfl pp_225_63 ?_
          refine r_cb (pc' := 41) rfl (by decide) rfl ?_
          refine r_ld (pc' := 42) rfl rfl rfl rfl ?_
          refine r_mul (pc' := 43) rfl rfl ?_
          refine r_ld (pc' := 44) rfl rfl rfl rfl ?_
          refine r_add (pc' := 45) rfl rfl ?_
          refine r_ld (pc' := 46) rfl rfl rfl rfl ?_
          refine r_ld (pc' := 47) rfl rfl rfl rfl ?_
          have hb59 := rd_225_26 hz
          have hf60 : z 225 26 = z0 225 26 := (hst.2.2.1 _ _ (notS_c (by omega) (notS_c (by omega) (notS_c (by omega) (notS_c (by omega) (notS_c (by omega) (notS_c (by omega) (notS_c (by omega) (notS_c (by omega) notS_n)))))))))
          refine r_cVI (pc' := 50) rfl rfl rfl rfl rfl sh_225 (m_161 (d := d + 6)  hst.1 hst.2.1 ) (fun v61 z62 w63 p64 h65 hs66 hE67 => ?_)
          obtain ⟨rfl, rfl, rfl, hE67⟩ := hE67
          refine r_ige (pc' := 53) rfl rfl ⟨by omega, by omega⟩ ⟨by omega, by omega⟩ (fun hc69 => ?_) (fun hc69 => ?_)
          · skip
            refine r_lc0 (pc' := 69) rfl rfl ?_
            refine r_ls (pc' := 70) rfl rfl sh_263 rfl (by omega) (by omega) hst (inS_s (inS_0 (by omega) (by omega) (by omega) (by omega))) (wr_263 ⟨by omega, by omega⟩) (fun w70 hq71 hs72 => ?_)
            refine r_inc (pc' := 73) (lv' := [(0, _), (1, _), (2, _)]) rfl rfl rfl rfl rfl ?_
            refine r_go rfl ?_
            have hb73 := rd_225_58 hz
            have hb74 := rd_225_59 hz
            exact w_lv (sub_c rfl (sub_c rfl (sub_c rfl (sub_c rfl sub_n)))) rfl (ih1 x2 (x3 + 1) z w70 ⟨by omega, by omega⟩ ⟨by omega, by omega⟩ ⟨by omega, by omega⟩ ⟨by omega, by omega⟩ ⟨by omega, by omega⟩ hs72 (un_z_225_58) (un_z_225_59) (by omega))
          · skip
            refine r_ld (pc' := 54) rfl rfl rfl rfl ?_
            refine r_gr (b := 236) (pc' := 57) rfl rfl sh_225 rfl pp_225_19 ?_
            refine r_cb (pc' := 59) rfl (by decide) rfl ?_
            refine r_ld (pc' := 60) rfl rfl rfl rfl ?_
            refine r_mul (pc' := 61) rfl rfl ?_
            refine r_ld (pc' := 62) rfl rfl rfl rfl ?_
            refine r_add (pc' := 63) rfl rfl ?_
            have hb75 := rd_236 hz (i := ((18 * x2) + x3).toNat) (by omega)
            refine r_ia (pc' := 64) rfl rfl sh_236 rfl (by omega) (by omega) (hst.2.2.1 _ _ (notS_c (by omega) (notS_c (by omega) (notS_c (by omega) (notS_c (by omega) (notS_c (by omega) (notS_c (by omega) (notS_c (by omega) (notS_c (by omega) notS_n))))))))) ?_
            refine r_i2l (pc' := 65) rfl rfl ⟨by omega, by omega⟩ ?_
            refine r_go rfl ?_
            refine r_ls (pc' := 70) rfl rfl sh_263 rfl (by omega) (by omega) hst (inS_s (inS_0 (by omega) (by omega) (by omega) (by omega))) (wr_263 ⟨by omega, by omega⟩) (fun w76 hq77 hs78 => ?_)
            refine r_inc (pc' := 73) (lv' := [(0, _), (1, _), (2, _)]) rfl rfl rfl rfl rfl ?_
            refine r_go rfl ?_
            have hb79 := rd_225_58 hz
            have hb80 := rd_225_59 hz
            exact w_lv (sub_c rfl (sub_c rfl (sub_c rfl (sub_c rfl sub_n)))) rfl (ih1 x2 (x3 + 1) z w76 ⟨by omega, by omega⟩ ⟨by omega, by omega⟩ ⟨by omega, by omega⟩ ⟨by omega, by omega⟩ ⟨by omega, by omega⟩ hs78 (un_z_225_58) (un_z_225_59) (by omega))
      · intro x2 z w  hx2 hpa1 hz0_0 hst hM
        refine r_ld (pc' := 85) rfl rfl rfl rfl ?_
        refine r_cb (pc' := 87) rfl (by decide) rfl ?_
        refine r_igt (pc' := 90) rfl rfl ⟨by omega, by omega⟩ ⟨by decide, by decide⟩ (fun hc81 => ?_) (fun hc81 => ?_)
        · skip
          refine r_c0 (pc' := 147) rfl rfl ?_
          exact r_ri rfl (po_I hst ⟨by decide, by decide⟩ ⟨rfl, by omega, by omega⟩)
        · skip
          refine r_c0 (pc' := 91) rfl rfl ?_
          refine r_st (pc' := 92) (lv' := [(3, _), (0, _), (1, _), (2, _)]) rfl rfl rfl rfl ?_
          refine r_c0 (pc' := 93) rfl rfl ?_
          refine r_st (pc' := 95) (lv' := [(4, _), (3, _), (0, _), (1, _), (2, _)]) rfl rfl rfl rfl ?_
          exact w_lv (sub_c rfl (sub_c rfl (sub_c rfl (sub_c rfl (sub_c rfl sub_n))))) rfl (ih3 x2 1 0 z w ⟨by omega, by omega⟩ ⟨by omega, by omega⟩ ⟨by omega, by omega⟩ ⟨by omega, by omega⟩ ⟨by omega, by omega⟩ hst (by omega))
      · intro x2 x3 x4 z w  hx2 hx3 hx4 hpa1 hz0_0 hst hM
        refine r_ld (pc' := 97) rfl rfl rfl rfl ?_
        refine r_ld (pc' := 98) rfl rfl rfl rfl ?_
        have hb82 := rd_225_27 hz
        refine r_gi (pc' := 101) rfl rfl sh_225 rfl (hst.2.2.1 _ _ (notS_c (by omega) (notS_c (by omega) (notS_c (by omega) (notS_c (by omega) (notS_c (by omega) (notS_c (by omega) (notS_c (by omega) (notS_c (by omega) notS_n))))))))) ?_
        refine r_ige (pc' := 104) rfl rfl ⟨by omega, by omega⟩ ⟨by omega, by omega⟩ (fun hc83 => ?_) (fun hc83 => ?_)
        · skip
          refine r_ld (pc' := 135) rfl rfl rfl rfl ?_
          refine r_zeq (pc' := 138) rfl rfl ⟨by omega, by omega⟩ (fun hc84 => ?_) (fun hc84 => ?_)
          · skip
            refine r_inc (pc' := 143) (lv' := [(0, _), (1, _), (3, _), (4, _)]) rfl rfl rfl rfl rfl ?_
            refine r_go rfl ?_
            exact w_lv (sub_c rfl (sub_c rfl (sub_c rfl sub_n))) rfl (ih2 (x2 + 1) z w ⟨by omega, by omega⟩ ⟨by omega, by omega⟩ ⟨by omega, by omega⟩ hst (by omega))
          · skip
            refine r_ld (pc' := 139) rfl rfl rfl rfl ?_
            exact r_ri rfl (po_I hst ⟨by omega, by omega⟩ ⟨rfl, by omega, by omega⟩)
        · skip
          refine r_ld (pc' := 105) rfl rfl rfl rfl ?_
          refine r_ld (pc' := 107) rfl rfl rfl rfl ?_
          refine r_ld (pc' := 108) rfl rfl rfl rfl ?_
          refine r_cVI (pc' := 111) rfl rfl rfl rfl rfl sh_225 (m_222 (d := d) x4 a1 hst.1 hst.2.1 ⟨by omega, by omega⟩ ⟨by omega, by omega⟩) (fun v85 z86 w87 p88 h89 hs90 hE91 => ?_)
          have hs92 := st_tr hst hs90 (sub_B rfl)
          obtain ⟨rfl, hE91⟩ := hE91
          refine r_st (pc' := 113) (lv' := [(5, _), (0, _), (1, _), (2, _), (3, _), (4, _)]) rfl rfl rfl rfl ?_
          refine r_ld (pc' := 114) rfl rfl rfl rfl ?_
          refine r_zeq (pc' := 117) rfl rfl ⟨by omega, by omega⟩ (fun hc93 => ?_) (fun hc93 => ?_)
          · skip
            exact w_lv (sub_c rfl (sub_c rfl (sub_c rfl (sub_c rfl sub_n)))) rfl (ih4 x2 x4 z86 w87 ⟨by omega, by omega⟩ ⟨by omega, by omega⟩ ⟨by omega, by omega⟩ ⟨by omega, by omega⟩ ⟨by omega, by omega⟩ hs92 (by omega))
          · skip
            refine r_ld (pc' := 119) rfl rfl rfl rfl ?_
            refine r_zeq (pc' := 122) rfl rfl ⟨by omega, by omega⟩ (fun hc94 => ?_) (fun hc94 => ?_)
            · skip
              exact w_lv (sub_c rfl (sub_c rfl (sub_c rfl (sub_c rfl sub_n)))) rfl (ih4 x2 x4 z86 w87 ⟨by omega, by omega⟩ ⟨by omega, by omega⟩ ⟨by omega, by omega⟩ ⟨by omega, by omega⟩ ⟨by omega, by omega⟩ hs92 (by omega))
            · skip
              refine r_c0 (pc' := 123) rfl rfl ?_
              refine r_go rfl ?_
              refine r_st (pc' := 128) (lv' := [(3, _), (5, _), (0, _), (1, _), (2, _), (4, _)]) rfl rfl rfl rfl ?_
              refine r_inc (pc' := 131) (lv' := [(3, _), (5, _), (0, _), (1, _), (2, _)]) rfl rfl rfl rfl rfl ?_
              refine r_go rfl ?_
              exact w_lv (sub_c rfl (sub_c rfl (sub_c rfl (sub_c rfl (sub_c rfl sub_n))))) rfl (ih3 x2 1 (x4 + 1) z86 w87 ⟨by omega, by omega⟩ ⟨by omega, by omega⟩ ⟨by omega, by omega⟩ ⟨by omega, by omega⟩ ⟨by omega, by omega⟩ hs92 (by omega))
      · intro x2 x4 z w  hx2 hx4 hpa1 hz0_0 hz0_1 hst hM
        refine r_c0 (pc' := 127) rfl rfl ?_
        refine r_st (pc' := 128) (lv' := [(3, _), (0, _), (1, _), (2, _), (4, _)]) rfl rfl rfl rfl ?_
        refine r_inc (pc' := 131) (lv' := [(3, _), (0, _), (1, _), (2, _)]) rfl rfl rfl rfl rfl ?_
        refine r_go rfl ?_
        exact w_lv (sub_c rfl (sub_c rfl (sub_c rfl (sub_c rfl (sub_c rfl sub_n))))) rfl (ih3 x2 0 (x4 + 1) z w ⟨by omega, by omega⟩ ⟨by omega, by omega⟩ ⟨by omega, by omega⟩ ⟨by omega, by omega⟩ ⟨by omega, by omega⟩ hst (by omega))
  refine w_m rfl rfl ?_
  refine r_ld (pc' := 1) rfl rfl rfl rfl ?_
  refine r_ld (pc' := 2) rfl rfl rfl rfl ?_
  have hb95 := rd_225_28 hz
  refine r_cVI (pc' := 5) rfl rfl rfl rfl rfl sh_225 (m_218 (d := d + 5) a1 hst.1 hst.2.1 ⟨by omega, by omega⟩) (fun v96 z97 w98 p99 h100 hs101 hE102 => ?_)
  obtain ⟨rfl, rfl, rfl, hE102⟩ := hE102
  refine r_zne (pc' := 8) rfl rfl ⟨by omega, by omega⟩ (fun hc104 => ?_) (fun hc104 => ?_)
  · skip
    refine r_c0 (pc' := 11) rfl rfl ?_
    refine r_st (pc' := 12) (lv' := [(2, _), (0, _), (1, _)]) rfl rfl rfl rfl ?_
    have hb105 := rd_225_58 hz
    have hb106 := rd_225_59 hz
    exact w_lv (sub_c rfl (sub_c rfl (sub_c rfl sub_n))) rfl ((key ((1785 * (8 - 0) + 41046 : Int).toNat + 1)).1 0 z0 w0 ⟨by omega, by omega⟩ ⟨by omega, by omega⟩ ⟨by omega, by omega⟩ hst (rfl) (rfl) (by omega))
  · skip
    refine r_c0 (pc' := 9) rfl rfl ?_
    exact r_ri rfl (po_I hst ⟨by decide, by decide⟩ ⟨rfl, by omega, by omega⟩)
/-- LoopGroundModel table -/
abbrev S_226  : mS := [(257, 257, 0, 17), (225, 225, 58, 58), (225, 225, 59, 59), (258, 258, 0, 323), (259, 259, 0, 17), (260, 260, 0, 17)]
abbrev E_226 (a1 : Int) (a2 : Int) (a3 : Int) (a4 : Int) (z0 w0 : mZ) (x y tx it mt tt ct : Option Nat) : Int → mZ → mZ → mP → Prop := fun v z w p => p = (pq x y tx it mt tt ct) ∧ (-2147483648) ≤ v ∧ v ≤ 2147483647
theorem m_226 {d : Nat} {z0 w0 : mZ} {x y tx it mt tt ct : Option Nat} (a1 : Int) (a2 : Int) (a3 : Int) (a4 : Int) (hz : rz z0) (hw : rw_ w0) (ha1 : (-2147483648) ≤ a1 ∧ a1 ≤ 2147483647) (ha2 : (-2147483648) ≤ a2 ∧ a2 ≤ 2147483647) (ha3 : (-2147483648) ≤ a3 ∧ a3 ≤ 2147483647) (ha4 : (-2147483648) ≤ a4 ∧ a4 ≤ 2147483647) : wc (d + 8) 226 [.ref 225, .int (Int32.ofInt a1), .int (Int32.ofInt a2), .int (Int32.ofInt a3), .int (Int32.ofInt a4)] (mk z0 w0 (pq x y tx it mt tt ct)) (poI S_226 z0 w0 (E_226 a1 a2 a3 a4 z0 w0 x y tx it mt tt ct)) := by
  have hst : st_ S_226 z0 w0 z0 w0 := st_rf hz hw
  refine w_m rfl rfl ?_
  refine r_ld (pc' := 1) rfl rfl rfl rfl ?_
  refine r_ld (pc' := 2) rfl rfl rfl rfl ?_
  have hb53 := rd_225_28 hz
  refine r_cVI (pc' := 5) rfl rfl rfl rfl rfl sh_225 (m_218 (d := d + 5) a1 hst.1 hst.2.1 ⟨by omega, by omega⟩) (fun v54 z55 w56 p57 h58 hs59 hE60 => ?_)
  obtain ⟨rfl, rfl, rfl, hE60⟩ := hE60
  refine r_zeq (pc' := 8) rfl rfl ⟨by omega, by omega⟩ (fun hc62 => ?_) (fun hc62 => ?_)
  · skip
    refine r_c0 (pc' := 34) rfl rfl ?_
    exact r_ri rfl (po_I hst ⟨by decide, by decide⟩ ⟨rfl, by omega, by omega⟩)
  · skip
    refine r_ld (pc' := 9) rfl rfl rfl rfl ?_
    refine r_ld (pc' := 10) rfl rfl rfl rfl ?_
    have hb63 := rd_225_27 hz
    refine r_cVI (pc' := 13) rfl rfl rfl rfl rfl sh_225 (m_173 (d := d + 6) a2 hst.1 hst.2.1 ⟨by omega, by omega⟩) (fun v64 z65 w66 p67 h68 hs69 hE70 => ?_)
    obtain ⟨rfl, rfl, rfl, hE70⟩ := hE70
    refine r_zeq (pc' := 16) rfl rfl ⟨by omega, by omega⟩ (fun hc72 => ?_) (fun hc72 => ?_)
    · skip
      refine r_c0 (pc' := 34) rfl rfl ?_
      exact r_ri rfl (po_I hst ⟨by decide, by decide⟩ ⟨rfl, by omega, by omega⟩)
    · skip
      refine r_ld (pc' := 17) rfl rfl rfl rfl ?_
      refine r_ld (pc' := 18) rfl rfl rfl rfl ?_
      have hb73 := rd_225_26 hz
      refine r_cVI (pc' := 21) rfl rfl rfl rfl rfl sh_225 (m_175 (d := d + 5) a3 hst.1 hst.2.1 ⟨by omega, by omega⟩) (fun v74 z75 w76 p77 h78 hs79 hE80 => ?_)
      obtain ⟨rfl, rfl, rfl, hE80⟩ := hE80
      refine r_zeq (pc' := 24) rfl rfl ⟨by omega, by omega⟩ (fun hc82 => ?_) (fun hc82 => ?_)
      · skip
        refine r_c0 (pc' := 34) rfl rfl ?_
        exact r_ri rfl (po_I hst ⟨by decide, by decide⟩ ⟨rfl, by omega, by omega⟩)
      · skip
        refine r_ld (pc' := 25) rfl rfl rfl rfl ?_
        refine r_ld (pc' := 27) rfl rfl rfl rfl ?_
        refine r_cVI (pc' := 30) rfl rfl rfl rfl rfl sh_225 (m_175 (d := d + 5) a4 hst.1 hst.2.1 ⟨by omega, by omega⟩) (fun v83 z84 w85 p86 h87 hs88 hE89 => ?_)
        obtain ⟨rfl, rfl, rfl, hE89⟩ := hE89
        refine r_zne (pc' := 33) rfl rfl ⟨by omega, by omega⟩ (fun hc91 => ?_) (fun hc91 => ?_)
        · skip
          refine r_ld (pc' := 36) rfl rfl rfl rfl ?_
          refine r_ld (pc' := 37) rfl rfl rfl rfl ?_
          refine r_ld (pc' := 38) rfl rfl rfl rfl ?_
          refine r_cVI (pc' := 41) rfl rfl rfl rfl rfl sh_225 (m_225 (d := d) a1 a2 hst.1 hst.2.1 ⟨by omega, by omega⟩ ⟨by omega, by omega⟩) (fun v92 z93 w94 p95 h96 hs97 hE98 => ?_)
          have hs99 := st_tr hst hs97 (sub_B rfl)
          obtain ⟨rfl, hE98⟩ := hE98
          refine r_zeq (pc' := 44) rfl rfl ⟨by omega, by omega⟩ (fun hc100 => ?_) (fun hc100 => ?_)
          · skip
            refine r_cb (pc' := 62) rfl (by decide) rfl ?_
            exact r_ri rfl (po_I hs99 ⟨by decide, by decide⟩ ⟨rfl, by omega, by omega⟩)
          · skip
            refine r_ld (pc' := 45) rfl rfl rfl rfl ?_
            refine r_gr (b := 258) (pc' := 48) rfl rfl sh_225 rfl pp_225_56 ?_
            refine r_cb (pc' := 50) rfl (by decide) rfl ?_
            refine r_ld (pc' := 51) rfl rfl rfl rfl ?_
            refine r_mul (pc' := 52) rfl rfl ?_
            refine r_ld (pc' := 54) rfl rfl rfl rfl ?_
            refine r_add (pc' := 55) rfl rfl ?_
            have hb101 := rd_258 hs99.2.1 (i := ((18 * a3) + a4).toNat) (by omega)
            refine r_la (pc' := 56) rfl rfl sh_258 rfl (by omega) (by omega) rfl ?_
            refine r_l2i (pc' := 57) rfl rfl ?_
            refine w_hxi (fun v102 h103 h104 => ?_)
            refine r_go rfl ?_
            exact r_ri rfl (po_I hs99 ⟨by omega, by omega⟩ ⟨rfl, by omega, by omega⟩)
        · skip
          refine r_c0 (pc' := 34) rfl rfl ?_
          exact r_ri rfl (po_I hst ⟨by decide, by decide⟩ ⟨rfl, by omega, by omega⟩)
/-- LoopGroundModel polynomial -/
abbrev S_230  : mS := [(257, 257, 0, 17), (225, 225, 58, 58), (225, 225, 59, 59), (258, 258, 0, 323), (259, 259, 0, 17), (260, 260, 0, 17), (267, 267, 0, 18), (265, 265, 0, 323), (266, 266, 0, 323)]
abbrev E_230 (a1 : Int) (a2 : Int) (a3 : Int) (z0 w0 : mZ) (x y tx it mt tt ct : Option Nat) : Int → mZ → mZ → mP → Prop := fun v z w p => p = (pq x y tx it mt tt ct) ∧ (-2147483648) ≤ v ∧ v ≤ 2147483647
theorem m_230 {d : Nat} {z0 w0 : mZ} {x y tx it mt tt ct : Option Nat} (a1 : Int) (a2 : Int) (a3 : Int) (hz : rz z0) (hw : rw_ w0) (ha1 : (-2147483648) ≤ a1 ∧ a1 ≤ 2147483647) (ha2 : (-2147483648) ≤ a2 ∧ a2 ≤ 2147483647) (ha3 : (-2147483648) ≤ a3 ∧ a3 ≤ 2147483647) : wc (d + 8) 230 [.ref 225, .int (Int32.ofInt a1), .int (Int32.ofInt a2), .int (Int32.ofInt a3)] (mk z0 w0 (pq x y tx it mt tt ct)) (poI S_230 z0 w0 (E_230 a1 a2 a3 z0 w0 x y tx it mt tt ct)) := by
  have hst : st_ S_230 z0 w0 z0 w0 := st_rf hz hw
  refine w_m rfl rfl ?_
  refine r_ld (pc' := 1) rfl rfl rfl rfl ?_
  refine r_ld (pc' := 2) rfl rfl rfl rfl ?_
  have hb53 := rd_225_28 hz
  refine r_cVI (pc' := 5) rfl rfl rfl rfl rfl sh_225 (m_218 (d := d + 5) a1 hst.1 hst.2.1 ⟨by omega, by omega⟩) (fun v54 z55 w56 p57 h58 hs59 hE60 => ?_)
  obtain ⟨rfl, rfl, rfl, hE60⟩ := hE60
  refine r_zeq (pc' := 8) rfl rfl ⟨by omega, by omega⟩ (fun hc62 => ?_) (fun hc62 => ?_)
  · skip
    refine r_c0 (pc' := 29) rfl rfl ?_
    exact r_ri rfl (po_I hst ⟨by decide, by decide⟩ ⟨rfl, by omega, by omega⟩)
  · skip
    refine r_ld (pc' := 9) rfl rfl rfl rfl ?_
    refine r_ld (pc' := 10) rfl rfl rfl rfl ?_
    have hb63 := rd_225_27 hz
    refine r_cVI (pc' := 13) rfl rfl rfl rfl rfl sh_225 (m_173 (d := d + 6) a2 hst.1 hst.2.1 ⟨by omega, by omega⟩) (fun v64 z65 w66 p67 h68 hs69 hE70 => ?_)
    obtain ⟨rfl, rfl, rfl, hE70⟩ := hE70
    refine r_zeq (pc' := 16) rfl rfl ⟨by omega, by omega⟩ (fun hc72 => ?_) (fun hc72 => ?_)
    · skip
      refine r_c0 (pc' := 29) rfl rfl ?_
      exact r_ri rfl (po_I hst ⟨by decide, by decide⟩ ⟨rfl, by omega, by omega⟩)
    · skip
      refine r_ld (pc' := 17) rfl rfl rfl rfl ?_
      refine r_zlt (pc' := 20) rfl rfl ⟨by omega, by omega⟩ (fun hc73 => ?_) (fun hc73 => ?_)
      · skip
        refine r_c0 (pc' := 29) rfl rfl ?_
        exact r_ri rfl (po_I hst ⟨by decide, by decide⟩ ⟨rfl, by omega, by omega⟩)
      · skip
        refine r_ld (pc' := 21) rfl rfl rfl rfl ?_
        refine r_ld (pc' := 22) rfl rfl rfl rfl ?_
        have hb74 := rd_225_26 hz
        refine r_cVI (pc' := 25) rfl rfl rfl rfl rfl sh_225 (m_161 (d := d + 6)  hst.1 hst.2.1 ) (fun v75 z76 w77 p78 h79 hs80 hE81 => ?_)
        obtain ⟨rfl, rfl, rfl, hE81⟩ := hE81
        refine r_ile (pc' := 28) rfl rfl ⟨by omega, by omega⟩ ⟨by omega, by omega⟩ (fun hc83 => ?_) (fun hc83 => ?_)
        · skip
          refine r_ld (pc' := 31) rfl rfl rfl rfl ?_
          refine r_ld (pc' := 32) rfl rfl rfl rfl ?_
          refine r_ld (pc' := 33) rfl rfl rfl rfl ?_
          refine r_cVI (pc' := 36) rfl rfl rfl rfl rfl sh_225 (m_225 (d := d) a1 a2 hst.1 hst.2.1 ⟨by omega, by omega⟩ ⟨by omega, by omega⟩) (fun v84 z85 w86 p87 h88 hs89 hE90 => ?_)
          have hs91 := st_tr hst hs89 (sub_B rfl)
          obtain ⟨rfl, hE90⟩ := hE90
          refine r_zne (pc' := 39) rfl rfl ⟨by omega, by omega⟩ (fun hc92 => ?_) (fun hc92 => ?_)
          · skip
            refine r_ld (pc' := 43) rfl rfl rfl rfl ?_
            refine r_cVV (pc' := 46) rfl rfl rfl rfl rfl sh_225 (m_229 (d := d + 5)  hs91.1 hs91.2.1 ) (fun z94 w95 p96 hs98 hE99 => ?_)
            have hs100 := st_tr hs91 hs98 (sub_B rfl)
            obtain rfl := hE99
            refine r_ld (pc' := 47) rfl rfl rfl rfl ?_
            refine r_gr (b := 267) (pc' := 50) rfl rfl sh_225 rfl pp_225_67 ?_
            refine r_ld (pc' := 51) rfl rfl rfl rfl ?_
            have hb101 := rd_267 hs100.2.1 (i := a3.toNat) (by omega)
            refine r_la (pc' := 52) rfl rfl sh_267 rfl (by omega) (by omega) rfl ?_
            refine r_l2i (pc' := 53) rfl rfl ?_
            refine w_hxi (fun v102 h103 h104 => ?_)
            exact r_ri rfl (po_I hs100 ⟨by omega, by omega⟩ ⟨rfl, by omega, by omega⟩)
          · skip
            refine r_cb (pc' := 41) rfl (by decide) rfl ?_
            exact r_ri rfl (po_I hs91 ⟨by decide, by decide⟩ ⟨rfl, by omega, by omega⟩)
        · skip
          refine r_c0 (pc' := 29) rfl rfl ?_
          exact r_ri rfl (po_I hst ⟨by decide, by decide⟩ ⟨rfl, by omega, by omega⟩)

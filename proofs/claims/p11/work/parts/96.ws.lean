/-! methods, printed by wip/tools/vcg.py -/
/-- LoopGroundModel flips -/
abbrev S_202x  : mS := []
abbrev E_202x (a1 : Int) (z0 w0 : mZ) (x y tx it mt tt ct : Option Nat) : Int → mZ → mZ → mP → Prop := fun v z w p => p = (pq x y tx it mt tt ct) ∧ z0 = z ∧ w0 = w ∧ (-2) ≤ v ∧ v ≤ 1782 ∧ ((¬ (0 ≤ a1 ∧ a1 < z0 225 27) ∧ v = -1) ∨ ((0 ≤ a1 ∧ a1 < z0 225 27) ∧ ((z0 253 a1.toNat = 0 ∧ v = -1) ∨ (z0 253 a1.toNat = 1 ∧ z0 254 a1.toNat = 0 ∧ v = -2) ∨ (z0 253 a1.toNat = 1 ∧ z0 254 a1.toNat = 1 ∧ v = z0 248 a1.toNat))))
theorem m_202x {d : Nat} {z0 w0 : mZ} {x y tx it mt tt ct : Option Nat} (a1 : Int) (hz : rz z0) (hw : rw_ w0) (ha1 : (-2147483648) ≤ a1 ∧ a1 ≤ 2147483647) : wc (d + 2) 202 [.ref 225, .int (Int32.ofInt a1)] (mk z0 w0 (pq x y tx it mt tt ct)) (poI S_202x z0 w0 (E_202x a1 z0 w0 x y tx it mt tt ct)) := by
  have hst : st_ S_202x z0 w0 z0 w0 := st_rf hz hw
  have hz16 := rd_225_27 hz
  refine w_m rfl rfl ?_
  refine r_ld (pc' := 1) rfl rfl rfl rfl ?_
  refine r_ld (pc' := 2) rfl rfl rfl rfl ?_
  have hb17 := rd_225_27 hz
  refine r_cVI (pc' := 5) rfl rfl rfl rfl rfl sh_225 (m_173 (d := d) a1 hst.1 hst.2.1 ⟨by omega, by omega⟩) (fun v18 z19 w20 p21 h22 hs23 hE24 => ?_)
  obtain ⟨rfl, rfl, rfl, hE24⟩ := hE24
  refine r_zeq (pc' := 8) rfl rfl ⟨by omega, by omega⟩ (fun hc26 => ?_) (fun hc26 => ?_)
  · skip
    refine r_c0 (pc' := 18) rfl rfl ?_
    refine r_go rfl ?_
    exact r_ri rfl (po_I hst ⟨by decide, by decide⟩ ⟨rfl, rfl, rfl, by omega, by omega, (by omega)⟩)
  · skip
    refine r_ld (pc' := 9) rfl rfl rfl rfl ?_
    refine r_gr (b := 253) (pc' := 12) rfl rfl sh_225 rfl pp_225_49 ?_
    refine r_ld (pc' := 13) rfl rfl rfl rfl ?_
    have hb27 := rd_253 hz (i := a1.toNat) (by omega)
    refine r_ba (pc' := 14) rfl rfl sh_253 (Or.inr rfl) rfl (by omega) (by omega) rfl ?_
    refine r_zne (pc' := 17) rfl rfl ⟨by omega, by omega⟩ (fun hc28 => ?_) (fun hc28 => ?_)
    · skip
      refine r_ld (pc' := 22) rfl rfl rfl rfl ?_
      refine r_gr (b := 254) (pc' := 25) rfl rfl sh_225 rfl pp_225_50 ?_
      refine r_ld (pc' := 26) rfl rfl rfl rfl ?_
      have hb29 := rd_254 hz (i := a1.toNat) (by omega)
      refine r_ba (pc' := 27) rfl rfl sh_254 (Or.inr rfl) rfl (by omega) (by omega) rfl ?_
      refine r_zeq (pc' := 30) rfl rfl ⟨by omega, by omega⟩ (fun hc30 => ?_) (fun hc30 => ?_)
      · skip
        refine r_cb (pc' := 41) rfl (by decide) rfl ?_
        exact r_ri rfl (po_I hst ⟨by decide, by decide⟩ ⟨rfl, rfl, rfl, by omega, by omega, (by omega)⟩)
      · skip
        refine r_ld (pc' := 31) rfl rfl rfl rfl ?_
        refine r_gr (b := 248) (pc' := 34) rfl rfl sh_225 rfl pp_225_44 ?_
        refine r_ld (pc' := 35) rfl rfl rfl rfl ?_
        have hb31 := rd_248 hz (i := a1.toNat) (by omega)
        refine r_ia (pc' := 36) rfl rfl sh_248 rfl (by omega) (by omega) rfl ?_
        refine r_go rfl ?_
        exact r_ri rfl (po_I hst ⟨by omega, by omega⟩ ⟨rfl, rfl, rfl, by omega, by omega, (by omega)⟩)
    · skip
      refine r_c0 (pc' := 18) rfl rfl ?_
      refine r_go rfl ?_
      exact r_ri rfl (po_I hst ⟨by decide, by decide⟩ ⟨rfl, rfl, rfl, by omega, by omega, (by omega)⟩)
/-- LoopGroundModel flip -/
abbrev S_203x  : mS := []
abbrev E_203x (a1 : Int) (a2 : Int) (z0 w0 : mZ) (x y tx it mt tt ct : Option Nat) : Int → mZ → mZ → mP → Prop := fun v z w p => p = (pq x y tx it mt tt ct) ∧ z0 = z ∧ w0 = w ∧ (-1) ≤ v ∧ v ≤ 17 ∧ ((¬ ((0 ≤ a1 ∧ a1 < z0 225 27) ∧ z0 254 a1.toNat = 1 ∧ 0 ≤ a2 ∧ a2 < z0 248 a1.toNat) ∧ v = -1) ∨ (((0 ≤ a1 ∧ a1 < z0 225 27) ∧ z0 254 a1.toNat = 1 ∧ 0 ≤ a2 ∧ a2 < z0 248 a1.toNat) ∧ v = z0 247 (5 * (1782 * a1.toNat + a2.toNat))))
theorem m_203x {d : Nat} {z0 w0 : mZ} {x y tx it mt tt ct : Option Nat} (a1 : Int) (a2 : Int) (hz : rz z0) (hw : rw_ w0) (ha1 : (-2147483648) ≤ a1 ∧ a1 ≤ 2147483647) (ha2 : (-2147483648) ≤ a2 ∧ a2 ≤ 2147483647) : wc (d + 2) 203 [.ref 225, .int (Int32.ofInt a1), .int (Int32.ofInt a2)] (mk z0 w0 (pq x y tx it mt tt ct)) (poI S_203x z0 w0 (E_203x a1 a2 z0 w0 x y tx it mt tt ct)) := by
  have hst : st_ S_203x z0 w0 z0 w0 := st_rf hz hw
  have hz17 := rd_225_27 hz
  refine w_m rfl rfl ?_
  refine r_ld (pc' := 1) rfl rfl rfl rfl ?_
  refine r_ld (pc' := 2) rfl rfl rfl rfl ?_
  have hb18 := rd_225_27 hz
  refine r_cVI (pc' := 5) rfl rfl rfl rfl rfl sh_225 (m_173 (d := d) a1 hst.1 hst.2.1 ⟨by omega, by omega⟩) (fun v19 z20 w21 p22 h23 hs24 hE25 => ?_)
  obtain ⟨rfl, rfl, rfl, hE25⟩ := hE25
  refine r_zeq (pc' := 8) rfl rfl ⟨by omega, by omega⟩ (fun hc27 => ?_) (fun hc27 => ?_)
  · skip
    refine r_c0 (pc' := 32) rfl rfl ?_
    refine r_go rfl ?_
    exact r_ri rfl (po_I hst ⟨by decide, by decide⟩ ⟨rfl, rfl, rfl, by omega, by omega, (by first | exact Or.inl ⟨by omega, rfl⟩ | exact Or.inr ⟨by omega, congrArg (z0 247) (by omega)⟩)⟩)
  · skip
    refine r_ld (pc' := 9) rfl rfl rfl rfl ?_
    refine r_gr (b := 254) (pc' := 12) rfl rfl sh_225 rfl pp_225_50 ?_
    refine r_ld (pc' := 13) rfl rfl rfl rfl ?_
    have hb28 := rd_254 hz (i := a1.toNat) (by omega)
    refine r_ba (pc' := 14) rfl rfl sh_254 (Or.inr rfl) rfl (by omega) (by omega) rfl ?_
    refine r_zeq (pc' := 17) rfl rfl ⟨by omega, by omega⟩ (fun hc29 => ?_) (fun hc29 => ?_)
    · skip
      refine r_c0 (pc' := 32) rfl rfl ?_
      refine r_go rfl ?_
      exact r_ri rfl (po_I hst ⟨by decide, by decide⟩ ⟨rfl, rfl, rfl, by omega, by omega, (by first | exact Or.inl ⟨by omega, rfl⟩ | exact Or.inr ⟨by omega, congrArg (z0 247) (by omega)⟩)⟩)
    · skip
      refine r_ld (pc' := 18) rfl rfl rfl rfl ?_
      refine r_zlt (pc' := 21) rfl rfl ⟨by omega, by omega⟩ (fun hc30 => ?_) (fun hc30 => ?_)
      · skip
        refine r_c0 (pc' := 32) rfl rfl ?_
        refine r_go rfl ?_
        exact r_ri rfl (po_I hst ⟨by decide, by decide⟩ ⟨rfl, rfl, rfl, by omega, by omega, (by first | exact Or.inl ⟨by omega, rfl⟩ | exact Or.inr ⟨by omega, congrArg (z0 247) (by omega)⟩)⟩)
      · skip
        refine r_ld (pc' := 22) rfl rfl rfl rfl ?_
        refine r_ld (pc' := 23) rfl rfl rfl rfl ?_
        refine r_gr (b := 248) (pc' := 26) rfl rfl sh_225 rfl pp_225_44 ?_
        refine r_ld (pc' := 27) rfl rfl rfl rfl ?_
        have hb31 := rd_248 hz (i := a1.toNat) (by omega)
        refine r_ia (pc' := 28) rfl rfl sh_248 rfl (by omega) (by omega) rfl ?_
        refine r_ilt (pc' := 31) rfl rfl ⟨by omega, by omega⟩ ⟨by omega, by omega⟩ (fun hc32 => ?_) (fun hc32 => ?_)
        · skip
          refine r_ld (pc' := 36) rfl rfl rfl rfl ?_
          refine r_gr (b := 247) (pc' := 39) rfl rfl sh_225 rfl pp_225_43 ?_
          refine r_c0 (pc' := 40) rfl rfl ?_
          refine r_cs (pc' := 43) rfl (by decide) rfl ?_
          refine r_ld (pc' := 44) rfl rfl rfl rfl ?_
          refine r_mul (pc' := 45) rfl rfl ?_
          refine r_ld (pc' := 46) rfl rfl rfl rfl ?_
          refine r_add (pc' := 47) rfl rfl ?_
          refine r_mul (pc' := 48) rfl rfl ?_
          have hb33 := rd_247 hz (i := (5 * ((1782 * a1) + a2)).toNat) (by omega)
          refine r_ia (pc' := 49) rfl rfl sh_247 rfl (by omega) (by omega) rfl ?_
          exact r_ri rfl (po_I hst ⟨by omega, by omega⟩ ⟨rfl, rfl, rfl, by omega, by omega, (by first | exact Or.inl ⟨by omega, rfl⟩ | exact Or.inr ⟨by omega, congrArg (z0 247) (by omega)⟩)⟩)
        · skip
          refine r_c0 (pc' := 32) rfl rfl ?_
          refine r_go rfl ?_
          exact r_ri rfl (po_I hst ⟨by decide, by decide⟩ ⟨rfl, rfl, rfl, by omega, by omega, (by first | exact Or.inl ⟨by omega, rfl⟩ | exact Or.inr ⟨by omega, congrArg (z0 247) (by omega)⟩)⟩)

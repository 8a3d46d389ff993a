/-! methods, printed by wip/tools/vcg.py -/
/-- LoopGroundModel fault -/
abbrev S_172x  : mS := []
abbrev E_172x (a1 : Int) (z0 w0 : mZ) (x y tx it mt tt ct : Option Nat) : Int → mZ → mZ → mP → Prop := fun v z w p => p = (pq x y tx it mt tt ct) ∧ z0 = z ∧ w0 = w ∧ (-2147483648) ≤ v ∧ v ≤ 2147483647 ∧ ((a1 = 0 → v = z0 225 2) ∧ (a1 = 1 → v = z0 225 3) ∧ (a1 ≠ 0 → a1 ≠ 1 → v = -1))
theorem m_172x {d : Nat} {z0 w0 : mZ} {x y tx it mt tt ct : Option Nat} (a1 : Int) (hz : rz z0) (hw : rw_ w0) (ha1 : (-2147483648) ≤ a1 ∧ a1 ≤ 2147483647) : wc (d + 1) 172 [.ref 225, .int (Int32.ofInt a1)] (mk z0 w0 (pq x y tx it mt tt ct)) (poI S_172x z0 w0 (E_172x a1 z0 w0 x y tx it mt tt ct)) := by
  have hst : st_ S_172x z0 w0 z0 w0 := st_rf hz hw
  have hz5 := rd_225_2 hz
  have hz6 := rd_225_3 hz
  refine w_m rfl rfl ?_
  refine r_ld (pc' := 1) rfl rfl rfl rfl ?_
  refine r_zne (pc' := 4) rfl rfl ⟨by omega, by omega⟩ (fun hc7 => ?_) (fun hc7 => ?_)
  · skip
    refine r_ld (pc' := 12) rfl rfl rfl rfl ?_
    refine r_c0 (pc' := 13) rfl rfl ?_
    refine r_ine (pc' := 16) rfl rfl ⟨by omega, by omega⟩ ⟨by decide, by decide⟩ (fun hc8 => ?_) (fun hc8 => ?_)
    · skip
      refine r_c0 (pc' := 24) rfl rfl ?_
      exact r_ri rfl (po_I hst ⟨by decide, by decide⟩ ⟨rfl, rfl, rfl, by omega, by omega, (by exact ⟨by omega, by omega, by omega⟩)⟩)
    · skip
      refine r_ld (pc' := 17) rfl rfl rfl rfl ?_
      have hb9 := rd_225_3 hz
      refine r_gi (pc' := 20) rfl rfl sh_225 rfl rfl ?_
      refine r_go rfl ?_
      exact r_ri rfl (po_I hst ⟨by omega, by omega⟩ ⟨rfl, rfl, rfl, by omega, by omega, (by exact ⟨by omega, by omega, by omega⟩)⟩)
  · skip
    refine r_ld (pc' := 5) rfl rfl rfl rfl ?_
    have hb10 := rd_225_2 hz
    refine r_gi (pc' := 8) rfl rfl sh_225 rfl rfl ?_
    refine r_go rfl ?_
    exact r_ri rfl (po_I hst ⟨by omega, by omega⟩ ⟨rfl, rfl, rfl, by omega, by omega, (by exact ⟨by omega, by omega, by omega⟩)⟩)

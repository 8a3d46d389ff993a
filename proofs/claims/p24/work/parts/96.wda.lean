/-! counting loops: all that is known of one call, together -/
abbrev S_93g  : mS := [(4, 4, 0, 0), (4, 4, 1, 1), (5, 5, 0, 281), (4, 4, 9, 9), (4, 4, 10, 10), (4, 4, 11, 11), (4, 4, 12, 12), (4, 4, 13, 13)]
abbrev E_93g (t : Nat) (z0 w0 : mZ) (x y tx it mt ct : Option Nat) : mZ → mZ → mP → Prop := fun z w p => p = (pq x y tx it mt (some t) ct) ∧ ((z 4 0 = (lpe (z0 (t + 1)) (z0 (t + 2)) (z0 (t + 5)) (z0 7) (z0 t 1).toNat).2.1 ∧ z 4 1 = (lpe (z0 (t + 1)) (z0 (t + 2)) (z0 (t + 5)) (z0 7) (z0 t 1).toNat).2.2) ∧ (z 4 0 = 1 → CN (z0 t 0).toNat (vT (z0 (t + 1))) (oF (z0 (t + 1)) (z0 (t + 5))) (z0 7) ∧ ∃ e : Nat, (e : Int) < z0 t 1 ∧ 0 < z0 7 e))
theorem m_93g {d : Nat} {z0 w0 : mZ} {x y tx it mt ct : Option Nat} (t : Nat) (hz : rz z0) (hw : rw_ w0) (ht : isT t) (hwt : WTt z0 t) (htl : TL z0 t) : wc (d + 4) 93 [.ref 4] (mk z0 w0 (pq x y tx it mt (some t) ct)) (poV S_93g z0 w0 (E_93g t z0 w0 x y tx it mt ct)) := by
  refine wc_mono (wc_2V (X := fun z _ _ => z 4 0 = 1 → CN (z0 t 0).toNat (vT (z0 (t + 1))) (oF (z0 (t + 1)) (z0 (t + 5))) (z0 7) ∧ ∃ e : Nat, (e : Int) < z0 t 1 ∧ 0 < z0 7 e) (m_93f t hz hw ht hwt htl) (m_93 t hz hw ht hwt htl) ?_) ?_
  · intro z w p z' w' p' r1 r2 e h q
    have a0 : z 4 0 = z' 4 0 := mk_fo e sh_4 rfl (by have q := rd_4_0 r1; exact ⟨by omega, by omega⟩) (by have q := rd_4_0 r2; exact ⟨by omega, by omega⟩)
    exact h.2 (by rw [← a0]; exact q)
  · rintro R ⟨z, w, p, e, hs, hE, hX⟩
    exact ⟨z, w, p, e, hs, hE.1, hE.2, hX⟩
abbrev S_190gt  : mS := [(244, 244, 0, 18), (243, 243, 0, 17), (225, 225, 36, 36), (225, 225, 37, 37), (245, 245, 0, 17999), (225, 225, 38, 38), (225, 225, 39, 39), (225, 225, 40, 40)]
abbrev E_190gt (a1 : Int) (z0 w0 : mZ) (x y tx it mt tt ct : Option Nat) : Int → mZ → mZ → mP → Prop := fun v z w p => p = (pq x y tx it mt tt ct) ∧ 0 ≤ v ∧ v ≤ 1 ∧ (((v = 1 → sm (tr (rE z0) (lnR z0 a1.toNat)) 18 ≤ 18000 ∧ (lpe (z0 235) (z0 240) (z0 241) (tr (rE z0) (lnR z0 a1.toNat)) (rE z0).toNat).2.1 = 1 ∧ (lpe (z0 235) (z0 240) (z0 241) (tr (rE z0) (lnR z0 a1.toNat)) (rE z0).toNat).2.2 = 0) ∧ (v = 0 → ¬ (sm (tr (rE z0) (lnR z0 a1.toNat)) 18 ≤ 18000 ∧ (lpe (z0 235) (z0 240) (z0 241) (tr (rE z0) (lnR z0 a1.toNat)) (rE z0).toNat).2.1 = 1 ∧ (lpe (z0 235) (z0 240) (z0 241) (tr (rE z0) (lnR z0 a1.toNat)) (rE z0).toNat).2.2 = 0))) ∧ ((v = 1 → CN (z0 225 26).toNat (vT (z0 235)) (oF (z0 235) (z0 241)) (tr (rE z0) (lnR z0 a1.toNat)) ∧ ∃ e : Nat, (e : Int) < rE z0 ∧ 0 < (tr (rE z0) (lnR z0 a1.toNat)) e)))
theorem m_190gt {d : Nat} {z0 w0 : mZ} {x y tx it mt tt ct : Option Nat} (a1 : Int) (hz : rz z0) (hw : rw_ w0) (ha1 : 0 ≤ a1 ∧ a1 ≤ 7) (hrw : RW z0) (hft : FT (z0 225 26).toNat (vT (z0 235)) (tr (rE z0) (lnR z0 a1.toNat))) : wc (d + 6) 190 [.ref 225, .int (Int32.ofInt a1)] (mk z0 w0 (pq x y tx it mt tt ct)) (poI S_190gt z0 w0 (E_190gt a1 z0 w0 x y tx it mt tt ct)) := by
  refine wc_mono (wc_2I (X := fun v _ _ _ => v = 1 → CN (z0 225 26).toNat (vT (z0 235)) (oF (z0 235) (z0 241)) (tr (rE z0) (lnR z0 a1.toNat)) ∧ ∃ e : Nat, (e : Int) < rE z0 ∧ 0 < (tr (rE z0) (lnR z0 a1.toNat)) e) (m_190ft a1 hz hw ha1 hrw hft) (m_190t a1 hz hw ha1 hrw hft) ?_) ?_
  · intro v z w p z' w' p' r1 r2 e h
    exact h.2.2.2
  · rintro R ⟨v, z, w, p, e, hv, hs, hE, hX⟩
    exact ⟨v, z, w, p, e, hv, hs, hE.1, hE.2.1, hE.2.2.1, hE.2.2.2, hX⟩

/-! both readings of readGround, of readAll, together: with what is told -/
theorem wc_3I {S S' : mS} {z0 w0 : mZ} {p0 : mP} {E E' X : Int → mZ → mZ → mP → Prop} {d k : Nat} {as : List Value} (m : wc d k as (mk z0 w0 p0) (poI S z0 w0 E)) (m' : wc d k as (mk z0 w0 p0) (poI S' z0 w0 E')) (tr : ∀ v z w p z' w' p', rz z → rz z' → rw_ w → rw_ w' → mk z w p = mk z' w' p' → E' v z' w' p' → X v z w p) : wc d k as (mk z0 w0 p0) (poI S z0 w0 (fun v z w p => E v z w p ∧ X v z w p)) := by
  refine wc_mono (wc_and m m') ?_
  rintro R ⟨⟨v, z, w, p, e, hv, hs, hE⟩, v', z', w', p', e', hv', hs', hE'⟩
  rw [e] at e'
  have e1 := congrArg Prod.fst e'
  have e2 : mk z w p = mk z' w' p' := congrArg Prod.snd e'
  have e3 : Value.int (Int32.ofInt v) = Value.int (Int32.ofInt v') := Option.some.inj e1
  have e4 : Int32.ofInt v = Int32.ofInt v' := by injection e3
  have e5 := (ofI_eq hv hv').mp e4
  subst e5
  exact ⟨v, z, w, p, e, hv, hs, hE, tr v z w p z' w' p' hs.1 hs'.1 hs.2.1 hs'.2.1 e2 hE'⟩
theorem wc_3V {S S' : mS} {z0 w0 : mZ} {p0 : mP} {E E' X : mZ → mZ → mP → Prop} {d k : Nat} {as : List Value} (m : wc d k as (mk z0 w0 p0) (poV S z0 w0 E)) (m' : wc d k as (mk z0 w0 p0) (poV S' z0 w0 E')) (tr : ∀ z w p z' w' p', rz z → rz z' → rw_ w → rw_ w' → mk z w p = mk z' w' p' → E' z' w' p' → X z w p) : wc d k as (mk z0 w0 p0) (poV S z0 w0 (fun z w p => E z w p ∧ X z w p)) := by
  refine wc_mono (wc_and m m') ?_
  rintro R ⟨⟨z, w, p, e, hs, hE⟩, z', w', p', e', hs', hE'⟩
  rw [e] at e'
  have e2 : mk z w p = mk z' w' p' := congrArg Prod.snd e'
  exact ⟨z, w, p, e, hs, hE, tr z w p z' w' p' hs.1 hs'.1 hs.2.1 hs'.2.1 e2 hE'⟩
abbrev S_32c (t : Nat) : mS := [(3, 3, 3, 3), (t, t, 0, 0), (t, t, 1, 1), (t, t, 2, 2), (t, t, 3, 3), (t, t, 4, 4), (t + 4, t + 4, 0, 17), (t + 8, t + 15, 0, 17), (3, 3, 0, 0), (3, 3, 1, 1), (3, 3, 5, 5), (3, 3, 6, 6), (3, 3, 8, 8), (3, 3, 7, 7), (3, 3, 9, 9), (3, 3, 10, 10), (t + 1, t + 1, 0, 35), (t + 6, t + 6, 0, 17), (t + 5, t + 5, 0, 17), (t + 3, t + 3, 0, 35), (t + 2, t + 2, 0, 35), (t + 20, t + 25, 0, 7), (t + 27, t + 32, 0, 7), (t + 17, t + 17, 0, 5), (t + 18, t + 18, 0, 5), (t + 16, t + 16, 0, 7)]
abbrev E_32c (h : Int → Int) (a2 : Int) (t : Nat) (z0 w0 : mZ) (x y tx it mt tt ct : Option Nat) : Int → mZ → mZ → mP → Prop := fun v z w p => p = (pq x y (some 2) (some t) mt tt ct) ∧ 0 ≤ v ∧ v ≤ 1 ∧ (((z 3 7 = 2 → 0 ≤ z 3 9 ∧ z 3 9 ≤ 9999) ∧ (v = 1 → WTt z t ∧ LF z w t)) ∧ (v = 1 → TE h (z t 0) (z t 3) (z t 4) ∧ z 3 0 = 0 ∧ z 3 1 = -1 ∧ TXc h z w t) ∧ (v = 0 → TF h (z 3 0) (z 3 1) ∧ z 3 0 ≠ 0))
theorem m_32c {d : Nat} {z0 w0 : mZ} {x y tx it mt tt ct : Option Nat} (h : Int → Int) (a2 : Int) (t : Nat) (hz : rz z0) (hw : rw_ w0) (ha2 : 0 ≤ a2 ∧ a2 ≤ 1600) (ht : isT t) (hkn : (z0 3 7 = 2 → 0 ≤ z0 3 9 ∧ z0 3 9 ≤ 9999)) (hhx : hr (fun i => z0 2 i % 256) a2 = h) : wc (d + 6) 32 [.ref 3, .ref 2, .int (Int32.ofInt a2), .ref t] (mk z0 w0 (pq x y tx it mt tt ct)) (poI (S_32c t) z0 w0 (E_32c h a2 t z0 w0 x y tx it mt tt ct)) := by
  refine wc_mono (wc_3I (X := fun v z w p => (v = 1 → TE h (z t 0) (z t 3) (z t 4) ∧ z 3 0 = 0 ∧ z 3 1 = -1 ∧ TXc h z w t) ∧ (v = 0 → TF h (z 3 0) (z 3 1) ∧ z 3 0 ≠ 0)) (m_32 (d := d) (x := x) (y := y) (tx := tx) (it := it) (mt := mt) (tt := tt) (ct := ct) a2 t hz hw ha2 ht hkn) (m_32x (d := d) (x := x) (y := y) (tx := tx) (it := it) (mt := mt) (tt := tt) (ct := ct) h a2 t hz hw ha2 ht hhx) ?_) ?_
  · intro v z w p z' w' p' r1 r2 q1 q2 e hE
    have a0 : z 3 0 = z' 3 0 := mk_fo e sh_3 rfl (by have q := rd_3_0 r1; exact ⟨by omega, by omega⟩) (by have q := rd_3_0 r2; exact ⟨by omega, by omega⟩)
    have a1 : z 3 1 = z' 3 1 := mk_fo e sh_3 rfl (by have q := rd_3_1 r1; exact ⟨by omega, by omega⟩) (by have q := rd_3_1 r2; exact ⟨by omega, by omega⟩)
    have t0 : z t 0 = z' t 0 := mk_fo e (sh_T ht) rfl (by have q := rd_T_0 ht r1; exact ⟨by omega, by omega⟩) (by have q := rd_T_0 ht r2; exact ⟨by omega, by omega⟩)
    have t3 : z t 3 = z' t 3 := mk_fo e (sh_T ht) rfl (by have q := rd_T_3 ht r1; exact ⟨by omega, by omega⟩) (by have q := rd_T_3 ht r2; exact ⟨by omega, by omega⟩)
    have t4 : z t 4 = z' t 4 := mk_fo e (sh_T ht) rfl (by have q := rd_T_4 ht r1; exact ⟨by omega, by omega⟩) (by have q := rd_T_4 ht r2; exact ⟨by omega, by omega⟩)
    have n4 : z' t 3 ≤ 8 := (rd_T_3 ht r2).2
    have k (q : v = 1) : TXc h z w t := TX_kx ht e r1 r2 q1 q2 (TX_k (hE.2.2.2.1 q).1 n4)
    rw [a0, a1]
    refine ⟨fun q => ⟨?_, (hE.2.2.2.1 q).2.1, (hE.2.2.2.1 q).2.2, k q⟩, ?_⟩
    · rw [t0, t3, t4]
      exact TE_c (hE.2.2.2.1 q).1
    exact fun q => ⟨TF_c (hE.2.2.2.2 q), CF_n (hE.2.2.2.2 q)⟩
  · rintro R ⟨v, z, w, p, e, hv, hs, hE, hX⟩
    exact ⟨v, z, w, p, e, hv, hs, hE.1, hE.2.1, hE.2.2.1, hE.2.2.2, hX⟩
abbrev S_170c  : mS := [(225, 225, 5, 5), (225, 225, 1, 1), (225, 225, 4, 4), (225, 225, 2, 2), (225, 225, 3, 3), (225, 225, 23, 23), (225, 225, 24, 24), (225, 225, 25, 25), (225, 225, 7, 7), (225, 225, 9, 9), (225, 225, 8, 8), (225, 225, 6, 6), (230, 230, 0, 17), (232, 232, 0, 47), (233, 233, 0, 47), (228, 228, 0, 5), (234, 234, 0, 5), (231, 231, 0, 143), (227, 227, 0, 7), (229, 229, 0, 35)]
abbrev E_170c (h : Int → Int) (z0 w0 : mZ) (x y tx it mt tt ct : Option Nat) : mZ → mZ → mP → Prop := fun z w p => p = (pq x y tx it mt tt ct) ∧ (((z 225 2 = 0 → WHn z ∧ LFn z ∧ WDn z) ∧ z 225 1 = 0) ∧ (z 225 2 = 0 → TE h (z 225 23) (z 225 24) (z 225 25) ∧ z 225 3 = -1 ∧ TXn h z) ∧ (0 < z 225 2 → TF h (z 225 2) (z 225 3)))
theorem m_170c {d : Nat} {z0 w0 : mZ} {x y tx it mt tt ct : Option Nat} (h : Int → Int) (hz : rz z0) (hw : rw_ w0) (hhx : hr (z0 226) (z0 225 1) = h) : wc (d + 6) 170 [.ref 225] (mk z0 w0 (pq x y tx it mt tt ct)) (poV S_170c z0 w0 (E_170c h z0 w0 x y tx it mt tt ct)) := by
  refine wc_mono (wc_3V (X := fun z w p => (z 225 2 = 0 → TE h (z 225 23) (z 225 24) (z 225 25) ∧ z 225 3 = -1 ∧ TXn h z) ∧ (0 < z 225 2 → TF h (z 225 2) (z 225 3))) (m_170v (d := d) (x := x) (y := y) (tx := tx) (it := it) (mt := mt) (tt := tt) (ct := ct) hz hw) (m_170x (d := d) (x := x) (y := y) (tx := tx) (it := it) (mt := mt) (tt := tt) (ct := ct) h hz hw hhx) ?_) ?_
  · intro z w p z' w' p' r1 r2 q1 q2 e hE
    have a2 : z 225 2 = z' 225 2 := mk_fo e sh_225 rfl (by have q := rd_225_2 r1; exact ⟨by omega, by omega⟩) (by have q := rd_225_2 r2; exact ⟨by omega, by omega⟩)
    have a3 : z 225 3 = z' 225 3 := mk_fo e sh_225 rfl (by have q := rd_225_3 r1; exact ⟨by omega, by omega⟩) (by have q := rd_225_3 r2; exact ⟨by omega, by omega⟩)
    have a23 : z 225 23 = z' 225 23 := mk_fo e sh_225 rfl (by have q := rd_225_23 r1; exact ⟨by omega, by omega⟩) (by have q := rd_225_23 r2; exact ⟨by omega, by omega⟩)
    have a24 : z 225 24 = z' 225 24 := mk_fo e sh_225 rfl (by have q := rd_225_24 r1; exact ⟨by omega, by omega⟩) (by have q := rd_225_24 r2; exact ⟨by omega, by omega⟩)
    have a25 : z 225 25 = z' 225 25 := mk_fo e sh_225 rfl (by have q := rd_225_25 r1; exact ⟨by omega, by omega⟩) (by have q := rd_225_25 r2; exact ⟨by omega, by omega⟩)
    have k (q : z' 225 2 = 0) : TXn h z := TX_nx e r1 r2 (TX_n (hE.2.1 q).1)
    rw [a2, a3]
    refine ⟨fun q => ⟨?_, (hE.2.1 q).2, k q⟩, ?_⟩
    · rw [a23, a24, a25]
      exact TE_r (hE.2.1 q).1
    exact fun q => TF_r (hE.2.2.1 q)
  · rintro R ⟨z, w, p, e, hs, hE, hX⟩
    exact ⟨z, w, p, e, hs, hE.1, hE.2, hX⟩

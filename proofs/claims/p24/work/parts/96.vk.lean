/-! a told ground with its points -/
theorem PTr_i {z z' : mZ} (e0 : z' 225 26 = z 225 26) (f2 : ∀ i, z' 240 i = z 240 i) (f5 : ∀ i, z' 241 i = z 241 i) (fl : FLr z) (p : PQ (z 240) (3 * z 225 26).toNat (3 * z 225 26).toNat (z' 242) (z' 225 32)) : PTr z' := by
  unfold PTr FLr rE
  rw [e0, show z' 240 = z 240 from funext f2, show z' 241 = z 241 from funext f5]
  exact ⟨p, fl⟩
theorem PTz_x {z z' : mZ} {t : Nat} (a : WTt z' t) (e0 : z t 0 = z' t 0) (e2 : z t 2 = z' t 2) (f2 : ∀ i, i < 36 → z (t + 2) i = z' (t + 2) i) (f3 : ∀ i, i < 36 → z (t + 3) i = z' (t + 3) i) (f5 : ∀ i, i < 18 → z (t + 5) i = z' (t + 5) i) (p : PTz z' t) : PTz z t := by
  have a : WT (z' t 0) (z' t 1) (z' (t + 1)) (z' (t + 2)) (z' (t + 5)) := a
  have m0 := a.m0
  have mm := a.hm
  have hE := a.hE
  have cl : ∀ c, c < (3 * z' t 0).toNat → (z' (t + 2) (bh c)).toNat < (3 * z' t 0).toNat := fun c hc => by
    have l := a.oL (bh c) (by unfold bh; split <;> omega)
    omega
  have c := ptf_c (o := z' (t + 2)) (o' := z (t + 2)) cl (fun c hc => (f2 (bh c) (by unfold bh; split <;> omega)).symm) (3 * z' t 0).toNat (Nat.le_refl _)
  obtain ⟨⟨p1, p2⟩, p3⟩ := p
  unfold PTz PQ
  rw [e0, e2, ← c]
  refine ⟨⟨fun i hi => (f3 i (by omega)).trans (p1 i hi), p2⟩, fun e he => ?_⟩
  have l := a.fL e (by omega)
  rw [f5 e (by omega), f2 _ (by omega)]
  exact p3 e he
def TYc (h : Int → Int) (z w : mZ) (t : Nat) : Prop := TXc h z w t ∧ PTz z t
theorem TYc_f {h : Int → Int} {z w z' w' : mZ} {t : Nat} (e0 : z' t 0 = z t 0) (e3 : z' t 3 = z t 3) (e4 : z' t 4 = z t 4) (eT : ∀ i, z' (t + 1) i = z (t + 1) i) (eN : ∀ j i, j < 8 → w' (t + 8 + j) i = w (t + 8 + j) i) (eC : ∀ i, z' (t + 18) i = z (t + 18) i) (eA : ∀ a i, a < 6 → z' (t + 20 + a) i = z (t + 20 + a) i) (eB : ∀ a i, a < 6 → z' (t + 27 + a) i = z (t + 27 + a) i) (e2 : z' t 2 = z t 2) (f2 : ∀ i, z' (t + 2) i = z (t + 2) i) (f3 : ∀ i, z' (t + 3) i = z (t + 3) i) (f5 : ∀ i, z' (t + 5) i = z (t + 5) i) (x : TYc h z w t) : TYc h z' w' t := ⟨TXc_f e0 e3 e4 eT eN eC eA eB x.1, PTz_f e0 e2 f2 f3 f5 x.2⟩
/-- LoopGround$Reader readGround -/
abbrev S_32d (t : Nat) : mS := [(3, 3, 3, 3), (t, t, 0, 0), (t, t, 1, 1), (t, t, 2, 2), (t, t, 3, 3), (t, t, 4, 4), (t + 4, t + 4, 0, 17), (t + 8, t + 15, 0, 17), (3, 3, 0, 0), (3, 3, 1, 1), (3, 3, 5, 5), (3, 3, 6, 6), (3, 3, 8, 8), (3, 3, 7, 7), (3, 3, 9, 9), (3, 3, 10, 10), (t + 1, t + 1, 0, 35), (t + 6, t + 6, 0, 17), (t + 5, t + 5, 0, 17), (t + 3, t + 3, 0, 35), (t + 2, t + 2, 0, 35), (t + 20, t + 25, 0, 7), (t + 27, t + 32, 0, 7), (t + 17, t + 17, 0, 5), (t + 18, t + 18, 0, 5), (t + 16, t + 16, 0, 7)]
abbrev E_32d (h : Int → Int) (a2 : Int) (t : Nat) (z0 w0 : mZ) (x y tx it mt tt ct : Option Nat) : Int → mZ → mZ → mP → Prop := fun v z w p => p = (pq x y (some 2) (some t) mt tt ct) ∧ 0 ≤ v ∧ v ≤ 1 ∧ (((z 3 7 = 2 → 0 ≤ z 3 9 ∧ z 3 9 ≤ 9999) ∧ (v = 1 → WTt z t ∧ LF z w t)) ∧ (v = 1 → TE h (z t 0) (z t 3) (z t 4) ∧ z 3 0 = 0 ∧ z 3 1 = -1 ∧ TYc h z w t) ∧ (v = 0 → TF h (z 3 0) (z 3 1) ∧ z 3 0 ≠ 0))
theorem m_32d {d : Nat} {z0 w0 : mZ} {x y tx it mt tt ct : Option Nat} (h : Int → Int) (a2 : Int) (t : Nat) (hz : rz z0) (hw : rw_ w0) (ha2 : 0 ≤ a2 ∧ a2 ≤ 1600) (ht : isT t) (hkn : (z0 3 7 = 2 → 0 ≤ z0 3 9 ∧ z0 3 9 ≤ 9999)) (hhx : hr (fun i => z0 2 i % 256) a2 = h) : wc (d + 6) 32 [.ref 3, .ref 2, .int (Int32.ofInt a2), .ref t] (mk z0 w0 (pq x y tx it mt tt ct)) (poI (S_32d t) z0 w0 (E_32d h a2 t z0 w0 x y tx it mt tt ct)) := by
  refine wc_mono (wc_3I (X := fun v z w p => v = 1 → PTz z t) (m_32c (d := d) (x := x) (y := y) (tx := tx) (it := it) (mt := mt) (tt := tt) (ct := ct) h a2 t hz hw ha2 ht hkn hhx) (m_32p (d := d) (x := x) (y := y) (tx := tx) (it := it) (mt := mt) (tt := tt) (ct := ct) a2 t hz hw ha2 ht hkn) ?_) ?_
  · intro v z w p z' w' p' r1 r2 q1 q2 e hE q
    have k := hE.2.2.2.2
    exact PTz_x (k.1 q).1 (mk_fo e (sh_T ht) rfl (by have q := rd_T_0 ht r1; exact ⟨by omega, by omega⟩) (by have q := rd_T_0 ht r2; exact ⟨by omega, by omega⟩)) (mk_fo e (sh_T ht) rfl (by have q := rd_T_2 ht r1; exact ⟨by omega, by omega⟩) (by have q := rd_T_2 ht r2; exact ⟨by omega, by omega⟩))
      (fun i hi => mk_fa e (sh_T2 ht) (by have q := rd_T2 ht r1 hi; exact ⟨by omega, by omega⟩) (by have q := rd_T2 ht r2 hi; exact ⟨by omega, by omega⟩)) (fun i hi => mk_fa e (sh_T3 ht) (by have q := rd_T3 ht r1 hi; exact ⟨by omega, by omega⟩) (by have q := rd_T3 ht r2 hi; exact ⟨by omega, by omega⟩)) (fun i hi => mk_fa e (sh_T5 ht) (by have q := rd_T5 ht r1 hi; exact ⟨by omega, by omega⟩) (by have q := rd_T5 ht r2 hi; exact ⟨by omega, by omega⟩)) (k.2 q)
  · rintro R ⟨v, z, w, p, e, hv, hs, hE, hX⟩
    obtain ⟨k1, k2, k3, k4, k5, k6⟩ := hE
    exact ⟨v, z, w, p, e, hv, hs, k1, k2, k3, k4, fun q => ⟨(k5 q).1, (k5 q).2.1, (k5 q).2.2.1, (k5 q).2.2.2, hX q⟩, k6⟩

section
/-! one heap, two readings of it: what both say of one call -/
theorem mk_ce {z w z' w' : mZ} {p p' : mP} (e : mk z w p = mk z' w' p') {a : Nat} {s : mt} (hs : msh mshl a = some s) : mce mft s (z, w, p) a = mce mft s (z', w', p') a := by
  have k1 := mk_cell mft (z, w, p) mshl a
  have k2 := mk_cell mft (z', w', p') mshl a
  have e : mkg mft (z, w, p) mshl 1 = mkg mft (z', w', p') mshl 1 := e
  rw [hs] at k1 k2
  rw [e, k2] at k1
  exact (Option.some.inj k1).symm
theorem mk_fo {z w z' w' : mZ} {p p' : mP} (e : mk z w p = mk z' w' p') {a c i : Nat} (hs : msh mshl a = some (0, c, 0)) (hf : (mft c)[i]? = some 0) (h1 : inI (z a i)) (h2 : inI (z' a i)) : z a i = z' a i := by
  have k : (Sum.inr (c, mfs (z, w, p) a (mft c) 0) : pm_E) = Sum.inr (c, mfs (z', w', p') a (mft c) 0) := mk_ce e hs
  have k3 : mfs (z, w, p) a (mft c) 0 = mfs (z', w', p') a (mft c) 0 := congrArg Prod.snd (Sum.inr.inj k)
  have k4 : (mfs (z, w, p) a (mft c) 0)[i]? = (mfs (z', w', p') a (mft c) 0)[i]? := by rw [k3]
  rw [mfs_get, mfs_get, hf] at k4
  have k5 : Value.int (Int32.ofInt (z a (0 + i))) = Value.int (Int32.ofInt (z' a (0 + i))) := Option.some.inj k4
  rw [Nat.zero_add] at k5
  have k6 : Int32.ofInt (z a i) = Int32.ofInt (z' a i) := by injection k5
  exact (ofI_eq h1 h2).mp k6
theorem wc_2I {S S' : mS} {z0 w0 : mZ} {p0 : mP} {E E' X : Int → mZ → mZ → mP → Prop} {d k : Nat} {as : List Value} (m : wc d k as (mk z0 w0 p0) (poI S z0 w0 E)) (m' : wc d k as (mk z0 w0 p0) (poI S' z0 w0 E')) (tr : ∀ v z w p z' w' p', rz z → rz z' → mk z w p = mk z' w' p' → E' v z' w' p' → X v z w p) : wc d k as (mk z0 w0 p0) (poI S z0 w0 (fun v z w p => E v z w p ∧ X v z w p)) := by
  refine wc_mono (wc_and m m') ?_
  rintro R ⟨⟨v, z, w, p, e, hv, hs, hE⟩, v', z', w', p', e', hv', hs', hE'⟩
  rw [e] at e'
  have e1 := congrArg Prod.fst e'
  have e2 : mk z w p = mk z' w' p' := congrArg Prod.snd e'
  have e3 : Value.int (Int32.ofInt v) = Value.int (Int32.ofInt v') := Option.some.inj e1
  have e4 : Int32.ofInt v = Int32.ofInt v' := by injection e3
  have e5 := (ofI_eq hv hv').mp e4
  subst e5
  exact ⟨v, z, w, p, e, hv, hs, hE, tr v z w p z' w' p' hs.1 hs'.1 e2 hE'⟩
theorem wc_2V {S S' : mS} {z0 w0 : mZ} {p0 : mP} {E E' X : mZ → mZ → mP → Prop} {d k : Nat} {as : List Value} (m : wc d k as (mk z0 w0 p0) (poV S z0 w0 E)) (m' : wc d k as (mk z0 w0 p0) (poV S' z0 w0 E')) (tr : ∀ z w p z' w' p', rz z → rz z' → mk z w p = mk z' w' p' → E' z' w' p' → X z w p) : wc d k as (mk z0 w0 p0) (poV S z0 w0 (fun z w p => E z w p ∧ X z w p)) := by
  refine wc_mono (wc_and m m') ?_
  rintro R ⟨⟨z, w, p, e, hs, hE⟩, z', w', p', e', hs', hE'⟩
  rw [e] at e'
  have e2 : mk z w p = mk z' w' p' := congrArg Prod.snd e'
  exact ⟨z, w, p, e, hs, hE, tr z w p z' w' p' hs.1 hs'.1 e2 hE'⟩
/-- at the text's end: how many PIECES, LINES, WORDS; a fault and its place -/
def TE (h : Int → Int) (a b c : Int) : Prop := ∃ k, sq h k 0 = 20 ∧ a = sq h k 3 ∧ b = sq h k 4 ∧ c = sq h k 5
def TF (h : Int → Int) (f p : Int) : Prop := ∃ k, sq h k 0 = 21 ∧ f = sq h k 1 ∧ p = sq h k 2
theorem TE_u {h : Int → Int} {a b c a' b' c' : Int} (x : TE h a b c) (y : TE h a' b' c') : a = a' ∧ b = b' ∧ c = c' := by
  obtain ⟨k, h0, e1, e2, e3⟩ := x
  obtain ⟨k', h0', e1', e2', e3'⟩ := y
  have u := sq_u (h := h) (j := k) (k := k') (by omega) (by omega)
  rw [e1, e2, e3, e1', e2', e3', u]
  exact ⟨rfl, rfl, rfl⟩
theorem TF_u {h : Int → Int} {f p f' p' : Int} (x : TF h f p) (y : TF h f' p') : f = f' ∧ p = p' := by
  obtain ⟨k, h0, e1, e2⟩ := x
  obtain ⟨k', h0', e1', e2'⟩ := y
  have u := sq_u (h := h) (j := k) (k := k') (by omega) (by omega)
  rw [e1, e2, e1', e2', u]
  exact ⟨rfl, rfl⟩
theorem TE_F {h : Int → Int} {a b c f p : Int} (x : TE h a b c) (y : TF h f p) : False := by
  obtain ⟨k, h0, _⟩ := x
  obtain ⟨k', h0', _⟩ := y
  have u := sq_u (h := h) (j := k) (k := k') (by omega) (by omega)
  rw [u] at h0
  omega
theorem TE_c {h : Int → Int} {z w : mZ} {t : Nat} (x : CEz h z w t) : TE h (z t 0) (z t 3) (z t 4) := by
  obtain ⟨k, h0, m⟩ := x
  exact ⟨k, h0, m.1.1.1, m.1.1.2.1, m.1.1.2.2.1⟩
theorem TE_r {h : Int → Int} {z w : mZ} (x : REz h z w) : TE h (z 225 23) (z 225 24) (z 225 25) := by
  obtain ⟨k, h0, m⟩ := x
  exact ⟨k, h0, m.1.1.1, m.1.1.2.1, m.1.1.2.2⟩
theorem TF_c {h : Int → Int} {z : mZ} (x : CF h z) : TF h (z 3 0) (z 3 1) := by
  obtain ⟨k, h0, e1, e2, _⟩ := x
  exact ⟨k, h0, e1, e2⟩
theorem TF_r {h : Int → Int} {z : mZ} (x : RF h z) : TF h (z 225 2) (z 225 3) := by
  obtain ⟨k, h0, e1, e2, _⟩ := x
  exact ⟨k, h0, e1, e2⟩
def TEv (h : Int → Int) (v : Int) : Prop := ∃ a c, TE h a v c
theorem TEv_u {h : Int → Int} {a b : Int} (x : TEv h a) (y : TEv h b) : a = b := by
  obtain ⟨_, _, x⟩ := x
  obtain ⟨_, _, y⟩ := y
  exact (TE_u x y).2.1
theorem TEv_F {h : Int → Int} {a f p : Int} (x : TEv h a) (y : TF h f p) : False := by
  obtain ⟨_, _, x⟩ := x
  exact TE_F x y
/-- ground's end: its fault and its place, its answer -/
def GRx (h : Int → Int) (v f p : Int) : Prop := (v = -1 ∧ f ≠ 0 ∧ TF h f p) ∨ (f = 0 ∧ p = -1 ∧ TEv h v)
theorem GRx_u {h : Int → Int} {v f p v' f' p' : Int} (x : GRx h v f p) (y : GRx h v' f' p') : v = v' ∧ f = f' ∧ p = p' := by
  rcases x with x | x <;> rcases y with y | y
  · have := TF_u x.2.2 y.2.2; omega
  · exact (TEv_F y.2.2 x.2.2).elim
  · exact (TEv_F x.2.2 y.2.2).elim
  · have := TEv_u x.2.2 y.2.2; omega
end
section
/-! methods, printed by wip/tools/vcg.py -/
/-- LoopGround fault -/
abbrev S_106w  : mS := []
abbrev E_106w (t : Nat) (a1 : Int) (z0 w0 : mZ) (x y tx it mt tt ct : Option Nat) : Int → mZ → mZ → mP → Prop := fun v z w p => p = (pq x y tx it mt tt ct) ∧ z0 = z ∧ w0 = w ∧ (-2147483648) ≤ v ∧ v ≤ 2147483647 ∧ (CV z w t ∧ (GA z0 z0 t → GA z z t) ∧ z 1 15 = z0 1 15 ∧ (a1 = 0 → v = z0 1 16) ∧ (a1 = 1 → v = z0 1 17) ∧ (a1 ≠ 0 → a1 ≠ 1 → v = -1))
theorem m_106w {d : Nat} {z0 w0 : mZ} {x y tx it mt tt ct : Option Nat} (t : Nat) (a1 : Int) (hz : rz z0) (hw : rw_ w0) (ha1 : (-2147483648) ≤ a1 ∧ a1 ≤ 2147483647) (ht : isT t) (hcv : CV z0 w0 t) : wc (d + 1) 106 [.ref 1, .int (Int32.ofInt a1)] (mk z0 w0 (pq x y tx it mt tt ct)) (poI S_106w z0 w0 (E_106w t a1 z0 w0 x y tx it mt tt ct)) := by
  have hst : st_ S_106w z0 w0 z0 w0 := st_rf hz hw
  have htb : 159 ≤ t ∧ t ≤ 192 := by have := ht; unfold isT at this; omega
  have hz5 := rd_1_15 hz
  have hz6 := rd_1_16 hz
  have hz7 := rd_1_17 hz
  refine w_m rfl rfl ?_
  refine r_ld (pc' := 1) rfl rfl rfl rfl ?_
  refine r_zne (pc' := 4) rfl rfl ⟨by omega, by omega⟩ (fun hc8 => ?_) (fun hc8 => ?_)
  · skip
    refine r_ld (pc' := 10) rfl rfl rfl rfl ?_
    refine r_c0 (pc' := 11) rfl rfl ?_
    refine r_ine (pc' := 14) rfl rfl ⟨by omega, by omega⟩ ⟨by decide, by decide⟩ (fun hc9 => ?_) (fun hc9 => ?_)
    · skip
      refine r_c0 (pc' := 22) rfl rfl ?_
      exact r_ri rfl (po_I hst ⟨by decide, by decide⟩ ⟨rfl, rfl, rfl, by omega, by omega, (by exact ⟨hcv, fun q => q, rfl, by omega, by omega, by omega⟩)⟩)
    · skip
      refine r_ld (pc' := 15) rfl rfl rfl rfl ?_
      have hb10 := rd_1_17 hz
      refine r_gi (pc' := 18) rfl rfl sh_1 rfl rfl ?_
      refine r_go rfl ?_
      exact r_ri rfl (po_I hst ⟨by omega, by omega⟩ ⟨rfl, rfl, rfl, by omega, by omega, (by exact ⟨hcv, fun q => q, rfl, by omega, by omega, by omega⟩)⟩)
  · skip
    refine r_ld (pc' := 5) rfl rfl rfl rfl ?_
    have hb11 := rd_1_16 hz
    refine r_gi (pc' := 8) rfl rfl sh_1 rfl rfl ?_
    exact r_ri rfl (po_I hst ⟨by omega, by omega⟩ ⟨rfl, rfl, rfl, by omega, by omega, (by exact ⟨hcv, fun q => q, rfl, by omega, by omega, by omega⟩)⟩)
/-- LoopGround feed -/
abbrev S_102w  : mS := [(2, 2, 0, 1599), (1, 1, 15, 15)]
abbrev E_102w (t : Nat) (a1 : Int) (a2 : Int) (a3 : Int) (a4 : Int) (a5 : Int) (z0 w0 : mZ) (x y tx it mt tt ct : Option Nat) : Int → mZ → mZ → mP → Prop := fun v z w p => p = (pq x y tx it mt tt ct) ∧ (-1) ≤ v ∧ v ≤ 1600 ∧ (CV z w t ∧ (GA z0 z0 t → GA z z t) ∧ ((1600 < z0 1 15 + 20 ∧ v = -1 ∧ z 1 15 = z0 1 15 ∧ (∀ i : Nat, (i : Int) < z0 1 15 → z 2 i = z0 2 i)) ∨ (z0 1 15 + 20 ≤ 1600 ∧ v = z0 1 15 + 20 ∧ z 1 15 = v ∧ (∀ j : Nat, j < 20 → z 2 ((z0 1 15).toNat + j) % 256 = fbs a1 a2 a3 a4 a5 j) ∧ (∀ i : Nat, (i : Int) < z0 1 15 → z 2 i = z0 2 i))))
theorem m_102w {d : Nat} {z0 w0 : mZ} {x y tx it mt tt ct : Option Nat} (t : Nat) (a1 : Int) (a2 : Int) (a3 : Int) (a4 : Int) (a5 : Int) (hz : rz z0) (hw : rw_ w0) (ha1 : (-2147483648) ≤ a1 ∧ a1 ≤ 2147483647) (ha2 : (-2147483648) ≤ a2 ∧ a2 ≤ 2147483647) (ha3 : (-2147483648) ≤ a3 ∧ a3 ≤ 2147483647) (ha4 : (-2147483648) ≤ a4 ∧ a4 ≤ 2147483647) (ha5 : (-2147483648) ≤ a5 ∧ a5 ≤ 2147483647) (ht : isT t) (hcv : CV z0 w0 t) : wc (d + 2) 102 [.ref 1, .int (Int32.ofInt a1), .int (Int32.ofInt a2), .int (Int32.ofInt a3), .int (Int32.ofInt a4), .int (Int32.ofInt a5)] (mk z0 w0 (pq x y tx it mt tt ct)) (poI S_102w z0 w0 (E_102w t a1 a2 a3 a4 a5 z0 w0 x y tx it mt tt ct)) := by
  have hst : st_ S_102w z0 w0 z0 w0 := st_rf hz hw
  have htb : 159 ≤ t ∧ t ≤ 192 := by have := ht; unfold isT at this; omega
  have hz48 := rd_1_15 hz
  refine w_m rfl rfl ?_
  refine r_ld (pc' := 1) rfl rfl rfl rfl ?_
  have hb49 := rd_1_15 hz
  refine r_gi (pc' := 4) rfl rfl sh_1 rfl rfl ?_
  refine r_cb (pc' := 6) rfl (by decide) rfl ?_
  refine r_add (pc' := 7) rfl rfl ?_
  refine r_cs (pc' := 10) rfl (by decide) rfl ?_
  refine r_ile (pc' := 13) rfl rfl ⟨by omega, by omega⟩ ⟨by decide, by decide⟩ (fun hc50 => ?_) (fun hc50 => ?_)
  · skip
    refine r_ld (pc' := 16) rfl rfl rfl rfl ?_
    refine r_ld (pc' := 17) rfl rfl rfl rfl ?_
    refine r_cVV (pc' := 20) rfl rfl rfl rfl rfl sh_1 (m_103x (d := d) a1 hst.1 hst.2.1 ⟨by omega, by omega⟩ (by first | omega | assumption)) (fun z52 w53 p54 hs56 hE57 => ?_)
    have hs58 := st_tr hst hs56 (sub_B rfl)
    obtain ⟨rfl, hE57⟩ := hE57
    have hf1 := hE57
    refine r_ld (pc' := 21) rfl rfl rfl rfl ?_
    refine r_ld (pc' := 22) rfl rfl rfl rfl ?_
    have hb59 := rd_1_15 hs58.1
    refine r_cVV (pc' := 25) rfl rfl rfl rfl rfl sh_1 (m_103x (d := d) a2 hs58.1 hs58.2.1 ⟨by omega, by omega⟩ (by first | omega | assumption)) (fun z61 w62 p63 hs65 hE66 => ?_)
    have hs67 := st_tr hs58 hs65 (sub_B rfl)
    obtain ⟨rfl, hE66⟩ := hE66
    have hf2 := hE66
    refine r_ld (pc' := 26) rfl rfl rfl rfl ?_
    refine r_ld (pc' := 27) rfl rfl rfl rfl ?_
    have hb68 := rd_1_15 hs67.1
    refine r_cVV (pc' := 30) rfl rfl rfl rfl rfl sh_1 (m_103x (d := d) a3 hs67.1 hs67.2.1 ⟨by omega, by omega⟩ (by first | omega | assumption)) (fun z70 w71 p72 hs74 hE75 => ?_)
    have hs76 := st_tr hs67 hs74 (sub_B rfl)
    obtain ⟨rfl, hE75⟩ := hE75
    have hf3 := hE75
    refine r_ld (pc' := 31) rfl rfl rfl rfl ?_
    refine r_ld (pc' := 33) rfl rfl rfl rfl ?_
    have hb77 := rd_1_15 hs76.1
    refine r_cVV (pc' := 36) rfl rfl rfl rfl rfl sh_1 (m_103x (d := d) a4 hs76.1 hs76.2.1 ⟨by omega, by omega⟩ (by first | omega | assumption)) (fun z79 w80 p81 hs83 hE84 => ?_)
    have hs85 := st_tr hs76 hs83 (sub_B rfl)
    obtain ⟨rfl, hE84⟩ := hE84
    have hf4 := hE84
    refine r_ld (pc' := 37) rfl rfl rfl rfl ?_
    refine r_ld (pc' := 39) rfl rfl rfl rfl ?_
    have hb86 := rd_1_15 hs85.1
    refine r_cVV (pc' := 42) rfl rfl rfl rfl rfl sh_1 (m_103x (d := d) a5 hs85.1 hs85.2.1 ⟨by omega, by omega⟩ (by first | omega | assumption)) (fun z88 w89 p90 hs92 hE93 => ?_)
    have hs94 := st_tr hs85 hs92 (sub_B rfl)
    obtain ⟨rfl, hE93⟩ := hE93
    have hf5 := hE93
    refine r_ld (pc' := 43) rfl rfl rfl rfl ?_
    have hb95 := rd_1_15 hs94.1
    refine r_gi (pc' := 46) rfl rfl sh_1 rfl rfl ?_
    exact r_ri rfl (po_I hs94 ⟨by omega, by omega⟩ ⟨rfl, by omega, by omega, (by exact ⟨CV_f ht hz hs94 (notS_c (by omega) (notS_c (by omega) (notS_n))) (notS_c (by omega) (notS_c (by omega) (notS_n))) (notS_c (by omega) (notS_c (by omega) (notS_n))) (notS_c (by omega) (notS_c (by omega) (notS_n))) (notS_c (by omega) (notS_c (by omega) (notS_n))) (fun i => (notS_c (by omega) (notS_c (by omega) (notS_n)))) (fun i => (notS_c (by omega) (notS_c (by omega) (notS_n)))) (fun i => (notS_c (by omega) (notS_c (by omega) (notS_n)))) (fun a h1 h2 i => (notS_c (by omega) (notS_c (by omega) (notS_n)))) (notS_c (by omega) (notS_c (by omega) (notS_n))) (notS_c (by omega) (notS_c (by omega) (notS_n))) (notS_c (by omega) (notS_c (by omega) (notS_n))) (fun a h1 h2 i => (notS_c (by omega) (notS_c (by omega) (notS_n)))) (fun a h1 h2 i => (notS_c (by omega) (notS_c (by omega) (notS_n)))) hcv, (fun hq => GA_f ht hz hs94 (notS_c (by omega) (notS_c (by omega) (notS_n))) (notS_c (by omega) (notS_c (by omega) (notS_n))) (fun i => (notS_c (by omega) (notS_c (by omega) (notS_n)))) (fun a h1 h2 i => (notS_c (by omega) (notS_c (by omega) (notS_n)))) hq), Or.inr ⟨by omega, by omega, by omega, fbs_5 (T1 := fun i => z52 2 i % 256) (T2 := fun i => z61 2 i % 256) (T3 := fun i => z70 2 i % 256) (T4 := fun i => z79 2 i % 256) (T5 := fun i => z88 2 i % 256) (fun i hi => hf1.2.1 i hi) (fun i hi => by have q := hf2.2.1 i hi; rw [show (z52 1 15).toNat = (z0 1 15).toNat + 4 by omega] at q; exact q) (fun i hi => by have q := hf3.2.1 i hi; rw [show (z61 1 15).toNat = (z0 1 15).toNat + 8 by omega] at q; exact q) (fun i hi => by have q := hf4.2.1 i hi; rw [show (z70 1 15).toNat = (z0 1 15).toNat + 12 by omega] at q; exact q) (fun i hi => by have q := hf5.2.1 i hi; rw [show (z79 1 15).toNat = (z0 1 15).toNat + 16 by omega] at q; exact q) (fun i hi => by show z61 2 i % 256 = z52 2 i % 256; rw [hf2.2.2 i (by omega)]) (fun i hi => by show z70 2 i % 256 = z61 2 i % 256; rw [hf3.2.2 i (by omega)]) (fun i hi => by show z79 2 i % 256 = z70 2 i % 256; rw [hf4.2.2 i (by omega)]) (fun i hi => by show z88 2 i % 256 = z79 2 i % 256; rw [hf5.2.2 i (by omega)]), (fun i hi => by rw [hf5.2.2 i (by omega), hf4.2.2 i (by omega), hf3.2.2 i (by omega), hf2.2.2 i (by omega), hf1.2.2 i (by omega)])⟩⟩)⟩)
  · skip
    refine r_c0 (pc' := 14) rfl rfl ?_
    exact r_ri rfl (po_I hst ⟨by decide, by decide⟩ ⟨rfl, by omega, by omega, (by exact ⟨CV_f ht hz hst (notS_c (by omega) (notS_c (by omega) (notS_n))) (notS_c (by omega) (notS_c (by omega) (notS_n))) (notS_c (by omega) (notS_c (by omega) (notS_n))) (notS_c (by omega) (notS_c (by omega) (notS_n))) (notS_c (by omega) (notS_c (by omega) (notS_n))) (fun i => (notS_c (by omega) (notS_c (by omega) (notS_n)))) (fun i => (notS_c (by omega) (notS_c (by omega) (notS_n)))) (fun i => (notS_c (by omega) (notS_c (by omega) (notS_n)))) (fun a h1 h2 i => (notS_c (by omega) (notS_c (by omega) (notS_n)))) (notS_c (by omega) (notS_c (by omega) (notS_n))) (notS_c (by omega) (notS_c (by omega) (notS_n))) (notS_c (by omega) (notS_c (by omega) (notS_n))) (fun a h1 h2 i => (notS_c (by omega) (notS_c (by omega) (notS_n)))) (fun a h1 h2 i => (notS_c (by omega) (notS_c (by omega) (notS_n)))) hcv, (fun hq => GA_f ht hz hst (notS_c (by omega) (notS_c (by omega) (notS_n))) (notS_c (by omega) (notS_c (by omega) (notS_n))) (fun i => (notS_c (by omega) (notS_c (by omega) (notS_n)))) (fun a h1 h2 i => (notS_c (by omega) (notS_c (by omega) (notS_n)))) hq), Or.inl ⟨by omega, by omega, by omega, fun i _ => rfl⟩⟩)⟩)
end
section
/-! methods, printed by wip/tools/vcg.py -/
/-- LoopGroundModel fault -/
abbrev S_172x  : mS := []
abbrev E_172x (a1 : Int) (z0 w0 : mZ) (x y tx it mt tt ct : Option Nat) : Int → mZ → mZ → mP → Prop := fun v z w p => p = (pq x y tx it mt tt ct) ∧ z0 = z ∧ w0 = w ∧ (-2147483648) ≤ v ∧ v ≤ 2147483647 ∧ ((a1 = 0 → v = z0 225 2) ∧ (a1 = 1 → v = z0 225 3) ∧ (a1 ≠ 0 → a1 ≠ 1 → v = -1))
theorem m_172x {d : Nat} {z0 w0 : mZ} {x y tx it mt tt ct : Option Nat} (a1 : Int) (hz : rz z0) (hw : rw_ w0) (ha1 : (-2147483648) ≤ a1 ∧ a1 ≤ 2147483647) : wc (d + 1) 172 [.ref 225, .int (Int32.ofInt a1)] (mk z0 w0 (pq x y tx it mt tt ct)) (poI S_172x z0 w0 (E_172x a1 z0 w0 x y tx it mt tt ct)) := by
  have hst : st_ S_172x z0 w0 z0 w0 := st_rf hz hw
  have hz5 := rd_225_2 hz
  have hz6 := rd_225_3 hz
  refine w_m rfl rfl ?_
  refine r_ld (pc' := 1) rfl rfl rfl rfl ?_
  refine r_zne (pc' := 4) rfl rfl ⟨by omega, by omega⟩ (fun hc7 => ?_) (fun hc7 => ?_)
  · skip
    refine r_ld (pc' := 12) rfl rfl rfl rfl ?_
    refine r_c0 (pc' := 13) rfl rfl ?_
    refine r_ine (pc' := 16) rfl rfl ⟨by omega, by omega⟩ ⟨by decide, by decide⟩ (fun hc8 => ?_) (fun hc8 => ?_)
    · skip
      refine r_c0 (pc' := 24) rfl rfl ?_
      exact r_ri rfl (po_I hst ⟨by decide, by decide⟩ ⟨rfl, rfl, rfl, by omega, by omega, (by exact ⟨by omega, by omega, by omega⟩)⟩)
    · skip
      refine r_ld (pc' := 17) rfl rfl rfl rfl ?_
      have hb9 := rd_225_3 hz
      refine r_gi (pc' := 20) rfl rfl sh_225 rfl rfl ?_
      refine r_go rfl ?_
      exact r_ri rfl (po_I hst ⟨by omega, by omega⟩ ⟨rfl, rfl, rfl, by omega, by omega, (by exact ⟨by omega, by omega, by omega⟩)⟩)
  · skip
    refine r_ld (pc' := 5) rfl rfl rfl rfl ?_
    have hb10 := rd_225_2 hz
    refine r_gi (pc' := 8) rfl rfl sh_225 rfl rfl ?_
    refine r_go rfl ?_
    exact r_ri rfl (po_I hst ⟨by omega, by omega⟩ ⟨rfl, rfl, rfl, by omega, by omega, (by exact ⟨by omega, by omega, by omega⟩)⟩)
end
section
/-! what is told, at the end of a reading: of both, of one text -/
theorem mk_fa {z w z' w' : mZ} {p p' : mP} (e : mk z w p = mk z' w' p') {a n i : Nat} (hs : msh mshl a = some (1, 0, n)) (h1 : inI (z a i)) (h2 : inI (z' a i)) : z a i = z' a i := by
  have k : (Sum.inl (0, n, Sum.inl (fun i => Int32.ofInt (z a i))) : pm_E) = Sum.inl (0, n, Sum.inl (fun i => Int32.ofInt (z' a i))) := mk_ce e hs
  have k2 := congrArg (fun q => q.2.2) (Sum.inl.inj k)
  have k3 := congrFun (Sum.inl.inj k2) i
  exact (ofI_eq h1 h2).mp k3
theorem mk_fl {z w z' w' : mZ} {p p' : mP} (e : mk z w p = mk z' w' p') {a n i : Nat} (hs : msh mshl a = some (1, 1, n)) (h1 : inL (w a i)) (h2 : inL (w' a i)) : w a i = w' a i := by
  have k : (Sum.inl (1, n, Sum.inr (Sum.inl (fun i => Int64.ofInt (w a i)))) : pm_E) = Sum.inl (1, n, Sum.inr (Sum.inl (fun i => Int64.ofInt (w' a i)))) := mk_ce e hs
  have k2 := congrArg (fun q => q.2.2) (Sum.inl.inj k)
  have k3 := congrFun (Sum.inl.inj (Sum.inr.inj k2)) i
  exact (ofL_eq h1 h2).mp k3
/-- the rows of a told ground, as numbers -/
def MX (s : RG) (m l w : Int) (T : Nat → Int) (N : Nat → Nat → Int) (C : Nat → Int) (A B : Nat → Nat → Int) : Prop := (m = s 3 ∧ l = s 4 ∧ w = s 5) ∧ (∀ i : Nat, i < 36 → (i : Int) < 3 * m → T i = s (100 + i)) ∧ (∀ j e : Nat, j < 8 → e < 18 → (j : Int) < l → (e : Int) < 3 * m / 2 → N j e = s (200 + 18 * j + e)) ∧ (∀ a : Nat, a < 6 → (a : Int) < w → C a = s (520 + a)) ∧ ∀ a i : Nat, a < 6 → i < 8 → (a : Int) < w → (i : Int) < C a → A a i = s (420 + 8 * a + i) ∧ B a i = s (470 + 8 * a + i)
def TX (h : Int → Int) (m l w : Int) (T : Nat → Int) (N : Nat → Nat → Int) (C : Nat → Int) (A B : Nat → Nat → Int) : Prop := ∃ k, sq h k 0 = 20 ∧ MX (sq h k) m l w T N C A B
/-- two that are told alike -/
def XX (m l w : Int) (T : Nat → Int) (N : Nat → Nat → Int) (C : Nat → Int) (A B : Nat → Nat → Int) (m' l' w' : Int) (T' : Nat → Int) (N' : Nat → Nat → Int) (C' : Nat → Int) (A' B' : Nat → Nat → Int) : Prop := (m = m' ∧ l = l' ∧ w = w') ∧ (∀ i : Nat, i < 36 → (i : Int) < 3 * m → T i = T' i) ∧ (∀ j e : Nat, j < 8 → e < 18 → (j : Int) < l → (e : Int) < 3 * m / 2 → N j e = N' j e) ∧ (∀ a : Nat, a < 6 → (a : Int) < w → C a = C' a) ∧ ∀ a i : Nat, a < 6 → i < 8 → (a : Int) < w → (i : Int) < C a → A a i = A' a i ∧ B a i = B' a i
theorem TX_u {h : Int → Int} {m l w : Int} {T : Nat → Int} {N : Nat → Nat → Int} {C : Nat → Int} {A B : Nat → Nat → Int} {m' l' w' : Int} {T' : Nat → Int} {N' : Nat → Nat → Int} {C' : Nat → Int} {A' B' : Nat → Nat → Int} (x : TX h m l w T N C A B) (y : TX h m' l' w' T' N' C' A' B') : XX m l w T N C A B m' l' w' T' N' C' A' B' := by
  obtain ⟨k, h0, x1, x2, x3, x4, x5⟩ := x
  obtain ⟨k', h0', y1, y2, y3, y4, y5⟩ := y
  have u := sq_u (h := h) (j := k) (k := k') (by omega) (by omega)
  rw [u] at x1 x2 x3 x4 x5
  have em : m = m' := x1.1.trans y1.1.symm
  have el : l = l' := x1.2.1.trans y1.2.1.symm
  have ew : w = w' := x1.2.2.trans y1.2.2.symm
  subst em el ew
  refine ⟨⟨rfl, rfl, rfl⟩, fun i h1 h2 => (x2 i h1 h2).trans (y2 i h1 h2).symm, fun j e h1 h2 h3 h4 => (x3 j e h1 h2 h3 h4).trans (y3 j e h1 h2 h3 h4).symm, fun a h1 h2 => (x4 a h1 h2).trans (y4 a h1 h2).symm, fun a i h1 h2 h3 h4 => ?_⟩
  have c := (x4 a h1 h3).trans (y4 a h1 h3).symm
  have p := x5 a i h1 h2 h3 h4
  have q := y5 a i h1 h2 h3 (by omega)
  exact ⟨p.1.trans q.1.symm, p.2.trans q.2.symm⟩
theorem TX_c {h : Int → Int} {m l w : Int} {T : Nat → Int} {N : Nat → Nat → Int} {C : Nat → Int} {A B : Nat → Nat → Int} {m' l' w' : Int} {T' : Nat → Int} {N' : Nat → Nat → Int} {C' : Nat → Int} {A' B' : Nat → Nat → Int} (x : TX h m l w T N C A B) (y : XX m' l' w' T' N' C' A' B' m l w T N C A B) : TX h m' l' w' T' N' C' A' B' := by
  obtain ⟨k, h0, x1, x2, x3, x4, x5⟩ := x
  obtain ⟨⟨em, el, ew⟩, y2, y3, y4, y5⟩ := y
  subst em el ew
  refine ⟨k, h0, x1, fun i h1 h2 => (y2 i h1 h2).trans (x2 i h1 h2), fun j e h1 h2 h3 h4 => (y3 j e h1 h2 h3 h4).trans (x3 j e h1 h2 h3 h4), fun a h1 h2 => (y4 a h1 h2).trans (x4 a h1 h2), fun a i h1 h2 h3 h4 => ?_⟩
  have c := y4 a h1 h3
  have p := y5 a i h1 h2 h3 h4
  have q := x5 a i h1 h2 h3 (by omega)
  exact ⟨p.1.trans q.1, p.2.trans q.2⟩
/-- rows of numbers are 0 behind the last EDGE -/
def ZV (s : RG) : Prop := (0 ≤ s 3 ∧ s 3 ≤ 12) ∧ (s 0 = 1 → s 3 ≤ 11) ∧ 0 ≤ s 4 ∧ 0 ≤ s 6 ∧ ∀ j e : Nat, j < 8 → e < 18 → ED s ≤ e → s (200 + 18 * j + e) = 0
theorem ZV_g {s s' : RG} (h3 : s' 3 = s 3) (h0 : s' 0 = 1 → s 3 ≤ 11) (h4 : 0 ≤ s' 4) (h6 : 0 ≤ s' 6) (hr : ∀ i : Nat, 200 ≤ i → i < 344 → s' i = s i) (v : ZV s) : ZV s' := by
  obtain ⟨v1, v2, v3, v4, v5⟩ := v
  refine ⟨by omega, fun q => by rw [h3]; exact h0 q, h4, h6, fun j e h1 h2 h5 => ?_⟩
  rw [hr _ (by omega) (by omega)]
  exact v5 j e h1 h2 (by unfold ED at *; omega)
theorem ZV_so {s : RG} (c : s 0 = 1) (v : ZV s) : ZV (su (su (su s 3 (s 3 + 1)) 6 0) 0 0) := by
  obtain ⟨v1, v2, v3, v4, v5⟩ := v
  have k := v2 c
  have e3 : (su (su (su s 3 (s 3 + 1)) 6 0) 0 0) 3 = s 3 + 1 := rfl
  refine ⟨by rw [e3]; omega, fun q => ?_, ?_, ?_, fun j e h1 h2 h5 => ?_⟩
  · have q : (0 : Int) = 1 := q
    omega
  · exact v3
  · show (0 : Int) ≤ 0
    omega
  · rw [su_n (by omega), su_n (by omega), su_n (by omega)]
    unfold ED at h5
    rw [e3] at h5
    exact v5 j e h1 h2 (by unfold ED; omega)
theorem ZV_n {s : RG} {x : Int} (c : s 0 = 7) (g : s 6 < ED s) (v : ZV s) : ZV (su (su s (200 + (18 * s 4 + s 6).toNat) x) 6 (s 6 + 1)) := by
  obtain ⟨v1, v2, v3, v4, v5⟩ := v
  unfold ED at g
  have e3 : (su (su s (200 + (18 * s 4 + s 6).toNat) x) 6 (s 6 + 1)) 3 = s 3 := by rw [su_n (by omega), su_n (by omega)]
  refine ⟨by rw [e3]; omega, fun q => ?_, ?_, ?_, fun j e h1 h2 h5 => ?_⟩
  · rw [su_n (by omega), su_n (by omega)] at q
    omega
  · rw [su_n (by omega), su_n (by omega)]; exact v3
  · rw [su_e]; omega
  · unfold ED at h5
    rw [e3] at h5
    rw [su_n (by omega), su_n (by omega)]
    exact v5 j e h1 h2 (by unfold ED; omega)
theorem ZV_flt {s : RG} {f p : Int} (v : ZV s) : ZV (flt s f p) := ZV_g (s := s) rfl (fun q => absurd (show (21 : Int) = 1 from q) (by omega)) v.2.2.1 v.2.2.2.1 (fun i h1 h2 => by unfold flt; rw [su_n (by omega), su_n (by omega), su_n (by omega)]) v
theorem ZV_bd {s : RG} {c p : Int} (v : ZV s) : ZV (bd s c p) := ZV_flt v
theorem ZV_0 : ZV (fun _ => 0) := ⟨⟨Int.le_refl 0, show (0 : Int) ≤ 12 by omega⟩, fun _ => show (0 : Int) ≤ 11 by omega, Int.le_refl 0, Int.le_refl 0, fun _ _ _ _ _ => rfl⟩
theorem ZV_s2 {s : RG} {a b : Nat} {x y : Int} (ha : a = 0 ∨ a = 10 ∨ 7 ≤ a ∧ a < 200) (hb : b = 0 ∨ b = 10 ∨ b = 6 ∨ 7 ≤ b ∧ b < 200) (n : a ≠ b) (hx : a = 0 → x ≠ 1) (hy : b = 0 → y ≠ 1) (hy6 : b = 6 → 0 ≤ y) (n0 : s 0 ≠ 1) (v : ZV s) : ZV (su (su s a x) b y) := by
  refine ZV_g ?_ (fun q => ?_) ?_ ?_ (fun i h1 h2 => ?_) v
  · rw [su_n (by omega), su_n (by omega)]
  · by_cases c : b = 0
    · subst c; rw [su_e] at q; exact absurd q (hy rfl)
    · rw [su_n (by omega)] at q
      by_cases c2 : a = 0
      · subst c2; rw [su_e] at q; exact absurd q (hx rfl)
      · rw [su_n (by omega)] at q; exact absurd q n0
  · rw [su_n (by omega), su_n (by omega)]; exact v.2.2.1
  · by_cases c : b = 6
    · subst c; rw [su_e]; exact hy6 rfl
    · rw [su_n (by omega), su_n (by omega)]; exact v.2.2.2.1
  · rw [su_n (by omega), su_n (by omega)]
theorem ZV_s3 {s : RG} {x : Int} (hx : x ≠ 1) (v : ZV s) : ZV (su (su (su s 0 x) 10 1) 6 0) := ZV_g (s := s) rfl (fun q => absurd q hx) v.2.2.1 (show (0 : Int) ≤ 0 by omega) (fun i h1 h2 => by rw [su_n (by omega), su_n (by omega), su_n (by omega)]) v
theorem ZV_p1 {s : RG} (g : s 3 < 12) (v : ZV s) : ZV (su (su s 0 1) 6 0) := ZV_g (s := s) rfl (fun _ => by omega) v.2.2.1 (show (0 : Int) ≤ 0 by omega) (fun i h1 h2 => by rw [su_n (by omega), su_n (by omega)]) v
theorem ZV_o {s : RG} {a b : Nat} {x y : Int} (ha : a < 200 ∧ 100 ≤ a) (hb : b < 200 ∧ 100 ≤ b) (c : s 0 = 1) (v : ZV s) : ZV (su (su (su s a x) b y) 6 (s 6 + 1)) := by
  have v4 := v.2.2.2.1
  refine ZV_g ?_ (fun _ => v.2.1 c) ?_ ?_ (fun i h1 h2 => ?_) v
  · rw [su_n (by omega), su_n (by omega), su_n (by omega)]
  · rw [su_n (by omega), su_n (by omega), su_n (by omega)]; exact v.2.2.1
  · rw [su_e]; omega
  · rw [su_n (by omega), su_n (by omega), su_n (by omega)]
theorem ZV_f7 {s : RG} (v : ZV s) : ZV (fin7 s) := by
  have v3 := v.2.2.1
  unfold fin7
  refine ZV_g ?_ (fun q => ?_) ?_ ?_ (fun i h1 h2 => ?_) v
  · rw [su_n (by omega), su_n (by omega), su_n (by omega), su_n (by omega)]
  · rw [su_e] at q; omega
  · rw [su_n (by omega), su_n (by omega), su_e]; omega
  · rw [su_n (by omega), su_e] <;> omega
  · rw [su_n (by omega), su_n (by omega), su_n (by omega), su_n (by omega)]
theorem ZV_f10 {s : RG} (v : ZV s) : ZV (fin10 s) := by
  unfold fin10
  refine ZV_g ?_ (fun q => ?_) ?_ ?_ (fun i h1 h2 => ?_) v
  · rw [su_n (by omega), su_n (by omega), su_n (by omega), su_n (by omega), su_n (by omega)]
  · rw [su_e] at q; omega
  · rw [su_n (by omega), su_n (by omega), su_n (by omega), su_n (by omega), su_n (by omega)]; exact v.2.2.1
  · rw [su_n (by omega), su_e] <;> omega
  · rw [su_n (by omega), su_n (by omega), su_n (by omega), su_n (by omega), su_n (by omega)]
theorem ZV_at {s : RG} {x : Int} (v : ZV s) : ZV (adt s x) := by
  have v4 := v.2.2.2.1
  unfold adt
  refine ZV_g ?_ (fun q => ?_) ?_ ?_ (fun i h1 h2 => ?_) v
  · rw [su_n (by omega), su_n (by omega), su_n (by omega), su_n (by omega)]
  · rw [su_e] at q; omega
  · rw [su_n (by omega), su_n (by omega), su_n (by omega), su_n (by omega)]; exact v.2.2.1
  · rw [su_n (by omega), su_e] <;> omega
  · rw [su_n (by omega), su_n (by omega), su_n (by omega), su_n (by omega)]
theorem ZV_ifp {P : Prop} {a b : RG} (h1 : ZV a) (h2 : ZV b) : ZV (ifp P a b) := by
  by_cases c : P
  · rw [ifp_t c]; exact h1
  · rw [ifp_f c]; exact h2
theorem ZV_ite {P : Prop} {_ : Decidable P} {a b : RG} (h1 : P → ZV a) (h2 : ¬ P → ZV b) : ZV (if P then a else b) := by
  by_cases c : P
  · rw [if_pos c]; exact h1 c
  · rw [if_neg c]; exact h2 c
theorem ZV_dl {h : Int → Int} {s : RG} {p : Int} (v : ZV s) : ZV (dl h s p) := by
  have v1 := v.1
  have v4 := v.2.2.2.1
  unfold dl
  refine ZV_ite (fun c => ?_) (fun _ => ZV_ite (fun c => ?_) (fun _ => ZV_ite (fun c => ?_) (fun _ => ZV_ite (fun c => ?_) (fun _ => ZV_ite (fun c => ?_) (fun _ => ZV_ite (fun c => ?_) (fun _ => ZV_ite (fun c => ?_) (fun _ => ZV_ite (fun c => ?_) (fun _ => ZV_ite (fun c => ?_) (fun _ => ZV_ite (fun c => ?_) (fun _ => v))))))))))
  · unfold d0
    refine ZV_ite (fun _ => ZV_ifp (ZV_s2 (by omega) (by omega) (by omega) (by omega) (by omega) (by omega) (by omega) v) (ZV_flt v)) (fun _ => ZV_ite (fun _ => ZV_ite (fun _ => ZV_bd v) (fun g => ZV_p1 (by omega) v)) (fun _ => ZV_ite (fun _ => ZV_ifp (ZV_ite (fun _ => ZV_bd v) (fun _ => ZV_s3 (by omega) v)) (ZV_flt v)) (fun _ => ZV_ite (fun _ => ZV_ifp (ZV_ite (fun _ => ZV_bd v) (fun _ => ZV_s3 (by omega) v)) (ZV_flt v)) (fun _ => ZV_bd v))))
  · unfold d1
    have v2 := v.2.1 c
    exact ZV_ite (fun g => ZV_ite (fun _ => ZV_bd v) (fun _ => ZV_ite (fun _ => ZV_flt v) (fun g2 => ZV_ite (fun _ => ZV_flt v) (fun _ => ZV_o (by omega) (by omega) c v)))) (fun _ => ZV_ite (fun _ => ZV_bd v) (fun _ => ZV_so c v))
  · unfold d5
    exact ZV_ite (fun _ => ZV_bd v) (fun _ => ZV_ifp (ZV_flt v) (ZV_s2 (by omega) (by omega) (by omega) (by omega) (by omega) (by omega) (by omega) v))
  · unfold d6
    exact ZV_ite (fun _ => ZV_bd v) (fun _ => ZV_g (s := s) rfl (fun q => absurd (show (7 : Int) = 1 from q) (by omega)) v.2.2.1 v4 (fun i h1 h2 => by rw [su_n (by omega)]) v)
  · unfold d7
    exact ZV_ite (fun _ => ZV_ite (fun _ => ZV_bd v) (fun g => ZV_ite (fun _ => ZV_flt v) (fun _ => ZV_n c (by omega) v))) (fun _ => ZV_ite (fun _ => ZV_ite (fun _ => ZV_bd v) (fun _ => ZV_ifp (ZV_f7 v) (ZV_flt v))) (fun _ => ZV_bd v))
  · unfold d8
    exact ZV_ite (fun _ => ZV_bd v) (fun _ => ZV_ifp (ZV_flt v) (ZV_s2 (by omega) (by omega) (by omega) (by omega) (by omega) (by omega) (by omega) v))
  · unfold d9
    exact ZV_ite (fun _ => ZV_bd v) (fun _ => ZV_g (s := s) rfl (fun q => absurd (show (10 : Int) = 1 from q) (by omega)) v.2.2.1 v4 (fun i h1 h2 => by rw [su_n (by omega)]) v)
  · unfold d10
    exact ZV_ite (fun _ => ZV_f10 v) (fun _ => ZV_ite (fun _ => ZV_bd v) (fun _ => ZV_ite (fun _ => ZV_flt v) (fun _ => ZV_s2 (by omega) (by omega) (by omega) (by omega) (by omega) (by omega) (by omega) v)))
  · unfold d11
    exact ZV_ite (fun _ => ZV_s2 (by omega) (by omega) (by omega) (by omega) (by omega) (by omega) (by omega) v) (fun _ => ZV_ite (fun _ => ZV_ite (fun _ => ZV_flt v) (fun _ => ZV_at v)) (fun _ => ZV_bd v))
  · unfold d12
    exact ZV_ite (fun _ => ZV_bd v) (fun _ => ZV_ite (fun _ => ZV_flt v) (fun _ => ZV_at v))
theorem ZV_sq (h : Int → Int) : ∀ k, ZV (sq h k)
  | 0 => ZV_0
  | k + 1 => ZV_dl (ZV_sq h k)
/-- the class's told ground; the reference's rows as read, as they lie -/
def TZ (z w : mZ) (t : Nat) : Prop := ∀ j e : Nat, j < 8 → e < 18 → (j : Int) < z t 3 → 3 * z t 0 / 2 ≤ e → w (t + 8 + j) e = 0
def TXc (h : Int → Int) (z w : mZ) (t : Nat) : Prop := TX h (z t 0) (z t 3) (z t 4) (z (t + 1)) (fun j e => w (t + 8 + j) e) (z (t + 18)) (fun a i => z (t + 20 + a) i) (fun a i => z (t + 27 + a) i) ∧ TZ z w t
abbrev TXn (h : Int → Int) (z : mZ) : Prop := TX h (z 225 23) (z 225 24) (z 225 25) (z 229) (fun j e => z 231 (18 * j + e)) (z 234) (fun a i => z 232 (8 * a + i)) (fun a i => z 233 (8 * a + i))
abbrev TXr (h : Int → Int) (z : mZ) : Prop := TX h (z 225 26) (z 225 27) (z 225 28) (z 235) (fun j e => z 236 (18 * j + e)) (z 239) (fun a i => z 237 (8 * a + i)) (fun a i => z 238 (8 * a + i))
theorem TX_k {h : Int → Int} {z w : mZ} {t : Nat} (x : CEz h z w t) (n4 : z t 3 ≤ 8) : TXc h z w t := by
  obtain ⟨k, h0, m⟩ := x
  have c0 : cs (sq h k) = 0 := if_neg (by omega)
  obtain ⟨⟨k1, _⟩, k2, k3, _, k5⟩ := m
  have zv := ZV_sq h k
  refine ⟨⟨k, h0, ⟨k1.1, k1.2.1, k1.2.2.1⟩, fun i h1 h2 => k2.1 i h1 (by rw [← k1.1]; omega), fun j e h1 h2 _ _ => k3 j e h1 h2, fun a h1 h2 => k5.1 a (by rw [← k1.2.2.1]; exact h2), fun a i h1 h2 h3 h4 => ?_⟩, fun j e h1 h2 _ h4 => (k3 j e h1 h2).trans (zv.2.2.2.2 j e h1 h2 (by unfold ED; rw [← k1.1]; exact h4))⟩
  have h3' : (a : Int) < sq h k 5 := by rw [← k1.2.2.1]; exact h3
  rw [k5.1 a h3'] at h4
  exact k5.2 a i ⟨⟨h1, h2⟩, Or.inl ⟨h3', h4⟩⟩
theorem TX_n {h : Int → Int} {z w : mZ} (x : REz h z w) : TXn h z := by
  obtain ⟨k, h0, m⟩ := x
  have c0 : cs (sq h k) = 0 := if_neg (by omega)
  obtain ⟨k1, k2, k5⟩ := m
  have e3 := k1.1.1
  have e4 := k1.1.2.1
  have e5 := k1.1.2.2
  refine ⟨k, h0, k1.1, fun i h1 h2 => k1.2.1 i h1 (by rw [← e3]; omega), fun j e h1 h2 h3 h4 => k2.1 j e ⟨⟨h1, h2⟩, Or.inl ⟨by rw [← e4]; exact h3, by show (e : Int) < 3 * sq h k 3 / 2; rw [← e3]; exact h4⟩⟩, fun a h1 h2 => k5.1 a (by rw [← e5]; exact h2), fun a i h1 h2 h3 h4 => ?_⟩
  have h3' : (a : Int) < sq h k 5 := by rw [← e5]; exact h3
  rw [k5.1 a h3'] at h4
  exact k5.2 a i ⟨⟨h1, h2⟩, Or.inl ⟨h3', h4⟩⟩
/-- through equal heaps -/
theorem TX_kx {h : Int → Int} {z w z' w' : mZ} {p p' : mP} {t : Nat} (ht : isT t) (e : mk z w p = mk z' w' p') (r1 : rz z) (r2 : rz z') (q1 : rw_ w) (q2 : rw_ w') (x : TXc h z' w' t) : TXc h z w t := by
  have e0 : z t 0 = z' t 0 := mk_fo e (sh_T ht) rfl (by have q := rd_T_0 ht r1; exact ⟨by omega, by omega⟩) (by have q := rd_T_0 ht r2; exact ⟨by omega, by omega⟩)
  have e3 : z t 3 = z' t 3 := mk_fo e (sh_T ht) rfl (by have q := rd_T_3 ht r1; exact ⟨by omega, by omega⟩) (by have q := rd_T_3 ht r2; exact ⟨by omega, by omega⟩)
  have eN : ∀ j e' : Nat, j < 8 → e' < 18 → w (t + 8 + j) e' = w' (t + 8 + j) e' := fun j e' h1 h2 => mk_fl e (sh_T8 ht h1) (by have q := rd_T8 ht h1 q1 h2; exact ⟨by omega, by omega⟩) (by have q := rd_T8 ht h1 q2 h2; exact ⟨by omega, by omega⟩)
  refine ⟨TX_c x.1 ⟨⟨?_, ?_, ?_⟩, fun i h1 _ => ?_, fun j e' h1 h2 _ _ => ?_, fun a h1 _ => ?_, fun a i h1 h2 _ _ => ⟨?_, ?_⟩⟩, fun j e' h1 h2 h3 h4 => (eN j e' h1 h2).trans (x.2 j e' h1 h2 (by omega) (by omega))⟩
  · exact e0
  · exact e3
  · exact mk_fo e (sh_T ht) rfl (by have q := rd_T_4 ht r1; exact ⟨by omega, by omega⟩) (by have q := rd_T_4 ht r2; exact ⟨by omega, by omega⟩)
  · exact mk_fa e (sh_T1 ht) (by have q := rd_T1 ht r1 h1; exact ⟨by omega, by omega⟩) (by have q := rd_T1 ht r2 h1; exact ⟨by omega, by omega⟩)
  · exact eN j e' h1 h2
  · exact mk_fa e (sh_T18 ht) (by have q := rd_T18 ht r1 h1; exact ⟨by omega, by omega⟩) (by have q := rd_T18 ht r2 h1; exact ⟨by omega, by omega⟩)
  · exact mk_fa e (sh_T20 ht h1) (by have q := rd_T20 ht h1 r1 h2; exact ⟨by omega, by omega⟩) (by have q := rd_T20 ht h1 r2 h2; exact ⟨by omega, by omega⟩)
  · exact mk_fa e (sh_T27 ht h1) (by have q := rd_T27 ht h1 r1 h2; exact ⟨by omega, by omega⟩) (by have q := rd_T27 ht h1 r2 h2; exact ⟨by omega, by omega⟩)
theorem TX_nx {h : Int → Int} {z w z' w' : mZ} {p p' : mP} (e : mk z w p = mk z' w' p') (r1 : rz z) (r2 : rz z') (x : TXn h z') : TXn h z := by
  refine TX_c x ⟨⟨?_, ?_, ?_⟩, fun i h1 _ => ?_, fun j e' h1 h2 _ _ => ?_, fun a h1 _ => ?_, fun a i h1 h2 _ _ => ⟨?_, ?_⟩⟩
  · exact mk_fo e sh_225 rfl (by have q := rd_225_23 r1; exact ⟨by omega, by omega⟩) (by have q := rd_225_23 r2; exact ⟨by omega, by omega⟩)
  · exact mk_fo e sh_225 rfl (by have q := rd_225_24 r1; exact ⟨by omega, by omega⟩) (by have q := rd_225_24 r2; exact ⟨by omega, by omega⟩)
  · exact mk_fo e sh_225 rfl (by have q := rd_225_25 r1; exact ⟨by omega, by omega⟩) (by have q := rd_225_25 r2; exact ⟨by omega, by omega⟩)
  · exact mk_fa e sh_229 (by have q := rd_229 r1 h1; exact ⟨by omega, by omega⟩) (by have q := rd_229 r2 h1; exact ⟨by omega, by omega⟩)
  · exact mk_fa e sh_231 (by have q := rd_231 r1 (i := 18 * j + e') (by omega); exact ⟨by omega, by omega⟩) (by have q := rd_231 r2 (i := 18 * j + e') (by omega); exact ⟨by omega, by omega⟩)
  · exact mk_fa e sh_234 (by have q := rd_234 r1 h1; exact ⟨by omega, by omega⟩) (by have q := rd_234 r2 h1; exact ⟨by omega, by omega⟩)
  · exact mk_fa e sh_232 (by have q := rd_232 r1 (i := 8 * a + i) (by omega); exact ⟨by omega, by omega⟩) (by have q := rd_232 r2 (i := 8 * a + i) (by omega); exact ⟨by omega, by omega⟩)
  · exact mk_fa e sh_233 (by have q := rd_233 r1 (i := 8 * a + i) (by omega); exact ⟨by omega, by omega⟩) (by have q := rd_233 r2 (i := 8 * a + i) (by omega); exact ⟨by omega, by omega⟩)
end
section
/-! both readings of readGround, of readAll, together: with what is told -/
theorem wc_3I {S S' : mS} {z0 w0 : mZ} {p0 : mP} {E E' X : Int → mZ → mZ → mP → Prop} {d k : Nat} {as : List Value} (m : wc d k as (mk z0 w0 p0) (poI S z0 w0 E)) (m' : wc d k as (mk z0 w0 p0) (poI S' z0 w0 E')) (tr : ∀ v z w p z' w' p', rz z → rz z' → rw_ w → rw_ w' → mk z w p = mk z' w' p' → E' v z' w' p' → X v z w p) : wc d k as (mk z0 w0 p0) (poI S z0 w0 (fun v z w p => E v z w p ∧ X v z w p)) := by
  refine wc_mono (wc_and m m') ?_
  rintro R ⟨⟨v, z, w, p, e, hv, hs, hE⟩, v', z', w', p', e', hv', hs', hE'⟩
  rw [e] at e'
  have e1 := congrArg Prod.fst e'
  have e2 : mk z w p = mk z' w' p' := congrArg Prod.snd e'
  have e3 : Value.int (Int32.ofInt v) = Value.int (Int32.ofInt v') := Option.some.inj e1
  have e4 : Int32.ofInt v = Int32.ofInt v' := by injection e3
  have e5 := (ofI_eq hv hv').mp e4
  subst e5
  exact ⟨v, z, w, p, e, hv, hs, hE, tr v z w p z' w' p' hs.1 hs'.1 hs.2.1 hs'.2.1 e2 hE'⟩
theorem wc_3V {S S' : mS} {z0 w0 : mZ} {p0 : mP} {E E' X : mZ → mZ → mP → Prop} {d k : Nat} {as : List Value} (m : wc d k as (mk z0 w0 p0) (poV S z0 w0 E)) (m' : wc d k as (mk z0 w0 p0) (poV S' z0 w0 E')) (tr : ∀ z w p z' w' p', rz z → rz z' → rw_ w → rw_ w' → mk z w p = mk z' w' p' → E' z' w' p' → X z w p) : wc d k as (mk z0 w0 p0) (poV S z0 w0 (fun z w p => E z w p ∧ X z w p)) := by
  refine wc_mono (wc_and m m') ?_
  rintro R ⟨⟨z, w, p, e, hs, hE⟩, z', w', p', e', hs', hE'⟩
  rw [e] at e'
  have e2 : mk z w p = mk z' w' p' := congrArg Prod.snd e'
  exact ⟨z, w, p, e, hs, hE, tr z w p z' w' p' hs.1 hs'.1 hs.2.1 hs'.2.1 e2 hE'⟩
abbrev S_32c (t : Nat) : mS := [(3, 3, 3, 3), (t, t, 0, 0), (t, t, 1, 1), (t, t, 2, 2), (t, t, 3, 3), (t, t, 4, 4), (t + 4, t + 4, 0, 17), (t + 8, t + 15, 0, 17), (3, 3, 0, 0), (3, 3, 1, 1), (3, 3, 5, 5), (3, 3, 6, 6), (3, 3, 8, 8), (3, 3, 7, 7), (3, 3, 9, 9), (3, 3, 10, 10), (t + 1, t + 1, 0, 35), (t + 6, t + 6, 0, 17), (t + 5, t + 5, 0, 17), (t + 3, t + 3, 0, 35), (t + 2, t + 2, 0, 35), (t + 20, t + 25, 0, 7), (t + 27, t + 32, 0, 7), (t + 17, t + 17, 0, 5), (t + 18, t + 18, 0, 5), (t + 16, t + 16, 0, 7)]
abbrev E_32c (h : Int → Int) (a2 : Int) (t : Nat) (z0 w0 : mZ) (x y tx it mt tt ct : Option Nat) : Int → mZ → mZ → mP → Prop := fun v z w p => p = (pq x y (some 2) (some t) mt tt ct) ∧ 0 ≤ v ∧ v ≤ 1 ∧ (((z 3 7 = 2 → 0 ≤ z 3 9 ∧ z 3 9 ≤ 9999) ∧ (v = 1 → WTt z t ∧ LF z w t)) ∧ (v = 1 → TE h (z t 0) (z t 3) (z t 4) ∧ z 3 0 = 0 ∧ z 3 1 = -1 ∧ TXc h z w t) ∧ (v = 0 → TF h (z 3 0) (z 3 1) ∧ z 3 0 ≠ 0))
theorem m_32c {d : Nat} {z0 w0 : mZ} {x y tx it mt tt ct : Option Nat} (h : Int → Int) (a2 : Int) (t : Nat) (hz : rz z0) (hw : rw_ w0) (ha2 : 0 ≤ a2 ∧ a2 ≤ 1600) (ht : isT t) (hkn : (z0 3 7 = 2 → 0 ≤ z0 3 9 ∧ z0 3 9 ≤ 9999)) (hhx : hr (fun i => z0 2 i % 256) a2 = h) : wc (d + 6) 32 [.ref 3, .ref 2, .int (Int32.ofInt a2), .ref t] (mk z0 w0 (pq x y tx it mt tt ct)) (poI (S_32c t) z0 w0 (E_32c h a2 t z0 w0 x y tx it mt tt ct)) := by
  refine wc_mono (wc_3I (X := fun v z w p => (v = 1 → TE h (z t 0) (z t 3) (z t 4) ∧ z 3 0 = 0 ∧ z 3 1 = -1 ∧ TXc h z w t) ∧ (v = 0 → TF h (z 3 0) (z 3 1) ∧ z 3 0 ≠ 0)) (m_32 (d := d) (x := x) (y := y) (tx := tx) (it := it) (mt := mt) (tt := tt) (ct := ct) a2 t hz hw ha2 ht hkn) (m_32x (d := d) (x := x) (y := y) (tx := tx) (it := it) (mt := mt) (tt := tt) (ct := ct) h a2 t hz hw ha2 ht hhx) ?_) ?_
  · intro v z w p z' w' p' r1 r2 q1 q2 e hE
    have a0 : z 3 0 = z' 3 0 := mk_fo e sh_3 rfl (by have q := rd_3_0 r1; exact ⟨by omega, by omega⟩) (by have q := rd_3_0 r2; exact ⟨by omega, by omega⟩)
    have a1 : z 3 1 = z' 3 1 := mk_fo e sh_3 rfl (by have q := rd_3_1 r1; exact ⟨by omega, by omega⟩) (by have q := rd_3_1 r2; exact ⟨by omega, by omega⟩)
    have t0 : z t 0 = z' t 0 := mk_fo e (sh_T ht) rfl (by have q := rd_T_0 ht r1; exact ⟨by omega, by omega⟩) (by have q := rd_T_0 ht r2; exact ⟨by omega, by omega⟩)
    have t3 : z t 3 = z' t 3 := mk_fo e (sh_T ht) rfl (by have q := rd_T_3 ht r1; exact ⟨by omega, by omega⟩) (by have q := rd_T_3 ht r2; exact ⟨by omega, by omega⟩)
    have t4 : z t 4 = z' t 4 := mk_fo e (sh_T ht) rfl (by have q := rd_T_4 ht r1; exact ⟨by omega, by omega⟩) (by have q := rd_T_4 ht r2; exact ⟨by omega, by omega⟩)
    have n4 : z' t 3 ≤ 8 := (rd_T_3 ht r2).2
    have k (q : v = 1) : TXc h z w t := TX_kx ht e r1 r2 q1 q2 (TX_k (hE.2.2.2.1 q).1 n4)
    rw [a0, a1]
    refine ⟨fun q => ⟨?_, (hE.2.2.2.1 q).2.1, (hE.2.2.2.1 q).2.2, k q⟩, ?_⟩
    · rw [t0, t3, t4]
      exact TE_c (hE.2.2.2.1 q).1
    exact fun q => ⟨TF_c (hE.2.2.2.2 q), CF_n (hE.2.2.2.2 q)⟩
  · rintro R ⟨v, z, w, p, e, hv, hs, hE, hX⟩
    exact ⟨v, z, w, p, e, hv, hs, hE.1, hE.2.1, hE.2.2.1, hE.2.2.2, hX⟩
abbrev S_170c  : mS := [(225, 225, 5, 5), (225, 225, 1, 1), (225, 225, 4, 4), (225, 225, 2, 2), (225, 225, 3, 3), (225, 225, 23, 23), (225, 225, 24, 24), (225, 225, 25, 25), (225, 225, 7, 7), (225, 225, 9, 9), (225, 225, 8, 8), (225, 225, 6, 6), (230, 230, 0, 17), (232, 232, 0, 47), (233, 233, 0, 47), (228, 228, 0, 5), (234, 234, 0, 5), (231, 231, 0, 143), (227, 227, 0, 7), (229, 229, 0, 35)]
abbrev E_170c (h : Int → Int) (z0 w0 : mZ) (x y tx it mt tt ct : Option Nat) : mZ → mZ → mP → Prop := fun z w p => p = (pq x y tx it mt tt ct) ∧ (((z 225 2 = 0 → WHn z ∧ LFn z ∧ WDn z) ∧ z 225 1 = 0) ∧ (z 225 2 = 0 → TE h (z 225 23) (z 225 24) (z 225 25) ∧ z 225 3 = -1 ∧ TXn h z) ∧ (0 < z 225 2 → TF h (z 225 2) (z 225 3)))
theorem m_170c {d : Nat} {z0 w0 : mZ} {x y tx it mt tt ct : Option Nat} (h : Int → Int) (hz : rz z0) (hw : rw_ w0) (hhx : hr (z0 226) (z0 225 1) = h) : wc (d + 6) 170 [.ref 225] (mk z0 w0 (pq x y tx it mt tt ct)) (poV S_170c z0 w0 (E_170c h z0 w0 x y tx it mt tt ct)) := by
  refine wc_mono (wc_3V (X := fun z w p => (z 225 2 = 0 → TE h (z 225 23) (z 225 24) (z 225 25) ∧ z 225 3 = -1 ∧ TXn h z) ∧ (0 < z 225 2 → TF h (z 225 2) (z 225 3))) (m_170v (d := d) (x := x) (y := y) (tx := tx) (it := it) (mt := mt) (tt := tt) (ct := ct) hz hw) (m_170x (d := d) (x := x) (y := y) (tx := tx) (it := it) (mt := mt) (tt := tt) (ct := ct) h hz hw hhx) ?_) ?_
  · intro z w p z' w' p' r1 r2 q1 q2 e hE
    have a2 : z 225 2 = z' 225 2 := mk_fo e sh_225 rfl (by have q := rd_225_2 r1; exact ⟨by omega, by omega⟩) (by have q := rd_225_2 r2; exact ⟨by omega, by omega⟩)
    have a3 : z 225 3 = z' 225 3 := mk_fo e sh_225 rfl (by have q := rd_225_3 r1; exact ⟨by omega, by omega⟩) (by have q := rd_225_3 r2; exact ⟨by omega, by omega⟩)
    have a23 : z 225 23 = z' 225 23 := mk_fo e sh_225 rfl (by have q := rd_225_23 r1; exact ⟨by omega, by omega⟩) (by have q := rd_225_23 r2; exact ⟨by omega, by omega⟩)
    have a24 : z 225 24 = z' 225 24 := mk_fo e sh_225 rfl (by have q := rd_225_24 r1; exact ⟨by omega, by omega⟩) (by have q := rd_225_24 r2; exact ⟨by omega, by omega⟩)
    have a25 : z 225 25 = z' 225 25 := mk_fo e sh_225 rfl (by have q := rd_225_25 r1; exact ⟨by omega, by omega⟩) (by have q := rd_225_25 r2; exact ⟨by omega, by omega⟩)
    have k (q : z' 225 2 = 0) : TXn h z := TX_nx e r1 r2 (TX_n (hE.2.1 q).1)
    rw [a2, a3]
    refine ⟨fun q => ⟨?_, (hE.2.1 q).2, k q⟩, ?_⟩
    · rw [a23, a24, a25]
      exact TE_r (hE.2.1 q).1
    exact fun q => TF_r (hE.2.2.1 q)
  · rintro R ⟨z, w, p, e, hs, hE, hX⟩
    exact ⟨z, w, p, e, hs, hE.1, hE.2, hX⟩
end
section
/-! frames of what is told -/
theorem XX_r {m l w m' l' w' : Int} {T T' : Nat → Int} {N N' : Nat → Nat → Int} {C C' : Nat → Int} {A A' B B' : Nat → Nat → Int} (em : m = m') (el : l = l') (ew : w = w') (eT : ∀ i : Nat, i < 36 → T i = T' i) (eN : ∀ j e : Nat, j < 8 → e < 18 → N j e = N' j e) (eC : ∀ a : Nat, a < 6 → C a = C' a) (eA : ∀ a i : Nat, a < 6 → i < 8 → A a i = A' a i) (eB : ∀ a i : Nat, a < 6 → i < 8 → B a i = B' a i) : XX m l w T N C A B m' l' w' T' N' C' A' B' :=
  ⟨⟨em, el, ew⟩, fun i h _ => eT i h, fun j e h1 h2 _ _ => eN j e h1 h2, fun a h _ => eC a h, fun a i h1 h2 _ _ => ⟨eA a i h1 h2, eB a i h1 h2⟩⟩
theorem TXc_f {h : Int → Int} {z w z' w' : mZ} {t : Nat} (e0 : z' t 0 = z t 0) (e3 : z' t 3 = z t 3) (e4 : z' t 4 = z t 4) (eT : ∀ i, z' (t + 1) i = z (t + 1) i) (eN : ∀ j i, j < 8 → w' (t + 8 + j) i = w (t + 8 + j) i) (eC : ∀ i, z' (t + 18) i = z (t + 18) i) (eA : ∀ a i, a < 6 → z' (t + 20 + a) i = z (t + 20 + a) i) (eB : ∀ a i, a < 6 → z' (t + 27 + a) i = z (t + 27 + a) i) (x : TXc h z w t) : TXc h z' w' t :=
  ⟨TX_c x.1 (XX_r e0 e3 e4 (fun i _ => eT i) (fun j e h1 _ => eN j e h1) (fun a _ => eC a) (fun a i h1 _ => eA a i h1) (fun a i h1 _ => eB a i h1)), fun j e h1 h2 h3 h4 => (eN j e h1).trans (x.2 j e h1 h2 (by omega) (by omega))⟩
theorem TXn_f {h : Int → Int} {z z' : mZ} (e0 : z' 225 23 = z 225 23) (e3 : z' 225 24 = z 225 24) (e4 : z' 225 25 = z 225 25) (eT : ∀ i, z' 229 i = z 229 i) (eN : ∀ i, z' 231 i = z 231 i) (eC : ∀ i, z' 234 i = z 234 i) (eA : ∀ i, z' 232 i = z 232 i) (eB : ∀ i, z' 233 i = z 233 i) (x : TXn h z) : TXn h z' :=
  TX_c x (XX_r e0 e3 e4 (fun i _ => eT i) (fun j e _ _ => eN _) (fun a _ => eC a) (fun a i _ _ => eA _) (fun a i _ _ => eB _))
theorem TXr_f {h : Int → Int} {z z' : mZ} (e0 : z' 225 26 = z 225 26) (e3 : z' 225 27 = z 225 27) (e4 : z' 225 28 = z 225 28) (eT : ∀ i, z' 235 i = z 235 i) (eN : ∀ i, z' 236 i = z 236 i) (eC : ∀ i, z' 239 i = z 239 i) (eA : ∀ i, z' 237 i = z 237 i) (eB : ∀ i, z' 238 i = z 238 i) (x : TXr h z) : TXr h z' :=
  TX_c x (XX_r e0 e3 e4 (fun i _ => eT i) (fun j e _ _ => eN _) (fun a _ => eC a) (fun a i _ _ => eA _) (fun a i _ _ => eB _))
theorem TXr_n {h : Int → Int} {z : mZ} (e0 : z 225 26 = z 225 23) (e3 : z 225 27 = z 225 24) (e4 : z 225 28 = z 225 25) (eT : ∀ i : Nat, (i : Int) < 36 → z 235 i = z 229 i) (eN : ∀ i : Nat, (i : Int) < 144 → z 236 i = z 231 i) (eC : ∀ i : Nat, (i : Int) < 6 → z 239 i = z 234 i) (eA : ∀ i : Nat, (i : Int) < 48 → z 237 i = z 232 i) (eB : ∀ i : Nat, (i : Int) < 48 → z 238 i = z 233 i) (x : TXn h z) : TXr h z :=
  TX_c x (XX_r e0 e3 e4 (fun i h => eT i (by omega)) (fun j e h1 h2 => eN _ (by omega)) (fun a h => eC a (by omega)) (fun a i h1 h2 => eA _ (by omega)) (fun a i h1 h2 => eB _ (by omega)))
end
section
/-! points, as a pure function of how the SIDES lie over one another -/
theorem tr_c {E E' : Int} {f g : Nat → Int} {j : Nat} (e : E = E') (h : f j = g j) : tr E f j = tr E' g j := by
  subst e
  unfold tr
  rw [h]
def cn1 (f : Nat → Int) : Nat → Int
  | 0 => 0
  | n + 1 => cn1 f n + (if f n = -1 then 1 else 0)
theorem cn1_b (f : Nat → Int) : ∀ n : Nat, 0 ≤ cn1 f n ∧ cn1 f n ≤ n
  | 0 => ⟨Int.le_refl _, Int.le_refl _⟩
  | n + 1 => by
    have := cn1_b f n
    unfold cn1
    split <;> omega
theorem cn1_c {f g : Nat → Int} : ∀ n : Nat, (∀ j, j < n → g j = f j) → cn1 g n = cn1 f n
  | 0, _ => rfl
  | n + 1, h => by
    unfold cn1
    rw [cn1_c n (fun j hj => h j (by omega)), h n (by omega)]
theorem cn1_w {f g : Nat → Int} {i : Nat} (h : ∀ j, j ≠ i → g j = f j) (h1 : f i = -1) (h2 : g i ≠ -1) : ∀ n : Nat, i < n → cn1 g n = cn1 f n - 1
  | 0, q => absurd q (by omega)
  | n + 1, q => by
    unfold cn1
    by_cases e : i = n
    · subst e
      rw [cn1_c i (fun j hj => h j (by omega)), if_pos h1, if_neg h2]
      omega
    · rw [cn1_w h h1 h2 n (by omega), h n (fun q => e q.symm)]
      omega
theorem cn1_p {f : Nat → Int} {i : Nat} (h1 : f i = -1) : ∀ n : Nat, i < n → 1 ≤ cn1 f n
  | 0, q => absurd q (by omega)
  | n + 1, q => by
    have b := cn1_b f n
    unfold cn1
    by_cases e : i = n
    · subst e
      rw [if_pos h1]; omega
    · have := cn1_p h1 n (by omega)
      split <;> omega
def mkp (o : Nat → Int) (n : Int) : Nat → (Nat → Int) → Nat → Nat → Int
  | 0 => fun f _ => f
  | k + 1 => fun f a => if f a = -1 then mkp o n k (fun i => if i = a then n else f i) (o (bh a)).toNat else f
theorem mkp_e {o : Nat → Int} {n : Int} {f : Nat → Int} {a : Nat} (h : f a ≠ -1) (k : Nat) : mkp o n k f a = f := by
  cases k with
  | zero => rfl
  | succ k => exact if_neg h
theorem mkp_s {o : Nat → Int} {n : Int} {f : Nat → Int} {a : Nat} (h : f a = -1) (k : Nat) : mkp o n (k + 1) f a = mkp o n k (fun i => if i = a then n else f i) (o (bh a)).toNat := if_pos h
def ptf (o : Nat → Int) : Nat → (Nat → Int) × Int
  | 0 => (fun _ => -1, 0)
  | c + 1 => if (ptf o c).1 c = -1 then (mkp o (ptf o c).2 36 (ptf o c).1 c, (ptf o c).2 + 1) else ptf o c
theorem ptf_y {o : Nat → Int} {c : Nat} (h : (ptf o c).1 c = -1) : ptf o (c + 1) = (mkp o (ptf o c).2 36 (ptf o c).1 c, (ptf o c).2 + 1) := if_pos h
theorem ptf_n {o : Nat → Int} {c : Nat} (h : (ptf o c).1 c ≠ -1) : ptf o (c + 1) = ptf o c := if_neg h
theorem ptf_b (o : Nat → Int) : ∀ c : Nat, 0 ≤ (ptf o c).2 ∧ (ptf o c).2 ≤ c
  | 0 => ⟨Int.le_refl _, Int.le_refl _⟩
  | c + 1 => by
    have b := ptf_b o c
    by_cases h : (ptf o c).1 c = -1
    · rw [ptf_y h]
      show 0 ≤ (ptf o c).2 + 1 ∧ (ptf o c).2 + 1 ≤ _
      omega
    · rw [ptf_n h]; omega
/-- like ways over give like points -/
theorem mkp_c {o o' : Nat → Int} {n : Int} {N : Nat} (cl : ∀ a, a < N → (o (bh a)).toNat < N) (e : ∀ a, a < N → o (bh a) = o' (bh a)) : ∀ (k : Nat) (f : Nat → Int) (a : Nat), a < N → mkp o n k f a = mkp o' n k f a := by
  intro k
  induction k with
  | zero => intro f a _; rfl
  | succ k ih =>
    intro f a h
    by_cases g : f a = -1
    · rw [mkp_s g, mkp_s g, ← e a h]
      exact ih _ _ (cl a h)
    · rw [mkp_e g, mkp_e g]
theorem ptf_c {o o' : Nat → Int} {N : Nat} (cl : ∀ a, a < N → (o (bh a)).toNat < N) (e : ∀ a, a < N → o (bh a) = o' (bh a)) : ∀ c : Nat, c ≤ N → ptf o c = ptf o' c := by
  intro c
  induction c with
  | zero => intro _; rfl
  | succ c ih =>
    intro h
    have i := ih (by omega)
    by_cases g : (ptf o c).1 c = -1
    · have g' : (ptf o' c).1 c = -1 := by rw [← i]; exact g
      rw [ptf_y g, ptf_y g', i, mkp_c cl e 36 _ c (by omega)]
    · have g' : (ptf o' c).1 c ≠ -1 := by rw [← i]; exact g
      rw [ptf_n g, ptf_n g', i]
/-- on the way round one point -/
def MI (o : Nat → Int) (n : Int) (N : Nat) (F : Nat → Int) (c : Nat) (k : Int) (g : Nat → Int) (a : Int) : Prop := ∃ f, (∀ i, i < N → g i = f i) ∧ 0 ≤ k ∧ k ≤ 36 ∧ mkp o n 36 F c = mkp o n (36 - k).toNat f a.toNat ∧ 0 ≤ a ∧ a < N ∧ cn1 f N + k ≤ N ∧ 0 ≤ n ∧ N ≤ 36
theorem MI_0 {o : Nat → Int} {n : Int} {N c : Nat} {F g : Nat → Int} {a : Int} (h : ∀ i, i < N → g i = F i) (hc : c < N) (ha : a = c) (hn : 0 ≤ n) (hN : N ≤ 36) : MI o n N F c 0 g a := by
  subst ha
  have b := cn1_b F N
  exact ⟨F, h, by omega, by omega, rfl, by omega, by omega, by omega, hn, hN⟩
theorem MI_s {o : Nat → Int} {n : Int} {N c : Nat} {F g g' : Nat → Int} {a b k k' : Int} (m : MI o n N F c k g a) (hg : g a.toNat = -1) (hw : ∀ i, i < N → g' i = if i = a.toNat then n else g i) (hb : b = o (bh a.toNat)) (hb0 : 0 ≤ b) (hbN : b < N) (hk : k' = k + 1) : MI o n N F c k' g' b := by
  obtain ⟨f, m1, m2, m3, m4, m5, m6, m7, m8, m9⟩ := m
  subst hb hk
  have fa : f a.toNat = -1 := by rw [← m1 _ (by omega)]; exact hg
  have c1 := cn1_p fa N (by omega)
  have c2 := cn1_w (f := f) (g := fun i => if i = a.toNat then n else f i) (i := a.toNat) (fun j hj => if_neg hj) fa (by show (if a.toNat = a.toNat then n else f a.toNat) ≠ -1; rw [if_pos rfl]; omega) N (by omega)
  refine ⟨fun i => if i = a.toNat then n else f i, fun i hi => ?_, by omega, by omega, ?_, hb0, hbN, by omega, m8, m9⟩
  · rw [hw i hi]
    by_cases e : i = a.toNat
    · rw [if_pos e]; exact (if_pos e).symm
    · rw [if_neg e, m1 i hi]; exact (if_neg e).symm
  · rw [m4, show (36 - k).toNat = (36 - (k + 1)).toNat + 1 by omega, mkp_s fa]
theorem MI_e {o : Nat → Int} {n : Int} {N c : Nat} {F g : Nat → Int} {a k : Int} (m : MI o n N F c k g a) (h : g a.toNat ≠ -1 ∨ (N : Int) ≤ k) : ∀ i, i < N → g i = mkp o n 36 F c i := by
  obtain ⟨f, m1, m2, m3, m4, m5, m6, m7, m8, m9⟩ := m
  have fa : f a.toNat ≠ -1 := by
    rcases h with h | h
    · rw [← m1 _ (by omega)]; exact h
    · intro q
      have := cn1_p q N (by omega)
      omega
  intro i hi
  rw [m4, mkp_e fa]
  exact m1 i hi
/-- so many corners gone through -/
def PQ (o : Nat → Int) (N c : Nat) (g : Nat → Int) (n : Int) : Prop := (∀ i, i < N → g i = (ptf o c).1 i) ∧ n = (ptf o c).2
theorem PQ_0 {o : Nat → Int} {N c : Nat} {g : Nat → Int} {n : Int} (h : ∀ i, i < N → g i = -1) (hn : n = 0) (hc : c = 0) : PQ o N c g n := by
  subst hc
  exact ⟨h, hn⟩
theorem PQ_b {o : Nat → Int} {N c : Nat} {g : Nat → Int} {n : Int} (p : PQ o N c g n) : 0 ≤ n ∧ n ≤ c := by rw [p.2]; exact ptf_b o c
theorem PQ_k {o : Nat → Int} {N c c' : Nat} {g : Nat → Int} {n : Int} (p : PQ o N c g n) (hc : c < N) (h : g c ≠ -1) (e : c' = c + 1) : PQ o N c' g n := by
  subst e
  have q : (ptf o c).1 c ≠ -1 := by rw [← p.1 c hc]; exact h
  unfold PQ
  rw [ptf_n q]
  exact p
theorem PQ_n {o : Nat → Int} {N c c' : Nat} {g g' : Nat → Int} {n n' : Int} (e2 : n = (ptf o c).2) (q : (ptf o c).1 c = -1) (h : ∀ i, i < N → g i = mkp o n 36 (ptf o c).1 c i) (eg : g' = g) (en : n' = n + 1) (e : c' = c + 1) : PQ o N c' g' n' := by
  subst e eg en e2
  unfold PQ
  rw [ptf_y q]
  exact ⟨h, rfl⟩
theorem MI_a {o : Nat → Int} {n : Int} {N c : Nat} {F g : Nat → Int} {a k : Int} (m : MI o n N F c k g a) : 0 ≤ a ∧ a < N ∧ 0 ≤ n := by
  obtain ⟨f, m1, m2, m3, m4, m5, m6, m7, m8, m9⟩ := m
  exact ⟨m5, m6, m8⟩
theorem bh_v {x v : Int} (h0 : 0 ≤ x) (h : (x % 3 = 2 → v = x - 2) ∧ (x % 3 ≠ 2 → v = x + 1)) : v.toNat = bh x.toNat := by
  unfold bh
  by_cases c : x % 3 = 2
  · rw [if_pos (by omega)]; have := h.1 c; omega
  · rw [if_neg (by omega)]; have := h.2 c; omega
theorem LO_fl {m E x : Int} {T o fs : Nat → Int} (ly : LY m E T) (h : LO E T o fs x) (hx : x = 3 * m) (e : Nat) (he : (e : Int) < E) : fs e < o (fs e).toNat := by
  have W := LO_end ly h hx
  have f := W.fL e he
  rcases h e he with ⟨c1, _⟩ | ⟨c1, c2, c3, c4⟩ | ⟨b, c1, c2, c3, c4, c5, c6, c7⟩
  · omega
  · have k1 := W.oL (fs e).toNat (by omega)
    have k2 := W.oT (fs e).toNat (by omega)
    have k3 := W.on (fs e).toNat (by omega)
    have k4 := c4 (o (fs e).toNat).toNat (by omega) (by rw [k2]; exact c3)
    omega
  · rw [c6]; exact c2
/-- the points of a told ground, of the reference's ground; an EDGE's first SIDE is ahead of the other -/
def PTz (z : mZ) (t : Nat) : Prop := PQ (z (t + 2)) (3 * z t 0).toNat (3 * z t 0).toNat (z (t + 3)) (z t 2) ∧ ∀ e : Nat, (e : Int) < 3 * z t 0 / 2 → z (t + 5) e < z (t + 2) (z (t + 5) e).toNat
def FLr (z : mZ) : Prop := ∀ e : Nat, (e : Int) < rE z → z 241 e < z 240 (z 241 e).toNat
def PTr (z : mZ) : Prop := PQ (z 240) (3 * z 225 26).toNat (3 * z 225 26).toNat (z 242) (z 225 32) ∧ FLr z
theorem PTz_f {z z' : mZ} {t : Nat} (e0 : z' t 0 = z t 0) (e2 : z' t 2 = z t 2) (f2 : ∀ i, z' (t + 2) i = z (t + 2) i) (f3 : ∀ i, z' (t + 3) i = z (t + 3) i) (f5 : ∀ i, z' (t + 5) i = z (t + 5) i) (p : PTz z t) : PTz z' t := by
  unfold PTz
  rw [e0, e2, show z' (t + 2) = z (t + 2) from funext f2, show z' (t + 3) = z (t + 3) from funext f3, show z' (t + 5) = z (t + 5) from funext f5]
  exact p
theorem PTr_f {z z' : mZ} (e0 : z' 225 26 = z 225 26) (e2 : z' 225 32 = z 225 32) (f2 : ∀ i, z' 240 i = z 240 i) (f3 : ∀ i, z' 242 i = z 242 i) (f5 : ∀ i, z' 241 i = z 241 i) (p : PTr z) : PTr z' := by
  unfold PTr FLr rE
  rw [e0, e2, show z' 240 = z 240 from funext f2, show z' 242 = z 242 from funext f3, show z' 241 = z 241 from funext f5]
  exact p
/-- both have the same ways over, points and first SIDES -/
theorem WT_o {m E : Int} {T o fs T' o' fs' : Nat → Int} (a : WT m E T o fs) (b : WT m E T' o' fs') (e : ∀ s : Nat, (s : Int) < 3 * m → T s = T' s) (s : Nat) (hs : (s : Int) < 3 * m) : o s = o' s := by
  have a1 := a.oL s hs
  have a2 := a.oT s hs
  have a3 := a.on s hs
  have k := b.tw s (o s).toNat hs (by omega) (by rw [← e s hs, ← e _ (by omega), a2])
  rcases k with k | k <;> omega
theorem WT_f {m E : Int} {T o fs T' o' fs' : Nat → Int} (a : WT m E T o fs) (b : WT m E T' o' fs') (e : ∀ s : Nat, (s : Int) < 3 * m → T s = T' s) (l : ∀ e : Nat, (e : Int) < E → fs e < o (fs e).toNat) (l' : ∀ e : Nat, (e : Int) < E → fs' e < o' (fs' e).toNat) (x : Nat) (hx : (x : Int) < E) : fs x = fs' x := by
  have a1 := a.fL x hx
  have b1 := b.fL x hx
  have k := b.tw (fs x).toNat (fs' x).toNat (by omega) (by omega) (by rw [← e _ (by omega), a1.2.2, b1.2.2])
  have g1 := l x hx
  have g2 := l' x hx
  have o1 := WT_o a b e (fs x).toNat (by omega)
  rcases k with k | k
  · omega
  · have o2 := b.oo (fs x).toNat (by omega)
    rw [← k] at o2
    rw [show ((fs' x).toNat : Int).toNat = (fs' x).toNat by omega] at o2
    omega
theorem PT_u {z : mZ} {t : Nat} {E E' : Int} {T T' : Nat → Int} (em : z t 0 = z 225 26) (a : WT (z t 0) E T (z (t + 2)) (z (t + 5))) (b : WT (z 225 26) E' T' (z 240) (z 241)) (e : ∀ s : Nat, (s : Int) < 3 * z t 0 → T s = T' s) (p : PTz z t) (r : PTr z) : z t 2 = z 225 32 ∧ ∀ i : Nat, (i : Int) < 3 * z t 0 → z (t + 3) i = z 242 i := by
  have hE : E = E' := by have := a.hE; have := b.hE; omega
  subst hE
  have m0 := a.m0
  have o1 := WT_o a (by rw [← em] at b; exact b) e
  have cl : ∀ c, c < (3 * z t 0).toNat → (z (t + 2) (bh c)).toNat < (3 * z t 0).toNat := fun c hc => by
    have l := a.oL (bh c) (by unfold bh; split <;> omega)
    omega
  have c := ptf_c cl (fun c hc => o1 (bh c) (by unfold bh; split <;> omega)) (3 * z t 0).toNat (Nat.le_refl _)
  obtain ⟨⟨p1, p2⟩, _⟩ := p
  obtain ⟨⟨r1, r2⟩, _⟩ := r
  rw [← em] at r1 r2
  rw [← c] at r1 r2
  exact ⟨p2.trans r2.symm, fun i hi => (p1 i (by omega)).trans (r1 i (by omega)).symm⟩
/-- what a ground that failed leaves as it was -/
def FRr (z0 w0 z w : mZ) : Prop := (∀ i, 26 ≤ i → z 225 i = z0 225 i) ∧ ∀ a, 235 ≤ a → ∀ i, z a i = z0 a i ∧ w a i = w0 a i
def FRc (u : Nat) (z0 w0 z w : mZ) : Prop := ∀ a, 4 ≤ a → (a < u ∨ u + 32 < a) → ∀ i, z a i = z0 a i ∧ w a i = w0 a i
end

/-! one heap, two readings of it: what both say of one call -/
theorem mk_ce {z w z' w' : mZ} {p p' : mP} (e : mk z w p = mk z' w' p') {a : Nat} {s : mt} (hs : msh mshl a = some s) : mce mft s (z, w, p) a = mce mft s (z', w', p') a := by
  have k1 := mk_cell mft (z, w, p) mshl a
  have k2 := mk_cell mft (z', w', p') mshl a
  have e : mkg mft (z, w, p) mshl 1 = mkg mft (z', w', p') mshl 1 := e
  rw [hs] at k1 k2
  rw [e, k2] at k1
  exact (Option.some.inj k1).symm
theorem mk_fo {z w z' w' : mZ} {p p' : mP} (e : mk z w p = mk z' w' p') {a c i : Nat} (hs : msh mshl a = some (0, c, 0)) (hf : (mft c)[i]? = some 0) (h1 : inI (z a i)) (h2 : inI (z' a i)) : z a i = z' a i := by
  have k : (Sum.inr (c, mfs (z, w, p) a (mft c) 0) : pm_E) = Sum.inr (c, mfs (z', w', p') a (mft c) 0) := mk_ce e hs
  have k3 : mfs (z, w, p) a (mft c) 0 = mfs (z', w', p') a (mft c) 0 := congrArg Prod.snd (Sum.inr.inj k)
  have k4 : (mfs (z, w, p) a (mft c) 0)[i]? = (mfs (z', w', p') a (mft c) 0)[i]? := by rw [k3]
  rw [mfs_get, mfs_get, hf] at k4
  have k5 : Value.int (Int32.ofInt (z a (0 + i))) = Value.int (Int32.ofInt (z' a (0 + i))) := Option.some.inj k4
  rw [Nat.zero_add] at k5
  have k6 : Int32.ofInt (z a i) = Int32.ofInt (z' a i) := by injection k5
  exact (ofI_eq h1 h2).mp k6
theorem wc_2I {S S' : mS} {z0 w0 : mZ} {p0 : mP} {E E' X : Int → mZ → mZ → mP → Prop} {d k : Nat} {as : List Value} (m : wc d k as (mk z0 w0 p0) (poI S z0 w0 E)) (m' : wc d k as (mk z0 w0 p0) (poI S' z0 w0 E')) (tr : ∀ v z w p z' w' p', rz z → rz z' → mk z w p = mk z' w' p' → E' v z' w' p' → X v z w p) : wc d k as (mk z0 w0 p0) (poI S z0 w0 (fun v z w p => E v z w p ∧ X v z w p)) := by
  refine wc_mono (wc_and m m') ?_
  rintro R ⟨⟨v, z, w, p, e, hv, hs, hE⟩, v', z', w', p', e', hv', hs', hE'⟩
  rw [e] at e'
  have e1 := congrArg Prod.fst e'
  have e2 : mk z w p = mk z' w' p' := congrArg Prod.snd e'
  have e3 : Value.int (Int32.ofInt v) = Value.int (Int32.ofInt v') := Option.some.inj e1
  have e4 : Int32.ofInt v = Int32.ofInt v' := by injection e3
  have e5 := (ofI_eq hv hv').mp e4
  subst e5
  exact ⟨v, z, w, p, e, hv, hs, hE, tr v z w p z' w' p' hs.1 hs'.1 e2 hE'⟩
theorem wc_2V {S S' : mS} {z0 w0 : mZ} {p0 : mP} {E E' X : mZ → mZ → mP → Prop} {d k : Nat} {as : List Value} (m : wc d k as (mk z0 w0 p0) (poV S z0 w0 E)) (m' : wc d k as (mk z0 w0 p0) (poV S' z0 w0 E')) (tr : ∀ z w p z' w' p', rz z → rz z' → mk z w p = mk z' w' p' → E' z' w' p' → X z w p) : wc d k as (mk z0 w0 p0) (poV S z0 w0 (fun z w p => E z w p ∧ X z w p)) := by
  refine wc_mono (wc_and m m') ?_
  rintro R ⟨⟨z, w, p, e, hs, hE⟩, z', w', p', e', hs', hE'⟩
  rw [e] at e'
  have e2 : mk z w p = mk z' w' p' := congrArg Prod.snd e'
  exact ⟨z, w, p, e, hs, hE, tr z w p z' w' p' hs.1 hs'.1 e2 hE'⟩
/-- at the text's end: how many PIECES, LINES, WORDS; a fault and its place -/
def TE (h : Int → Int) (a b c : Int) : Prop := ∃ k, sq h k 0 = 20 ∧ a = sq h k 3 ∧ b = sq h k 4 ∧ c = sq h k 5
def TF (h : Int → Int) (f p : Int) : Prop := ∃ k, sq h k 0 = 21 ∧ f = sq h k 1 ∧ p = sq h k 2
theorem TE_u {h : Int → Int} {a b c a' b' c' : Int} (x : TE h a b c) (y : TE h a' b' c') : a = a' ∧ b = b' ∧ c = c' := by
  obtain ⟨k, h0, e1, e2, e3⟩ := x
  obtain ⟨k', h0', e1', e2', e3'⟩ := y
  have u := sq_u (h := h) (j := k) (k := k') (by omega) (by omega)
  rw [e1, e2, e3, e1', e2', e3', u]
  exact ⟨rfl, rfl, rfl⟩
theorem TF_u {h : Int → Int} {f p f' p' : Int} (x : TF h f p) (y : TF h f' p') : f = f' ∧ p = p' := by
  obtain ⟨k, h0, e1, e2⟩ := x
  obtain ⟨k', h0', e1', e2'⟩ := y
  have u := sq_u (h := h) (j := k) (k := k') (by omega) (by omega)
  rw [e1, e2, e1', e2', u]
  exact ⟨rfl, rfl⟩
theorem TE_F {h : Int → Int} {a b c f p : Int} (x : TE h a b c) (y : TF h f p) : False := by
  obtain ⟨k, h0, _⟩ := x
  obtain ⟨k', h0', _⟩ := y
  have u := sq_u (h := h) (j := k) (k := k') (by omega) (by omega)
  rw [u] at h0
  omega
theorem TE_c {h : Int → Int} {z w : mZ} {t : Nat} (x : CEz h z w t) : TE h (z t 0) (z t 3) (z t 4) := by
  obtain ⟨k, h0, m⟩ := x
  exact ⟨k, h0, m.1.1.1, m.1.1.2.1, m.1.1.2.2.1⟩
theorem TE_r {h : Int → Int} {z w : mZ} (x : REz h z w) : TE h (z 225 23) (z 225 24) (z 225 25) := by
  obtain ⟨k, h0, m⟩ := x
  exact ⟨k, h0, m.1.1.1, m.1.1.2.1, m.1.1.2.2⟩
theorem TF_c {h : Int → Int} {z : mZ} (x : CF h z) : TF h (z 3 0) (z 3 1) := by
  obtain ⟨k, h0, e1, e2, _⟩ := x
  exact ⟨k, h0, e1, e2⟩
theorem TF_r {h : Int → Int} {z : mZ} (x : RF h z) : TF h (z 225 2) (z 225 3) := by
  obtain ⟨k, h0, e1, e2, _⟩ := x
  exact ⟨k, h0, e1, e2⟩
def TEv (h : Int → Int) (v : Int) : Prop := ∃ a c, TE h a v c
theorem TEv_u {h : Int → Int} {a b : Int} (x : TEv h a) (y : TEv h b) : a = b := by
  obtain ⟨_, _, x⟩ := x
  obtain ⟨_, _, y⟩ := y
  exact (TE_u x y).2.1
theorem TEv_F {h : Int → Int} {a f p : Int} (x : TEv h a) (y : TF h f p) : False := by
  obtain ⟨_, _, x⟩ := x
  exact TE_F x y
/-- ground's end: its fault and its place, its answer -/
def GRx (h : Int → Int) (v f p : Int) : Prop := (v = -1 ∧ f ≠ 0 ∧ TF h f p) ∨ (f = 0 ∧ p = -1 ∧ TEv h v)
theorem GRx_u {h : Int → Int} {v f p v' f' p' : Int} (x : GRx h v f p) (y : GRx h v' f' p') : v = v' ∧ f = f' ∧ p = p' := by
  rcases x with x | x <;> rcases y with y | y
  · have := TF_u x.2.2 y.2.2; omega
  · exact (TEv_F y.2.2 x.2.2).elim
  · exact (TEv_F x.2.2 y.2.2).elim
  · have := TEv_u x.2.2 y.2.2; omega

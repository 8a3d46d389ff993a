/-! what is told, at the end of a reading: of both, of one text -/
theorem mk_fa {z w z' w' : mZ} {p p' : mP} (e : mk z w p = mk z' w' p') {a n i : Nat} (hs : msh mshl a = some (1, 0, n)) (h1 : inI (z a i)) (h2 : inI (z' a i)) : z a i = z' a i := by
  have k : (Sum.inl (0, n, Sum.inl (fun i => Int32.ofInt (z a i))) : pm_E) = Sum.inl (0, n, Sum.inl (fun i => Int32.ofInt (z' a i))) := mk_ce e hs
  have k2 := congrArg (fun q => q.2.2) (Sum.inl.inj k)
  have k3 := congrFun (Sum.inl.inj k2) i
  exact (ofI_eq h1 h2).mp k3
theorem mk_fl {z w z' w' : mZ} {p p' : mP} (e : mk z w p = mk z' w' p') {a n i : Nat} (hs : msh mshl a = some (1, 1, n)) (h1 : inL (w a i)) (h2 : inL (w' a i)) : w a i = w' a i := by
  have k : (Sum.inl (1, n, Sum.inr (Sum.inl (fun i => Int64.ofInt (w a i)))) : pm_E) = Sum.inl (1, n, Sum.inr (Sum.inl (fun i => Int64.ofInt (w' a i)))) := mk_ce e hs
  have k2 := congrArg (fun q => q.2.2) (Sum.inl.inj k)
  have k3 := congrFun (Sum.inl.inj (Sum.inr.inj k2)) i
  exact (ofL_eq h1 h2).mp k3
/-- the rows of a told ground, as numbers -/
def MX (s : RG) (m l w : Int) (T : Nat → Int) (N : Nat → Nat → Int) (C : Nat → Int) (A B : Nat → Nat → Int) : Prop := (m = s 3 ∧ l = s 4 ∧ w = s 5) ∧ (∀ i : Nat, i < 36 → (i : Int) < 3 * m → T i = s (100 + i)) ∧ (∀ j e : Nat, j < 8 → e < 18 → (j : Int) < l → (e : Int) < 3 * m / 2 → N j e = s (200 + 18 * j + e)) ∧ (∀ a : Nat, a < 6 → (a : Int) < w → C a = s (520 + a)) ∧ ∀ a i : Nat, a < 6 → i < 8 → (a : Int) < w → (i : Int) < C a → A a i = s (420 + 8 * a + i) ∧ B a i = s (470 + 8 * a + i)
def TX (h : Int → Int) (m l w : Int) (T : Nat → Int) (N : Nat → Nat → Int) (C : Nat → Int) (A B : Nat → Nat → Int) : Prop := ∃ k, sq h k 0 = 20 ∧ MX (sq h k) m l w T N C A B
/-- two that are told alike -/
def XX (m l w : Int) (T : Nat → Int) (N : Nat → Nat → Int) (C : Nat → Int) (A B : Nat → Nat → Int) (m' l' w' : Int) (T' : Nat → Int) (N' : Nat → Nat → Int) (C' : Nat → Int) (A' B' : Nat → Nat → Int) : Prop := (m = m' ∧ l = l' ∧ w = w') ∧ (∀ i : Nat, i < 36 → (i : Int) < 3 * m → T i = T' i) ∧ (∀ j e : Nat, j < 8 → e < 18 → (j : Int) < l → (e : Int) < 3 * m / 2 → N j e = N' j e) ∧ (∀ a : Nat, a < 6 → (a : Int) < w → C a = C' a) ∧ ∀ a i : Nat, a < 6 → i < 8 → (a : Int) < w → (i : Int) < C a → A a i = A' a i ∧ B a i = B' a i
theorem TX_u {h : Int → Int} {m l w : Int} {T : Nat → Int} {N : Nat → Nat → Int} {C : Nat → Int} {A B : Nat → Nat → Int} {m' l' w' : Int} {T' : Nat → Int} {N' : Nat → Nat → Int} {C' : Nat → Int} {A' B' : Nat → Nat → Int} (x : TX h m l w T N C A B) (y : TX h m' l' w' T' N' C' A' B') : XX m l w T N C A B m' l' w' T' N' C' A' B' := by
  obtain ⟨k, h0, x1, x2, x3, x4, x5⟩ := x
  obtain ⟨k', h0', y1, y2, y3, y4, y5⟩ := y
  have u := sq_u (h := h) (j := k) (k := k') (by omega) (by omega)
  rw [u] at x1 x2 x3 x4 x5
  have em : m = m' := x1.1.trans y1.1.symm
  have el : l = l' := x1.2.1.trans y1.2.1.symm
  have ew : w = w' := x1.2.2.trans y1.2.2.symm
  subst em el ew
  refine ⟨⟨rfl, rfl, rfl⟩, fun i h1 h2 => (x2 i h1 h2).trans (y2 i h1 h2).symm, fun j e h1 h2 h3 h4 => (x3 j e h1 h2 h3 h4).trans (y3 j e h1 h2 h3 h4).symm, fun a h1 h2 => (x4 a h1 h2).trans (y4 a h1 h2).symm, fun a i h1 h2 h3 h4 => ?_⟩
  have c := (x4 a h1 h3).trans (y4 a h1 h3).symm
  have p := x5 a i h1 h2 h3 h4
  have q := y5 a i h1 h2 h3 (by omega)
  exact ⟨p.1.trans q.1.symm, p.2.trans q.2.symm⟩
theorem TX_c {h : Int → Int} {m l w : Int} {T : Nat → Int} {N : Nat → Nat → Int} {C : Nat → Int} {A B : Nat → Nat → Int} {m' l' w' : Int} {T' : Nat → Int} {N' : Nat → Nat → Int} {C' : Nat → Int} {A' B' : Nat → Nat → Int} (x : TX h m l w T N C A B) (y : XX m' l' w' T' N' C' A' B' m l w T N C A B) : TX h m' l' w' T' N' C' A' B' := by
  obtain ⟨k, h0, x1, x2, x3, x4, x5⟩ := x
  obtain ⟨⟨em, el, ew⟩, y2, y3, y4, y5⟩ := y
  subst em el ew
  refine ⟨k, h0, x1, fun i h1 h2 => (y2 i h1 h2).trans (x2 i h1 h2), fun j e h1 h2 h3 h4 => (y3 j e h1 h2 h3 h4).trans (x3 j e h1 h2 h3 h4), fun a h1 h2 => (y4 a h1 h2).trans (x4 a h1 h2), fun a i h1 h2 h3 h4 => ?_⟩
  have c := y4 a h1 h3
  have p := y5 a i h1 h2 h3 h4
  have q := x5 a i h1 h2 h3 (by omega)
  exact ⟨p.1.trans q.1, p.2.trans q.2⟩
/-- rows of numbers are 0 behind the last EDGE -/
def ZV (s : RG) : Prop := (0 ≤ s 3 ∧ s 3 ≤ 12) ∧ (s 0 = 1 → s 3 ≤ 11) ∧ 0 ≤ s 4 ∧ 0 ≤ s 6 ∧ ∀ j e : Nat, j < 8 → e < 18 → ED s ≤ e → s (200 + 18 * j + e) = 0
theorem ZV_g {s s' : RG} (h3 : s' 3 = s 3) (h0 : s' 0 = 1 → s 3 ≤ 11) (h4 : 0 ≤ s' 4) (h6 : 0 ≤ s' 6) (hr : ∀ i : Nat, 200 ≤ i → i < 344 → s' i = s i) (v : ZV s) : ZV s' := by
  obtain ⟨v1, v2, v3, v4, v5⟩ := v
  refine ⟨by omega, fun q => by rw [h3]; exact h0 q, h4, h6, fun j e h1 h2 h5 => ?_⟩
  rw [hr _ (by omega) (by omega)]
  exact v5 j e h1 h2 (by unfold ED at *; omega)
theorem ZV_so {s : RG} (c : s 0 = 1) (v : ZV s) : ZV (su (su (su s 3 (s 3 + 1)) 6 0) 0 0) := by
  obtain ⟨v1, v2, v3, v4, v5⟩ := v
  have k := v2 c
  have e3 : (su (su (su s 3 (s 3 + 1)) 6 0) 0 0) 3 = s 3 + 1 := rfl
  refine ⟨by rw [e3]; omega, fun q => ?_, ?_, ?_, fun j e h1 h2 h5 => ?_⟩
  · have q : (0 : Int) = 1 := q
    omega
  · exact v3
  · show (0 : Int) ≤ 0
    omega
  · rw [su_n (by omega), su_n (by omega), su_n (by omega)]
    unfold ED at h5
    rw [e3] at h5
    exact v5 j e h1 h2 (by unfold ED; omega)
theorem ZV_n {s : RG} {x : Int} (c : s 0 = 7) (g : s 6 < ED s) (v : ZV s) : ZV (su (su s (200 + (18 * s 4 + s 6).toNat) x) 6 (s 6 + 1)) := by
  obtain ⟨v1, v2, v3, v4, v5⟩ := v
  unfold ED at g
  have e3 : (su (su s (200 + (18 * s 4 + s 6).toNat) x) 6 (s 6 + 1)) 3 = s 3 := by rw [su_n (by omega), su_n (by omega)]
  refine ⟨by rw [e3]; omega, fun q => ?_, ?_, ?_, fun j e h1 h2 h5 => ?_⟩
  · rw [su_n (by omega), su_n (by omega)] at q
    omega
  · rw [su_n (by omega), su_n (by omega)]; exact v3
  · rw [su_e]; omega
  · unfold ED at h5
    rw [e3] at h5
    rw [su_n (by omega), su_n (by omega)]
    exact v5 j e h1 h2 (by unfold ED; omega)
theorem ZV_flt {s : RG} {f p : Int} (v : ZV s) : ZV (flt s f p) := ZV_g (s := s) rfl (fun q => absurd (show (21 : Int) = 1 from q) (by omega)) v.2.2.1 v.2.2.2.1 (fun i h1 h2 => by unfold flt; rw [su_n (by omega), su_n (by omega), su_n (by omega)]) v
theorem ZV_bd {s : RG} {c p : Int} (v : ZV s) : ZV (bd s c p) := ZV_flt v
theorem ZV_0 : ZV (fun _ => 0) := ⟨⟨Int.le_refl 0, show (0 : Int) ≤ 12 by omega⟩, fun _ => show (0 : Int) ≤ 11 by omega, Int.le_refl 0, Int.le_refl 0, fun _ _ _ _ _ => rfl⟩
theorem ZV_s2 {s : RG} {a b : Nat} {x y : Int} (ha : a = 0 ∨ a = 10 ∨ 7 ≤ a ∧ a < 200) (hb : b = 0 ∨ b = 10 ∨ b = 6 ∨ 7 ≤ b ∧ b < 200) (n : a ≠ b) (hx : a = 0 → x ≠ 1) (hy : b = 0 → y ≠ 1) (hy6 : b = 6 → 0 ≤ y) (n0 : s 0 ≠ 1) (v : ZV s) : ZV (su (su s a x) b y) := by
  refine ZV_g ?_ (fun q => ?_) ?_ ?_ (fun i h1 h2 => ?_) v
  · rw [su_n (by omega), su_n (by omega)]
  · by_cases c : b = 0
    · subst c; rw [su_e] at q; exact absurd q (hy rfl)
    · rw [su_n (by omega)] at q
      by_cases c2 : a = 0
      · subst c2; rw [su_e] at q; exact absurd q (hx rfl)
      · rw [su_n (by omega)] at q; exact absurd q n0
  · rw [su_n (by omega), su_n (by omega)]; exact v.2.2.1
  · by_cases c : b = 6
    · subst c; rw [su_e]; exact hy6 rfl
    · rw [su_n (by omega), su_n (by omega)]; exact v.2.2.2.1
  · rw [su_n (by omega), su_n (by omega)]
theorem ZV_s3 {s : RG} {x : Int} (hx : x ≠ 1) (v : ZV s) : ZV (su (su (su s 0 x) 10 1) 6 0) := ZV_g (s := s) rfl (fun q => absurd q hx) v.2.2.1 (show (0 : Int) ≤ 0 by omega) (fun i h1 h2 => by rw [su_n (by omega), su_n (by omega), su_n (by omega)]) v
theorem ZV_p1 {s : RG} (g : s 3 < 12) (v : ZV s) : ZV (su (su s 0 1) 6 0) := ZV_g (s := s) rfl (fun _ => by omega) v.2.2.1 (show (0 : Int) ≤ 0 by omega) (fun i h1 h2 => by rw [su_n (by omega), su_n (by omega)]) v
theorem ZV_o {s : RG} {a b : Nat} {x y : Int} (ha : a < 200 ∧ 100 ≤ a) (hb : b < 200 ∧ 100 ≤ b) (c : s 0 = 1) (v : ZV s) : ZV (su (su (su s a x) b y) 6 (s 6 + 1)) := by
  have v4 := v.2.2.2.1
  refine ZV_g ?_ (fun _ => v.2.1 c) ?_ ?_ (fun i h1 h2 => ?_) v
  · rw [su_n (by omega), su_n (by omega), su_n (by omega)]
  · rw [su_n (by omega), su_n (by omega), su_n (by omega)]; exact v.2.2.1
  · rw [su_e]; omega
  · rw [su_n (by omega), su_n (by omega), su_n (by omega)]
theorem ZV_f7 {s : RG} (v : ZV s) : ZV (fin7 s) := by
  have v3 := v.2.2.1
  unfold fin7
  refine ZV_g ?_ (fun q => ?_) ?_ ?_ (fun i h1 h2 => ?_) v
  · rw [su_n (by omega), su_n (by omega), su_n (by omega), su_n (by omega)]
  · rw [su_e] at q; omega
  · rw [su_n (by omega), su_n (by omega), su_e]; omega
  · rw [su_n (by omega), su_e] <;> omega
  · rw [su_n (by omega), su_n (by omega), su_n (by omega), su_n (by omega)]
theorem ZV_f10 {s : RG} (v : ZV s) : ZV (fin10 s) := by
  unfold fin10
  refine ZV_g ?_ (fun q => ?_) ?_ ?_ (fun i h1 h2 => ?_) v
  · rw [su_n (by omega), su_n (by omega), su_n (by omega), su_n (by omega), su_n (by omega)]
  · rw [su_e] at q; omega
  · rw [su_n (by omega), su_n (by omega), su_n (by omega), su_n (by omega), su_n (by omega)]; exact v.2.2.1
  · rw [su_n (by omega), su_e] <;> omega
  · rw [su_n (by omega), su_n (by omega), su_n (by omega), su_n (by omega), su_n (by omega)]
theorem ZV_at {s : RG} {x : Int} (v : ZV s) : ZV (adt s x) := by
  have v4 := v.2.2.2.1
  unfold adt
  refine ZV_g ?_ (fun q => ?_) ?_ ?_ (fun i h1 h2 => ?_) v
  · rw [su_n (by omega), su_n (by omega), su_n (by omega), su_n (by omega)]
  · rw [su_e] at q; omega
  · rw [su_n (by omega), su_n (by omega), su_n (by omega), su_n (by omega)]; exact v.2.2.1
  · rw [su_n (by omega), su_e] <;> omega
  · rw [su_n (by omega), su_n (by omega), su_n (by omega), su_n (by omega)]
theorem ZV_ifp {P : Prop} {a b : RG} (h1 : ZV a) (h2 : ZV b) : ZV (ifp P a b) := by
  by_cases c : P
  · rw [ifp_t c]; exact h1
  · rw [ifp_f c]; exact h2
theorem ZV_ite {P : Prop} {_ : Decidable P} {a b : RG} (h1 : P → ZV a) (h2 : ¬ P → ZV b) : ZV (if P then a else b) := by
  by_cases c : P
  · rw [if_pos c]; exact h1 c
  · rw [if_neg c]; exact h2 c
theorem ZV_dl {h : Int → Int} {s : RG} {p : Int} (v : ZV s) : ZV (dl h s p) := by
  have v1 := v.1
  have v4 := v.2.2.2.1
  unfold dl
  refine ZV_ite (fun c => ?_) (fun _ => ZV_ite (fun c => ?_) (fun _ => ZV_ite (fun c => ?_) (fun _ => ZV_ite (fun c => ?_) (fun _ => ZV_ite (fun c => ?_) (fun _ => ZV_ite (fun c => ?_) (fun _ => ZV_ite (fun c => ?_) (fun _ => ZV_ite (fun c => ?_) (fun _ => ZV_ite (fun c => ?_) (fun _ => ZV_ite (fun c => ?_) (fun _ => v))))))))))
  · unfold d0
    refine ZV_ite (fun _ => ZV_ifp (ZV_s2 (by omega) (by omega) (by omega) (by omega) (by omega) (by omega) (by omega) v) (ZV_flt v)) (fun _ => ZV_ite (fun _ => ZV_ite (fun _ => ZV_bd v) (fun g => ZV_p1 (by omega) v)) (fun _ => ZV_ite (fun _ => ZV_ifp (ZV_ite (fun _ => ZV_bd v) (fun _ => ZV_s3 (by omega) v)) (ZV_flt v)) (fun _ => ZV_ite (fun _ => ZV_ifp (ZV_ite (fun _ => ZV_bd v) (fun _ => ZV_s3 (by omega) v)) (ZV_flt v)) (fun _ => ZV_bd v))))
  · unfold d1
    have v2 := v.2.1 c
    exact ZV_ite (fun g => ZV_ite (fun _ => ZV_bd v) (fun _ => ZV_ite (fun _ => ZV_flt v) (fun g2 => ZV_ite (fun _ => ZV_flt v) (fun _ => ZV_o (by omega) (by omega) c v)))) (fun _ => ZV_ite (fun _ => ZV_bd v) (fun _ => ZV_so c v))
  · unfold d5
    exact ZV_ite (fun _ => ZV_bd v) (fun _ => ZV_ifp (ZV_flt v) (ZV_s2 (by omega) (by omega) (by omega) (by omega) (by omega) (by omega) (by omega) v))
  · unfold d6
    exact ZV_ite (fun _ => ZV_bd v) (fun _ => ZV_g (s := s) rfl (fun q => absurd (show (7 : Int) = 1 from q) (by omega)) v.2.2.1 v4 (fun i h1 h2 => by rw [su_n (by omega)]) v)
  · unfold d7
    exact ZV_ite (fun _ => ZV_ite (fun _ => ZV_bd v) (fun g => ZV_ite (fun _ => ZV_flt v) (fun _ => ZV_n c (by omega) v))) (fun _ => ZV_ite (fun _ => ZV_ite (fun _ => ZV_bd v) (fun _ => ZV_ifp (ZV_f7 v) (ZV_flt v))) (fun _ => ZV_bd v))
  · unfold d8
    exact ZV_ite (fun _ => ZV_bd v) (fun _ => ZV_ifp (ZV_flt v) (ZV_s2 (by omega) (by omega) (by omega) (by omega) (by omega) (by omega) (by omega) v))
  · unfold d9
    exact ZV_ite (fun _ => ZV_bd v) (fun _ => ZV_g (s := s) rfl (fun q => absurd (show (10 : Int) = 1 from q) (by omega)) v.2.2.1 v4 (fun i h1 h2 => by rw [su_n (by omega)]) v)
  · unfold d10
    exact ZV_ite (fun _ => ZV_f10 v) (fun _ => ZV_ite (fun _ => ZV_bd v) (fun _ => ZV_ite (fun _ => ZV_flt v) (fun _ => ZV_s2 (by omega) (by omega) (by omega) (by omega) (by omega) (by omega) (by omega) v)))
  · unfold d11
    exact ZV_ite (fun _ => ZV_s2 (by omega) (by omega) (by omega) (by omega) (by omega) (by omega) (by omega) v) (fun _ => ZV_ite (fun _ => ZV_ite (fun _ => ZV_flt v) (fun _ => ZV_at v)) (fun _ => ZV_bd v))
  · unfold d12
    exact ZV_ite (fun _ => ZV_bd v) (fun _ => ZV_ite (fun _ => ZV_flt v) (fun _ => ZV_at v))
theorem ZV_sq (h : Int → Int) : ∀ k, ZV (sq h k)
  | 0 => ZV_0
  | k + 1 => ZV_dl (ZV_sq h k)
/-- the class's told ground; the reference's rows as read, as they lie -/
def TZ (z w : mZ) (t : Nat) : Prop := ∀ j e : Nat, j < 8 → e < 18 → (j : Int) < z t 3 → 3 * z t 0 / 2 ≤ e → w (t + 8 + j) e = 0
def TXc (h : Int → Int) (z w : mZ) (t : Nat) : Prop := TX h (z t 0) (z t 3) (z t 4) (z (t + 1)) (fun j e => w (t + 8 + j) e) (z (t + 18)) (fun a i => z (t + 20 + a) i) (fun a i => z (t + 27 + a) i) ∧ TZ z w t
abbrev TXn (h : Int → Int) (z : mZ) : Prop := TX h (z 225 23) (z 225 24) (z 225 25) (z 229) (fun j e => z 231 (18 * j + e)) (z 234) (fun a i => z 232 (8 * a + i)) (fun a i => z 233 (8 * a + i))
abbrev TXr (h : Int → Int) (z : mZ) : Prop := TX h (z 225 26) (z 225 27) (z 225 28) (z 235) (fun j e => z 236 (18 * j + e)) (z 239) (fun a i => z 237 (8 * a + i)) (fun a i => z 238 (8 * a + i))
theorem TX_k {h : Int → Int} {z w : mZ} {t : Nat} (x : CEz h z w t) (n4 : z t 3 ≤ 8) : TXc h z w t := by
  obtain ⟨k, h0, m⟩ := x
  have c0 : cs (sq h k) = 0 := if_neg (by omega)
  obtain ⟨⟨k1, _⟩, k2, k3, _, k5⟩ := m
  have zv := ZV_sq h k
  refine ⟨⟨k, h0, ⟨k1.1, k1.2.1, k1.2.2.1⟩, fun i h1 h2 => k2.1 i h1 (by rw [← k1.1]; omega), fun j e h1 h2 _ _ => k3 j e h1 h2, fun a h1 h2 => k5.1 a (by rw [← k1.2.2.1]; exact h2), fun a i h1 h2 h3 h4 => ?_⟩, fun j e h1 h2 _ h4 => (k3 j e h1 h2).trans (zv.2.2.2.2 j e h1 h2 (by unfold ED; rw [← k1.1]; exact h4))⟩
  have h3' : (a : Int) < sq h k 5 := by rw [← k1.2.2.1]; exact h3
  rw [k5.1 a h3'] at h4
  exact k5.2 a i ⟨⟨h1, h2⟩, Or.inl ⟨h3', h4⟩⟩
theorem TX_n {h : Int → Int} {z w : mZ} (x : REz h z w) : TXn h z := by
  obtain ⟨k, h0, m⟩ := x
  have c0 : cs (sq h k) = 0 := if_neg (by omega)
  obtain ⟨k1, k2, k5⟩ := m
  have e3 := k1.1.1
  have e4 := k1.1.2.1
  have e5 := k1.1.2.2
  refine ⟨k, h0, k1.1, fun i h1 h2 => k1.2.1 i h1 (by rw [← e3]; omega), fun j e h1 h2 h3 h4 => k2.1 j e ⟨⟨h1, h2⟩, Or.inl ⟨by rw [← e4]; exact h3, by show (e : Int) < 3 * sq h k 3 / 2; rw [← e3]; exact h4⟩⟩, fun a h1 h2 => k5.1 a (by rw [← e5]; exact h2), fun a i h1 h2 h3 h4 => ?_⟩
  have h3' : (a : Int) < sq h k 5 := by rw [← e5]; exact h3
  rw [k5.1 a h3'] at h4
  exact k5.2 a i ⟨⟨h1, h2⟩, Or.inl ⟨h3', h4⟩⟩
/-- through equal heaps -/
theorem TX_kx {h : Int → Int} {z w z' w' : mZ} {p p' : mP} {t : Nat} (ht : isT t) (e : mk z w p = mk z' w' p') (r1 : rz z) (r2 : rz z') (q1 : rw_ w) (q2 : rw_ w') (x : TXc h z' w' t) : TXc h z w t := by
  have e0 : z t 0 = z' t 0 := mk_fo e (sh_T ht) rfl (by have q := rd_T_0 ht r1; exact ⟨by omega, by omega⟩) (by have q := rd_T_0 ht r2; exact ⟨by omega, by omega⟩)
  have e3 : z t 3 = z' t 3 := mk_fo e (sh_T ht) rfl (by have q := rd_T_3 ht r1; exact ⟨by omega, by omega⟩) (by have q := rd_T_3 ht r2; exact ⟨by omega, by omega⟩)
  have eN : ∀ j e' : Nat, j < 8 → e' < 18 → w (t + 8 + j) e' = w' (t + 8 + j) e' := fun j e' h1 h2 => mk_fl e (sh_T8 ht h1) (by have q := rd_T8 ht h1 q1 h2; exact ⟨by omega, by omega⟩) (by have q := rd_T8 ht h1 q2 h2; exact ⟨by omega, by omega⟩)
  refine ⟨TX_c x.1 ⟨⟨?_, ?_, ?_⟩, fun i h1 _ => ?_, fun j e' h1 h2 _ _ => ?_, fun a h1 _ => ?_, fun a i h1 h2 _ _ => ⟨?_, ?_⟩⟩, fun j e' h1 h2 h3 h4 => (eN j e' h1 h2).trans (x.2 j e' h1 h2 (by omega) (by omega))⟩
  · exact e0
  · exact e3
  · exact mk_fo e (sh_T ht) rfl (by have q := rd_T_4 ht r1; exact ⟨by omega, by omega⟩) (by have q := rd_T_4 ht r2; exact ⟨by omega, by omega⟩)
  · exact mk_fa e (sh_T1 ht) (by have q := rd_T1 ht r1 h1; exact ⟨by omega, by omega⟩) (by have q := rd_T1 ht r2 h1; exact ⟨by omega, by omega⟩)
  · exact eN j e' h1 h2
  · exact mk_fa e (sh_T18 ht) (by have q := rd_T18 ht r1 h1; exact ⟨by omega, by omega⟩) (by have q := rd_T18 ht r2 h1; exact ⟨by omega, by omega⟩)
  · exact mk_fa e (sh_T20 ht h1) (by have q := rd_T20 ht h1 r1 h2; exact ⟨by omega, by omega⟩) (by have q := rd_T20 ht h1 r2 h2; exact ⟨by omega, by omega⟩)
  · exact mk_fa e (sh_T27 ht h1) (by have q := rd_T27 ht h1 r1 h2; exact ⟨by omega, by omega⟩) (by have q := rd_T27 ht h1 r2 h2; exact ⟨by omega, by omega⟩)
theorem TX_nx {h : Int → Int} {z w z' w' : mZ} {p p' : mP} (e : mk z w p = mk z' w' p') (r1 : rz z) (r2 : rz z') (x : TXn h z') : TXn h z := by
  refine TX_c x ⟨⟨?_, ?_, ?_⟩, fun i h1 _ => ?_, fun j e' h1 h2 _ _ => ?_, fun a h1 _ => ?_, fun a i h1 h2 _ _ => ⟨?_, ?_⟩⟩
  · exact mk_fo e sh_225 rfl (by have q := rd_225_23 r1; exact ⟨by omega, by omega⟩) (by have q := rd_225_23 r2; exact ⟨by omega, by omega⟩)
  · exact mk_fo e sh_225 rfl (by have q := rd_225_24 r1; exact ⟨by omega, by omega⟩) (by have q := rd_225_24 r2; exact ⟨by omega, by omega⟩)
  · exact mk_fo e sh_225 rfl (by have q := rd_225_25 r1; exact ⟨by omega, by omega⟩) (by have q := rd_225_25 r2; exact ⟨by omega, by omega⟩)
  · exact mk_fa e sh_229 (by have q := rd_229 r1 h1; exact ⟨by omega, by omega⟩) (by have q := rd_229 r2 h1; exact ⟨by omega, by omega⟩)
  · exact mk_fa e sh_231 (by have q := rd_231 r1 (i := 18 * j + e') (by omega); exact ⟨by omega, by omega⟩) (by have q := rd_231 r2 (i := 18 * j + e') (by omega); exact ⟨by omega, by omega⟩)
  · exact mk_fa e sh_234 (by have q := rd_234 r1 h1; exact ⟨by omega, by omega⟩) (by have q := rd_234 r2 h1; exact ⟨by omega, by omega⟩)
  · exact mk_fa e sh_232 (by have q := rd_232 r1 (i := 8 * a + i) (by omega); exact ⟨by omega, by omega⟩) (by have q := rd_232 r2 (i := 8 * a + i) (by omega); exact ⟨by omega, by omega⟩)
  · exact mk_fa e sh_233 (by have q := rd_233 r1 (i := 8 * a + i) (by omega); exact ⟨by omega, by omega⟩) (by have q := rd_233 r2 (i := 8 * a + i) (by omega); exact ⟨by omega, by omega⟩)

/-! getting SHORT, flip by flip: whatever lies first in a piece, the same flips -/
def SHs (E : Int) (n : Nat → Int) : Prop := (∀ e : Nat, (e : Int) < E → n e ≤ 1) ∧ sm n E.toNat = 2
def CDd (m : Nat) (T : Nat → Nat) (n : Nat → Int) (e : Nat) : Prop := ∃ s1 s2, s1 < 3 * m ∧ s2 < 3 * m ∧ s1 / 3 < s2 / 3 ∧ T s1 = e ∧ T s2 = e ∧ max (n (T (bh s1)) + n (T (bh s2))) (n (T (ah s1)) + n (T (ah s2))) - n e < n e
def STP (m : Nat) (T : Nat → Nat) (n : Nat → Int) (e x y z w : Nat) (T1 : Nat → Nat) (n1 : Nat → Int) : Prop := ∃ s1 s2 r1 r2, s1 / 3 < s2 / 3 ∧ FLP m T T1 e x y z w s1 s2 r1 r2 ∧ n1 = fl e x y z w n ∧ n1 e < n e ∧ ∀ e', e' < e → ¬ CDd m T n e'
def CHN (m : Nat) (E : Int) (T0 : Nat → Nat) (n0 : Nat → Int) (cf : Nat → Nat → Nat) : Nat → (Nat → Nat) → (Nat → Int) → Prop
  | 0, T, n => (∀ s, s < 3 * m → T s = T0 s) ∧ ∀ j, j < 18 → n j = n0 j
  | k + 1, T, n => ∃ T1 n1, CHN m E T0 n0 cf k T1 n1 ∧ ¬ SHs E n1 ∧ STP m T1 n1 (cf k 0) (cf k 1) (cf k 2) (cf k 3) (cf k 4) T n
/-- the same pieces, perhaps turned -/
def ROT (m : Nat) (T T' : Nat → Nat) : Prop := ∀ p, p < m → ∃ a b, a / 3 = p ∧ b / 3 = p ∧ T' b = T a ∧ T' (bh b) = T (bh a) ∧ T' (ah b) = T (ah a)
section
variable {m : Nat} {E : Int} {T T' T0 T0' : Nat → Nat} {n n' n0 n0' : Nat → Int} {cf cf' : Nat → Nat → Nat}
theorem ROT_e (h : ∀ s, s < 3 * m → T' s = T s) : ROT m T T' := by
  intro p hp
  have a := bh_lt (s := 3 * p) (m := m) (by omega); have b := ah_lt (s := 3 * p) (m := m) (by omega)
  exact ⟨3 * p, 3 * p, by omega, by omega, h _ (by omega), h _ a, h _ b⟩
theorem ROT_y (h : ROT m T T') : ROT m T' T := by
  intro p hp
  obtain ⟨a, b, h1, h2, h3, h4, h5⟩ := h p hp
  exact ⟨b, a, h2, h1, h3.symm, h4.symm, h5.symm⟩
theorem ROT_s (h : ROT m T T') {s : Nat} (hs : s < 3 * m) : ∃ s', s' / 3 = s / 3 ∧ s' < 3 * m ∧ T' s' = T s ∧ T' (bh s') = T (bh s) ∧ T' (ah s') = T (ah s) := by
  obtain ⟨a, b, h1, h2, h3, h4, h5⟩ := h (s / 3) (by omega)
  have d1 := bh_div b; have d2 := ah_div b
  rcases sl_eq (h1.symm) with rfl | rfl | rfl
  · exact ⟨b, h2, by omega, h3, h4, h5⟩
  · exact ⟨bh b, by omega, by omega, h4, by rw [bh_bh, bh_bh]; exact h5, by rw [ah_bh, ah_bh]; exact h3⟩
  · exact ⟨ah b, by omega, by omega, h5, by rw [bh_ah, bh_ah]; exact h3, by rw [ah_ah, ah_ah]; exact h4⟩
theorem CDd_r (h : ROT m T T') (hT : ∀ s, s < 3 * m → T s < 18) (hn : ∀ j, j < 18 → n' j = n j) {e : Nat} (c : CDd m T n e) : CDd m T' n' e := by
  obtain ⟨s1, s2, l1, l2, ne, e1, e2, d⟩ := c
  obtain ⟨t1, a1, a2, a3, a4, a5⟩ := ROT_s h l1
  obtain ⟨t2, b1, b2, b3, b4, b5⟩ := ROT_s h l2
  refine ⟨t1, t2, a2, b2, by omega, a3.trans e1, b3.trans e2, ?_⟩
  have he : e < 18 := by rw [← e1]; exact hT _ l1
  rw [a4, a5, b4, b5, hn _ (hT _ (bh_lt l1)), hn _ (hT _ (bh_lt l2)), hn _ (hT _ (ah_lt l1)), hn _ (hT _ (ah_lt l2)), hn _ he]
  exact d
theorem STP_cd {e x y z w : Nat} {T1 : Nat → Nat} {n1 : Nat → Int} (s : STP m T n e x y z w T1 n1) : CDd m T n e := by
  obtain ⟨s1, s2, r1, r2, lt, f, hn, d, _⟩ := s
  refine ⟨s1, s2, f.l1, f.l2, lt, f.e1, f.e2, ?_⟩
  rw [hn, fl_e] at d
  rw [f.hx, f.hy, f.hz, f.hw]; exact d
theorem STP_u (h : ROT m T T') (hT : ∀ s, s < 3 * m → T s < 18) (hn : ∀ j, j < 18 → n' j = n j) {e x y z w e' x' y' z' w' : Nat} {T1 T1' : Nat → Nat} {n1 n1' : Nat → Int} (s : STP m T n e x y z w T1 n1) (s' : STP m T' n' e' x' y' z' w' T1' n1') :
    (e' = e ∧ x' = x ∧ y' = y ∧ z' = z ∧ w' = w) ∧ ROT m T1 T1' ∧ (∀ j, j < 18 → n1' j = n1 j) ∧ ∀ s, s < 3 * m → T1 s < 18 := by
  have c := CDd_r h hT hn (STP_cd s)
  have hT' : ∀ s, s < 3 * m → T' s < 18 := by
    intro q hq
    obtain ⟨r, r1, r2, r3, _⟩ := ROT_s (ROT_y h) hq
    rw [← r3]; exact hT r r2
  have c' := CDd_r (ROT_y h) hT' (fun j hj => (hn j hj).symm) (STP_cd s')
  obtain ⟨s1, s2, r1, r2, lt, f, en, d, le⟩ := s
  obtain ⟨s1', s2', r1', r2', lt', f', en', d', le'⟩ := s'
  have ee : e' = e := by
    rcases (show e' < e ∨ e < e' ∨ e' = e by omega) with q | q | q
    · exact absurd c' (le e' q)
    · exact absurd c (le' e q)
    · exact q
  subst ee
  obtain ⟨t1, a1, a2, a3, a4, a5⟩ := ROT_s h f.l1
  obtain ⟨t2, b1, b2, b3, b4, b5⟩ := ROT_s h f.l2
  have k1 := f'.eo t1 a2 (a3.trans f.e1)
  have k2 := f'.eo t2 b2 (b3.trans f.e2)
  have g1 : t1 = s1' := by rcases k1 with q | q <;> rcases k2 with q2 | q2 <;> omega
  have g2 : t2 = s2' := by rcases k1 with q | q <;> rcases k2 with q2 | q2 <;> omega
  subst g1 g2
  have vx : x < 18 := by rw [← f.hx]; exact hT _ (bh_lt f.l1)
  have vy : y < 18 := by rw [← f.hy]; exact hT _ (ah_lt f.l1)
  have vz : z < 18 := by rw [← f.hz]; exact hT _ (bh_lt f.l2)
  have vw : w < 18 := by rw [← f.hw]; exact hT _ (ah_lt f.l2)
  have ex : x' = x := by rw [← f'.hx, ← f.hx]; exact a4
  have ey : y' = y := by rw [← f'.hy, ← f.hy]; exact a5
  have ez : z' = z := by rw [← f'.hz, ← f.hz]; exact b4
  have ew : w' = w := by rw [← f'.hw, ← f.hw]; exact b5
  subst ex ey ez ew
  refine ⟨⟨rfl, rfl, rfl, rfl, rfl⟩, ?_, ?_, f.lt hT⟩
  · intro p hp
    have q1 := f.q1; have q2 := f.q2; have q1' := f'.q1; have q2' := f'.q2
    by_cases d1 : p = s1 / 3
    · exact ⟨r1, r1', by omega, by omega, f'.f1.trans f.f1.symm, f'.gy.trans f.gy.symm, f'.gz.trans f.gz.symm⟩
    · by_cases d2 : p = s2 / 3
      · exact ⟨r2, r2', by omega, by omega, f'.f2.trans f.f2.symm, f'.gw.trans f.gw.symm, f'.gx.trans f.gx.symm⟩
      · obtain ⟨a, b, h1, h2, h3, h4, h5⟩ := h p hp
        have z1 := bh_div a; have z2 := ah_div a; have z3 := bh_div b; have z4 := ah_div b
        exact ⟨a, b, h1, h2, by rw [f'.ot b (by omega) (by omega), f.ot a (by omega) (by omega)]; exact h3, by rw [f'.ot (bh b) (by omega) (by omega), f.ot (bh a) (by omega) (by omega)]; exact h4, by rw [f'.ot (ah b) (by omega) (by omega), f.ot (ah a) (by omega) (by omega)]; exact h5⟩
  · intro j hj
    rw [en, en']
    unfold fl
    by_cases q : j = e'
    · rw [if_pos q, if_pos q, hn _ vx, hn _ vy, hn _ vz, hn _ vw, hn _ (by omega)]
    · rw [if_neg q, if_neg q, hn _ hj]
theorem CHN_u (hT : ∀ s, s < 3 * m → T0 s < 18) (h : ROT m T0 T0') (hn : ∀ j, j < 18 → n0' j = n0 j) : ∀ (k : Nat) {T T' : Nat → Nat} {n n' : Nat → Int}, CHN m E T0 n0 cf k T n → CHN m E T0' n0' cf' k T' n' → (∀ i j, i < k → j < 5 → cf' i j = cf i j) ∧ ROT m T T' ∧ (∀ j, j < 18 → n' j = n j) ∧ ∀ s, s < 3 * m → T s < 18
  | 0, T, T', n, n', c, c' => by
    obtain ⟨ca, cb⟩ := c
    obtain ⟨ca', cb'⟩ := c'
    refine ⟨fun i j hi => absurd hi (by omega), ?_, fun j hj => by rw [cb' j hj, cb j hj]; exact hn j hj, fun s hs => by rw [ca s hs]; exact hT s hs⟩
    intro p hp
    obtain ⟨a, b, h1, h2, h3, h4, h5⟩ := h p hp
    have z1 := bh_div a; have z2 := ah_div a; have z3 := bh_div b; have z4 := ah_div b
    exact ⟨a, b, h1, h2, by rw [ca' b (by omega), ca a (by omega)]; exact h3, by rw [ca' (bh b) (by omega), ca (bh a) (by omega)]; exact h4, by rw [ca' (ah b) (by omega), ca (ah a) (by omega)]; exact h5⟩
  | k + 1, T, T', n, n', c, c' => by
    obtain ⟨T1, n1, c1, _, st⟩ := c
    obtain ⟨T1', n1', c1', _, st'⟩ := c'
    obtain ⟨i1, i2, i3, i4⟩ := CHN_u hT h hn k c1 c1'
    obtain ⟨⟨e0, e1, e2, e3, e4⟩, u2, u3, u4⟩ := STP_u i2 i4 i3 st st'
    refine ⟨fun i j hi hj => ?_, u2, u3, u4⟩
    by_cases q : i < k
    · exact i1 i j q hj
    · have q : i = k := by omega
      subst q
      rcases (show j = 0 ∨ j = 1 ∨ j = 2 ∨ j = 3 ∨ j = 4 by omega) with rfl | rfl | rfl | rfl | rfl
      · exact e0
      · exact e1
      · exact e2
      · exact e3
      · exact e4
/-- a shorter way is the beginning of a longer one, and it was not at its end there -/
theorem CHN_d {k : Nat} : ∀ (d : Nat) {T : Nat → Nat} {n : Nat → Int}, CHN m E T0 n0 cf (k + d + 1) T n → ∃ T1 n1, CHN m E T0 n0 cf k T1 n1 ∧ ¬ SHs E n1 ∧ ∃ e, CDd m T1 n1 e
  | 0, T, n, c => by
    obtain ⟨T1, n1, c1, c2, st⟩ := c
    exact ⟨T1, n1, c1, c2, _, STP_cd st⟩
  | d + 1, T, n, c => by
    obtain ⟨T1, n1, c1, _, _⟩ := c
    exact CHN_d d c1
def FNL (m : Nat) (E : Int) (T : Nat → Nat) (n : Nat → Int) : Prop := SHs E n ∨ ∀ e, ¬ CDd m T n e
theorem SHs_c (hE : E ≤ 18) (hn : ∀ j, j < 18 → n' j = n j) (h : SHs E n) : SHs E n' := ⟨fun e he => by rw [hn e (by omega)]; exact h.1 e he, by rw [sm_c E.toNat (fun j hj => hn j (by omega))]; exact h.2⟩
theorem FNL_c (hE : E ≤ 18) (h : ROT m T T') (hT : ∀ s, s < 3 * m → T s < 18) (hn : ∀ j, j < 18 → n' j = n j) (f : FNL m E T n) : SHs E n' ∨ ∀ e, ¬ CDd m T' n' e := by
  rcases f with f | f
  · exact Or.inl (SHs_c hE hn f)
  · right
    intro e c
    have hT' : ∀ s, s < 3 * m → T' s < 18 := by
      intro q hq
      obtain ⟨r, r1, r2, r3, _⟩ := ROT_s (ROT_y h) hq
      rw [← r3]; exact hT r r2
    exact f e (CDd_r (ROT_y h) hT' (fun j hj => (hn j hj).symm) c)
theorem CHN_l (hE : E ≤ 18) (hT : ∀ s, s < 3 * m → T0 s < 18) (h : ROT m T0 T0') (hn : ∀ j, j < 18 → n0' j = n0 j) {k k' : Nat} (c : CHN m E T0 n0 cf k T n) (f : FNL m E T n) (c' : CHN m E T0' n0' cf' k' T' n') (f' : FNL m E T' n') : k' = k := by
  have hT' : ∀ s, s < 3 * m → T0' s < 18 := by
    intro q hq
    obtain ⟨r, r1, r2, r3, _⟩ := ROT_s (ROT_y h) hq
    rw [← r3]; exact hT r r2
  rcases (show k' < k ∨ k < k' ∨ k' = k by omega) with q | q | q
  · obtain ⟨T1, n1, a1, a2, e, a3⟩ := CHN_d (k := k') (k - k' - 1) (by rw [show k' + (k - k' - 1) + 1 = k by omega]; exact c)
    obtain ⟨_, u2, u3, u4⟩ := CHN_u (E := E) hT' (ROT_y h) (fun j hj => (hn j hj).symm) k' c' a1
    rcases FNL_c hE u2 u4 u3 f' with g | g
    · exact absurd g a2
    · exact absurd a3 (g e)
  · obtain ⟨T1, n1, a1, a2, e, a3⟩ := CHN_d (k := k) (k' - k - 1) (by rw [show k + (k' - k - 1) + 1 = k' by omega]; exact c')
    obtain ⟨_, u2, u3, u4⟩ := CHN_u (E := E) hT h hn k c a1
    rcases FNL_c hE u2 u4 u3 f with g | g
    · exact absurd g a2
    · exact absurd a3 (g e)
  · exact q
/-- the two pieces round a short line: told by the first, told by the last -/
def ENa (m : Nat) (T : Nat → Nat) (n : Nat → Int) (a b e f : Nat) : Prop := ∃ u v, u < v ∧ v < 3 * m ∧ CO T n u ∧ CO T n v ∧ a = T u ∧ b = T v ∧ e = T (ah u) ∧ f = T (bh u)
def ENb (m : Nat) (T : Nat → Nat) (n : Nat → Int) (a b e f : Nat) : Prop := ∃ u v, u < v ∧ v < 3 * m ∧ CO T n u ∧ CO T n v ∧ a = T u ∧ b = T v ∧ e = T (ah v) ∧ f = T (bh v)
/-- two at most, and they lie alike -/
def EN2 (m : Nat) (T : Nat → Nat) (n : Nat → Int) : Prop := ∀ u v, u < v → v < 3 * m → CO T n u → CO T n v → (T (ah v) = T (ah u) ∧ T (bh v) = T (bh u)) ∧ ∀ w, w < 3 * m → CO T n w → w = u ∨ w = v
theorem CO_1 {u v : Nat} (cu : CO T n u) (cv : CO T n v) (q : u / 3 = v / 3) : u = v := by
  rcases sl_eq q with k | k | k
  · exact k
  · have := cu.1; rw [k, cv.2.1] at this; omega
  · have := cu.1; rw [k, cv.2.2] at this; omega
theorem CO_r (h : ROT m T T') (hT : ∀ s, s < 3 * m → T s < 18) (hn : ∀ j, j < 18 → n' j = n j) {u : Nat} (hu : u < 3 * m) (c : CO T n u) : ∃ u', u' / 3 = u / 3 ∧ u' < 3 * m ∧ CO T' n' u' ∧ T' u' = T u ∧ T' (bh u') = T (bh u) ∧ T' (ah u') = T (ah u) := by
  obtain ⟨t, a1, a2, a3, a4, a5⟩ := ROT_s h hu
  refine ⟨t, a1, a2, ⟨?_, ?_, ?_⟩, a3, a4, a5⟩
  · rw [a3, hn _ (hT _ hu)]; exact c.1
  · rw [a4, hn _ (hT _ (bh_lt hu))]; exact c.2.1
  · rw [a5, hn _ (hT _ (ah_lt hu))]; exact c.2.2
theorem EN_u (h : ROT m T T') (hT : ∀ s, s < 3 * m → T s < 18) (hn : ∀ j, j < 18 → n' j = n j) (e2 : EN2 m T n) {a b e f a' b' e' f' : Nat} (c : ENa m T n a b e f) (c' : ENb m T' n' a' b' e' f') : a' = a ∧ b' = b ∧ e' = e ∧ f' = f := by
  have hT' : ∀ s, s < 3 * m → T' s < 18 := by
    intro q hq
    obtain ⟨r, r1, r2, r3, _⟩ := ROT_s (ROT_y h) hq
    rw [← r3]; exact hT r r2
  obtain ⟨u, v, uv, hv, cu, cv, ea, eb, ee, ef⟩ := c
  obtain ⟨u', v', uv', hv', cu', cv', ea', eb', ee', ef'⟩ := c'
  obtain ⟨s, s1, s2, s3, s4, s5, s6⟩ := CO_r (ROT_y h) hT' (fun j hj => (hn j hj).symm) (by omega) cu'
  obtain ⟨t, t1, t2, t3, t4, t5, t6⟩ := CO_r (ROT_y h) hT' (fun j hj => (hn j hj).symm) hv' cv'
  have d : u' / 3 ≠ v' / 3 := fun q => by have := CO_1 cu' cv' q; omega
  obtain ⟨⟨k1, k2⟩, k3⟩ := e2 u v uv hv cu cv
  have ks := k3 s s2 s3
  have kt := k3 t t2 t3
  have g1 : s = u := by rcases ks with q | q <;> rcases kt with q2 | q2 <;> omega
  have g2 : t = v := by rcases ks with q | q <;> rcases kt with q2 | q2 <;> omega
  subst g1 g2
  exact ⟨by rw [ea', ea, s4], by rw [eb', eb, t4], by rw [ee', ee, ← k1, t6], by rw [ef', ef, ← k2, t5]⟩
end
/-- of a short line that is no ring -/
theorem SHI_e2 {m E k : Int} {T0 T n : Nat → Int} {cf : Nat → Nat → Nat} (h : SHI m E T0 T n cf k) (s : SHs E n) (nr : ¬ RNG m.toNat (vT T) n) : EN2 m.toNat (vT T) n := by
  obtain ⟨c1, c2, c3⟩ := SHI_c h s.1 s.2
  obtain ⟨ly, ft, ⟨o, oo, cn⟩, gx, _, sb, k0⟩ := h
  have we := ly.2.2.2.2.2
  intro u v uv hv cu cv
  have hu : u < 3 * m.toNat := by omega
  have t := co_twp ft ly.lt c1 cn we c2 c3 hu hv (by omega) cu cv
  have ef := t.ef
  have nn : ∀ r, r < 3 * m.toNat → n (vT T r) = 1 → vT T r = vT T (ah u) ∨ vT T r = vT T (bh u) := by
    intro r hr q
    rcases c3 (ah u) (bh u) r (ah_lt hu) (bh_lt hu) hr cu.2.2 cu.2.1 q with k | k | k
    · exact absurd k ef
    · exact Or.inl k.symm
    · exact Or.inr k.symm
  refine ⟨?_, fun w hw cw => ?_⟩
  · have d := t.ne
    rcases t.h2 with ⟨q1, q2⟩ | ⟨q1, q2⟩
    · exfalso
      apply nr
      refine rng_bad we hu hv d q1 q2 ef cu.2.2 cu.2.1 (fun r hr h1 h2 => ?_)
      have a := ft.1 _ (ly.lt r hr)
      have b := c1 r hr
      by_cases c : n (vT T r) = 1
      · rcases nn r hr c with k | k
        · exact absurd k h1
        · exact absurd k h2
      · omega
    · exact ⟨q2, q1⟩
  · have b := nn (bh w) (bh_lt hw) cw.2.1
    have q := t.eo (bh w) (bh_lt hw) b
    rw [bh_div] at q
    rcases q with q | q
    · exact Or.inl (CO_1 cw cu q)
    · exact Or.inr (CO_1 cw cv q)

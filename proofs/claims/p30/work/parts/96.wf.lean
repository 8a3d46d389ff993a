section
/-! getting SHORT, flip by flip: whatever lies first in a piece, the same flips -/
def SHs (E : Int) (n : Nat → Int) : Prop := (∀ e : Nat, (e : Int) < E → n e ≤ 1) ∧ sm n E.toNat = 2
def CDd (m : Nat) (T : Nat → Nat) (n : Nat → Int) (e : Nat) : Prop := ∃ s1 s2, s1 < 3 * m ∧ s2 < 3 * m ∧ s1 / 3 < s2 / 3 ∧ T s1 = e ∧ T s2 = e ∧ max (n (T (bh s1)) + n (T (bh s2))) (n (T (ah s1)) + n (T (ah s2))) - n e < n e
def STP (m : Nat) (T : Nat → Nat) (n : Nat → Int) (e x y z w : Nat) (T1 : Nat → Nat) (n1 : Nat → Int) : Prop := ∃ s1 s2 r1 r2, s1 / 3 < s2 / 3 ∧ FLP m T T1 e x y z w s1 s2 r1 r2 ∧ n1 = fl e x y z w n ∧ n1 e < n e ∧ ∀ e', e' < e → ¬ CDd m T n e'
def CHN (m : Nat) (E : Int) (T0 : Nat → Nat) (n0 : Nat → Int) (cf : Nat → Nat → Nat) : Nat → (Nat → Nat) → (Nat → Int) → Prop
  | 0, T, n => (∀ s, s < 3 * m → T s = T0 s) ∧ ∀ j, j < 18 → n j = n0 j
  | k + 1, T, n => ∃ T1 n1, CHN m E T0 n0 cf k T1 n1 ∧ ¬ SHs E n1 ∧ STP m T1 n1 (cf k 0) (cf k 1) (cf k 2) (cf k 3) (cf k 4) T n
/-- the same pieces, perhaps turned -/
def ROT (m : Nat) (T T' : Nat → Nat) : Prop := ∀ p, p < m → ∃ a b, a / 3 = p ∧ b / 3 = p ∧ T' b = T a ∧ T' (bh b) = T (bh a) ∧ T' (ah b) = T (ah a)
section
variable {m : Nat} {E : Int} {T T' T0 T0' : Nat → Nat} {n n' n0 n0' : Nat → Int} {cf cf' : Nat → Nat → Nat}
theorem ROT_e (h : ∀ s, s < 3 * m → T' s = T s) : ROT m T T' := by
  intro p hp
  have a := bh_lt (s := 3 * p) (m := m) (by omega); have b := ah_lt (s := 3 * p) (m := m) (by omega)
  exact ⟨3 * p, 3 * p, by omega, by omega, h _ (by omega), h _ a, h _ b⟩
theorem ROT_y (h : ROT m T T') : ROT m T' T := by
  intro p hp
  obtain ⟨a, b, h1, h2, h3, h4, h5⟩ := h p hp
  exact ⟨b, a, h2, h1, h3.symm, h4.symm, h5.symm⟩
theorem ROT_s (h : ROT m T T') {s : Nat} (hs : s < 3 * m) : ∃ s', s' / 3 = s / 3 ∧ s' < 3 * m ∧ T' s' = T s ∧ T' (bh s') = T (bh s) ∧ T' (ah s') = T (ah s) := by
  obtain ⟨a, b, h1, h2, h3, h4, h5⟩ := h (s / 3) (by omega)
  have d1 := bh_div b; have d2 := ah_div b
  rcases sl_eq (h1.symm) with rfl | rfl | rfl
  · exact ⟨b, h2, by omega, h3, h4, h5⟩
  · exact ⟨bh b, by omega, by omega, h4, by rw [bh_bh, bh_bh]; exact h5, by rw [ah_bh, ah_bh]; exact h3⟩
  · exact ⟨ah b, by omega, by omega, h5, by rw [bh_ah, bh_ah]; exact h3, by rw [ah_ah, ah_ah]; exact h4⟩
theorem CDd_r (h : ROT m T T') (hT : ∀ s, s < 3 * m → T s < 18) (hn : ∀ j, j < 18 → n' j = n j) {e : Nat} (c : CDd m T n e) : CDd m T' n' e := by
  obtain ⟨s1, s2, l1, l2, ne, e1, e2, d⟩ := c
  obtain ⟨t1, a1, a2, a3, a4, a5⟩ := ROT_s h l1
  obtain ⟨t2, b1, b2, b3, b4, b5⟩ := ROT_s h l2
  refine ⟨t1, t2, a2, b2, by omega, a3.trans e1, b3.trans e2, ?_⟩
  have he : e < 18 := by rw [← e1]; exact hT _ l1
  rw [a4, a5, b4, b5, hn _ (hT _ (bh_lt l1)), hn _ (hT _ (bh_lt l2)), hn _ (hT _ (ah_lt l1)), hn _ (hT _ (ah_lt l2)), hn _ he]
  exact d
theorem STP_cd {e x y z w : Nat} {T1 : Nat → Nat} {n1 : Nat → Int} (s : STP m T n e x y z w T1 n1) : CDd m T n e := by
  obtain ⟨s1, s2, r1, r2, lt, f, hn, d, _⟩ := s
  refine ⟨s1, s2, f.l1, f.l2, lt, f.e1, f.e2, ?_⟩
  rw [hn, fl_e] at d
  rw [f.hx, f.hy, f.hz, f.hw]; exact d
theorem STP_u (h : ROT m T T') (hT : ∀ s, s < 3 * m → T s < 18) (hn : ∀ j, j < 18 → n' j = n j) {e x y z w e' x' y' z' w' : Nat} {T1 T1' : Nat → Nat} {n1 n1' : Nat → Int} (s : STP m T n e x y z w T1 n1) (s' : STP m T' n' e' x' y' z' w' T1' n1') :
    (e' = e ∧ x' = x ∧ y' = y ∧ z' = z ∧ w' = w) ∧ ROT m T1 T1' ∧ (∀ j, j < 18 → n1' j = n1 j) ∧ ∀ s, s < 3 * m → T1 s < 18 := by
  have c := CDd_r h hT hn (STP_cd s)
  have hT' : ∀ s, s < 3 * m → T' s < 18 := by
    intro q hq
    obtain ⟨r, r1, r2, r3, _⟩ := ROT_s (ROT_y h) hq
    rw [← r3]; exact hT r r2
  have c' := CDd_r (ROT_y h) hT' (fun j hj => (hn j hj).symm) (STP_cd s')
  obtain ⟨s1, s2, r1, r2, lt, f, en, d, le⟩ := s
  obtain ⟨s1', s2', r1', r2', lt', f', en', d', le'⟩ := s'
  have ee : e' = e := by
    rcases (show e' < e ∨ e < e' ∨ e' = e by omega) with q | q | q
    · exact absurd c' (le e' q)
    · exact absurd c (le' e q)
    · exact q
  subst ee
  obtain ⟨t1, a1, a2, a3, a4, a5⟩ := ROT_s h f.l1
  obtain ⟨t2, b1, b2, b3, b4, b5⟩ := ROT_s h f.l2
  have k1 := f'.eo t1 a2 (a3.trans f.e1)
  have k2 := f'.eo t2 b2 (b3.trans f.e2)
  have g1 : t1 = s1' := by rcases k1 with q | q <;> rcases k2 with q2 | q2 <;> omega
  have g2 : t2 = s2' := by rcases k1 with q | q <;> rcases k2 with q2 | q2 <;> omega
  subst g1 g2
  have vx : x < 18 := by rw [← f.hx]; exact hT _ (bh_lt f.l1)
  have vy : y < 18 := by rw [← f.hy]; exact hT _ (ah_lt f.l1)
  have vz : z < 18 := by rw [← f.hz]; exact hT _ (bh_lt f.l2)
  have vw : w < 18 := by rw [← f.hw]; exact hT _ (ah_lt f.l2)
  have ex : x' = x := by rw [← f'.hx, ← f.hx]; exact a4
  have ey : y' = y := by rw [← f'.hy, ← f.hy]; exact a5
  have ez : z' = z := by rw [← f'.hz, ← f.hz]; exact b4
  have ew : w' = w := by rw [← f'.hw, ← f.hw]; exact b5
  subst ex ey ez ew
  refine ⟨⟨rfl, rfl, rfl, rfl, rfl⟩, ?_, ?_, f.lt hT⟩
  · intro p hp
    have q1 := f.q1; have q2 := f.q2; have q1' := f'.q1; have q2' := f'.q2
    by_cases d1 : p = s1 / 3
    · exact ⟨r1, r1', by omega, by omega, f'.f1.trans f.f1.symm, f'.gy.trans f.gy.symm, f'.gz.trans f.gz.symm⟩
    · by_cases d2 : p = s2 / 3
      · exact ⟨r2, r2', by omega, by omega, f'.f2.trans f.f2.symm, f'.gw.trans f.gw.symm, f'.gx.trans f.gx.symm⟩
      · obtain ⟨a, b, h1, h2, h3, h4, h5⟩ := h p hp
        have z1 := bh_div a; have z2 := ah_div a; have z3 := bh_div b; have z4 := ah_div b
        exact ⟨a, b, h1, h2, by rw [f'.ot b (by omega) (by omega), f.ot a (by omega) (by omega)]; exact h3, by rw [f'.ot (bh b) (by omega) (by omega), f.ot (bh a) (by omega) (by omega)]; exact h4, by rw [f'.ot (ah b) (by omega) (by omega), f.ot (ah a) (by omega) (by omega)]; exact h5⟩
  · intro j hj
    rw [en, en']
    unfold fl
    by_cases q : j = e'
    · rw [if_pos q, if_pos q, hn _ vx, hn _ vy, hn _ vz, hn _ vw, hn _ (by omega)]
    · rw [if_neg q, if_neg q, hn _ hj]
theorem CHN_u (hT : ∀ s, s < 3 * m → T0 s < 18) (h : ROT m T0 T0') (hn : ∀ j, j < 18 → n0' j = n0 j) : ∀ (k : Nat) {T T' : Nat → Nat} {n n' : Nat → Int}, CHN m E T0 n0 cf k T n → CHN m E T0' n0' cf' k T' n' → (∀ i j, i < k → j < 5 → cf' i j = cf i j) ∧ ROT m T T' ∧ (∀ j, j < 18 → n' j = n j) ∧ ∀ s, s < 3 * m → T s < 18
  | 0, T, T', n, n', c, c' => by
    obtain ⟨ca, cb⟩ := c
    obtain ⟨ca', cb'⟩ := c'
    refine ⟨fun i j hi => absurd hi (by omega), ?_, fun j hj => by rw [cb' j hj, cb j hj]; exact hn j hj, fun s hs => by rw [ca s hs]; exact hT s hs⟩
    intro p hp
    obtain ⟨a, b, h1, h2, h3, h4, h5⟩ := h p hp
    have z1 := bh_div a; have z2 := ah_div a; have z3 := bh_div b; have z4 := ah_div b
    exact ⟨a, b, h1, h2, by rw [ca' b (by omega), ca a (by omega)]; exact h3, by rw [ca' (bh b) (by omega), ca (bh a) (by omega)]; exact h4, by rw [ca' (ah b) (by omega), ca (ah a) (by omega)]; exact h5⟩
  | k + 1, T, T', n, n', c, c' => by
    obtain ⟨T1, n1, c1, _, st⟩ := c
    obtain ⟨T1', n1', c1', _, st'⟩ := c'
    obtain ⟨i1, i2, i3, i4⟩ := CHN_u hT h hn k c1 c1'
    obtain ⟨⟨e0, e1, e2, e3, e4⟩, u2, u3, u4⟩ := STP_u i2 i4 i3 st st'
    refine ⟨fun i j hi hj => ?_, u2, u3, u4⟩
    by_cases q : i < k
    · exact i1 i j q hj
    · have q : i = k := by omega
      subst q
      rcases (show j = 0 ∨ j = 1 ∨ j = 2 ∨ j = 3 ∨ j = 4 by omega) with rfl | rfl | rfl | rfl | rfl
      · exact e0
      · exact e1
      · exact e2
      · exact e3
      · exact e4
/-- a shorter way is the beginning of a longer one, and it was not at its end there -/
theorem CHN_d {k : Nat} : ∀ (d : Nat) {T : Nat → Nat} {n : Nat → Int}, CHN m E T0 n0 cf (k + d + 1) T n → ∃ T1 n1, CHN m E T0 n0 cf k T1 n1 ∧ ¬ SHs E n1 ∧ ∃ e, CDd m T1 n1 e
  | 0, T, n, c => by
    obtain ⟨T1, n1, c1, c2, st⟩ := c
    exact ⟨T1, n1, c1, c2, _, STP_cd st⟩
  | d + 1, T, n, c => by
    obtain ⟨T1, n1, c1, _, _⟩ := c
    exact CHN_d d c1
def FNL (m : Nat) (E : Int) (T : Nat → Nat) (n : Nat → Int) : Prop := SHs E n ∨ ∀ e, ¬ CDd m T n e
theorem SHs_c (hE : E ≤ 18) (hn : ∀ j, j < 18 → n' j = n j) (h : SHs E n) : SHs E n' := ⟨fun e he => by rw [hn e (by omega)]; exact h.1 e he, by rw [sm_c E.toNat (fun j hj => hn j (by omega))]; exact h.2⟩
theorem FNL_c (hE : E ≤ 18) (h : ROT m T T') (hT : ∀ s, s < 3 * m → T s < 18) (hn : ∀ j, j < 18 → n' j = n j) (f : FNL m E T n) : SHs E n' ∨ ∀ e, ¬ CDd m T' n' e := by
  rcases f with f | f
  · exact Or.inl (SHs_c hE hn f)
  · right
    intro e c
    have hT' : ∀ s, s < 3 * m → T' s < 18 := by
      intro q hq
      obtain ⟨r, r1, r2, r3, _⟩ := ROT_s (ROT_y h) hq
      rw [← r3]; exact hT r r2
    exact f e (CDd_r (ROT_y h) hT' (fun j hj => (hn j hj).symm) c)
theorem CHN_l (hE : E ≤ 18) (hT : ∀ s, s < 3 * m → T0 s < 18) (h : ROT m T0 T0') (hn : ∀ j, j < 18 → n0' j = n0 j) {k k' : Nat} (c : CHN m E T0 n0 cf k T n) (f : FNL m E T n) (c' : CHN m E T0' n0' cf' k' T' n') (f' : FNL m E T' n') : k' = k := by
  have hT' : ∀ s, s < 3 * m → T0' s < 18 := by
    intro q hq
    obtain ⟨r, r1, r2, r3, _⟩ := ROT_s (ROT_y h) hq
    rw [← r3]; exact hT r r2
  rcases (show k' < k ∨ k < k' ∨ k' = k by omega) with q | q | q
  · obtain ⟨T1, n1, a1, a2, e, a3⟩ := CHN_d (k := k') (k - k' - 1) (by rw [show k' + (k - k' - 1) + 1 = k by omega]; exact c)
    obtain ⟨_, u2, u3, u4⟩ := CHN_u (E := E) hT' (ROT_y h) (fun j hj => (hn j hj).symm) k' c' a1
    rcases FNL_c hE u2 u4 u3 f' with g | g
    · exact absurd g a2
    · exact absurd a3 (g e)
  · obtain ⟨T1, n1, a1, a2, e, a3⟩ := CHN_d (k := k) (k' - k - 1) (by rw [show k + (k' - k - 1) + 1 = k' by omega]; exact c')
    obtain ⟨_, u2, u3, u4⟩ := CHN_u (E := E) hT h hn k c a1
    rcases FNL_c hE u2 u4 u3 f with g | g
    · exact absurd g a2
    · exact absurd a3 (g e)
  · exact q
/-- the two pieces round a short line: told by the first, told by the last -/
def ENa (m : Nat) (T : Nat → Nat) (n : Nat → Int) (a b e f : Nat) : Prop := ∃ u v, u < v ∧ v < 3 * m ∧ CO T n u ∧ CO T n v ∧ a = T u ∧ b = T v ∧ e = T (ah u) ∧ f = T (bh u)
def ENb (m : Nat) (T : Nat → Nat) (n : Nat → Int) (a b e f : Nat) : Prop := ∃ u v, u < v ∧ v < 3 * m ∧ CO T n u ∧ CO T n v ∧ a = T u ∧ b = T v ∧ e = T (ah v) ∧ f = T (bh v)
/-- two at most, and they lie alike -/
def EN2 (m : Nat) (T : Nat → Nat) (n : Nat → Int) : Prop := ∀ u v, u < v → v < 3 * m → CO T n u → CO T n v → (T (ah v) = T (ah u) ∧ T (bh v) = T (bh u)) ∧ ∀ w, w < 3 * m → CO T n w → w = u ∨ w = v
theorem CO_1 {u v : Nat} (cu : CO T n u) (cv : CO T n v) (q : u / 3 = v / 3) : u = v := by
  rcases sl_eq q with k | k | k
  · exact k
  · have := cu.1; rw [k, cv.2.1] at this; omega
  · have := cu.1; rw [k, cv.2.2] at this; omega
theorem CO_r (h : ROT m T T') (hT : ∀ s, s < 3 * m → T s < 18) (hn : ∀ j, j < 18 → n' j = n j) {u : Nat} (hu : u < 3 * m) (c : CO T n u) : ∃ u', u' / 3 = u / 3 ∧ u' < 3 * m ∧ CO T' n' u' ∧ T' u' = T u ∧ T' (bh u') = T (bh u) ∧ T' (ah u') = T (ah u) := by
  obtain ⟨t, a1, a2, a3, a4, a5⟩ := ROT_s h hu
  refine ⟨t, a1, a2, ⟨?_, ?_, ?_⟩, a3, a4, a5⟩
  · rw [a3, hn _ (hT _ hu)]; exact c.1
  · rw [a4, hn _ (hT _ (bh_lt hu))]; exact c.2.1
  · rw [a5, hn _ (hT _ (ah_lt hu))]; exact c.2.2
theorem EN_u (h : ROT m T T') (hT : ∀ s, s < 3 * m → T s < 18) (hn : ∀ j, j < 18 → n' j = n j) (e2 : EN2 m T n) {a b e f a' b' e' f' : Nat} (c : ENa m T n a b e f) (c' : ENb m T' n' a' b' e' f') : a' = a ∧ b' = b ∧ e' = e ∧ f' = f := by
  have hT' : ∀ s, s < 3 * m → T' s < 18 := by
    intro q hq
    obtain ⟨r, r1, r2, r3, _⟩ := ROT_s (ROT_y h) hq
    rw [← r3]; exact hT r r2
  obtain ⟨u, v, uv, hv, cu, cv, ea, eb, ee, ef⟩ := c
  obtain ⟨u', v', uv', hv', cu', cv', ea', eb', ee', ef'⟩ := c'
  obtain ⟨s, s1, s2, s3, s4, s5, s6⟩ := CO_r (ROT_y h) hT' (fun j hj => (hn j hj).symm) (by omega) cu'
  obtain ⟨t, t1, t2, t3, t4, t5, t6⟩ := CO_r (ROT_y h) hT' (fun j hj => (hn j hj).symm) hv' cv'
  have d : u' / 3 ≠ v' / 3 := fun q => by have := CO_1 cu' cv' q; omega
  obtain ⟨⟨k1, k2⟩, k3⟩ := e2 u v uv hv cu cv
  have ks := k3 s s2 s3
  have kt := k3 t t2 t3
  have g1 : s = u := by rcases ks with q | q <;> rcases kt with q2 | q2 <;> omega
  have g2 : t = v := by rcases ks with q | q <;> rcases kt with q2 | q2 <;> omega
  subst g1 g2
  exact ⟨by rw [ea', ea, s4], by rw [eb', eb, t4], by rw [ee', ee, ← k1, t6], by rw [ef', ef, ← k2, t5]⟩
end
/-- of a short line that is no ring -/
theorem SHI_e2 {m E k : Int} {T0 T n : Nat → Int} {cf : Nat → Nat → Nat} (h : SHI m E T0 T n cf k) (s : SHs E n) (nr : ¬ RNG m.toNat (vT T) n) : EN2 m.toNat (vT T) n := by
  obtain ⟨c1, c2, c3⟩ := SHI_c h s.1 s.2
  obtain ⟨ly, ft, ⟨o, oo, cn⟩, gx, _, sb, k0⟩ := h
  have we := ly.2.2.2.2.2
  intro u v uv hv cu cv
  have hu : u < 3 * m.toNat := by omega
  have t := co_twp ft ly.lt c1 cn we c2 c3 hu hv (by omega) cu cv
  have ef := t.ef
  have nn : ∀ r, r < 3 * m.toNat → n (vT T r) = 1 → vT T r = vT T (ah u) ∨ vT T r = vT T (bh u) := by
    intro r hr q
    rcases c3 (ah u) (bh u) r (ah_lt hu) (bh_lt hu) hr cu.2.2 cu.2.1 q with k | k | k
    · exact absurd k ef
    · exact Or.inl k.symm
    · exact Or.inr k.symm
  refine ⟨?_, fun w hw cw => ?_⟩
  · have d := t.ne
    rcases t.h2 with ⟨q1, q2⟩ | ⟨q1, q2⟩
    · exfalso
      apply nr
      refine rng_bad we hu hv d q1 q2 ef cu.2.2 cu.2.1 (fun r hr h1 h2 => ?_)
      have a := ft.1 _ (ly.lt r hr)
      have b := c1 r hr
      by_cases c : n (vT T r) = 1
      · rcases nn r hr c with k | k
        · exact absurd k h1
        · exact absurd k h2
      · omega
    · exact ⟨q2, q1⟩
  · have b := nn (bh w) (bh_lt hw) cw.2.1
    have q := t.eo (bh w) (bh_lt hw) b
    rw [bh_div] at q
    rcases q with q | q
    · exact Or.inl (CO_1 cw cu q)
    · exact Or.inr (CO_1 cw cv q)
end
section
/-! numbers taken through roads, exactly: none where they are SPENT -/
def gst (e : Nat) (n : Nat → Int) : Option (Nat → Int) := if n e ≤ 100000000000000 then some n else none
def gfw (cf : Nat → Nat → Nat) : Nat → (Nat → Int) → Option (Nat → Int)
  | 0, n => some n
  | k + 1, n => (gfw cf k n).bind (fun a => gst (cf k 0) (flc cf k a))
def gbw (cf : Nat → Nat → Nat) (K : Nat) : Nat → (Nat → Int) → Option (Nat → Int)
  | 0, n => some n
  | j + 1, n => (gbw cf K j n).bind (fun a => gst (cf (K - 1 - j) 0) (flc cf (K - 1 - j) a))
def gtw (a b u v : Nat) : Nat → (Nat → Int) → Option (Nat → Int)
  | 0, n => some n
  | k + 1, n => (gtw a b u v k n).bind (fun x => gst v (tw a b u v x))
/-- a road: its flips, how many, a b e f -/
abbrev Rdt : Type := (Nat → Nat → Nat) × Nat × Nat × Nat × Nat × Nat
def gtm (r : Rdt) (times : Int) (n : Nat → Int) : Option (Nat → Int) := if 0 < times then gtw r.2.2.1 r.2.2.2.1 r.2.2.2.2.1 r.2.2.2.2.2 times.natAbs n else gtw r.2.2.1 r.2.2.2.1 r.2.2.2.2.2 r.2.2.2.2.1 times.natAbs n
def gal (r : Rdt) (times : Int) (n : Nat → Int) : Option (Nat → Int) := ((gfw r.1 r.2.1 n).bind (gtm r times)).bind (gbw r.1 r.2.1 r.2.1)
def gwd (R : Nat → Rdt) (ln : Nat → Nat) (tm : Nat → Int) : Nat → (Nat → Int) → Option (Nat → Int)
  | 0, n => some n
  | k + 1, n => (gwd R ln tm k n).bind (fun x => gal (R (ln k)) (tm k) x)
/-- a word so often -/
def gwn (f : (Nat → Int) → Option (Nat → Int)) : Nat → (Nat → Int) → Option (Nat → Int)
  | 0, n => some n
  | k + 1, n => (gwn f k n).bind f
theorem gst_y {e : Nat} {n : Nat → Int} (h : n e ≤ 100000000000000) : gst e n = some n := if_pos h
theorem gst_n {e : Nat} {n : Nat → Int} (h : ¬ n e ≤ 100000000000000) : gst e n = none := if_neg h
section
variable {cf : Nat → Nat → Nat} {n a a' : Nat → Int} {k k' K : Nat}
theorem gfw_s (h : gfw cf k n = some a) (e : a' = flc cf k a) (l : a' (cf k 0) ≤ 100000000000000) (hk : k' = k + 1) : gfw cf k' n = some a' := by
  subst hk
  show (gfw cf k n).bind _ = _
  rw [h]
  show gst (cf k 0) (flc cf k a) = _
  rw [← e, gst_y l]
theorem gfw_x (h : gfw cf k n = some a) (e : a' = flc cf k a) (l : ¬ a' (cf k 0) ≤ 100000000000000) : ∀ d, gfw cf (k + d + 1) n = none
  | 0 => by
    show (gfw cf k n).bind _ = _
    rw [h]
    show gst (cf k 0) (flc cf k a) = _
    rw [← e, gst_n l]
  | d + 1 => by
    show (gfw cf (k + d + 1) n).bind _ = _
    rw [gfw_x h e l d]; rfl
theorem gfw_X (h : gfw cf k n = some a) (e : a' = flc cf k a) (l : ¬ a' (cf k 0) ≤ 100000000000000) (hk : k < K) : gfw cf K n = none := by
  have := gfw_x h e l (K - k - 1)
  rw [show k + (K - k - 1) + 1 = K by omega] at this
  exact this
theorem gbw_s {j j' i : Nat} (h : gbw cf K j n = some a) (hi : i = K - 1 - j) (e : a' = flc cf i a) (l : a' (cf i 0) ≤ 100000000000000) (hk : j' = j + 1) : gbw cf K j' n = some a' := by
  subst hk hi
  show (gbw cf K j n).bind _ = _
  rw [h]
  show gst (cf (K - 1 - j) 0) (flc cf (K - 1 - j) a) = _
  rw [← e, gst_y l]
theorem gbw_x {j i : Nat} (h : gbw cf K j n = some a) (hi : i = K - 1 - j) (e : a' = flc cf i a) (l : ¬ a' (cf i 0) ≤ 100000000000000) : ∀ d, gbw cf K (j + d + 1) n = none
  | 0 => by
    subst hi
    show (gbw cf K j n).bind _ = _
    rw [h]
    show gst (cf (K - 1 - j) 0) (flc cf (K - 1 - j) a) = _
    rw [← e, gst_n l]
  | d + 1 => by
    show (gbw cf K (j + d + 1) n).bind _ = _
    rw [gbw_x h hi e l d]; rfl
theorem gbw_X {j i J : Nat} (h : gbw cf K j n = some a) (hi : i = K - 1 - j) (e : a' = flc cf i a) (l : ¬ a' (cf i 0) ≤ 100000000000000) (hk : j < J) : gbw cf K J n = none := by
  have := gbw_x h hi e l (J - j - 1)
  rw [show j + (J - j - 1) + 1 = J by omega] at this
  exact this
theorem gtw_s {p q u v : Nat} (h : gtw p q u v k n = some a) (e : a' = tw p q u v a) (l : a' v ≤ 100000000000000) (hk : k' = k + 1) : gtw p q u v k' n = some a' := by
  subst hk
  show (gtw p q u v k n).bind _ = _
  rw [h]
  show gst v (tw p q u v a) = _
  rw [← e, gst_y l]
theorem gtw_x {p q u v : Nat} (h : gtw p q u v k n = some a) (e : a' = tw p q u v a) (l : ¬ a' v ≤ 100000000000000) : ∀ d, gtw p q u v (k + d + 1) n = none
  | 0 => by
    show (gtw p q u v k n).bind _ = _
    rw [h]
    show gst v (tw p q u v a) = _
    rw [← e, gst_n l]
  | d + 1 => by
    show (gtw p q u v (k + d + 1) n).bind _ = _
    rw [gtw_x h e l d]; rfl
theorem gtw_X {p q u v : Nat} (h : gtw p q u v k n = some a) (e : a' = tw p q u v a) (l : ¬ a' v ≤ 100000000000000) (hk : k < K) : gtw p q u v K n = none := by
  have := gtw_x h e l (K - k - 1)
  rw [show k + (K - k - 1) + 1 = K by omega] at this
  exact this
theorem gwd_s {R : Nat → Rdt} {ln : Nat → Nat} {tm : Nat → Int} (h : gwd R ln tm k n = some a) (e : gal (R (ln k)) (tm k) a = some a') (hk : k' = k + 1) : gwd R ln tm k' n = some a' := by
  subst hk
  show (gwd R ln tm k n).bind _ = _
  rw [h]; exact e
theorem gwd_x {R : Nat → Rdt} {ln : Nat → Nat} {tm : Nat → Int} (h : gwd R ln tm k n = some a) (e : gal (R (ln k)) (tm k) a = none) : ∀ d, gwd R ln tm (k + d + 1) n = none
  | 0 => by
    show (gwd R ln tm k n).bind _ = _
    rw [h]; exact e
  | d + 1 => by
    show (gwd R ln tm (k + d + 1) n).bind _ = _
    rw [gwd_x h e d]; rfl
theorem gwd_X {R : Nat → Rdt} {ln : Nat → Nat} {tm : Nat → Int} (h : gwd R ln tm k n = some a) (e : gal (R (ln k)) (tm k) a = none) (hk : k < K) : gwd R ln tm K n = none := by
  have := gwd_x h e (K - k - 1)
  rw [show k + (K - k - 1) + 1 = K by omega] at this
  exact this
/-- the parts of a twist put together -/
theorem gal_1 {r : Rdt} {t : Int} (h : gfw r.1 r.2.1 n = none) : gal r t n = none := by unfold gal; rw [h]; rfl
theorem gal_2 {r : Rdt} {t : Int} (h : gfw r.1 r.2.1 n = some a) (h2 : gtm r t a = none) : gal r t n = none := by
  unfold gal; rw [h]
  show (gtm r t a).bind _ = _
  rw [h2]; rfl
theorem gal_3 {r : Rdt} {t : Int} (h : gfw r.1 r.2.1 n = some a) (h2 : gtm r t a = some a') : gal r t n = gbw r.1 r.2.1 r.2.1 a' := by
  unfold gal; rw [h]
  show (gtm r t a).bind _ = _
  rw [h2]; rfl
theorem gtm_p {r : Rdt} {t : Int} (h : 0 < t) : gtm r t n = gtw r.2.2.1 r.2.2.2.1 r.2.2.2.2.1 r.2.2.2.2.2 t.natAbs n := if_pos h
theorem gtm_m {r : Rdt} {t : Int} (h : ¬ 0 < t) : gtm r t n = gtw r.2.2.1 r.2.2.2.1 r.2.2.2.2.2 r.2.2.2.2.1 t.natAbs n := if_neg h
end
/-- as the class goes -/
theorem gfw_R {f : Nat → Int} {i i' : Nat} {n a a' : Nat → Int} (h : gfw (cfR f) i n = some a) (e : a' = flR (f i) a) (l : a' (f i % 2 ^ 5).toNat ≤ 100000000000000) (hi : i' = i + 1) : gfw (cfR f) i' n = some a' := gfw_s h (e.trans (flR_c f i a)) (by rw [(cf_of f i).1]; exact l) hi
theorem gfw_RX {f : Nat → Int} {i K : Nat} {n a a' : Nat → Int} (h : gfw (cfR f) i n = some a) (e : a' = flR (f i) a) (l : 100000000000000 < a' (f i % 2 ^ 5).toNat) (hi : i < K) : gfw (cfR f) K n = none := gfw_X h (e.trans (flR_c f i a)) (by rw [(cf_of f i).1]; omega) hi
theorem gbw_R {f : Nat → Int} {i j j' K : Nat} {n a a' : Nat → Int} (h : gbw (cfR f) K j n = some a) (hi : i = K - 1 - j) (e : a' = flR (f i) a) (l : a' (f i % 2 ^ 5).toNat ≤ 100000000000000) (hj : j' = j + 1) : gbw (cfR f) K j' n = some a' := gbw_s h hi (e.trans (flR_c f i a)) (by rw [(cf_of f i).1]; exact l) hj
theorem gbw_RX {f : Nat → Int} {i j J K : Nat} {n a a' : Nat → Int} (h : gbw (cfR f) K j n = some a) (hi : i = K - 1 - j) (e : a' = flR (f i) a) (l : 100000000000000 < a' (f i % 2 ^ 5).toNat) (hj : j < J) : gbw (cfR f) K J n = none := gbw_X h hi (e.trans (flR_c f i a)) (by rw [(cf_of f i).1]; omega) hj
theorem gtw_Y {p q u v k K : Nat} {n a n1 : Nat → Int} (h : gtw p q u v k n = some a) (e : n1 = fl u p v q v a) (l : 100000000000000 < n1 u) (hk : k < K) : gtw p q u v K n = none := gtw_X h (a' := tw p q u v a) rfl (by
  rw [e, fl_e] at l
  have w : tw p q u v a v = max (a p + a q) (a v + a v) - a u := if_pos rfl
  rw [w]; omega) hk
theorem gtm_of {r : Rdt} {t : Int} {U V : Nat} {n : Nat → Int} {x : Option (Nat → Int)} (hp : 0 < t → U = r.2.2.2.2.1 ∧ V = r.2.2.2.2.2) (hm : t ≤ 0 → U = r.2.2.2.2.2 ∧ V = r.2.2.2.2.1) (h : gtw r.2.2.1 r.2.2.2.1 U V t.natAbs n = x) : gtm r t n = x := by
  by_cases c : 0 < t
  · rw [gtm_p c, ← (hp c).1, ← (hp c).2]; exact h
  · rw [gtm_m c, ← (hm (by omega)).1, ← (hm (by omega)).2]; exact h
theorem ex_v {n1 n2 : Nat → Int} {u v : Nat} (uv : u ≠ v) (h2 : n2 = fun j => if j = u then n1 v else if j = v then n1 u else n1 j) : n2 v = n1 u := by
  rw [h2]
  show (if v = u then n1 v else if v = v then n1 u else n1 v) = _
  rw [if_neg (fun q => uv q.symm), if_pos rfl]
/-- like numbers, like roads: like ends -/
def oeq : Option (Nat → Int) → Option (Nat → Int) → Prop
  | none, none => True
  | some a, some b => ∀ j, j < 18 → b j = a j
  | _, _ => False
theorem oeq_b {x y : Option (Nat → Int)} {F G : (Nat → Int) → Option (Nat → Int)} (h : oeq x y) (k : ∀ a b : Nat → Int, (∀ j, j < 18 → b j = a j) → oeq (F a) (G b)) : oeq (x.bind F) (y.bind G) := by
  cases x with
  | none =>
    cases y with
    | none => exact True.intro
    | some b => exact (show False from h).elim
  | some a =>
    cases y with
    | none => exact (show False from h).elim
    | some b => exact k a b h
theorem oeq_g {e : Nat} (he : e < 18) {a b : Nat → Int} (h : ∀ j, j < 18 → b j = a j) : oeq (gst e a) (gst e b) := by
  by_cases c : a e ≤ 100000000000000
  · rw [gst_y c, gst_y (by rw [h e he]; exact c)]; exact h
  · rw [gst_n c, gst_n (by rw [h e he]; exact c)]; exact True.intro
theorem fl_cg {e x y z w : Nat} (hx : x < 18) (hy : y < 18) (hz : z < 18) (hw : w < 18) (he : e < 18) {a b : Nat → Int} (h : ∀ j, j < 18 → b j = a j) : ∀ j, j < 18 → fl e x y z w b j = fl e x y z w a j := by
  intro j hj
  unfold fl
  rw [h x hx, h y hy, h z hz, h w hw, h e he, h j hj]
theorem tw_cg {p q u v : Nat} (hp : p < 18) (hq : q < 18) (hu : u < 18) (hv : v < 18) {a b : Nat → Int} (h : ∀ j, j < 18 → b j = a j) : ∀ j, j < 18 → tw p q u v b j = tw p q u v a j := by
  intro j hj
  unfold tw
  rw [h p hp, h q hq, h u hu, h v hv, h j hj]
section
variable {cf cf' : Nat → Nat → Nat} {K : Nat} {a b : Nat → Int}
theorem gfw_c (hc : ∀ i j, i < K → j < 5 → cf i j < 18) (he : ∀ i j, i < K → j < 5 → cf' i j = cf i j) (h : ∀ j, j < 18 → b j = a j) : ∀ k, k ≤ K → oeq (gfw cf k a) (gfw cf' k b)
  | 0, _ => h
  | k + 1, hk => by
    show oeq ((gfw cf k a).bind (fun a => gst (cf k 0) (flc cf k a))) ((gfw cf' k b).bind (fun a => gst (cf' k 0) (flc cf' k a)))
    refine oeq_b (gfw_c hc he h k (by omega)) (fun x y q => ?_)
    show oeq (gst (cf k 0) (flc cf k x)) (gst (cf' k 0) (flc cf' k y))
    unfold flc
    rw [he k 0 (by omega) (by omega), he k 1 (by omega) (by omega), he k 2 (by omega) (by omega), he k 3 (by omega) (by omega), he k 4 (by omega) (by omega)]
    exact oeq_g (hc k 0 (by omega) (by omega)) (fl_cg (hc k 1 (by omega) (by omega)) (hc k 2 (by omega) (by omega)) (hc k 3 (by omega) (by omega)) (hc k 4 (by omega) (by omega)) (hc k 0 (by omega) (by omega)) q)
theorem gbw_c (hc : ∀ i j, i < K → j < 5 → cf i j < 18) (he : ∀ i j, i < K → j < 5 → cf' i j = cf i j) (h : ∀ j, j < 18 → b j = a j) : ∀ j, j ≤ K → oeq (gbw cf K j a) (gbw cf' K j b)
  | 0, _ => h
  | j + 1, hk => by
    show oeq ((gbw cf K j a).bind (fun a => gst (cf (K - 1 - j) 0) (flc cf (K - 1 - j) a))) ((gbw cf' K j b).bind (fun a => gst (cf' (K - 1 - j) 0) (flc cf' (K - 1 - j) a)))
    refine oeq_b (gbw_c hc he h j (by omega)) (fun x y q => ?_)
    show oeq (gst (cf (K - 1 - j) 0) (flc cf (K - 1 - j) x)) (gst (cf' (K - 1 - j) 0) (flc cf' (K - 1 - j) y))
    unfold flc
    rw [he (K - 1 - j) 0 (by omega) (by omega), he (K - 1 - j) 1 (by omega) (by omega), he (K - 1 - j) 2 (by omega) (by omega), he (K - 1 - j) 3 (by omega) (by omega), he (K - 1 - j) 4 (by omega) (by omega)]
    exact oeq_g (hc _ 0 (by omega) (by omega)) (fl_cg (hc _ 1 (by omega) (by omega)) (hc _ 2 (by omega) (by omega)) (hc _ 3 (by omega) (by omega)) (hc _ 4 (by omega) (by omega)) (hc _ 0 (by omega) (by omega)) q)
theorem gtw_c {p q u v : Nat} (hp : p < 18) (hq : q < 18) (hu : u < 18) (hv : v < 18) (h : ∀ j, j < 18 → b j = a j) : ∀ k, oeq (gtw p q u v k a) (gtw p q u v k b)
  | 0 => h
  | k + 1 => by
    show oeq ((gtw p q u v k a).bind (fun x => gst v (tw p q u v x))) ((gtw p q u v k b).bind (fun x => gst v (tw p q u v x)))
    exact oeq_b (gtw_c hp hq hu hv h k) (fun x y r => oeq_g hv (tw_cg hp hq hu hv r))
end
/-- roads alike -/
def Req (r r' : Rdt) : Prop := (∀ i j, i < r.2.1 → j < 5 → r.1 i j < 18) ∧ (∀ i j, i < r.2.1 → j < 5 → r'.1 i j = r.1 i j) ∧ r'.2 = r.2 ∧ r.2.2.1 < 18 ∧ r.2.2.2.1 < 18 ∧ r.2.2.2.2.1 < 18 ∧ r.2.2.2.2.2 < 18
theorem gtm_c {r r' : Rdt} (h : Req r r') {t : Int} {a b : Nat → Int} (k : ∀ j, j < 18 → b j = a j) : oeq (gtm r t a) (gtm r' t b) := by
  obtain ⟨h1, h2, h3, ha, hb, he, hf⟩ := h
  unfold gtm
  rw [h3]
  by_cases c : 0 < t
  · rw [if_pos c, if_pos c]; exact gtw_c ha hb he hf k _
  · rw [if_neg c, if_neg c]; exact gtw_c ha hb hf he k _
theorem gal_c {r r' : Rdt} (h : Req r r') {t : Int} {a b : Nat → Int} (k : ∀ j, j < 18 → b j = a j) : oeq (gal r t a) (gal r' t b) := by
  have h1 := h.1; have h2 := h.2.1; have h3 := h.2.2.1
  unfold gal
  refine oeq_b (oeq_b ?_ (fun x y q => gtm_c h q)) (fun x y q => ?_)
  · rw [h3]; exact gfw_c h1 h2 k _ (Nat.le_refl _)
  · rw [h3]; exact gbw_c h1 h2 q _ (Nat.le_refl _)
theorem gwd_c {R R' : Nat → Rdt} {ln ln' : Nat → Nat} {tm tm' : Nat → Int} {K : Nat} (h : ∀ i, i < K → Req (R (ln i)) (R' (ln' i)) ∧ tm' i = tm i) {a b : Nat → Int} (k : ∀ j, j < 18 → b j = a j) : ∀ i, i ≤ K → oeq (gwd R ln tm i a) (gwd R' ln' tm' i b)
  | 0, _ => k
  | i + 1, hi => by
    show oeq ((gwd R ln tm i a).bind (fun x => gal (R (ln i)) (tm i) x)) ((gwd R' ln' tm' i b).bind (fun x => gal (R' (ln' i)) (tm' i) x))
    refine oeq_b (gwd_c h k i (by omega)) (fun x y q => ?_)
    show oeq (gal (R (ln i)) (tm i) x) (gal (R' (ln' i)) (tm' i) y)
    rw [(h i (by omega)).2]
    exact gal_c (h i (by omega)).1 q
theorem oeq_ss {x y : Option (Nat → Int)} {a b : Nat → Int} (h : oeq x y) (hx : x = some a) (hy : y = some b) : ∀ j, j < 18 → b j = a j := by rw [hx, hy] at h; exact h
theorem oeq_sn {x y : Option (Nat → Int)} {a : Nat → Int} (h : oeq x y) (hx : x = some a) (hy : y = none) : False := by rw [hx, hy] at h; exact h
theorem oeq_ns {x y : Option (Nat → Int)} {b : Nat → Int} (h : oeq x y) (hx : x = none) (hy : y = some b) : False := by rw [hx, hy] at h; exact h
/-- the roads as both keep them -/
def rdc (z : mZ) (l : Nat) : Rdt := (cfR (z (18 + 2 * l)), (z (17 + 2 * l) 1).toNat, (z (17 + 2 * l) 2).toNat, (z (17 + 2 * l) 3).toNat, (z (17 + 2 * l) 4).toNat, (z (17 + 2 * l) 5).toNat)
def rdr (z : mZ) (l : Nat) : Rdt := (cfQ z l, (z 248 l).toNat, (z 251 l).toNat, (z 252 l).toNat, (z 249 l).toNat, (z 250 l).toNat)
theorem rdc_f {z z' : mZ} {l : Nat} (h : ∀ i, i ≤ 5 → z' (17 + 2 * l) i = z (17 + 2 * l) i) (k : z' (18 + 2 * l) = z (18 + 2 * l)) : rdc z' l = rdc z l := by
  unfold rdc
  rw [k, h 1 (by omega), h 2 (by omega), h 3 (by omega), h 4 (by omega), h 5 (by omega)]
theorem rdr_f {z z' : mZ} {l : Nat} (h : ∀ a, 247 ≤ a → a ≤ 252 → z' a = z a) : rdr z' l = rdr z l := by
  unfold rdr cfQ
  rw [h 247 (by omega) (by omega), h 248 (by omega) (by omega), h 249 (by omega) (by omega), h 250 (by omega) (by omega), h 251 (by omega) (by omega), h 252 (by omega) (by omega)]
/-- what a word does: of the class, of the reference -/
def gwc (z : mZ) (t a : Nat) (n : Nat → Int) : Option (Nat → Int) := gwd (rdc z) (fun i => (z (t + 20 + a) i).toNat) (fun i => z (t + 27 + a) i) (z (t + 18) a).toNat n
def gwr (z : mZ) (a : Nat) (n : Nat → Int) : Option (Nat → Int) := gwd (rdr z) (fun i => (z 237 (8 * a + i)).toNat) (fun i => z 238 (8 * a + i)) (z 239 a).toNat n
/-- on the way through a road: so many turns done; all done -/
def TG (r : Rdt) (u v k : Nat) (n0 n : Nat → Int) : Prop := ∃ n1, gfw r.1 r.2.1 n0 = some n1 ∧ gtw r.2.2.1 r.2.2.2.1 u v k n1 = some n
def TM (r : Rdt) (t : Int) (n0 n : Nat → Int) : Prop := ∃ n1, gfw r.1 r.2.1 n0 = some n1 ∧ gtm r t n1 = some n
section
variable {r : Rdt} {u v k k' : Nat} {t : Int} {n0 a a' : Nat → Int}
theorem TG_0 (h : gfw r.1 r.2.1 n0 = some a) (hk : k = 0) : TG r u v k n0 a := by subst hk; exact ⟨a, h, rfl⟩
theorem TG_s (h : TG r u v k n0 a) (e : a' = tw r.2.2.1 r.2.2.2.1 u v a) (l : a' v ≤ 100000000000000) (hk : k' = k + 1) : TG r u v k' n0 a' := by
  obtain ⟨n1, h1, h2⟩ := h
  exact ⟨n1, h1, gtw_s h2 e l hk⟩
theorem TG_x (h : TG r u v k n0 a) (e : a' = tw r.2.2.1 r.2.2.2.1 u v a) (l : 100000000000000 < a' v) (hp : 0 < t → u = r.2.2.2.2.1 ∧ v = r.2.2.2.2.2) (hm : t ≤ 0 → u = r.2.2.2.2.2 ∧ v = r.2.2.2.2.1) (hk : k < t.natAbs) : gal r t n0 = none := by
  obtain ⟨n1, h1, h2⟩ := h
  exact gal_2 h1 (gtm_of hp hm (gtw_X h2 e (by omega) hk))
theorem TG_Y {n1 : Nat → Int} (h : TG r u v k n0 a) (e : n1 = fl u r.2.2.1 v r.2.2.2.1 v a) (l : 100000000000000 < n1 u) (hp : 0 < t → u = r.2.2.2.2.1 ∧ v = r.2.2.2.2.2) (hm : t ≤ 0 → u = r.2.2.2.2.2 ∧ v = r.2.2.2.2.1) (hk : k < t.natAbs) : gal r t n0 = none := by
  obtain ⟨n1, h1, h2⟩ := h
  exact gal_2 h1 (gtm_of hp hm (gtw_Y h2 e l hk))
theorem TG_m (h : TG r u v k n0 a) (hp : 0 < t → u = r.2.2.2.2.1 ∧ v = r.2.2.2.2.2) (hm : t ≤ 0 → u = r.2.2.2.2.2 ∧ v = r.2.2.2.2.1) (hk : k = t.natAbs) : TM r t n0 a := by
  obtain ⟨n1, h1, h2⟩ := h
  exact ⟨n1, h1, gtm_of hp hm (by rw [← hk]; exact h2)⟩
theorem TM_b (h : TM r t n0 a) : gal r t n0 = gbw r.1 r.2.1 r.2.1 a := by
  obtain ⟨n1, h1, h2⟩ := h
  exact gal_3 h1 h2
end
end
section
/-! methods, printed by wip/tools/vcg.py -/
/-- Mover change -/
abbrev S_29e (n : Nat) : mS := [(n, n, 0, 17)]
abbrev E_29e (n : Nat) (a2 : Int) (a3 : Int) (a4 : Int) (a5 : Int) (a6 : Int) (z0 w0 : mZ) (x y tx it mt tt ct : Option Nat) : Int → mZ → mZ → mP → Prop := fun v z w p => p = (pq x y tx it mt tt ct) ∧ 0 ≤ v ∧ v ≤ 1 ∧ (w n = fl a2.toNat a3.toNat a5.toNat a4.toNat a6.toNat (w0 n) ∧ (v = 1 → w n a2.toNat ≤ 100000000000000) ∧ (v = 0 → 100000000000000 < w n a2.toNat))
theorem m_29e {d : Nat} {z0 w0 : mZ} {x y tx it mt tt ct : Option Nat} (n : Nat) (a2 : Int) (a3 : Int) (a4 : Int) (a5 : Int) (a6 : Int) (hz : rz z0) (hw : rw_ w0) (ha2 : 0 ≤ a2 ∧ a2 ≤ 17) (ha3 : 0 ≤ a3 ∧ a3 ≤ 17) (ha4 : 0 ≤ a4 ∧ a4 ≤ 17) (ha5 : 0 ≤ a5 ∧ a5 ≤ 17) (ha6 : 0 ≤ a6 ∧ a6 ≤ 17) (hnb : ∀ e : Nat, e < 18 → 0 ≤ w0 n e ∧ w0 n e ≤ 100000000000000) (hn : lr n) (b15n : 15 ≤ n) (wn : wrr n) (mn : 149 ≤ n ∧ n ≤ 157) : wc (d + 2) 29 [.ref 10, .ref n, .int (Int32.ofInt a2), .int (Int32.ofInt a3), .int (Int32.ofInt a4), .int (Int32.ofInt a5), .int (Int32.ofInt a6), .null] (mk z0 w0 (pq x y tx it mt tt ct)) (poI (S_29e n) z0 w0 (E_29e n a2 a3 a4 a5 a6 z0 w0 x y tx it mt tt ct)) := by
  have hst : st_ (S_29e n) z0 w0 z0 w0 := st_rf hz hw
  have hn2 := hnb a2.toNat (by omega)
  have hn3 := hnb a3.toNat (by omega)
  have hn4 := hnb a4.toNat (by omega)
  have hn5 := hnb a5.toNat (by omega)
  have hn6 := hnb a6.toNat (by omega)
  have key : ∀ N : Nat, (∀ (z w : mZ), st_ (S_29e n) z0 w0 z w → (w n = fl a2.toNat a3.toNat a5.toNat a4.toNat a6.toNat (w0 n)) → 9 < (N : Int) → wp_ (d + 1) 29 12 (some .boolean) (75, [(1, .ref n), (2, .int (Int32.ofInt a2))], [], mk z w (pq x y tx it mt tt ct)) (poI (S_29e n) z0 w0 (E_29e n a2 a3 a4 a5 a6 z0 w0 x y tx it mt tt ct))) := by
    intro N
    induction N with
    | zero =>
      intro  z w
      intros; exfalso; omega
    | succ N ih =>
      have ih0 := ih; clear ih
      intro  z w  hst as1 hM
      refine r_ld (pc' := 76) rfl rfl rfl rfl ?_
      refine r_ld (pc' := 77) rfl rfl rfl rfl ?_
      have hb28 := lr_rd hn hst.2.1 (i := a2.toNat) (by omega)
      refine r_la (pc' := 78) rfl rfl hn.1 rfl (by omega) (by omega) rfl ?_
      refine r_al (pc' := 81) rfl rfl rfl rfl ?_
      refine r_lgt (pc' := 85) rfl rfl rfl ⟨by omega, by omega⟩ ⟨by decide, by decide⟩ (fun hc29 => ?_) (fun hc29 => ?_)
      · skip
        refine r_c0 (pc' := 90) rfl rfl ?_
        exact r_rz rfl (by omega) (po_I hst ⟨by decide, by decide⟩ ⟨rfl, by omega, by omega, (by exact ⟨as1, fun h => by omega, fun h => by omega⟩)⟩)
      · skip
        refine r_c0 (pc' := 86) rfl rfl ?_
        refine r_go rfl ?_
        exact r_rz rfl (by omega) (po_I hst ⟨by decide, by decide⟩ ⟨rfl, by omega, by omega, (by exact ⟨as1, fun h => by omega, fun h => by omega⟩)⟩)
  refine w_m rfl rfl ?_
  refine r_ld (pc' := 1) rfl rfl rfl rfl ?_
  refine r_ld (pc' := 2) rfl rfl rfl rfl ?_
  have hb30 := lr_rd hn hw (i := a3.toNat) (by omega)
  refine r_la (pc' := 3) rfl rfl hn.1 rfl (by omega) (by omega) rfl ?_
  refine r_ld (pc' := 4) rfl rfl rfl rfl ?_
  refine r_ld (pc' := 6) rfl rfl rfl rfl ?_
  have hb31 := lr_rd hn hw (i := a4.toNat) (by omega)
  refine r_la (pc' := 7) rfl rfl hn.1 rfl (by omega) (by omega) rfl ?_
  refine r_ladd (pc' := 8) rfl rfl ?_
  refine w_hxl (fun v32 h33 h34 => ?_)
  refine r_st (pc' := 10) (lv' := [(8, _), (0, _), (1, _), (2, _), (3, _), (4, _), (5, _), (6, _), (7, _)]) rfl rfl rfl rfl ?_
  refine r_ld (pc' := 11) rfl rfl rfl rfl ?_
  refine r_ld (pc' := 13) rfl rfl rfl rfl ?_
  have hb35 := lr_rd hn hw (i := a5.toNat) (by omega)
  refine r_la (pc' := 14) rfl rfl hn.1 rfl (by omega) (by omega) rfl ?_
  refine r_ld (pc' := 15) rfl rfl rfl rfl ?_
  refine r_ld (pc' := 17) rfl rfl rfl rfl ?_
  have hb36 := lr_rd hn hw (i := a6.toNat) (by omega)
  refine r_la (pc' := 18) rfl rfl hn.1 rfl (by omega) (by omega) rfl ?_
  refine r_ladd (pc' := 19) rfl rfl ?_
  refine w_hxl (fun v37 h38 h39 => ?_)
  refine r_st (pc' := 21) (lv' := [(10, _), (8, _), (0, _), (1, _), (2, _), (3, _), (4, _), (5, _), (6, _), (7, _)]) rfl rfl rfl rfl ?_
  refine r_ld (pc' := 22) rfl rfl rfl rfl ?_
  refine r_ld (pc' := 23) rfl rfl rfl rfl ?_
  refine r_ld (pc' := 25) rfl rfl rfl rfl ?_
  refine r_ld (pc' := 27) rfl rfl rfl rfl ?_
  refine r_cSL (pc' := 30) rfl rfl rfl rfl rfl (m_262 (d := d) v32 v37 hst.1 hst.2.1 ⟨by omega, by omega⟩ ⟨by omega, by omega⟩) (fun v40 z41 w42 p43 h44 hs45 hE46 => ?_)
  obtain ⟨rfl, rfl, rfl, hE46⟩ := hE46
  refine r_ld (pc' := 31) rfl rfl rfl rfl ?_
  refine r_ld (pc' := 32) rfl rfl rfl rfl ?_
  have hb48 := lr_rd hn hw (i := a2.toNat) (by omega)
  refine r_la (pc' := 33) rfl rfl hn.1 rfl (by omega) (by omega) rfl ?_
  refine r_lsub (pc' := 34) rfl rfl ?_
  refine w_hxl (fun v49 h50 h51 => ?_)
  refine r_ls (pc' := 35) rfl rfl hn.1 rfl (by omega) (by omega) hst (inS_0 (by omega) (by omega) (by omega) (by omega)) (wrr_w wn ⟨by omega, by omega⟩) (fun w52 hq53 hs54 => ?_)
  have hqw := hq53
  refine r_ld (pc' := 37) rfl rfl rfl rfl ?_
  refine r_nul_t rfl ?_
  exact w_lv (sub_c rfl (sub_c rfl sub_n)) rfl ((key ((9 : Int).toNat + 1)) z0 w52 hs54 (by funext j; rw [show w52 n j = w52 n j from rfl, hqw, mu_sf]; dsimp only; unfold fl; by_cases c : j = a2.toNat; (rw [if_pos c, if_pos c]; omega); (rw [if_neg c, if_neg c])) (by omega))
/-- Mover passFlips -/
abbrev S_28e (n : Nat) : mS := [(n, n, 0, 17)]
abbrev E_28e (m : Nat) (T : Nat → Nat) (G : Nat → (Nat → Int) → Prop) (n : Nat) (rk : Nat) (a3 : Int) (z0 w0 : mZ) (x y tx it mt tt ct : Option Nat) : Int → mZ → mZ → mP → Prop := fun v z w p => p = (pq x y tx it mt tt ct) ∧ 0 ≤ v ∧ v ≤ 1 ∧ (((v = 1 → (a3 = 0 → G (z0 (17 + 2 * rk) 1).toNat (w n)) ∧ (a3 = 1 → G 0 (w n)) ∧ ∀ e : Nat, e < 18 → 0 ≤ w n e ∧ w n e ≤ 100000000000000)) ∧ (v = 1 → (a3 = 0 → gfw (cfR (z0 (18 + 2 * rk))) (z0 (17 + 2 * rk) 1).toNat (w0 n) = some (w n)) ∧ (a3 = 1 → gbw (cfR (z0 (18 + 2 * rk))) (z0 (17 + 2 * rk) 1).toNat (z0 (17 + 2 * rk) 1).toNat (w0 n) = some (w n))) ∧ (v = 0 → (a3 = 0 → gfw (cfR (z0 (18 + 2 * rk))) (z0 (17 + 2 * rk) 1).toNat (w0 n) = none) ∧ (a3 = 1 → gbw (cfR (z0 (18 + 2 * rk))) (z0 (17 + 2 * rk) 1).toNat (z0 (17 + 2 * rk) 1).toNat (w0 n) = none)))
theorem m_28e {d : Nat} {z0 w0 : mZ} {x y tx it mt tt ct : Option Nat} (m : Nat) (T : Nat → Nat) (G : Nat → (Nat → Int) → Prop) (n : Nat) (rk : Nat) (a3 : Int) (hz : rz z0) (hw : rw_ w0) (ha3 : 0 ≤ a3 ∧ a3 ≤ 1) (hrk : rk < 8) (hnb : ∀ e : Nat, e < 18 → 0 ≤ w0 n e ∧ w0 n e ≤ 100000000000000) (hgo : GRo m T (cfR (z0 (18 + 2 * rk))) (z0 (17 + 2 * rk) 1).toNat G) (hG : (a3 = 0 → G 0 (w0 n)) ∧ (a3 = 1 → G (z0 (17 + 2 * rk) 1).toNat (w0 n))) (hn : lr n) (b15n : 15 ≤ n) (wn : wrr n) (mn : 149 ≤ n ∧ n ≤ 157) : wc (d + 3) 28 [.ref 10, .ref n, .ref (17 + 2 * rk), .int (Int32.ofInt a3), .null] (mk z0 w0 (pq x y tx it mt tt ct)) (poI (S_28e n) z0 w0 (E_28e m T G n rk a3 z0 w0 x y tx it mt tt ct)) := by
  have hst : st_ (S_28e n) z0 w0 z0 w0 := st_rf hz hw
  have hcz := rd_R_1 (k := rk) (by omega) hz
  have key : ∀ N : Nat, (∀ (x5 : Int) (z w : mZ), 0 ≤ x5 ∧ x5 ≤ 1782 → st_ (S_28e n) z0 w0 z w → ((a3 = 0 → G x5.toNat (w n)) ∧ (a3 = 1 → G (z0 (17 + 2 * rk) 1 - x5).toNat (w n))) → (∀ e : Nat, e < 18 → 0 ≤ w n e ∧ w n e ≤ 100000000000000) → (x5 ≤ z0 (17 + 2 * rk) 1) → ((a3 = 0 → gfw (cfR (z0 (18 + 2 * rk))) x5.toNat (w0 n) = some (w n)) ∧ (a3 = 1 → gbw (cfR (z0 (18 + 2 * rk))) (z0 (17 + 2 * rk) 1).toNat x5.toNat (w0 n) = some (w n))) → 62 * (1782 - x5) + 59 < (N : Int) → wp_ (d + 2) 28 11 (some .boolean) (3, [(0, .ref 10), (1, .ref n), (2, .ref (17 + 2 * rk)), (3, .int (Int32.ofInt a3)), (4, .null), (5, .int (Int32.ofInt x5))], [], mk z w (pq x y tx it mt tt ct)) (poI (S_28e n) z0 w0 (E_28e m T G n rk a3 z0 w0 x y tx it mt tt ct))) := by
    intro N
    induction N with
    | zero =>
      intro x5 z w
      intros; exfalso; omega
    | succ N ih =>
      have ih0 := ih; clear ih
      intro x5 z w  hx5 hst as1 as2 as3 as4 hM
      refine r_ld (pc' := 5) rfl rfl rfl rfl ?_
      refine r_ld (pc' := 6) rfl rfl rfl rfl ?_
      have hb24 := rd_R_1 (k := rk) (by omega) hz
      refine r_gi (pc' := 9) rfl rfl (sh_R (k := rk) (by omega)) rfl (hst.2.2.1 _ _ (notS_c (by omega) notS_n)) ?_
      refine r_ige (pc' := 12) rfl rfl ⟨by omega, by omega⟩ ⟨by omega, by omega⟩ (fun hc25 => ?_) (fun hc25 => ?_)
      · skip
        refine r_c0 (pc' := 108) rfl rfl ?_
        exact r_rz rfl (by omega) (po_I hst ⟨by decide, by decide⟩ ⟨rfl, by omega, by omega, (by refine ⟨?_, ?_⟩; (first | (intro h; exfalso; omega) | (intro _; exact ⟨fun h => by rw [show (z0 (17 + 2 * rk) 1).toNat = x5.toNat by omega]; exact as1.1 h, fun h => by have q := as1.2 h; rw [show (z0 (17 + 2 * rk) 1 - x5).toNat = 0 by omega] at q; exact q, as2⟩)); (first | exact ⟨fun h => by exfalso; omega, fun _ => hg4.2 (by omega)⟩ | exact ⟨fun _ => ⟨fun h => by have q := as4.1 h; rw [show x5.toNat = (z0 (17 + 2 * rk) 1).toNat by omega] at q; exact q, fun h => by have q := as4.2 h; rw [show x5.toNat = (z0 (17 + 2 * rk) 1).toNat by omega] at q; exact q⟩, fun h => by exfalso; omega⟩))⟩)
      · skip
        refine r_ld (pc' := 13) rfl rfl rfl rfl ?_
        refine r_gr (b := 18 + 2 * rk) (pc' := 16) rfl rfl (sh_R (k := rk) (by omega)) rfl (pp_R (k := rk) (by omega)) ?_
        refine r_ld (pc' := 17) rfl rfl rfl rfl ?_
        refine r_zeq (pc' := 20) rfl rfl ⟨by omega, by omega⟩ (fun hc26 => ?_) (fun hc26 => ?_)
        · skip
          refine r_ld (pc' := 34) rfl rfl rfl rfl ?_
          have hb27 := rd_RF (k := rk) (by omega) hz (i := x5.toNat) (by omega)
          unfold ok_f at hb27
          refine r_ia (pc' := 35) rfl rfl (sh_RF (k := rk) (by omega)) rfl (by omega) (by omega) (hst.2.2.1 _ _ (notS_c (by omega) notS_n)) ?_
          refine r_st (pc' := 37) (lv' := [(6, _), (0, _), (1, _), (2, _), (3, _), (4, _), (5, _)]) rfl rfl rfl rfl ?_
          refine r_ld (pc' := 39) rfl rfl rfl rfl ?_
          refine r_c0 (pc' := 40) rfl rfl ?_
          refine r_shr (s := 5) (pc' := 41) rfl rfl ⟨by omega, by omega⟩ (by decide) ?_
          refine r_cb (pc' := 43) rfl (by decide) rfl ?_
          refine r_msk (m := 31) (n := 5) (pc' := 44) rfl rfl ⟨by omega, by omega⟩ (by decide) (by decide) ?_
          refine r_st (pc' := 46) (lv' := [(7, _), (6, _), (0, _), (1, _), (2, _), (3, _), (4, _), (5, _)]) rfl rfl rfl rfl ?_
          refine r_ld (pc' := 48) rfl rfl rfl rfl ?_
          refine r_cb (pc' := 50) rfl (by decide) rfl ?_
          refine r_shr (s := 10) (pc' := 51) rfl rfl ⟨by omega, by omega⟩ (by decide) ?_
          refine r_cb (pc' := 53) rfl (by decide) rfl ?_
          refine r_msk (m := 31) (n := 5) (pc' := 54) rfl rfl ⟨by omega, by omega⟩ (by decide) (by decide) ?_
          refine r_st (pc' := 56) (lv' := [(8, _), (7, _), (6, _), (0, _), (1, _), (2, _), (3, _), (4, _), (5, _)]) rfl rfl rfl rfl ?_
          refine r_ld (pc' := 58) rfl rfl rfl rfl ?_
          refine r_cb (pc' := 60) rfl (by decide) rfl ?_
          refine r_shr (s := 15) (pc' := 61) rfl rfl ⟨by omega, by omega⟩ (by decide) ?_
          refine r_cb (pc' := 63) rfl (by decide) rfl ?_
          refine r_msk (m := 31) (n := 5) (pc' := 64) rfl rfl ⟨by omega, by omega⟩ (by decide) (by decide) ?_
          refine r_st (pc' := 66) (lv' := [(9, _), (8, _), (7, _), (6, _), (0, _), (1, _), (2, _), (3, _), (4, _), (5, _)]) rfl rfl rfl rfl ?_
          refine r_ld (pc' := 68) rfl rfl rfl rfl ?_
          refine r_cb (pc' := 70) rfl (by decide) rfl ?_
          refine r_shr (s := 20) (pc' := 71) rfl rfl ⟨by omega, by omega⟩ (by decide) ?_
          refine r_cb (pc' := 73) rfl (by decide) rfl ?_
          refine r_msk (m := 31) (n := 5) (pc' := 74) rfl rfl ⟨by omega, by omega⟩ (by decide) (by decide) ?_
          refine r_st (pc' := 76) (lv' := [(10, _), (9, _), (8, _), (7, _), (6, _), (0, _), (1, _), (2, _), (3, _), (4, _), (5, _)]) rfl rfl rfl rfl ?_
          refine r_ld (pc' := 77) rfl rfl rfl rfl ?_
          refine r_ld (pc' := 78) rfl rfl rfl rfl ?_
          refine r_ld (pc' := 80) rfl rfl rfl rfl ?_
          refine r_cb (pc' := 82) rfl (by decide) rfl ?_
          refine r_msk (m := 31) (n := 5) (pc' := 83) rfl rfl ⟨by omega, by omega⟩ (by decide) (by decide) ?_
          refine r_ld (pc' := 85) rfl rfl rfl rfl ?_
          refine r_ld (pc' := 87) rfl rfl rfl rfl ?_
          refine r_ld (pc' := 89) rfl rfl rfl rfl ?_
          refine r_ld (pc' := 91) rfl rfl rfl rfl ?_
          refine r_ld (pc' := 93) rfl rfl rfl rfl ?_
          refine r_cVI (pc' := 96) rfl rfl rfl rfl rfl sh_10 (m_29e (d := d) n ((z0 (18 + 2 * rk) x5.toNat) % 2 ^ 5) (((z0 (18 + 2 * rk) x5.toNat) / 2 ^ 5) % 2 ^ 5) (((z0 (18 + 2 * rk) x5.toNat) / 2 ^ 15) % 2 ^ 5) (((z0 (18 + 2 * rk) x5.toNat) / 2 ^ 10) % 2 ^ 5) (((z0 (18 + 2 * rk) x5.toNat) / 2 ^ 20) % 2 ^ 5) hst.1 hst.2.1 ⟨by omega, by omega⟩ ⟨by omega, by omega⟩ ⟨by omega, by omega⟩ ⟨by omega, by omega⟩ ⟨by omega, by omega⟩ (by exact as2) hn (by first | omega | assumption) wn (by first | omega | assumption)) (fun v28 z29 w30 p31 h32 hs33 hE34 => ?_)
          have hs35 := st_tr hst hs33 (subS_c (fun _ _ _ _ _ _ => inS_0 (by omega) (by omega) (by omega) (by omega)) subS_n)
          obtain ⟨rfl, hE34⟩ := hE34
          have hch := hE34
          have hg4 : (v28 = 1 → (a3 = 0 → gfw (cfR (z0 (18 + 2 * rk))) (x5 + 1).toNat (w0 n) = some (w30 n)) ∧ (a3 = 1 → gbw (cfR (z0 (18 + 2 * rk))) (z0 (17 + 2 * rk) 1).toNat (x5 + 1).toNat (w0 n) = some (w30 n))) ∧ (v28 = 0 → (a3 = 0 → gfw (cfR (z0 (18 + 2 * rk))) (z0 (17 + 2 * rk) 1).toNat (w0 n) = none) ∧ (a3 = 1 → gbw (cfR (z0 (18 + 2 * rk))) (z0 (17 + 2 * rk) 1).toNat (z0 (17 + 2 * rk) 1).toNat (w0 n) = none)) := ⟨fun h1 => ⟨fun h => by first | (exfalso; omega) | exact gfw_R (i := x5.toNat) (as4.1 h) hch.2.2.1 (hch.2.2.2.1 h1) (by omega), fun h => by first | (exfalso; omega) | exact gbw_R (i := (z0 (17 + 2 * rk) 1 - 1 - x5).toNat) (as4.2 h) (by omega) hch.2.2.1 (hch.2.2.2.1 h1) (by omega)⟩, fun h1 => ⟨fun h => by first | (exfalso; omega) | exact gfw_RX (i := x5.toNat) (as4.1 h) hch.2.2.1 (hch.2.2.2.2 h1) (by omega), fun h => by first | (exfalso; omega) | exact gbw_RX (i := (z0 (17 + 2 * rk) 1 - 1 - x5).toNat) (as4.2 h) (by omega) hch.2.2.1 (hch.2.2.2.2 h1) (by omega)⟩⟩
          refine r_zne (pc' := 99) rfl rfl ⟨by omega, by omega⟩ (fun hc36 => ?_) (fun hc36 => ?_)
          · skip
            have hgd : (a3 = 0 ∨ a3 = 1) := by omega
            have hgn : (a3 = 0 → G (x5 + 1).toNat (w30 n)) ∧ (a3 = 1 → G (z0 (17 + 2 * rk) 1 - (x5 + 1)).toNat (w30 n)) := ⟨fun h => by first | (exfalso; omega) | exact GRo_fw hgo (i := x5.toNat) (by omega) (as1.1 h) hch.2.2.1 (by omega), fun h => by first | (exfalso; omega) | exact GRo_bw hgo (i := (z0 (17 + 2 * rk) 1 - (x5 + 1)).toNat) (by omega) (as1.2 h) (by rw [show (z0 (17 + 2 * rk) 1 - (x5 + 1)).toNat = (z0 (17 + 2 * rk) 1 - 1 - x5).toNat by omega]; exact hch.2.2.1) (by omega)⟩
            have hnn : ∀ j, j < 18 → 0 ≤ w30 n j := by rcases hgd with h | h; exact hgo.nn (x5 + 1).toNat _ (by omega) (hgn.1 h); exact hgo.nn (z0 (17 + 2 * rk) 1 - (x5 + 1)).toNat _ (by omega) (hgn.2 h)
            refine r_inc (pc' := 104) (lv' := [(10, _), (9, _), (8, _), (7, _), (6, _), (0, _), (1, _), (2, _), (3, _), (4, _)]) rfl rfl rfl rfl rfl ?_
            refine r_go rfl ?_
            exact w_lv (sub_c rfl (sub_c rfl (sub_c rfl (sub_c rfl (sub_c rfl (sub_c rfl sub_n)))))) rfl (ih0 (x5 + 1) z29 w30 ⟨by omega, by omega⟩ hs35 (by first | exact hgn | exact ⟨fun h => hG.1 h, fun h => by rw [show (z0 (17 + 2 * rk) 1 - 0).toNat = (z0 (17 + 2 * rk) 1).toNat by omega]; exact hG.2 h⟩) (by first | exact hnb | exact nb_fl as2 hch.2.2.1 (hnn _ (by omega)) (hch.2.2.2.1 (by omega))) (by first | omega | assumption) (by first | exact hg4.1 (by omega) | exact ⟨fun _ => rfl, fun _ => rfl⟩) (by omega))
          · skip
            refine r_c0 (pc' := 100) rfl rfl ?_
            exact r_rz rfl (by omega) (po_I hs35 ⟨by decide, by decide⟩ ⟨rfl, by omega, by omega, (by refine ⟨?_, ?_⟩; (first | (intro h; exfalso; omega) | (intro _; exact ⟨fun h => by rw [show (z0 (17 + 2 * rk) 1).toNat = x5.toNat by omega]; exact as1.1 h, fun h => by have q := as1.2 h; rw [show (z0 (17 + 2 * rk) 1 - x5).toNat = 0 by omega] at q; exact q, as2⟩)); (first | exact ⟨fun h => by exfalso; omega, fun _ => hg4.2 (by omega)⟩ | exact ⟨fun _ => ⟨fun h => by have q := as4.1 h; rw [show x5.toNat = (z0 (17 + 2 * rk) 1).toNat by omega] at q; exact q, fun h => by have q := as4.2 h; rw [show x5.toNat = (z0 (17 + 2 * rk) 1).toNat by omega] at q; exact q⟩, fun h => by exfalso; omega⟩))⟩)
        · skip
          refine r_ld (pc' := 21) rfl rfl rfl rfl ?_
          refine r_gi (pc' := 24) rfl rfl (sh_R (k := rk) (by omega)) rfl (hst.2.2.1 _ _ (notS_c (by omega) notS_n)) ?_
          refine r_c0 (pc' := 25) rfl rfl ?_
          refine r_sub (pc' := 26) rfl rfl ?_
          refine r_ld (pc' := 28) rfl rfl rfl rfl ?_
          refine r_sub (pc' := 29) rfl rfl ?_
          refine r_go rfl ?_
          have hb37 := rd_RF (k := rk) (by omega) hz (i := (((z0 (17 + 2 * rk) 1) - 1) - x5).toNat) (by omega)
          unfold ok_f at hb37
          refine r_ia (pc' := 35) rfl rfl (sh_RF (k := rk) (by omega)) rfl (by omega) (by omega) (hst.2.2.1 _ _ (notS_c (by omega) notS_n)) ?_
          refine r_st (pc' := 37) (lv' := [(6, _), (0, _), (1, _), (2, _), (3, _), (4, _), (5, _)]) rfl rfl rfl rfl ?_
          refine r_ld (pc' := 39) rfl rfl rfl rfl ?_
          refine r_c0 (pc' := 40) rfl rfl ?_
          refine r_shr (s := 5) (pc' := 41) rfl rfl ⟨by omega, by omega⟩ (by decide) ?_
          refine r_cb (pc' := 43) rfl (by decide) rfl ?_
          refine r_msk (m := 31) (n := 5) (pc' := 44) rfl rfl ⟨by omega, by omega⟩ (by decide) (by decide) ?_
          refine r_st (pc' := 46) (lv' := [(7, _), (6, _), (0, _), (1, _), (2, _), (3, _), (4, _), (5, _)]) rfl rfl rfl rfl ?_
          refine r_ld (pc' := 48) rfl rfl rfl rfl ?_
          refine r_cb (pc' := 50) rfl (by decide) rfl ?_
          refine r_shr (s := 10) (pc' := 51) rfl rfl ⟨by omega, by omega⟩ (by decide) ?_
          refine r_cb (pc' := 53) rfl (by decide) rfl ?_
          refine r_msk (m := 31) (n := 5) (pc' := 54) rfl rfl ⟨by omega, by omega⟩ (by decide) (by decide) ?_
          refine r_st (pc' := 56) (lv' := [(8, _), (7, _), (6, _), (0, _), (1, _), (2, _), (3, _), (4, _), (5, _)]) rfl rfl rfl rfl ?_
          refine r_ld (pc' := 58) rfl rfl rfl rfl ?_
          refine r_cb (pc' := 60) rfl (by decide) rfl ?_
          refine r_shr (s := 15) (pc' := 61) rfl rfl ⟨by omega, by omega⟩ (by decide) ?_
          refine r_cb (pc' := 63) rfl (by decide) rfl ?_
          refine r_msk (m := 31) (n := 5) (pc' := 64) rfl rfl ⟨by omega, by omega⟩ (by decide) (by decide) ?_
          refine r_st (pc' := 66) (lv' := [(9, _), (8, _), (7, _), (6, _), (0, _), (1, _), (2, _), (3, _), (4, _), (5, _)]) rfl rfl rfl rfl ?_
          refine r_ld (pc' := 68) rfl rfl rfl rfl ?_
          refine r_cb (pc' := 70) rfl (by decide) rfl ?_
          refine r_shr (s := 20) (pc' := 71) rfl rfl ⟨by omega, by omega⟩ (by decide) ?_
          refine r_cb (pc' := 73) rfl (by decide) rfl ?_
          refine r_msk (m := 31) (n := 5) (pc' := 74) rfl rfl ⟨by omega, by omega⟩ (by decide) (by decide) ?_
          refine r_st (pc' := 76) (lv' := [(10, _), (9, _), (8, _), (7, _), (6, _), (0, _), (1, _), (2, _), (3, _), (4, _), (5, _)]) rfl rfl rfl rfl ?_
          refine r_ld (pc' := 77) rfl rfl rfl rfl ?_
          refine r_ld (pc' := 78) rfl rfl rfl rfl ?_
          refine r_ld (pc' := 80) rfl rfl rfl rfl ?_
          refine r_cb (pc' := 82) rfl (by decide) rfl ?_
          refine r_msk (m := 31) (n := 5) (pc' := 83) rfl rfl ⟨by omega, by omega⟩ (by decide) (by decide) ?_
          refine r_ld (pc' := 85) rfl rfl rfl rfl ?_
          refine r_ld (pc' := 87) rfl rfl rfl rfl ?_
          refine r_ld (pc' := 89) rfl rfl rfl rfl ?_
          refine r_ld (pc' := 91) rfl rfl rfl rfl ?_
          refine r_ld (pc' := 93) rfl rfl rfl rfl ?_
          refine r_cVI (pc' := 96) rfl rfl rfl rfl rfl sh_10 (m_29e (d := d) n ((z0 (18 + 2 * rk) (((z0 (17 + 2 * rk) 1) - 1) - x5).toNat) % 2 ^ 5) (((z0 (18 + 2 * rk) (((z0 (17 + 2 * rk) 1) - 1) - x5).toNat) / 2 ^ 5) % 2 ^ 5) (((z0 (18 + 2 * rk) (((z0 (17 + 2 * rk) 1) - 1) - x5).toNat) / 2 ^ 15) % 2 ^ 5) (((z0 (18 + 2 * rk) (((z0 (17 + 2 * rk) 1) - 1) - x5).toNat) / 2 ^ 10) % 2 ^ 5) (((z0 (18 + 2 * rk) (((z0 (17 + 2 * rk) 1) - 1) - x5).toNat) / 2 ^ 20) % 2 ^ 5) hst.1 hst.2.1 ⟨by omega, by omega⟩ ⟨by omega, by omega⟩ ⟨by omega, by omega⟩ ⟨by omega, by omega⟩ ⟨by omega, by omega⟩ (by exact as2) hn (by first | omega | assumption) wn (by first | omega | assumption)) (fun v38 z39 w40 p41 h42 hs43 hE44 => ?_)
          have hs45 := st_tr hst hs43 (subS_c (fun _ _ _ _ _ _ => inS_0 (by omega) (by omega) (by omega) (by omega)) subS_n)
          obtain ⟨rfl, hE44⟩ := hE44
          have hch := hE44
          have hg4 : (v38 = 1 → (a3 = 0 → gfw (cfR (z0 (18 + 2 * rk))) (x5 + 1).toNat (w0 n) = some (w40 n)) ∧ (a3 = 1 → gbw (cfR (z0 (18 + 2 * rk))) (z0 (17 + 2 * rk) 1).toNat (x5 + 1).toNat (w0 n) = some (w40 n))) ∧ (v38 = 0 → (a3 = 0 → gfw (cfR (z0 (18 + 2 * rk))) (z0 (17 + 2 * rk) 1).toNat (w0 n) = none) ∧ (a3 = 1 → gbw (cfR (z0 (18 + 2 * rk))) (z0 (17 + 2 * rk) 1).toNat (z0 (17 + 2 * rk) 1).toNat (w0 n) = none)) := ⟨fun h1 => ⟨fun h => by first | (exfalso; omega) | exact gfw_R (i := x5.toNat) (as4.1 h) hch.2.2.1 (hch.2.2.2.1 h1) (by omega), fun h => by first | (exfalso; omega) | exact gbw_R (i := (z0 (17 + 2 * rk) 1 - 1 - x5).toNat) (as4.2 h) (by omega) hch.2.2.1 (hch.2.2.2.1 h1) (by omega)⟩, fun h1 => ⟨fun h => by first | (exfalso; omega) | exact gfw_RX (i := x5.toNat) (as4.1 h) hch.2.2.1 (hch.2.2.2.2 h1) (by omega), fun h => by first | (exfalso; omega) | exact gbw_RX (i := (z0 (17 + 2 * rk) 1 - 1 - x5).toNat) (as4.2 h) (by omega) hch.2.2.1 (hch.2.2.2.2 h1) (by omega)⟩⟩
          refine r_zne (pc' := 99) rfl rfl ⟨by omega, by omega⟩ (fun hc46 => ?_) (fun hc46 => ?_)
          · skip
            have hgd : (a3 = 0 ∨ a3 = 1) := by omega
            have hgn : (a3 = 0 → G (x5 + 1).toNat (w40 n)) ∧ (a3 = 1 → G (z0 (17 + 2 * rk) 1 - (x5 + 1)).toNat (w40 n)) := ⟨fun h => by first | (exfalso; omega) | exact GRo_fw hgo (i := x5.toNat) (by omega) (as1.1 h) hch.2.2.1 (by omega), fun h => by first | (exfalso; omega) | exact GRo_bw hgo (i := (z0 (17 + 2 * rk) 1 - (x5 + 1)).toNat) (by omega) (as1.2 h) (by rw [show (z0 (17 + 2 * rk) 1 - (x5 + 1)).toNat = (z0 (17 + 2 * rk) 1 - 1 - x5).toNat by omega]; exact hch.2.2.1) (by omega)⟩
            have hnn : ∀ j, j < 18 → 0 ≤ w40 n j := by rcases hgd with h | h; exact hgo.nn (x5 + 1).toNat _ (by omega) (hgn.1 h); exact hgo.nn (z0 (17 + 2 * rk) 1 - (x5 + 1)).toNat _ (by omega) (hgn.2 h)
            refine r_inc (pc' := 104) (lv' := [(10, _), (9, _), (8, _), (7, _), (6, _), (0, _), (1, _), (2, _), (3, _), (4, _)]) rfl rfl rfl rfl rfl ?_
            refine r_go rfl ?_
            exact w_lv (sub_c rfl (sub_c rfl (sub_c rfl (sub_c rfl (sub_c rfl (sub_c rfl sub_n)))))) rfl (ih0 (x5 + 1) z39 w40 ⟨by omega, by omega⟩ hs45 (by first | exact hgn | exact ⟨fun h => hG.1 h, fun h => by rw [show (z0 (17 + 2 * rk) 1 - 0).toNat = (z0 (17 + 2 * rk) 1).toNat by omega]; exact hG.2 h⟩) (by first | exact hnb | exact nb_fl as2 hch.2.2.1 (hnn _ (by omega)) (hch.2.2.2.1 (by omega))) (by first | omega | assumption) (by first | exact hg4.1 (by omega) | exact ⟨fun _ => rfl, fun _ => rfl⟩) (by omega))
          · skip
            refine r_c0 (pc' := 100) rfl rfl ?_
            exact r_rz rfl (by omega) (po_I hs45 ⟨by decide, by decide⟩ ⟨rfl, by omega, by omega, (by refine ⟨?_, ?_⟩; (first | (intro h; exfalso; omega) | (intro _; exact ⟨fun h => by rw [show (z0 (17 + 2 * rk) 1).toNat = x5.toNat by omega]; exact as1.1 h, fun h => by have q := as1.2 h; rw [show (z0 (17 + 2 * rk) 1 - x5).toNat = 0 by omega] at q; exact q, as2⟩)); (first | exact ⟨fun h => by exfalso; omega, fun _ => hg4.2 (by omega)⟩ | exact ⟨fun _ => ⟨fun h => by have q := as4.1 h; rw [show x5.toNat = (z0 (17 + 2 * rk) 1).toNat by omega] at q; exact q, fun h => by have q := as4.2 h; rw [show x5.toNat = (z0 (17 + 2 * rk) 1).toNat by omega] at q; exact q⟩, fun h => by exfalso; omega⟩))⟩)
  refine w_m rfl rfl ?_
  refine r_c0 (pc' := 1) rfl rfl ?_
  refine r_st (pc' := 3) (lv' := [(5, _), (0, _), (1, _), (2, _), (3, _), (4, _)]) rfl rfl rfl rfl ?_
  exact w_lv (sub_c rfl (sub_c rfl (sub_c rfl (sub_c rfl (sub_c rfl (sub_c rfl sub_n)))))) rfl ((key ((62 * (1782 - 0) + 59 : Int).toNat + 1)) 0 z0 w0 ⟨by omega, by omega⟩ hst (by first | exact hgn | exact ⟨fun h => hG.1 h, fun h => by rw [show (z0 (17 + 2 * rk) 1 - 0).toNat = (z0 (17 + 2 * rk) 1).toNat by omega]; exact hG.2 h⟩) (by first | exact hnb | exact nb_fl as2 hch.2.2.1 (hnn _ (by omega)) (hch.2.2.2.1 (by omega))) (by first | omega | assumption) (by first | exact hg4.1 (by omega) | exact ⟨fun _ => rfl, fun _ => rfl⟩) (by omega))
/-- Mover twistAlong -/
abbrev S_27e (n : Nat) : mS := [(n, n, 0, 17)]
abbrev E_27e (t : Nat) (n : Nat) (a2 : Int) (a3 : Int) (z0 w0 : mZ) (x y tx it mt tt ct : Option Nat) : Int → mZ → mZ → mP → Prop := fun v z w p => p = (pq x y tx it mt tt ct) ∧ 0 ≤ v ∧ v ≤ 1 ∧ (((v = 1 → FTt z0 t (w n) ∧ ∀ e : Nat, e < 18 → 0 ≤ w n e ∧ w n e ≤ 100000000000000)) ∧ (v = 1 → gal (rdc z0 a2.toNat) a3 (w0 n) = some (w n)) ∧ (v = 0 → gal (rdc z0 a2.toNat) a3 (w0 n) = none))
theorem m_27e {d : Nat} {z0 w0 : mZ} {x y tx it mt tt ct : Option Nat} (t : Nat) (n : Nat) (a2 : Int) (a3 : Int) (hz : rz z0) (hw : rw_ w0) (ha2 : 0 ≤ a2 ∧ a2 ≤ 7) (ha3 : (-99) ≤ a3 ∧ a3 ≤ 99) (ht : isT t) (hnb : ∀ e : Nat, e < 18 → 0 ≤ w0 n e ∧ w0 n e ≤ 100000000000000) (hft : FTt z0 t (w0 n)) (hgr : GRt z0 z0 t a2.toNat) (hkd : z0 (17 + 2 * a2.toNat) 0 = 2) (hn : lr n) (b15n : 15 ≤ n) (wn : wrr n) (mn : 149 ≤ n ∧ n ≤ 157) : wc (d + 4) 27 [.ref 10, .ref n, .int (Int32.ofInt a2), .int (Int32.ofInt a3), .null] (mk z0 w0 (pq x y tx it mt tt ct)) (poI (S_27e n) z0 w0 (E_27e t n a2 a3 z0 w0 x y tx it mt tt ct)) := by
  have hst : st_ (S_27e n) z0 w0 z0 w0 := st_rf hz hw
  have htb : 159 ≤ t ∧ t ≤ 192 := by have := ht; unfold isT at this; omega
  obtain ⟨G, hgo, htw1, htw2, ga, gb, ge, gf, gae, gaf, gbe, gbf, gef⟩ := hgr hkd
  obtain ⟨m, hm⟩ : ∃ m, m = (z0 t 0).toNat := ⟨_, rfl⟩
  obtain ⟨T, hT⟩ : ∃ T, T = vT (z0 (t + 1)) := ⟨_, rfl⟩
  rw [← hm, ← hT] at hgo
  have hr1 := rd_R_1 (k := a2.toNat) (by omega) hz
  have hr2 := rd_R_2 (k := a2.toNat) (by omega) hz
  have hr3 := rd_R_3 (k := a2.toNat) (by omega) hz
  have hr4 := rd_R_4 (k := a2.toNat) (by omega) hz
  have hr5 := rd_R_5 (k := a2.toNat) (by omega) hz
  have key : ∀ N : Nat, (∀ (x6 x7 x8 : Int) (z w : mZ), 0 ≤ x6 ∧ x6 ≤ 17 → 0 ≤ x7 ∧ x7 ≤ 17 → 0 ≤ x8 ∧ x8 ≤ 99 → st_ (S_27e n) z0 w0 z w → (G (z0 (17 + 2 * a2.toNat) 1).toNat (w n)) → (∀ e : Nat, e < 18 → 0 ≤ w n e ∧ w n e ≤ 100000000000000) → ((0 < a3 → x6 = z0 (17 + 2 * a2.toNat) 5 ∧ x7 = z0 (17 + 2 * a2.toNat) 4) ∧ (a3 ≤ 0 → x6 = z0 (17 + 2 * a2.toNat) 4 ∧ x7 = z0 (17 + 2 * a2.toNat) 5)) → (TG (rdc z0 a2.toNat) x7.toNat x6.toNat x8.toNat (w0 n) (w n)) → (x8 ≤ a3.natAbs) → 65 * (99 - x8) + 32 < (N : Int) → wp_ (d + 3) 27 9 (some .boolean) (64, [(0, .ref 10), (1, .ref n), (3, .int (Int32.ofInt a3)), (4, .null), (5, .ref (17 + 2 * a2.toNat)), (6, .int (Int32.ofInt x6)), (7, .int (Int32.ofInt x7)), (8, .int (Int32.ofInt x8))], [], mk z w (pq x y tx it mt tt ct)) (poI (S_27e n) z0 w0 (E_27e t n a2 a3 z0 w0 x y tx it mt tt ct))) := by
    intro N
    induction N with
    | zero =>
      intro x6 x7 x8 z w
      intros; exfalso; omega
    | succ N ih =>
      have ih0 := ih; clear ih
      intro x6 x7 x8 z w  hx6 hx7 hx8 hst as1 as2 as3 as4 as5 hM
      have grf : z (18 + 2 * a2.toNat) = z0 (18 + 2 * a2.toNat) := funext fun i => hst.2.2.1 _ _ (notS_c (by omega) (notS_n))
      have gr1 : z (17 + 2 * a2.toNat) 1 = z0 (17 + 2 * a2.toNat) 1 := hst.2.2.1 _ _ (notS_c (by omega) (notS_n))
      refine r_ld (pc' := 66) rfl rfl rfl rfl ?_
      refine r_ld (pc' := 67) rfl rfl rfl rfl ?_
      refine r_cSI (pc' := 70) rfl rfl rfl rfl rfl (m_259 (d := d + 2) a3 hst.1 hst.2.1 ⟨by omega, by omega⟩) (fun v57 z58 w59 p60 h61 hs62 hE63 => ?_)
      obtain ⟨rfl, rfl, rfl, hE63⟩ := hE63
      refine r_ige (pc' := 73) rfl rfl ⟨by omega, by omega⟩ ⟨by omega, by omega⟩ (fun hc65 => ?_) (fun hc65 => ?_)
      · skip
        refine r_ld (pc' := 119) rfl rfl rfl rfl ?_
        refine r_ld (pc' := 120) rfl rfl rfl rfl ?_
        refine r_ld (pc' := 122) rfl rfl rfl rfl ?_
        refine r_c0 (pc' := 123) rfl rfl ?_
        refine r_ld (pc' := 125) rfl rfl rfl rfl ?_
        have hb66 := rd_R_1 (k := a2.toNat) (by omega) hz
        have hf67 : z (17 + 2 * a2.toNat) 1 = z0 (17 + 2 * a2.toNat) 1 := (hst.2.2.1 _ _ (notS_c (by omega) notS_n))
        have hF68 : z (18 + 2 * a2.toNat) = z0 (18 + 2 * a2.toNat) := (funext fun _ => hst.2.2.1 _ _ (notS_c (by omega) notS_n))
        refine r_cVI (pc' := 128) rfl rfl rfl rfl rfl sh_10 (m_28e (d := d) m T G n a2.toNat 1 hst.1 hst.2.1 ⟨by omega, by omega⟩ (by first | omega | assumption | (simp only [hF68, hf67]; assumption)) (by exact as2) (by rw [grf, gr1]; exact hgo) (by exact ⟨fun h => absurd h (by omega), fun _ => by rw [gr1]; exact as1⟩) hn (by first | omega | assumption | (simp only [hF68, hf67]; assumption)) wn (by first | omega | assumption | (simp only [hF68, hf67]; assumption))) (fun v69 z70 w71 p72 h73 hs74 hE75 => ?_)
        have hs76 := st_tr hst hs74 (subS_c (fun _ _ _ _ _ _ => inS_0 (by omega) (by omega) (by omega) (by omega)) subS_n)
        obtain ⟨rfl, hE75⟩ := hE75
        have hpb := hE75.2.2.1
        have hpg := hE75.2.2.2
        rw [grf, gr1] at hpg
        exact r_rz rfl (by omega) (po_I hs76 ⟨by omega, by omega⟩ ⟨rfl, by omega, by omega, (by refine ⟨?_, ?_⟩; (first | (intro h; exfalso; omega) | (intro h; exact ⟨by have q := (hgo.g0 _).mpr ((hpb (by omega)).2.1 rfl); rw [hm, hT] at q; exact q, (hpb (by omega)).2.2⟩)); (rw [TM_b (TG_m as4 (fun q => ⟨by show x7.toNat = (z0 (17 + 2 * a2.toNat) 4).toNat; rw [(as3.1 q).2], by show x6.toNat = (z0 (17 + 2 * a2.toNat) 5).toNat; rw [(as3.1 q).1]⟩) (fun q => ⟨by show x7.toNat = (z0 (17 + 2 * a2.toNat) 5).toNat; rw [(as3.2 q).2], by show x6.toNat = (z0 (17 + 2 * a2.toNat) 4).toNat; rw [(as3.2 q).1]⟩) (by omega))]; exact ⟨fun h => (hpg.1 h).2 rfl, fun h => (hpg.2 h).2 rfl⟩))⟩)
      · skip
        refine r_ld (pc' := 74) rfl rfl rfl rfl ?_
        refine r_ld (pc' := 75) rfl rfl rfl rfl ?_
        refine r_ld (pc' := 77) rfl rfl rfl rfl ?_
        refine r_ld (pc' := 79) rfl rfl rfl rfl ?_
        have hb77 := rd_R_2 (k := a2.toNat) (by omega) hz
        refine r_gi (pc' := 82) rfl rfl (sh_R (k := a2.toNat) (by omega)) rfl (hst.2.2.1 _ _ (notS_c (by omega) notS_n)) ?_
        refine r_ld (pc' := 84) rfl rfl rfl rfl ?_
        have hb78 := rd_R_3 (k := a2.toNat) (by omega) hz
        refine r_gi (pc' := 87) rfl rfl (sh_R (k := a2.toNat) (by omega)) rfl (hst.2.2.1 _ _ (notS_c (by omega) notS_n)) ?_
        refine r_ld (pc' := 89) rfl rfl rfl rfl ?_
        refine r_ld (pc' := 91) rfl rfl rfl rfl ?_
        refine r_ld (pc' := 93) rfl rfl rfl rfl ?_
        refine r_cVI (pc' := 96) rfl rfl rfl rfl rfl sh_10 (m_29e (d := d + 1) n x7 (z0 (17 + 2 * a2.toNat) 2) (z0 (17 + 2 * a2.toNat) 3) x6 x6 hst.1 hst.2.1 ⟨by omega, by omega⟩ ⟨by omega, by omega⟩ ⟨by omega, by omega⟩ ⟨by omega, by omega⟩ ⟨by omega, by omega⟩ (by exact as2) hn (by first | omega | assumption) wn (by first | omega | assumption)) (fun v79 z80 w81 p82 h83 hs84 hE85 => ?_)
        have hs86 := st_tr hst hs84 (subS_c (fun _ _ _ _ _ _ => inS_0 (by omega) (by omega) (by omega) (by omega)) subS_n)
        obtain ⟨rfl, hE85⟩ := hE85
        have hch := hE85.2.2
        refine r_zne (pc' := 99) rfl rfl ⟨by omega, by omega⟩ (fun hc87 => ?_) (fun hc87 => ?_)
        · skip
          refine r_ld (pc' := 102) rfl rfl rfl rfl ?_
          refine r_ld (pc' := 103) rfl rfl rfl rfl ?_
          refine r_ld (pc' := 105) rfl rfl rfl rfl ?_
          refine r_ld (pc' := 107) rfl rfl rfl rfl ?_
          refine r_ld (pc' := 109) rfl rfl rfl rfl ?_
          refine r_cVV (pc' := 112) rfl rfl rfl rfl rfl sh_10 (m_30n (d := d + 1) n x6 x7 hs86.1 hs86.2.1 ⟨by omega, by omega⟩ ⟨by omega, by omega⟩ hn (by first | omega | assumption) wn (by first | omega | assumption)) (fun z89 w90 p91 hs93 hE94 => ?_)
          have hs95 := st_tr hs86 hs93 (subS_c (fun _ _ _ _ _ _ => inS_0 (by omega) (by omega) (by omega) (by omega)) subS_n)
          obtain ⟨rfl, hE94⟩ := hE94
          have hex := hE94
          have htw := tw_of (n := w n) (by omega) hch.1 hex
          have hgt : G (z0 (17 + 2 * a2.toNat) 1).toNat (w90 n) := by rw [htw]; (rcases (show 0 < a3 ∨ a3 ≤ 0 by omega) with q | q; (rw [(as3.1 q).1, (as3.1 q).2]; exact htw1 _ as1); (rw [(as3.2 q).1, (as3.2 q).2]; exact htw2 _ as1))
          have hgs : TG (rdc z0 a2.toNat) x7.toNat x6.toNat (x8 + 1).toNat (w0 n) (w90 n) := TG_s as4 htw (by rw [ex_v (by omega) hex]; exact hch.2.1 (by omega)) (by omega)
          refine r_inc (pc' := 115) (lv' := [(0, _), (1, _), (3, _), (4, _), (5, _), (6, _), (7, _)]) rfl rfl rfl rfl rfl ?_
          refine r_go rfl ?_
          exact w_lv (sub_c rfl (sub_c rfl (sub_c rfl (sub_c rfl (sub_c rfl (sub_c rfl (sub_c rfl (sub_c rfl sub_n)))))))) rfl (ih0 x6 x7 (x8 + 1) z89 w90 ⟨by omega, by omega⟩ ⟨by omega, by omega⟩ ⟨by omega, by omega⟩ hs95 (by first | exact (hpf (by omega)).1 rfl | exact hgt) (by first | exact (hpf (by omega)).2.2 | exact nb_ex (by omega) (by omega) (fun j hj => by by_cases c : j = x7.toNat; (subst c; exact hch.2.1 (by omega)); (rw [hch.1, fl_ne c]; exact (as2 j hj).2)) hex (hgo.nn _ _ (by omega) hgt)) (by first | omega | assumption) (by first | exact hgs | exact TG_0 (r := (rdc z0 a2.toNat)) ((hpe.1 (by omega)).1 rfl) rfl) (by first | omega | assumption) (by omega))
        · skip
          refine r_c0 (pc' := 100) rfl rfl ?_
          exact r_rz rfl (by omega) (po_I hs86 ⟨by decide, by decide⟩ ⟨rfl, by omega, by omega, (by refine ⟨fun h => by exfalso; omega, fun h => by exfalso; omega, fun _ => ?_⟩; exact TG_Y as4 hch.1 (hch.2.2 (by omega)) (fun q => ⟨by show x7.toNat = (z0 (17 + 2 * a2.toNat) 4).toNat; rw [(as3.1 q).2], by show x6.toNat = (z0 (17 + 2 * a2.toNat) 5).toNat; rw [(as3.1 q).1]⟩) (fun q => ⟨by show x7.toNat = (z0 (17 + 2 * a2.toNat) 5).toNat; rw [(as3.2 q).2], by show x6.toNat = (z0 (17 + 2 * a2.toNat) 4).toNat; rw [(as3.2 q).1]⟩) (by omega))⟩)
  refine w_m rfl rfl ?_
  refine r_ld (pc' := 1) rfl rfl rfl rfl ?_
  refine r_gr (b := 16) (pc' := 4) rfl rfl sh_10 rfl pp_10_1 ?_
  refine r_ld (pc' := 5) rfl rfl rfl rfl ?_
  refine r_aa (b := 17 + 2 * a2.toNat) (pc' := 6) rfl rfl sh_16 (Or.inr (Or.inr rfl)) rfl (by omega) (by omega) (pa_16 (by omega)) ?_
  refine r_st (pc' := 8) (lv' := [(5, _), (0, _), (1, _), (2, _), (3, _), (4, _)]) rfl rfl rfl rfl ?_
  refine r_ld (pc' := 9) rfl rfl rfl rfl ?_
  refine r_ld (pc' := 10) rfl rfl rfl rfl ?_
  refine r_ld (pc' := 12) rfl rfl rfl rfl ?_
  refine r_c0 (pc' := 13) rfl rfl ?_
  refine r_ld (pc' := 15) rfl rfl rfl rfl ?_
  have hb96 := rd_R_1 (k := a2.toNat) (by omega) hz
  refine r_cVI (pc' := 18) rfl rfl rfl rfl rfl sh_10 (m_28e (d := d) m T G n a2.toNat 0 hst.1 hst.2.1 ⟨by omega, by omega⟩ (by first | omega | assumption) (by exact hnb) (by exact hgo) (by exact ⟨fun _ => (hgo.g0 _).mp (by rw [hm, hT]; exact hft), fun h => absurd h (by omega)⟩) hn (by first | omega | assumption) wn (by first | omega | assumption)) (fun v97 z98 w99 p100 h101 hs102 hE103 => ?_)
  have hs104 := st_tr hst hs102 (subS_c (fun _ _ _ _ _ _ => inS_0 (by omega) (by omega) (by omega) (by omega)) subS_n)
  obtain ⟨rfl, hE103⟩ := hE103
  have hpf := hE103.2.2.1
  have hpe := hE103.2.2.2
  refine r_zne (pc' := 21) rfl rfl ⟨by omega, by omega⟩ (fun hc105 => ?_) (fun hc105 => ?_)
  · skip
    refine r_ld (pc' := 24) rfl rfl rfl rfl ?_
    refine r_zle (pc' := 27) rfl rfl ⟨by omega, by omega⟩ (fun hc106 => ?_) (fun hc106 => ?_)
    · skip
      refine r_ld (pc' := 37) rfl rfl rfl rfl ?_
      have hb107 := rd_R_4 (k := a2.toNat) (by omega) hz
      refine r_gi (pc' := 40) rfl rfl (sh_R (k := a2.toNat) (by omega)) rfl (hs102.2.2.1 _ _ (notS_c (by omega) notS_n)) ?_
      refine r_st (pc' := 42) (lv' := [(6, _), (5, _), (0, _), (1, _), (2, _), (3, _), (4, _)]) rfl rfl rfl rfl ?_
      refine r_ld (pc' := 43) rfl rfl rfl rfl ?_
      refine r_zle (pc' := 46) rfl rfl ⟨by omega, by omega⟩ (fun hc108 => ?_) (fun hc108 => ?_)
      · skip
        refine r_ld (pc' := 56) rfl rfl rfl rfl ?_
        have hb109 := rd_R_5 (k := a2.toNat) (by omega) hz
        refine r_gi (pc' := 59) rfl rfl (sh_R (k := a2.toNat) (by omega)) rfl (hs102.2.2.1 _ _ (notS_c (by omega) notS_n)) ?_
        refine r_st (pc' := 61) (lv' := [(7, _), (6, _), (5, _), (0, _), (1, _), (2, _), (3, _), (4, _)]) rfl rfl rfl rfl ?_
        refine r_c0 (pc' := 62) rfl rfl ?_
        refine r_st (pc' := 64) (lv' := [(8, _), (7, _), (6, _), (5, _), (0, _), (1, _), (2, _), (3, _), (4, _)]) rfl rfl rfl rfl ?_
        exact w_lv (sub_c rfl (sub_c rfl (sub_c rfl (sub_c rfl (sub_c rfl (sub_c rfl (sub_c rfl (sub_c rfl sub_n)))))))) rfl ((key ((65 * (99 - 0) + 32 : Int).toNat + 1)) (z0 (17 + 2 * a2.toNat) 4) (z0 (17 + 2 * a2.toNat) 5) 0 z98 w99 ⟨by omega, by omega⟩ ⟨by omega, by omega⟩ ⟨by omega, by omega⟩ hs104 (by first | exact (hpf (by omega)).1 rfl | exact hgt) (by first | exact (hpf (by omega)).2.2 | exact nb_ex (by omega) (by omega) (fun j hj => by by_cases c : j = x7.toNat; (subst c; exact hch.2.1 (by omega)); (rw [hch.1, fl_ne c]; exact (as2 j hj).2)) hex (hgo.nn _ _ (by omega) hgt)) (by first | omega | assumption) (by first | exact hgs | exact TG_0 (r := (rdc z0 a2.toNat)) ((hpe.1 (by omega)).1 rfl) rfl) (by first | omega | assumption) (by omega))
      · exfalso; omega
    · skip
      refine r_ld (pc' := 29) rfl rfl rfl rfl ?_
      have hb110 := rd_R_5 (k := a2.toNat) (by omega) hz
      refine r_gi (pc' := 32) rfl rfl (sh_R (k := a2.toNat) (by omega)) rfl (hs102.2.2.1 _ _ (notS_c (by omega) notS_n)) ?_
      refine r_go rfl ?_
      refine r_st (pc' := 42) (lv' := [(6, _), (5, _), (0, _), (1, _), (2, _), (3, _), (4, _)]) rfl rfl rfl rfl ?_
      refine r_ld (pc' := 43) rfl rfl rfl rfl ?_
      refine r_zle (pc' := 46) rfl rfl ⟨by omega, by omega⟩ (fun hc111 => ?_) (fun hc111 => ?_)
      · exfalso; omega
      · skip
        refine r_ld (pc' := 48) rfl rfl rfl rfl ?_
        have hb112 := rd_R_4 (k := a2.toNat) (by omega) hz
        refine r_gi (pc' := 51) rfl rfl (sh_R (k := a2.toNat) (by omega)) rfl (hs102.2.2.1 _ _ (notS_c (by omega) notS_n)) ?_
        refine r_go rfl ?_
        refine r_st (pc' := 61) (lv' := [(7, _), (6, _), (5, _), (0, _), (1, _), (2, _), (3, _), (4, _)]) rfl rfl rfl rfl ?_
        refine r_c0 (pc' := 62) rfl rfl ?_
        refine r_st (pc' := 64) (lv' := [(8, _), (7, _), (6, _), (5, _), (0, _), (1, _), (2, _), (3, _), (4, _)]) rfl rfl rfl rfl ?_
        exact w_lv (sub_c rfl (sub_c rfl (sub_c rfl (sub_c rfl (sub_c rfl (sub_c rfl (sub_c rfl (sub_c rfl sub_n)))))))) rfl ((key ((65 * (99 - 0) + 32 : Int).toNat + 1)) (z0 (17 + 2 * a2.toNat) 5) (z0 (17 + 2 * a2.toNat) 4) 0 z98 w99 ⟨by omega, by omega⟩ ⟨by omega, by omega⟩ ⟨by omega, by omega⟩ hs104 (by first | exact (hpf (by omega)).1 rfl | exact hgt) (by first | exact (hpf (by omega)).2.2 | exact nb_ex (by omega) (by omega) (fun j hj => by by_cases c : j = x7.toNat; (subst c; exact hch.2.1 (by omega)); (rw [hch.1, fl_ne c]; exact (as2 j hj).2)) hex (hgo.nn _ _ (by omega) hgt)) (by first | omega | assumption) (by first | exact hgs | exact TG_0 (r := (rdc z0 a2.toNat)) ((hpe.1 (by omega)).1 rfl) rfl) (by first | omega | assumption) (by omega))
  · skip
    refine r_c0 (pc' := 22) rfl rfl ?_
    exact r_rz rfl (by omega) (po_I hs104 ⟨by decide, by decide⟩ ⟨rfl, by omega, by omega, (by refine ⟨fun h => by exfalso; omega, fun h => by exfalso; omega, fun _ => ?_⟩; exact gal_1 (r := (rdc z0 a2.toNat)) ((hpe.2 (by omega)).1 rfl))⟩)
/-- Mover goThrough -/
abbrev S_26e (n : Nat) : mS := [(n, n, 0, 17)]
abbrev E_26e (t : Nat) (n : Nat) (a2 : Int) (z0 w0 : mZ) (x y tx it tt ct : Option Nat) : Int → mZ → mZ → mP → Prop := fun v z w p => p = (pq x y tx it (some t) tt ct) ∧ 0 ≤ v ∧ v ≤ 1 ∧ (((v = 1 → FTt z0 t (w n) ∧ ∀ e : Nat, e < 18 → 0 ≤ w n e ∧ w n e ≤ 100000000000000)) ∧ (v = 1 → gwc z0 t a2.toNat (w0 n) = some (w n)) ∧ (v = 0 → gwc z0 t a2.toNat (w0 n) = none))
theorem m_26e {d : Nat} {z0 w0 : mZ} {x y tx it tt ct : Option Nat} (t : Nat) (n : Nat) (a2 : Int) (hz : rz z0) (hw : rw_ w0) (ha2 : 0 ≤ a2 ∧ a2 ≤ 5) (ht : isT t) (hnb : ∀ e : Nat, e < 18 → 0 ≤ w0 n e ∧ w0 n e ≤ 100000000000000) (hft : FTt z0 t (w0 n)) (hga : GA z0 z0 t) (hfw : FW z0 t a2.toNat) (hn : lr n) (b15n : 15 ≤ n) (wn : wrr n) (mn : 149 ≤ n ∧ n ≤ 157) : wc (d + 5) 26 [.ref 10, .ref n, .int (Int32.ofInt a2), .null] (mk z0 w0 (pq x y tx it (some t) tt ct)) (poI (S_26e n) z0 w0 (E_26e t n a2 z0 w0 x y tx it tt ct)) := by
  have hst : st_ (S_26e n) z0 w0 z0 w0 := st_rf hz hw
  have htb : 159 ≤ t ∧ t ≤ 192 := by have := ht; unfold isT at this; omega
  have hzt3 := rd_T_3 ht hz
  have key : ∀ N : Nat, (∀ (x4 : Int) (z w : mZ), 0 ≤ x4 ∧ x4 ≤ 8 → st_ (S_26e n) z0 w0 z w → (FTt z0 t (w n)) → (∀ e : Nat, e < 18 → 0 ≤ w n e ∧ w n e ≤ 100000000000000) → (gwd (rdc z0) (fun i => (z0 (t + 20 + a2.toNat) i).toNat) (fun i => z0 (t + 27 + a2.toNat) i) x4.toNat (w0 n) = some (w n)) → (x4 ≤ z0 (t + 18) a2.toNat) → 34 * (8 - x4) + 31 < (N : Int) → wp_ (d + 4) 26 5 (some .boolean) (3, [(0, .ref 10), (1, .ref n), (2, .int (Int32.ofInt a2)), (3, .null), (4, .int (Int32.ofInt x4))], [], mk z w (pq x y tx it (some t) tt ct)) (poI (S_26e n) z0 w0 (E_26e t n a2 z0 w0 x y tx it tt ct))) := by
    intro N
    induction N with
    | zero =>
      intro x4 z w
      intros; exfalso; omega
    | succ N ih =>
      have ih0 := ih; clear ih
      intro x4 z w  hx4 hst as1 as2 as3 as4 hM
      have et0 : z t 0 = z0 t 0 := hst.2.2.1 _ _ (notS_c (by omega) (notS_n))
      have et1 : z (t + 1) = z0 (t + 1) := funext fun i => hst.2.2.1 _ _ (notS_c (by omega) (notS_n))
      refine r_ld (pc' := 5) rfl rfl rfl rfl ?_
      refine r_ld (pc' := 6) rfl rfl rfl rfl ?_
      refine r_gr (b := t) (pc' := 9) rfl rfl sh_10 rfl pp_10_2 ?_
      refine r_gr (b := t + 18) (pc' := 12) rfl rfl (sh_T ht) rfl (pp_T_14 ht) ?_
      refine r_ld (pc' := 13) rfl rfl rfl rfl ?_
      have hb16 := rd_T18 ht hz (i := a2.toNat) (by omega)
      refine r_ia (pc' := 14) rfl rfl (sh_T18 ht) rfl (by omega) (by omega) (hst.2.2.1 _ _ (notS_c (by omega) notS_n)) ?_
      refine r_ige (pc' := 17) rfl rfl ⟨by omega, by omega⟩ ⟨by omega, by omega⟩ (fun hc17 => ?_) (fun hc17 => ?_)
      · skip
        refine r_c0 (pc' := 59) rfl rfl ?_
        exact r_rz rfl (by omega) (po_I hst ⟨by decide, by decide⟩ ⟨rfl, by omega, by omega, (by refine ⟨?_, ?_⟩; (first | (intro h; exfalso; omega) | exact fun _ => ⟨as1, as2⟩); (first | exact ⟨fun h => by exfalso; omega, fun _ => gwd_X as3 (hte.2 (by omega)) (by omega)⟩ | exact ⟨fun _ => by unfold gwc; rw [show (z0 (t + 18) a2.toNat).toNat = x4.toNat by omega]; exact as3, fun h => by exfalso; omega⟩))⟩)
      · skip
        have hfi := hfw x4.toNat (by omega)
        have hfr := rd_T20 ht (k := a2.toNat) (by omega) hz (i := x4.toNat) (by omega)
        have rdz : rdc z (z0 (t + 20 + a2.toNat) x4.toNat).toNat = rdc z0 (z0 (t + 20 + a2.toNat) x4.toNat).toNat := rdc_f (fun i hi => hst.2.2.1 _ _ (notS_c (by omega) (notS_n))) (funext fun i => hst.2.2.1 _ _ (notS_c (by omega) (notS_n)))
        refine r_ld (pc' := 18) rfl rfl rfl rfl ?_
        refine r_ld (pc' := 19) rfl rfl rfl rfl ?_
        refine r_ld (pc' := 20) rfl rfl rfl rfl ?_
        refine r_gr (b := t) (pc' := 23) rfl rfl sh_10 rfl pp_10_2 ?_
        refine r_gr (b := t + 19) (pc' := 26) rfl rfl (sh_T ht) rfl (pp_T_15 ht) ?_
        refine r_ld (pc' := 27) rfl rfl rfl rfl ?_
        refine r_aa (b := t + 20 + a2.toNat) (pc' := 28) rfl rfl (sh_T19 ht) (Or.inr (Or.inl rfl)) rfl (by omega) (by omega) (pa_T19 ht (by omega)) ?_
        refine r_ld (pc' := 30) rfl rfl rfl rfl ?_
        have hb18 := rd_T20 ht (k := a2.toNat) (by omega) hz (i := x4.toNat) (by omega)
        refine r_ia (pc' := 31) rfl rfl (sh_T20 ht (by omega)) rfl (by omega) (by omega) (hst.2.2.1 _ _ (notS_c (by omega) notS_n)) ?_
        refine r_ld (pc' := 32) rfl rfl rfl rfl ?_
        refine r_gr (b := t) (pc' := 35) rfl rfl sh_10 rfl pp_10_2 ?_
        refine r_gr (b := t + 26) (pc' := 38) rfl rfl (sh_T ht) rfl (pp_T_16 ht) ?_
        refine r_ld (pc' := 39) rfl rfl rfl rfl ?_
        refine r_aa (b := t + 27 + a2.toNat) (pc' := 40) rfl rfl (sh_T26 ht) (Or.inr (Or.inl rfl)) rfl (by omega) (by omega) (pa_T26 ht (by omega)) ?_
        refine r_ld (pc' := 42) rfl rfl rfl rfl ?_
        have hb19 := rd_T27 ht (k := a2.toNat) (by omega) hz (i := x4.toNat) (by omega)
        refine r_ia (pc' := 43) rfl rfl (sh_T27 ht (by omega)) rfl (by omega) (by omega) (hst.2.2.1 _ _ (notS_c (by omega) notS_n)) ?_
        refine r_ld (pc' := 44) rfl rfl rfl rfl ?_
        have hb20 := rd_R_0 (k := (z0 (t + 20 + a2.toNat) x4.toNat).toNat) (by omega) hz
        have hf21 : z (17 + 2 * (z0 (t + 20 + a2.toNat) x4.toNat).toNat) 0 = z0 (17 + 2 * (z0 (t + 20 + a2.toNat) x4.toNat).toNat) 0 := (hst.2.2.1 _ _ (notS_c (by omega) notS_n))
        refine r_cVI (pc' := 47) rfl rfl rfl rfl rfl sh_10 (m_27e (d := d) t n (z0 (t + 20 + a2.toNat) x4.toNat) (z0 (t + 27 + a2.toNat) x4.toNat) hst.1 hst.2.1 ⟨by omega, by omega⟩ ⟨by omega, by omega⟩ ht (by exact as2) (by exact FTt_fr et0 et1 as1) (by exact GRt_cg (hga _ (by omega)) et0.symm et1.symm (fun i _ => hst.2.2.1 _ _ (notS_c (by omega) (notS_n))) (funext fun i => hst.2.2.1 _ _ (notS_c (by omega) (notS_n)))) (by exact (hst.2.2.1 _ _ (notS_c (by omega) (notS_n))).trans hfi.2) hn (by first | omega | assumption | (simp only [hf21]; assumption)) wn (by first | omega | assumption | (simp only [hf21]; assumption))) (fun v22 z23 w24 p25 h26 hs27 hE28 => ?_)
        have hs29 := st_tr hst hs27 (subS_c (fun _ _ _ _ _ _ => inS_0 (by omega) (by omega) (by omega) (by omega)) subS_n)
        obtain ⟨rfl, hE28⟩ := hE28
        have htw := hE28.2.2.1
        have hte := hE28.2.2.2
        rw [rdz] at hte
        refine r_zne (pc' := 50) rfl rfl ⟨by omega, by omega⟩ (fun hc30 => ?_) (fun hc30 => ?_)
        · skip
          refine r_inc (pc' := 55) (lv' := [(0, _), (1, _), (2, _), (3, _)]) rfl rfl rfl rfl rfl ?_
          refine r_go rfl ?_
          exact w_lv (sub_c rfl (sub_c rfl (sub_c rfl (sub_c rfl (sub_c rfl sub_n))))) rfl (ih0 (x4 + 1) z23 w24 ⟨by omega, by omega⟩ hs29 (by first | exact hft | exact FTt_fr et0.symm et1.symm (htw (by omega)).1) (by first | exact hnb | exact (htw (by omega)).2) (by first | exact gwd_s as3 (hte.1 (by omega)) (by omega) | exact rfl) (by first | omega | (have h9 := rd_T18 ht hz (i := a2.toNat) (by omega); omega)) (by omega))
        · skip
          refine r_c0 (pc' := 51) rfl rfl ?_
          exact r_rz rfl (by omega) (po_I hs29 ⟨by decide, by decide⟩ ⟨rfl, by omega, by omega, (by refine ⟨?_, ?_⟩; (first | (intro h; exfalso; omega) | exact fun _ => ⟨as1, as2⟩); (first | exact ⟨fun h => by exfalso; omega, fun _ => gwd_X as3 (hte.2 (by omega)) (by omega)⟩ | exact ⟨fun _ => by unfold gwc; rw [show (z0 (t + 18) a2.toNat).toNat = x4.toNat by omega]; exact as3, fun h => by exfalso; omega⟩))⟩)
  refine w_m rfl rfl ?_
  refine r_c0 (pc' := 1) rfl rfl ?_
  refine r_st (pc' := 3) (lv' := [(4, _), (0, _), (1, _), (2, _), (3, _)]) rfl rfl rfl rfl ?_
  exact w_lv (sub_c rfl (sub_c rfl (sub_c rfl (sub_c rfl (sub_c rfl sub_n))))) rfl ((key ((34 * (8 - 0) + 31 : Int).toNat + 1)) 0 z0 w0 ⟨by omega, by omega⟩ hst (by first | exact hft | exact FTt_fr et0.symm et1.symm (htw (by omega)).1) (by first | exact hnb | exact (htw (by omega)).2) (by first | exact gwd_s as3 (hte.1 (by omega)) (by omega) | exact rfl) (by first | omega | (have h9 := rd_T18 ht hz (i := a2.toNat) (by omega); omega)) (by omega))
end

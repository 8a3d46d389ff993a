/-! points, as a pure function of how the SIDES lie over one another -/
theorem tr_c {E E' : Int} {f g : Nat → Int} {j : Nat} (e : E = E') (h : f j = g j) : tr E f j = tr E' g j := by
  subst e
  unfold tr
  rw [h]
def cn1 (f : Nat → Int) : Nat → Int
  | 0 => 0
  | n + 1 => cn1 f n + (if f n = -1 then 1 else 0)
theorem cn1_b (f : Nat → Int) : ∀ n : Nat, 0 ≤ cn1 f n ∧ cn1 f n ≤ n
  | 0 => ⟨Int.le_refl _, Int.le_refl _⟩
  | n + 1 => by
    have := cn1_b f n
    unfold cn1
    split <;> omega
theorem cn1_c {f g : Nat → Int} : ∀ n : Nat, (∀ j, j < n → g j = f j) → cn1 g n = cn1 f n
  | 0, _ => rfl
  | n + 1, h => by
    unfold cn1
    rw [cn1_c n (fun j hj => h j (by omega)), h n (by omega)]
theorem cn1_w {f g : Nat → Int} {i : Nat} (h : ∀ j, j ≠ i → g j = f j) (h1 : f i = -1) (h2 : g i ≠ -1) : ∀ n : Nat, i < n → cn1 g n = cn1 f n - 1
  | 0, q => absurd q (by omega)
  | n + 1, q => by
    unfold cn1
    by_cases e : i = n
    · subst e
      rw [cn1_c i (fun j hj => h j (by omega)), if_pos h1, if_neg h2]
      omega
    · rw [cn1_w h h1 h2 n (by omega), h n (fun q => e q.symm)]
      omega
theorem cn1_p {f : Nat → Int} {i : Nat} (h1 : f i = -1) : ∀ n : Nat, i < n → 1 ≤ cn1 f n
  | 0, q => absurd q (by omega)
  | n + 1, q => by
    have b := cn1_b f n
    unfold cn1
    by_cases e : i = n
    · subst e
      rw [if_pos h1]; omega
    · have := cn1_p h1 n (by omega)
      split <;> omega
def mkp (o : Nat → Int) (n : Int) : Nat → (Nat → Int) → Nat → Nat → Int
  | 0 => fun f _ => f
  | k + 1 => fun f a => if f a = -1 then mkp o n k (fun i => if i = a then n else f i) (o (bh a)).toNat else f
theorem mkp_e {o : Nat → Int} {n : Int} {f : Nat → Int} {a : Nat} (h : f a ≠ -1) (k : Nat) : mkp o n k f a = f := by
  cases k with
  | zero => rfl
  | succ k => exact if_neg h
theorem mkp_s {o : Nat → Int} {n : Int} {f : Nat → Int} {a : Nat} (h : f a = -1) (k : Nat) : mkp o n (k + 1) f a = mkp o n k (fun i => if i = a then n else f i) (o (bh a)).toNat := if_pos h
def ptf (o : Nat → Int) : Nat → (Nat → Int) × Int
  | 0 => (fun _ => -1, 0)
  | c + 1 => if (ptf o c).1 c = -1 then (mkp o (ptf o c).2 36 (ptf o c).1 c, (ptf o c).2 + 1) else ptf o c
theorem ptf_y {o : Nat → Int} {c : Nat} (h : (ptf o c).1 c = -1) : ptf o (c + 1) = (mkp o (ptf o c).2 36 (ptf o c).1 c, (ptf o c).2 + 1) := if_pos h
theorem ptf_n {o : Nat → Int} {c : Nat} (h : (ptf o c).1 c ≠ -1) : ptf o (c + 1) = ptf o c := if_neg h
theorem ptf_b (o : Nat → Int) : ∀ c : Nat, 0 ≤ (ptf o c).2 ∧ (ptf o c).2 ≤ c
  | 0 => ⟨Int.le_refl _, Int.le_refl _⟩
  | c + 1 => by
    have b := ptf_b o c
    by_cases h : (ptf o c).1 c = -1
    · rw [ptf_y h]
      show 0 ≤ (ptf o c).2 + 1 ∧ (ptf o c).2 + 1 ≤ _
      omega
    · rw [ptf_n h]; omega
/-- like ways over give like points -/
theorem mkp_c {o o' : Nat → Int} {n : Int} {N : Nat} (cl : ∀ a, a < N → (o (bh a)).toNat < N) (e : ∀ a, a < N → o (bh a) = o' (bh a)) : ∀ (k : Nat) (f : Nat → Int) (a : Nat), a < N → mkp o n k f a = mkp o' n k f a := by
  intro k
  induction k with
  | zero => intro f a _; rfl
  | succ k ih =>
    intro f a h
    by_cases g : f a = -1
    · rw [mkp_s g, mkp_s g, ← e a h]
      exact ih _ _ (cl a h)
    · rw [mkp_e g, mkp_e g]
theorem ptf_c {o o' : Nat → Int} {N : Nat} (cl : ∀ a, a < N → (o (bh a)).toNat < N) (e : ∀ a, a < N → o (bh a) = o' (bh a)) : ∀ c : Nat, c ≤ N → ptf o c = ptf o' c := by
  intro c
  induction c with
  | zero => intro _; rfl
  | succ c ih =>
    intro h
    have i := ih (by omega)
    by_cases g : (ptf o c).1 c = -1
    · have g' : (ptf o' c).1 c = -1 := by rw [← i]; exact g
      rw [ptf_y g, ptf_y g', i, mkp_c cl e 36 _ c (by omega)]
    · have g' : (ptf o' c).1 c ≠ -1 := by rw [← i]; exact g
      rw [ptf_n g, ptf_n g', i]
/-- on the way round one point -/
def MI (o : Nat → Int) (n : Int) (N : Nat) (F : Nat → Int) (c : Nat) (k : Int) (g : Nat → Int) (a : Int) : Prop := ∃ f, (∀ i, i < N → g i = f i) ∧ 0 ≤ k ∧ k ≤ 36 ∧ mkp o n 36 F c = mkp o n (36 - k).toNat f a.toNat ∧ 0 ≤ a ∧ a < N ∧ cn1 f N + k ≤ N ∧ 0 ≤ n ∧ N ≤ 36
theorem MI_0 {o : Nat → Int} {n : Int} {N c : Nat} {F g : Nat → Int} {a : Int} (h : ∀ i, i < N → g i = F i) (hc : c < N) (ha : a = c) (hn : 0 ≤ n) (hN : N ≤ 36) : MI o n N F c 0 g a := by
  subst ha
  have b := cn1_b F N
  exact ⟨F, h, by omega, by omega, rfl, by omega, by omega, by omega, hn, hN⟩
theorem MI_s {o : Nat → Int} {n : Int} {N c : Nat} {F g g' : Nat → Int} {a b k k' : Int} (m : MI o n N F c k g a) (hg : g a.toNat = -1) (hw : ∀ i, i < N → g' i = if i = a.toNat then n else g i) (hb : b = o (bh a.toNat)) (hb0 : 0 ≤ b) (hbN : b < N) (hk : k' = k + 1) : MI o n N F c k' g' b := by
  obtain ⟨f, m1, m2, m3, m4, m5, m6, m7, m8, m9⟩ := m
  subst hb hk
  have fa : f a.toNat = -1 := by rw [← m1 _ (by omega)]; exact hg
  have c1 := cn1_p fa N (by omega)
  have c2 := cn1_w (f := f) (g := fun i => if i = a.toNat then n else f i) (i := a.toNat) (fun j hj => if_neg hj) fa (by show (if a.toNat = a.toNat then n else f a.toNat) ≠ -1; rw [if_pos rfl]; omega) N (by omega)
  refine ⟨fun i => if i = a.toNat then n else f i, fun i hi => ?_, by omega, by omega, ?_, hb0, hbN, by omega, m8, m9⟩
  · rw [hw i hi]
    by_cases e : i = a.toNat
    · rw [if_pos e]; exact (if_pos e).symm
    · rw [if_neg e, m1 i hi]; exact (if_neg e).symm
  · rw [m4, show (36 - k).toNat = (36 - (k + 1)).toNat + 1 by omega, mkp_s fa]
theorem MI_e {o : Nat → Int} {n : Int} {N c : Nat} {F g : Nat → Int} {a k : Int} (m : MI o n N F c k g a) (h : g a.toNat ≠ -1 ∨ (N : Int) ≤ k) : ∀ i, i < N → g i = mkp o n 36 F c i := by
  obtain ⟨f, m1, m2, m3, m4, m5, m6, m7, m8, m9⟩ := m
  have fa : f a.toNat ≠ -1 := by
    rcases h with h | h
    · rw [← m1 _ (by omega)]; exact h
    · intro q
      have := cn1_p q N (by omega)
      omega
  intro i hi
  rw [m4, mkp_e fa]
  exact m1 i hi
/-- so many corners gone through -/
def PQ (o : Nat → Int) (N c : Nat) (g : Nat → Int) (n : Int) : Prop := (∀ i, i < N → g i = (ptf o c).1 i) ∧ n = (ptf o c).2
theorem PQ_0 {o : Nat → Int} {N c : Nat} {g : Nat → Int} {n : Int} (h : ∀ i, i < N → g i = -1) (hn : n = 0) (hc : c = 0) : PQ o N c g n := by
  subst hc
  exact ⟨h, hn⟩
theorem PQ_b {o : Nat → Int} {N c : Nat} {g : Nat → Int} {n : Int} (p : PQ o N c g n) : 0 ≤ n ∧ n ≤ c := by rw [p.2]; exact ptf_b o c
theorem PQ_k {o : Nat → Int} {N c c' : Nat} {g : Nat → Int} {n : Int} (p : PQ o N c g n) (hc : c < N) (h : g c ≠ -1) (e : c' = c + 1) : PQ o N c' g n := by
  subst e
  have q : (ptf o c).1 c ≠ -1 := by rw [← p.1 c hc]; exact h
  unfold PQ
  rw [ptf_n q]
  exact p
theorem PQ_n {o : Nat → Int} {N c c' : Nat} {g g' : Nat → Int} {n n' : Int} (e2 : n = (ptf o c).2) (q : (ptf o c).1 c = -1) (h : ∀ i, i < N → g i = mkp o n 36 (ptf o c).1 c i) (eg : g' = g) (en : n' = n + 1) (e : c' = c + 1) : PQ o N c' g' n' := by
  subst e eg en e2
  unfold PQ
  rw [ptf_y q]
  exact ⟨h, rfl⟩
theorem MI_a {o : Nat → Int} {n : Int} {N c : Nat} {F g : Nat → Int} {a k : Int} (m : MI o n N F c k g a) : 0 ≤ a ∧ a < N ∧ 0 ≤ n := by
  obtain ⟨f, m1, m2, m3, m4, m5, m6, m7, m8, m9⟩ := m
  exact ⟨m5, m6, m8⟩
theorem bh_v {x v : Int} (h0 : 0 ≤ x) (h : (x % 3 = 2 → v = x - 2) ∧ (x % 3 ≠ 2 → v = x + 1)) : v.toNat = bh x.toNat := by
  unfold bh
  by_cases c : x % 3 = 2
  · rw [if_pos (by omega)]; have := h.1 c; omega
  · rw [if_neg (by omega)]; have := h.2 c; omega
theorem LO_fl {m E x : Int} {T o fs : Nat → Int} (ly : LY m E T) (h : LO E T o fs x) (hx : x = 3 * m) (e : Nat) (he : (e : Int) < E) : fs e < o (fs e).toNat := by
  have W := LO_end ly h hx
  have f := W.fL e he
  rcases h e he with ⟨c1, _⟩ | ⟨c1, c2, c3, c4⟩ | ⟨b, c1, c2, c3, c4, c5, c6, c7⟩
  · omega
  · have k1 := W.oL (fs e).toNat (by omega)
    have k2 := W.oT (fs e).toNat (by omega)
    have k3 := W.on (fs e).toNat (by omega)
    have k4 := c4 (o (fs e).toNat).toNat (by omega) (by rw [k2]; exact c3)
    omega
  · rw [c6]; exact c2
/-- the points of a told ground, of the reference's ground; an EDGE's first SIDE is ahead of the other -/
def PTz (z : mZ) (t : Nat) : Prop := PQ (z (t + 2)) (3 * z t 0).toNat (3 * z t 0).toNat (z (t + 3)) (z t 2) ∧ ∀ e : Nat, (e : Int) < 3 * z t 0 / 2 → z (t + 5) e < z (t + 2) (z (t + 5) e).toNat
def FLr (z : mZ) : Prop := ∀ e : Nat, (e : Int) < rE z → z 241 e < z 240 (z 241 e).toNat
def PTr (z : mZ) : Prop := PQ (z 240) (3 * z 225 26).toNat (3 * z 225 26).toNat (z 242) (z 225 32) ∧ FLr z
theorem PTz_f {z z' : mZ} {t : Nat} (e0 : z' t 0 = z t 0) (e2 : z' t 2 = z t 2) (f2 : ∀ i, z' (t + 2) i = z (t + 2) i) (f3 : ∀ i, z' (t + 3) i = z (t + 3) i) (f5 : ∀ i, z' (t + 5) i = z (t + 5) i) (p : PTz z t) : PTz z' t := by
  unfold PTz
  rw [e0, e2, show z' (t + 2) = z (t + 2) from funext f2, show z' (t + 3) = z (t + 3) from funext f3, show z' (t + 5) = z (t + 5) from funext f5]
  exact p
theorem PTr_f {z z' : mZ} (e0 : z' 225 26 = z 225 26) (e2 : z' 225 32 = z 225 32) (f2 : ∀ i, z' 240 i = z 240 i) (f3 : ∀ i, z' 242 i = z 242 i) (f5 : ∀ i, z' 241 i = z 241 i) (p : PTr z) : PTr z' := by
  unfold PTr FLr rE
  rw [e0, e2, show z' 240 = z 240 from funext f2, show z' 242 = z 242 from funext f3, show z' 241 = z 241 from funext f5]
  exact p
/-- both have the same ways over, points and first SIDES -/
theorem WT_o {m E : Int} {T o fs T' o' fs' : Nat → Int} (a : WT m E T o fs) (b : WT m E T' o' fs') (e : ∀ s : Nat, (s : Int) < 3 * m → T s = T' s) (s : Nat) (hs : (s : Int) < 3 * m) : o s = o' s := by
  have a1 := a.oL s hs
  have a2 := a.oT s hs
  have a3 := a.on s hs
  have k := b.tw s (o s).toNat hs (by omega) (by rw [← e s hs, ← e _ (by omega), a2])
  rcases k with k | k <;> omega
theorem WT_f {m E : Int} {T o fs T' o' fs' : Nat → Int} (a : WT m E T o fs) (b : WT m E T' o' fs') (e : ∀ s : Nat, (s : Int) < 3 * m → T s = T' s) (l : ∀ e : Nat, (e : Int) < E → fs e < o (fs e).toNat) (l' : ∀ e : Nat, (e : Int) < E → fs' e < o' (fs' e).toNat) (x : Nat) (hx : (x : Int) < E) : fs x = fs' x := by
  have a1 := a.fL x hx
  have b1 := b.fL x hx
  have k := b.tw (fs x).toNat (fs' x).toNat (by omega) (by omega) (by rw [← e _ (by omega), a1.2.2, b1.2.2])
  have g1 := l x hx
  have g2 := l' x hx
  have o1 := WT_o a b e (fs x).toNat (by omega)
  rcases k with k | k
  · omega
  · have o2 := b.oo (fs x).toNat (by omega)
    rw [← k] at o2
    rw [show ((fs' x).toNat : Int).toNat = (fs' x).toNat by omega] at o2
    omega
/-- what a ground that failed leaves as it was -/
def FRr (z0 w0 z w : mZ) : Prop := (∀ i, 26 ≤ i → z 225 i = z0 225 i) ∧ ∀ a, 235 ≤ a → ∀ i, z a i = z0 a i ∧ w a i = w0 a i
def FRc (u : Nat) (z0 w0 z w : mZ) : Prop := ∀ a, 4 ≤ a → (a < u ∨ u + 32 < a) → ∀ i, z a i = z0 a i ∧ w a i = w0 a i

/-! runs of calls: what holds between them -/
def kqC (z w : mZ) (p : mP) : Prop := ∃ (t u : Nat) (tx it mt tt ct : Option Nat), isT t ∧ isT u ∧ (u = t + 33 ∨ t = u + 33) ∧ p = pq (some t) (some u) tx it mt tt ct ∧ rz z ∧ rw_ w ∧ CV z w t ∧ (mt = none ∨ (mt = some t ∧ GA z z t))
def kqR (z w : mZ) : Prop := rz z ∧ rw_ w ∧ RV z w
def kqlo (S : mS) : Bool := S.all (fun q => Nat.ble q.2.1 224)
def kqhi (S : mS) : Bool := S.all (fun q => Nat.ble 225 q.1)
def kqdA (S : mS) (a b : Nat) : Bool := S.all (fun q => Nat.ble (q.2.1 + 1) a || Nat.ble (b + 1) q.1)
def kqdF (S : mS) (a i j : Nat) : Bool := S.all (fun q => Nat.ble (q.2.1 + 1) a || (Nat.ble (a + 1) q.1 || (Nat.ble (q.2.2.2 + 1) i || Nat.ble (j + 1) q.2.2.1)))
theorem al_n {S : mS} {f : Nat × Nat × Nat × Nat → Bool} {a i : Nat} (h : S.all f = true) (k : ∀ q, f q = true → ¬ (q.1 ≤ a ∧ a ≤ q.2.1 ∧ q.2.2.1 ≤ i ∧ i ≤ q.2.2.2)) : ¬ inS S a i := by
  induction S with
  | nil => exact fun q => q
  | cons q r ih =>
    rw [List.all_cons, Bool.and_eq_true] at h
    intro c
    rcases c with c | c
    · exact k q h.1 c
    · exact ih h.2 c
theorem lo_n {S : mS} (h : kqlo S = true) {a i : Nat} (ha : 225 ≤ a) : ¬ inS S a i := al_n h (fun q e => by have := Nat.le_of_ble_eq_true e; omega)
theorem hi_n {S : mS} (h : kqhi S = true) {a i : Nat} (ha : a < 225) : ¬ inS S a i := al_n h (fun q e => by have := Nat.le_of_ble_eq_true e; omega)
theorem dA_n {S : mS} {a b : Nat} (h : kqdA S a b = true) {c i : Nat} (h1 : a ≤ c) (h2 : c ≤ b) : ¬ inS S c i := al_n h (fun q e => by
  rcases Bool.or_eq_true _ _ |>.mp e with e | e <;> (have := Nat.le_of_ble_eq_true e; omega))
theorem dF_n {S : mS} {a i j : Nat} (h : kqdF S a i j = true) {k : Nat} (h1 : i ≤ k) (h2 : k ≤ j) : ¬ inS S a k := al_n h (fun q e => by
  rcases Bool.or_eq_true _ _ |>.mp e with e | e
  · have := Nat.le_of_ble_eq_true e; omega
  · rcases Bool.or_eq_true _ _ |>.mp e with e | e
    · have := Nat.le_of_ble_eq_true e; omega
    · rcases Bool.or_eq_true _ _ |>.mp e with e | e <;> (have := Nat.le_of_ble_eq_true e; omega))
def rvB (S : mS) : Bool := (kqdF S 225 26 28 && kqdF S 225 73 74) && (kqdA S 235 237 && kqdA S 239 241) && (kqdA S 247 254 && kqdA S 270 271) && kqdA S 274 275
theorem RV_B {S : mS} {z w z' w' : mZ} (hz : rz z) (h : st_ S z w z' w') (l : rvB S = true) (k : RV z w) : RV z' w' := by
  unfold rvB at l
  rw [Bool.and_eq_true, Bool.and_eq_true, Bool.and_eq_true, Bool.and_eq_true, Bool.and_eq_true, Bool.and_eq_true] at l
  obtain ⟨⟨⟨⟨l1, l2⟩, l3, l4⟩, l5, l6⟩, l7⟩ := l
  refine RV_c hz (fun i h1 h2 => h.2.2.1 _ _ (dF_n l1 h1 h2)) (fun a h1 h2 h3 => funext fun i => h.2.2.1 _ _ ?_) (fun a h1 h2 => funext fun i => h.2.2.1 _ _ (dA_n l5 h1 h2)) (h.2.2.1 _ _ (dF_n l2 (by omega) (by omega))) (h.2.2.1 _ _ (dF_n l2 (by omega) (by omega))) (funext fun i => h.2.2.1 _ _ (dA_n l7 (by omega) (by omega))) (fun a ha => funext fun i => h.2.2.2 _ _ ?_) k
  · by_cases c : a ≤ 237
    · exact dA_n l3 h1 c
    · exact dA_n l4 (by omega) h2
  · by_cases c : a ≤ 271
    · exact dA_n l6 (by omega) c
    · exact dA_n l7 (by omega) (by omega)
theorem kqR_f {S : mS} {z w z' w' : mZ} (h : st_ S z w z' w') (l : kqlo S = true) (k : kqR z w) : kqR z' w' := by
  have n : ∀ a i, 225 ≤ a → ¬ inS S a i := fun a i ha => lo_n l ha
  exact ⟨h.1, h.2.1, RV_c k.1 (fun i h1 h2 => h.2.2.1 _ _ (n _ _ (by omega))) (fun a h1 h2 h3 => funext fun i => h.2.2.1 _ _ (n _ _ (by omega))) (fun a h1 h2 => funext fun i => h.2.2.1 _ _ (n _ _ (by omega))) (h.2.2.1 _ _ (n _ _ (by omega))) (h.2.2.1 _ _ (n _ _ (by omega))) (funext fun i => h.2.2.1 _ _ (n _ _ (by omega))) (fun a ha => funext fun i => h.2.2.2 _ _ (n _ _ (by omega))) k.2.2⟩
theorem kqC_f {S : mS} {z w z' w' : mZ} {p : mP} (h : st_ S z w z' w') (l : kqhi S = true) (k : kqC z w p) : kqC z' w' p := by
  obtain ⟨t, u, tx, it, mt, tt, ct, ht, hu, htu, rfl, hz, hw, hcv, hg⟩ := k
  have n : ∀ a i, a < 225 → ¬ inS S a i := fun a i ha => hi_n l ha
  have hb : t ≤ 192 := by rcases ht with rfl | rfl <;> omega
  exact ⟨t, u, tx, it, mt, tt, ct, ht, hu, htu, rfl, h.1, h.2.1, CV_f ht hz h (n _ _ (by omega)) (n _ _ (by omega)) (n _ _ (by omega)) (n _ _ (by omega)) (n _ _ (by omega)) (fun i => n _ _ (by omega)) (fun i => n _ _ (by omega)) (fun i => n _ _ (by omega)) (fun a h1 h2 i => n _ _ (by omega)) (n _ _ (by omega)) (n _ _ (by omega)) (n _ _ (by omega)) (fun a h1 h2 i => n _ _ (by omega)) (fun a h1 h2 i => n _ _ (by omega)) hcv,
    hg.imp id (fun q => ⟨q.1, GA_f ht hz h (n _ _ (by omega)) (n _ _ (by omega)) (fun i => n _ _ (by omega)) (fun a h1 h2 i => n _ _ (by omega)) q.2⟩)⟩
theorem kqC_m {S : mS} {z w z' w' : mZ} {t u : Nat} {tx it mt tt ct : Option Nat} (ht : isT t) (hu : isT u) (htu : u = t + 33 ∨ t = u + 33) (hs : st_ S z w z' w') (hc : CV z' w' t) (hg : mt = none ∨ (mt = some t ∧ GA z' z' t)) : kqC z' w' (pq (some t) (some u) tx it mt tt ct) := ⟨t, u, tx, it, mt, tt, ct, ht, hu, htu, rfl, hs.1, hs.2.1, hc, hg⟩
/-- what a call leaves of the tape and of the latest ground's fault: of the class, of the reference -/
def kqk (S : mS) : Bool := kqdF S 1 16 17 && kqdA S 2 2
def kqh (S : mS) : Bool := kqdF S 225 2 3 && kqdA S 226 226
def kqK (z z' : mZ) : Prop := z' 1 16 = z 1 16 ∧ z' 1 17 = z 1 17 ∧ ∀ i, z' 2 i = z 2 i
def kqH (z z' : mZ) : Prop := z' 225 2 = z 225 2 ∧ z' 225 3 = z 225 3 ∧ ∀ i, z' 226 i = z 226 i
theorem kqk_K {S : mS} {z w z' w' : mZ} (h : st_ S z w z' w') (l : kqk S = true) : kqK z z' := by
  unfold kqk at l
  rw [Bool.and_eq_true] at l
  exact ⟨h.2.2.1 _ _ (dF_n l.1 (by omega) (by omega)), h.2.2.1 _ _ (dF_n l.1 (by omega) (by omega)), fun i => h.2.2.1 _ _ (dA_n l.2 (by omega) (by omega))⟩
theorem kqh_H {S : mS} {z w z' w' : mZ} (h : st_ S z w z' w') (l : kqh S = true) : kqH z z' := by
  unfold kqh at l
  rw [Bool.and_eq_true] at l
  exact ⟨h.2.2.1 _ _ (dF_n l.1 (by omega) (by omega)), h.2.2.1 _ _ (dF_n l.1 (by omega) (by omega)), fun i => h.2.2.1 _ _ (dA_n l.2 (by omega) (by omega))⟩
def kqDK (z : mZ) (_ : Value) (z' : mZ) : Prop := kqK z z'
def kqDH (z : mZ) (_ : Value) (z' : mZ) : Prop := kqH z z'
/-- a call's end: its answer by the tape's length, the tape's length behind it, what it leaves as it was, and D -/
def kqQ (f : Int → Int) (g : Int → Value → Prop) (D : mZ → Value → mZ → Prop) (z w : mZ) : pm_R → Prop := fun R => ∃ v z' w' p' S, R = (some v, mk z' w' p') ∧ g (z 1 15) v ∧ kqC z' w' p' ∧ z' 1 15 = f (z 1 15) ∧ st_ S z w z' w' ∧ kqlo S = true ∧ D z v z'
def kqP (f : Int → Int) (g : Int → Value → Prop) (D : mZ → Value → mZ → Prop) (z w : mZ) (p : mP) : pm_R → Prop := fun R => ∃ v z' w' S, R = (some v, mk z' w' p) ∧ g (z 225 1) v ∧ kqR z' w' ∧ z' 225 1 = f (z 225 1) ∧ st_ S z w z' w' ∧ kqhi S = true ∧ D z v z'
def kqgI : Int → Value → Prop := fun _ v => ∃ x, v = .int x
def kqgL : Int → Value → Prop := fun _ v => ∃ x, v = .long x
def kqfI : Int → Int := fun n => n
def kqf0 : Int → Int := fun _ => 0
def kqfF : Int → Int := fun n => if n + 20 ≤ 1600 then n + 20 else n
def kqgF : Int → Value → Prop := fun n v => v = .int (Int32.ofInt (if n + 20 ≤ 1600 then n + 20 else -1))
def kqfE (a : Int) : Int → Int := fun n => if 0 ≤ a ∧ a ≤ n then a else n
def kqgE (a : Int) : Int → Value → Prop := fun n v => v = .int (Int32.ofInt (if 0 ≤ a ∧ a ≤ n then a else -1))
theorem qc_I {f : Int → Int} {S : mS} {z w : mZ} {p : mP} {E : Int → mZ → mZ → mP → Prop} {k : Nat} {as : List Value} (l : kqlo S = true) (lk : kqk S = true) (m : wc 9 k as (mk z w p) (poI S z w E)) (he : ∀ v z' w' p', st_ S z w z' w' → E v z' w' p' → kqC z' w' p' ∧ z' 1 15 = f (z 1 15)) : wc 9 k as (mk z w p) (kqQ f kqgI kqDK z w) := by
  refine wc_mono m ?_
  rintro R ⟨v, z', w', p', rfl, hv, hs, hE⟩
  obtain ⟨h1, h2⟩ := he v z' w' p' hs hE
  exact ⟨_, z', w', p', S, rfl, ⟨_, rfl⟩, h1, h2, hs, l, kqk_K hs lk⟩
theorem qc_L {f : Int → Int} {S : mS} {z w : mZ} {p : mP} {E : Int → mZ → mZ → mP → Prop} {k : Nat} {as : List Value} (l : kqlo S = true) (lk : kqk S = true) (m : wc 9 k as (mk z w p) (poL S z w E)) (he : ∀ v z' w' p', st_ S z w z' w' → E v z' w' p' → kqC z' w' p' ∧ z' 1 15 = f (z 1 15)) : wc 9 k as (mk z w p) (kqQ f kqgL kqDK z w) := by
  refine wc_mono m ?_
  rintro R ⟨v, z', w', p', rfl, hv, hs, hE⟩
  obtain ⟨h1, h2⟩ := he v z' w' p' hs hE
  exact ⟨_, z', w', p', S, rfl, ⟨_, rfl⟩, h1, h2, hs, l, kqk_K hs lk⟩
theorem qc_g {f : Int → Int} {h : Int → Int} {S : mS} {z w : mZ} {p : mP} {E : Int → mZ → mZ → mP → Prop} {k : Nat} {as : List Value} (l : kqlo S = true) (lk : kqk S = true) (m : wc 9 k as (mk z w p) (poI S z w E)) (he : ∀ v z' w' p', st_ S z w z' w' → E v z' w' p' → kqC z' w' p' ∧ z' 1 15 = f (z 1 15) ∧ v = h (z 1 15)) : wc 9 k as (mk z w p) (kqQ f (fun n v => v = .int (Int32.ofInt (h n))) kqDK z w) := by
  refine wc_mono m ?_
  rintro R ⟨v, z', w', p', rfl, hv, hs, hE⟩
  obtain ⟨h1, h2, h3⟩ := he v z' w' p' hs hE
  exact ⟨_, z', w', p', S, rfl, by rw [h3], h1, h2, hs, l, kqk_K hs lk⟩
theorem qr_I {S : mS} {z w : mZ} {p : mP} {E : Int → mZ → mZ → mP → Prop} {k : Nat} {as : List Value} (K : kqR z w) (l : kqhi S = true) (l1 : kqdF S 225 1 1 = true) (l2 : rvB S = true) (l3 : kqh S = true) (m : wc 9 k as (mk z w p) (poI S z w E)) (he : ∀ v z' w' p', E v z' w' p' → p' = p) : wc 9 k as (mk z w p) (kqP kqfI kqgI kqDH z w p) := by
  refine wc_mono m ?_
  rintro R ⟨v, z', w', p', rfl, hv, hs, hE⟩
  obtain rfl := he v z' w' p' hE
  exact ⟨_, z', w', S, rfl, ⟨_, rfl⟩, ⟨hs.1, hs.2.1, RV_B K.1 hs l2 K.2.2⟩, hs.2.2.1 _ _ (dF_n l1 (by omega) (by omega)), hs, l, kqh_H hs l3⟩
theorem qr_L {S : mS} {z w : mZ} {p : mP} {E : Int → mZ → mZ → mP → Prop} {k : Nat} {as : List Value} (K : kqR z w) (l : kqhi S = true) (l1 : kqdF S 225 1 1 = true) (l2 : rvB S = true) (l3 : kqh S = true) (m : wc 9 k as (mk z w p) (poL S z w E)) (he : ∀ v z' w' p', E v z' w' p' → p' = p) : wc 9 k as (mk z w p) (kqP kqfI kqgL kqDH z w p) := by
  refine wc_mono m ?_
  rintro R ⟨v, z', w', p', rfl, hv, hs, hE⟩
  obtain rfl := he v z' w' p' hE
  exact ⟨_, z', w', S, rfl, ⟨_, rfl⟩, ⟨hs.1, hs.2.1, RV_B K.1 hs l2 K.2.2⟩, hs.2.2.1 _ _ (dF_n l1 (by omega) (by omega)), hs, l, kqh_H hs l3⟩
theorem qr_Iv {S : mS} {z w : mZ} {p : mP} {E : Int → mZ → mZ → mP → Prop} {k : Nat} {as : List Value} (l : kqhi S = true) (l1 : kqdF S 225 1 1 = true) (l3 : kqh S = true) (m : wc 9 k as (mk z w p) (poI S z w E)) (he : ∀ v z' w' p', E v z' w' p' → p' = p ∧ RV z' w') : wc 9 k as (mk z w p) (kqP kqfI kqgI kqDH z w p) := by
  refine wc_mono m ?_
  rintro R ⟨v, z', w', p', rfl, hv, hs, hE⟩
  obtain ⟨rfl, h2⟩ := he v z' w' p' hE
  exact ⟨_, z', w', S, rfl, ⟨_, rfl⟩, ⟨hs.1, hs.2.1, h2⟩, hs.2.2.1 _ _ (dF_n l1 (by omega) (by omega)), hs, l, kqh_H hs l3⟩
theorem qr_Lv {S : mS} {z w : mZ} {p : mP} {E : Int → mZ → mZ → mP → Prop} {k : Nat} {as : List Value} (l : kqhi S = true) (l1 : kqdF S 225 1 1 = true) (l3 : kqh S = true) (m : wc 9 k as (mk z w p) (poL S z w E)) (he : ∀ v z' w' p', E v z' w' p' → p' = p ∧ RV z' w') : wc 9 k as (mk z w p) (kqP kqfI kqgL kqDH z w p) := by
  refine wc_mono m ?_
  rintro R ⟨v, z', w', p', rfl, hv, hs, hE⟩
  obtain ⟨rfl, h2⟩ := he v z' w' p' hE
  exact ⟨_, z', w', S, rfl, ⟨_, rfl⟩, ⟨hs.1, hs.2.1, h2⟩, hs.2.2.1 _ _ (dF_n l1 (by omega) (by omega)), hs, l, kqh_H hs l3⟩
theorem qr_0 {S : mS} {z w : mZ} {p : mP} {E : Int → mZ → mZ → mP → Prop} {k : Nat} {as : List Value} (l : kqhi S = true) (l3 : kqh S = true) (m : wc 9 k as (mk z w p) (poI S z w E)) (he : ∀ v z' w' p', E v z' w' p' → p' = p ∧ z' 225 1 = 0 ∧ RV z' w') : wc 9 k as (mk z w p) (kqP kqf0 kqgI kqDH z w p) := by
  refine wc_mono m ?_
  rintro R ⟨v, z', w', p', rfl, hv, hs, hE⟩
  obtain ⟨rfl, h1, h2⟩ := he v z' w' p' hE
  exact ⟨_, z', w', S, rfl, ⟨_, rfl⟩, ⟨hs.1, hs.2.1, h2⟩, h1, hs, l, kqh_H hs l3⟩
theorem qr_g {f h : Int → Int} {S : mS} {z w : mZ} {p : mP} {E : Int → mZ → mZ → mP → Prop} {k : Nat} {as : List Value} (K : kqR z w) (l : kqhi S = true) (l2 : rvB S = true) (l3 : kqh S = true) (m : wc 9 k as (mk z w p) (poI S z w E)) (he : ∀ v z' w' p', E v z' w' p' → p' = p ∧ z' 225 1 = f (z 225 1) ∧ v = h (z 225 1)) : wc 9 k as (mk z w p) (kqP f (fun n v => v = .int (Int32.ofInt (h n))) kqDH z w p) := by
  refine wc_mono m ?_
  rintro R ⟨v, z', w', p', rfl, hv, hs, hE⟩
  obtain ⟨rfl, h1, h3⟩ := he v z' w' p' hE
  exact ⟨_, z', w', S, rfl, by rw [h3], ⟨hs.1, hs.2.1, RV_B K.1 hs l2 K.2.2⟩, h1, hs, l, kqh_H hs l3⟩
/-- fault's answer; feed's bytes; ground's fault -/
def fq (a x y : Int) : Int := if a = 0 then x else if a = 1 then y else -1
theorem fq_i {a x y v : Int} (h0 : a = 0 → v = x) (h1 : a = 1 → v = y) (h2 : a ≠ 0 → a ≠ 1 → v = -1) : v = fq a x y := by
  unfold fq
  by_cases c : a = 0
  · rw [if_pos c]; exact h0 c
  · rw [if_neg c]
    by_cases d : a = 1
    · rw [if_pos d]; exact h1 d
    · rw [if_neg d]; exact h2 c d
def kqFB (a b c d e n : Int) (T T' : Nat → Int) : Prop := (n + 20 ≤ 1600 → ∀ j : Nat, j < 20 → T' (n.toNat + j) = fbs a b c d e j) ∧ ∀ i : Nat, (i : Int) < n → T' i = T i
def kqDf (a b c d e : Int) (z : mZ) (_ : Value) (z' : mZ) : Prop := (z' 1 16 = z 1 16 ∧ z' 1 17 = z 1 17) ∧ kqFB a b c d e (z 1 15) (fun i => z 2 i % 256) (fun i => z' 2 i % 256)
def kqDf' (a b c d e : Int) (z : mZ) (_ : Value) (z' : mZ) : Prop := (z' 225 2 = z 225 2 ∧ z' 225 3 = z 225 3) ∧ kqFB a b c d e (z 225 1) (z 226) (z' 226)
def kqDq (a : Int) (z : mZ) (v : Value) (z' : mZ) : Prop := v = .int (Int32.ofInt (fq a (z 1 16) (z 1 17))) ∧ kqK z z'
def kqDq' (a : Int) (z : mZ) (v : Value) (z' : mZ) : Prop := v = .int (Int32.ofInt (fq a (z 225 2) (z 225 3))) ∧ kqH z z'
def kqDg (z : mZ) (v : Value) (z' : mZ) : Prop := ∃ x, inI x ∧ v = .int (Int32.ofInt x) ∧ GRx (hr (fun i => z 2 i % 256) (z 1 15)) x (z' 1 16) (z' 1 17)
def kqDg' (z : mZ) (v : Value) (z' : mZ) : Prop := ∃ x, inI x ∧ v = .int (Int32.ofInt x) ∧ GRx (hr (z 226) (z 225 1)) x (z' 225 2) (z' 225 3)
/-- what both have alike -/
def kqX (z : mZ) : Prop := z 1 16 = z 225 2 ∧ z 1 17 = z 225 3 ∧ kqT z
theorem kqX_o {S S' : mS} {z w z1 w1 z2 w2 : mZ} (I : kqX z) (hs : st_ S z w z1 w1) (hl : kqlo S = true) (hs2 : st_ S' z1 w1 z2 w2) (hl2 : kqhi S' = true) (hD : kqK z z1) (hD2 : kqH z1 z2) (le : z2 225 1 ≤ z 225 1) : kqX z2 := by
  have a : ∀ i, z1 225 i = z 225 i := fun i => hs.2.2.1 _ _ (lo_n hl (by omega))
  have b : ∀ i, z1 226 i = z 226 i := fun i => hs.2.2.1 _ _ (lo_n hl (by omega))
  have c : ∀ x i, x < 225 → z2 x i = z1 x i := fun x i hx => hs2.2.2.1 _ _ (hi_n hl2 hx)
  refine ⟨?_, ?_, fun i hi => ?_⟩
  · rw [c _ _ (by omega), hD.1, hD2.1, a, I.1]
  · rw [c _ _ (by omega), hD.2.1, hD2.2.1, a, I.2.1]
  · rw [c 2 i (by omega), hD.2.2, hD2.2.2, b]; exact I.2.2 i (by omega)
theorem kqX_f {S S' : mS} {z w z1 w1 z2 w2 : mZ} {a b c d e : Int} {v v' : Value} (I : kqX z) (I15 : z 1 15 = z 225 1) (n0 : 0 ≤ z 225 1) (hs : st_ S z w z1 w1) (hl : kqlo S = true) (hs2 : st_ S' z1 w1 z2 w2) (hl2 : kqhi S' = true) (hD : kqDf a b c d e z v z1) (hD2 : kqDf' a b c d e z1 v' z2) (h1 : z2 225 1 = kqfF (z1 225 1)) : kqX z2 := by
  have a5 : ∀ i, z1 225 i = z 225 i := fun i => hs.2.2.1 _ _ (lo_n hl (by omega))
  have a6 : ∀ i, z1 226 i = z 226 i := fun i => hs.2.2.1 _ _ (lo_n hl (by omega))
  have cc : ∀ x i, x < 225 → z2 x i = z1 x i := fun x i hx => hs2.2.2.1 _ _ (hi_n hl2 hx)
  obtain ⟨⟨d1, d2⟩, d3, d4⟩ := hD
  obtain ⟨⟨e1, e2⟩, e3, e4⟩ := hD2
  refine ⟨?_, ?_, fun i hi => ?_⟩
  · rw [cc _ _ (by omega), d1, e1, a5, I.1]
  · rw [cc _ _ (by omega), d2, e2, a5, I.2.1]
  · rw [cc 2 i (by omega)]
    rw [a5] at e3 e4 h1
    by_cases g : (i : Int) < z 225 1
    · rw [e4 i g, a6]
      have q := d4 i (by omega)
      dsimp only at q
      rw [q]; exact I.2.2 i g
    · unfold kqfF at h1
      by_cases g2 : z 225 1 + 20 ≤ 1600
      · rw [if_pos g2] at h1
        have q1 := e3 g2 (i - (z 225 1).toNat) (by omega)
        have q2 := d3 (by omega) (i - (z 225 1).toNat) (by omega)
        dsimp only at q2
        rw [show (z 225 1).toNat + (i - (z 225 1).toNat) = i by omega] at q1
        rw [I15, show (z 225 1).toNat + (i - (z 225 1).toNat) = i by omega] at q2
        rw [q1, q2]
      · rw [if_neg g2] at h1; omega
theorem kqX_g {S S' : mS} {z w z1 w1 z2 w2 : mZ} {v v' : Value} (I : kqX z) (I15 : z 1 15 = z 225 1) (hs : st_ S z w z1 w1) (hl : kqlo S = true) (hs2 : st_ S' z1 w1 z2 w2) (hl2 : kqhi S' = true) (hD : kqDg z v z1) (hD2 : kqDg' z1 v' z2) (h1 : z2 225 1 = 0) : kqX z2 ∧ v = v' := by
  have a5 : ∀ i, z1 225 i = z 225 i := fun i => hs.2.2.1 _ _ (lo_n hl (by omega))
  have a6 : z1 226 = z 226 := funext fun i => hs.2.2.1 _ _ (lo_n hl (by omega))
  have cc : ∀ x i, x < 225 → z2 x i = z1 x i := fun x i hx => hs2.2.2.1 _ _ (hi_n hl2 hx)
  obtain ⟨x, _, ev, gx⟩ := hD
  obtain ⟨x', _, ev', gx'⟩ := hD2
  rw [a5, a6, ← I15, hr_t (z := z) (z' := z) (fun i hi => I.2.2 i (by omega))] at gx'
  have u := GRx_u gx gx'
  refine ⟨⟨by rw [cc _ _ (by omega)]; exact u.2.1, by rw [cc _ _ (by omega)]; exact u.2.2, fun i hi => ?_⟩, by rw [ev, ev', u.1]⟩
  omega

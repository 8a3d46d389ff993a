/-! runs of calls: what holds between them -/
def kqC (z w : mZ) (p : mP) : Prop := ∃ (t u : Nat) (tx it mt tt ct : Option Nat), isT t ∧ isT u ∧ (u = t + 33 ∨ t = u + 33) ∧ p = pq (some t) (some u) tx it mt tt ct ∧ rz z ∧ rw_ w ∧ CV z w t ∧ (mt = none ∨ (mt = some t ∧ GA z z t))
def kqR (z w : mZ) : Prop := rz z ∧ rw_ w ∧ RV z w
def kqlo (S : mS) : Bool := S.all (fun q => Nat.ble q.2.1 224)
def kqhi (S : mS) : Bool := S.all (fun q => Nat.ble 225 q.1)
def kqdA (S : mS) (a b : Nat) : Bool := S.all (fun q => Nat.ble (q.2.1 + 1) a || Nat.ble (b + 1) q.1)
def kqdF (S : mS) (a i j : Nat) : Bool := S.all (fun q => Nat.ble (q.2.1 + 1) a || (Nat.ble (a + 1) q.1 || (Nat.ble (q.2.2.2 + 1) i || Nat.ble (j + 1) q.2.2.1)))
theorem al_n {S : mS} {f : Nat × Nat × Nat × Nat → Bool} {a i : Nat} (h : S.all f = true) (k : ∀ q, f q = true → ¬ (q.1 ≤ a ∧ a ≤ q.2.1 ∧ q.2.2.1 ≤ i ∧ i ≤ q.2.2.2)) : ¬ inS S a i := by
  induction S with
  | nil => exact fun q => q
  | cons q r ih =>
    rw [List.all_cons, Bool.and_eq_true] at h
    intro c
    rcases c with c | c
    · exact k q h.1 c
    · exact ih h.2 c
theorem lo_n {S : mS} (h : kqlo S = true) {a i : Nat} (ha : 225 ≤ a) : ¬ inS S a i := al_n h (fun q e => by have := Nat.le_of_ble_eq_true e; omega)
theorem hi_n {S : mS} (h : kqhi S = true) {a i : Nat} (ha : a < 225) : ¬ inS S a i := al_n h (fun q e => by have := Nat.le_of_ble_eq_true e; omega)
theorem dA_n {S : mS} {a b : Nat} (h : kqdA S a b = true) {c i : Nat} (h1 : a ≤ c) (h2 : c ≤ b) : ¬ inS S c i := al_n h (fun q e => by
  rcases Bool.or_eq_true _ _ |>.mp e with e | e <;> (have := Nat.le_of_ble_eq_true e; omega))
theorem dF_n {S : mS} {a i j : Nat} (h : kqdF S a i j = true) {k : Nat} (h1 : i ≤ k) (h2 : k ≤ j) : ¬ inS S a k := al_n h (fun q e => by
  rcases Bool.or_eq_true _ _ |>.mp e with e | e
  · have := Nat.le_of_ble_eq_true e; omega
  · rcases Bool.or_eq_true _ _ |>.mp e with e | e
    · have := Nat.le_of_ble_eq_true e; omega
    · rcases Bool.or_eq_true _ _ |>.mp e with e | e <;> (have := Nat.le_of_ble_eq_true e; omega))
def rvB (S : mS) : Bool := (kqdF S 225 26 28 && kqdF S 225 73 74) && (kqdA S 235 237 && kqdA S 239 241) && (kqdA S 247 254 && kqdA S 270 271) && kqdA S 274 275
theorem RV_B {S : mS} {z w z' w' : mZ} (hz : rz z) (h : st_ S z w z' w') (l : rvB S = true) (k : RV z w) : RV z' w' := by
  unfold rvB at l
  rw [Bool.and_eq_true, Bool.and_eq_true, Bool.and_eq_true, Bool.and_eq_true, Bool.and_eq_true, Bool.and_eq_true] at l
  obtain ⟨⟨⟨⟨l1, l2⟩, l3, l4⟩, l5, l6⟩, l7⟩ := l
  refine RV_c hz (fun i h1 h2 => h.2.2.1 _ _ (dF_n l1 h1 h2)) (fun a h1 h2 h3 => funext fun i => h.2.2.1 _ _ ?_) (fun a h1 h2 => funext fun i => h.2.2.1 _ _ (dA_n l5 h1 h2)) (h.2.2.1 _ _ (dF_n l2 (by omega) (by omega))) (h.2.2.1 _ _ (dF_n l2 (by omega) (by omega))) (funext fun i => h.2.2.1 _ _ (dA_n l7 (by omega) (by omega))) (fun a ha => funext fun i => h.2.2.2 _ _ ?_) k
  · by_cases c : a ≤ 237
    · exact dA_n l3 h1 c
    · exact dA_n l4 (by omega) h2
  · by_cases c : a ≤ 271
    · exact dA_n l6 (by omega) c
    · exact dA_n l7 (by omega) (by omega)
theorem kqR_f {S : mS} {z w z' w' : mZ} (h : st_ S z w z' w') (l : kqlo S = true) (k : kqR z w) : kqR z' w' := by
  have n : ∀ a i, 225 ≤ a → ¬ inS S a i := fun a i ha => lo_n l ha
  exact ⟨h.1, h.2.1, RV_c k.1 (fun i h1 h2 => h.2.2.1 _ _ (n _ _ (by omega))) (fun a h1 h2 h3 => funext fun i => h.2.2.1 _ _ (n _ _ (by omega))) (fun a h1 h2 => funext fun i => h.2.2.1 _ _ (n _ _ (by omega))) (h.2.2.1 _ _ (n _ _ (by omega))) (h.2.2.1 _ _ (n _ _ (by omega))) (funext fun i => h.2.2.1 _ _ (n _ _ (by omega))) (fun a ha => funext fun i => h.2.2.2 _ _ (n _ _ (by omega))) k.2.2⟩
theorem kqC_f {S : mS} {z w z' w' : mZ} {p : mP} (h : st_ S z w z' w') (l : kqhi S = true) (k : kqC z w p) : kqC z' w' p := by
  obtain ⟨t, u, tx, it, mt, tt, ct, ht, hu, htu, rfl, hz, hw, hcv, hg⟩ := k
  have n : ∀ a i, a < 225 → ¬ inS S a i := fun a i ha => hi_n l ha
  have hb : t ≤ 192 := by rcases ht with rfl | rfl <;> omega
  exact ⟨t, u, tx, it, mt, tt, ct, ht, hu, htu, rfl, h.1, h.2.1, CV_f ht hz h (n _ _ (by omega)) (n _ _ (by omega)) (n _ _ (by omega)) (n _ _ (by omega)) (n _ _ (by omega)) (fun i => n _ _ (by omega)) (fun i => n _ _ (by omega)) (fun i => n _ _ (by omega)) (fun a h1 h2 i => n _ _ (by omega)) (n _ _ (by omega)) (n _ _ (by omega)) (n _ _ (by omega)) (fun a h1 h2 i => n _ _ (by omega)) (fun a h1 h2 i => n _ _ (by omega)) hcv,
    hg.imp id (fun q => ⟨q.1, GA_f ht hz h (n _ _ (by omega)) (n _ _ (by omega)) (fun i => n _ _ (by omega)) (fun a h1 h2 i => n _ _ (by omega)) q.2⟩)⟩
theorem kqC_m {S : mS} {z w z' w' : mZ} {t u : Nat} {tx it mt tt ct : Option Nat} (ht : isT t) (hu : isT u) (htu : u = t + 33 ∨ t = u + 33) (hs : st_ S z w z' w') (hc : CV z' w' t) (hg : mt = none ∨ (mt = some t ∧ GA z' z' t)) : kqC z' w' (pq (some t) (some u) tx it mt tt ct) := ⟨t, u, tx, it, mt, tt, ct, ht, hu, htu, rfl, hs.1, hs.2.1, hc, hg⟩
/-- what a call leaves of the tape, of the latest ground's fault, of what is told, of the roads: of the class, of the reference -/
theorem an2 {a b : Bool} (h : (a && b) = true) : a = true ∧ b = true := by rw [Bool.and_eq_true] at h; exact h
def kqt (S : mS) : Bool := kqdA S 159 224 && kqdA S 16 32
def kqr (S : mS) : Bool := kqdF S 225 26 32 && (kqdA S 235 242 && kqdA S 247 254)
def kqk (S : mS) : Bool := kqdF S 1 16 17 && (kqdA S 2 2 && kqt S)
def kqh (S : mS) : Bool := kqdF S 225 2 3 && (kqdA S 226 226 && kqr S)
def PPk (p p' : mP) : Prop := p' 1 13 = p 1 13 ∧ p' 10 2 = p 10 2
def kqKT (z w : mZ) (p : mP) (z' w' : mZ) (p' : mP) : Prop := (∀ a, 159 ≤ a → a ≤ 224 → ∀ i, z' a i = z a i ∧ w' a i = w a i) ∧ (∀ a, 16 ≤ a → a ≤ 32 → ∀ i, z' a i = z a i) ∧ PPk p p'
def kqHT (z z' : mZ) : Prop := (∀ i, 26 ≤ i → i ≤ 32 → z' 225 i = z 225 i) ∧ (∀ a, 235 ≤ a → a ≤ 242 → ∀ i, z' a i = z a i) ∧ ∀ a, 247 ≤ a → a ≤ 254 → ∀ i, z' a i = z a i
def kqK (z w : mZ) (p : mP) (z' w' : mZ) (p' : mP) : Prop := (z' 1 16 = z 1 16 ∧ z' 1 17 = z 1 17) ∧ (∀ i, z' 2 i = z 2 i) ∧ kqKT z w p z' w' p'
def kqH (z z' : mZ) : Prop := (z' 225 2 = z 225 2 ∧ z' 225 3 = z 225 3) ∧ (∀ i, z' 226 i = z 226 i) ∧ kqHT z z'
theorem kqt_T {S : mS} {z w z' w' : mZ} {p p' : mP} (h : st_ S z w z' w') (l : kqt S = true) (e : PPk p p') : kqKT z w p z' w' p' := by
  obtain ⟨l1, l2⟩ := an2 l
  exact ⟨fun a h1 h2 i => ⟨h.2.2.1 _ _ (dA_n l1 h1 h2), h.2.2.2 _ _ (dA_n l1 h1 h2)⟩, fun a h1 h2 i => h.2.2.1 _ _ (dA_n l2 h1 h2), e⟩
theorem kqr_T {S : mS} {z w z' w' : mZ} (h : st_ S z w z' w') (l : kqr S = true) : kqHT z z' := by
  obtain ⟨l1, l2⟩ := an2 l
  obtain ⟨l2, l3⟩ := an2 l2
  exact ⟨fun i h1 h2 => h.2.2.1 _ _ (dF_n l1 h1 h2), fun a h1 h2 i => h.2.2.1 _ _ (dA_n l2 h1 h2), fun a h1 h2 i => h.2.2.1 _ _ (dA_n l3 h1 h2)⟩
theorem kqk_K {S : mS} {z w z' w' : mZ} {p p' : mP} (h : st_ S z w z' w') (l : kqk S = true) (e : PPk p p') : kqK z w p z' w' p' := by
  obtain ⟨l1, l2⟩ := an2 l
  obtain ⟨l2, l3⟩ := an2 l2
  exact ⟨⟨h.2.2.1 _ _ (dF_n l1 (by omega) (by omega)), h.2.2.1 _ _ (dF_n l1 (by omega) (by omega))⟩, fun i => h.2.2.1 _ _ (dA_n l2 (by omega) (by omega)), kqt_T h l3 e⟩
theorem kqh_H {S : mS} {z w z' w' : mZ} (h : st_ S z w z' w') (l : kqh S = true) : kqH z z' := by
  obtain ⟨l1, l2⟩ := an2 l
  obtain ⟨l2, l3⟩ := an2 l2
  exact ⟨⟨h.2.2.1 _ _ (dF_n l1 (by omega) (by omega)), h.2.2.1 _ _ (dF_n l1 (by omega) (by omega))⟩, fun i => h.2.2.1 _ _ (dA_n l2 (by omega) (by omega)), kqr_T h l3⟩
abbrev kqDt : Type := mZ → mZ → mP → Value → mZ → mZ → mP → Prop
abbrev kqEt : Type := mZ → mZ → Value → mZ → mZ → Prop
def kqn (S : mS) : Bool := kqdF S 39 0 2 && (kqdA S 41 101 && kqdA S 144 147)
def kqm (S : mS) : Bool := kqdF S 225 73 74 && (kqdA S 270 271 && kqdA S 274 275)
def kqBU (z w z' w' : mZ) : Prop := ∀ b : Nat, b < 3 → z' 147 b = z 147 b ∧ w' (144 + b) = w (144 + b)
def kqBM (z w z' w' : mZ) : Prop := z' 274 = z 274 ∧ w' 275 = w 275
def kqN (z w z' w' : mZ) : Prop := CU3 z w z' w' ∧ kqBU z w z' w'
def kqM (z w z' w' : mZ) : Prop := RU3 z w z' w' ∧ kqBM z w z' w'
theorem kqb_N {S : mS} {z w z' w' : mZ} (h : st_ S z w z' w') (l : kqdA S 144 147 = true) : kqBU z w z' w' := fun b hb => ⟨h.2.2.1 _ _ (dA_n l (by omega) (by omega)), funext fun i => h.2.2.2 _ _ (dA_n l (by omega) (by omega))⟩
theorem kqb_M {S : mS} {z w z' w' : mZ} (h : st_ S z w z' w') (l : kqdA S 274 275 = true) : kqBM z w z' w' := ⟨funext fun i => h.2.2.1 _ _ (dA_n l (by omega) (by omega)), funext fun i => h.2.2.2 _ _ (dA_n l (by omega) (by omega))⟩
theorem kqn_N {S : mS} {z w z' w' : mZ} (h : st_ S z w z' w') (l : kqn S = true) : kqN z w z' w' := by
  obtain ⟨l1, l2⟩ := an2 l
  obtain ⟨l2, l3⟩ := an2 l2
  exact ⟨⟨⟨h.2.2.1 _ _ (dF_n l1 (by omega) (by omega)), h.2.2.1 _ _ (dF_n l1 (by omega) (by omega)), h.2.2.1 _ _ (dF_n l1 (by omega) (by omega))⟩, fun a h1 h2 => funext fun i => h.2.2.2 _ _ (dA_n l2 h1 h2)⟩, kqb_N h l3⟩
theorem kqm_M {S : mS} {z w z' w' : mZ} (h : st_ S z w z' w') (l : kqm S = true) : kqM z w z' w' := by
  obtain ⟨l1, l2⟩ := an2 l
  obtain ⟨l2, l3⟩ := an2 l2
  exact ⟨⟨h.2.2.1 _ _ (dF_n l1 (by omega) (by omega)), h.2.2.1 _ _ (dF_n l1 (by omega) (by omega)), funext fun i => h.2.2.2 _ _ (dA_n l2 (by omega) (by omega)), funext fun i => h.2.2.2 _ _ (dA_n l2 (by omega) (by omega))⟩, kqb_M h l3⟩
def kqDK : kqDt := fun z w p _ z' w' p' => kqK z w p z' w' p' ∧ kqN z w z' w'
def kqDH : kqEt := fun z w _ z' w' => kqH z z' ∧ kqM z w z' w'
/-- with an answer that A says of -/
def kqDN (A : mZ → mZ → mP → Nat → Value → Prop) : kqDt := fun z w p v z' w' p' => kqK z w p z' w' p' ∧ kqN z w z' w' ∧ ∀ t, p 1 13 = some t → A z w p t v
def kqDM (A : mZ → mZ → Value → Prop) : kqEt := fun z w v z' w' => kqH z z' ∧ kqM z w z' w' ∧ A z w v
/-- acts -/
def kqDA (A : mZ → mZ → mP → Nat → Value → mZ → mZ → Prop) : kqDt := fun z w p v z' w' p' => kqK z w p z' w' p' ∧ ∀ t, p 1 13 = some t → A z w p t v z' w'
def kqDB (A : mZ → mZ → Value → mZ → mZ → Prop) : kqEt := fun z w v z' w' => kqH z z' ∧ A z w v z' w'
/-- a call's end: its answer by the tape's length, the tape's length behind it, what it leaves as it was, and D -/
def kqQ (f : Int → Int) (g : Int → Value → Prop) (D : kqDt) (z w : mZ) (p : mP) : pm_R → Prop := fun R => ∃ v z' w' p' S, R = (some v, mk z' w' p') ∧ g (z 1 15) v ∧ kqC z' w' p' ∧ z' 1 15 = f (z 1 15) ∧ st_ S z w z' w' ∧ kqlo S = true ∧ D z w p v z' w' p'
def kqP (f : Int → Int) (g : Int → Value → Prop) (D : kqEt) (z w : mZ) (p : mP) : pm_R → Prop := fun R => ∃ v z' w' S, R = (some v, mk z' w' p) ∧ g (z 225 1) v ∧ kqR z' w' ∧ z' 225 1 = f (z 225 1) ∧ st_ S z w z' w' ∧ kqhi S = true ∧ D z w v z' w'
def kqgI : Int → Value → Prop := fun _ v => ∃ x, v = .int x
def kqgL : Int → Value → Prop := fun _ v => ∃ x, v = .long x
def kqfI : Int → Int := fun n => n
def kqf0 : Int → Int := fun _ => 0
def kqfF : Int → Int := fun n => if n + 20 ≤ 1600 then n + 20 else n
def kqgF : Int → Value → Prop := fun n v => v = .int (Int32.ofInt (if n + 20 ≤ 1600 then n + 20 else -1))
def kqfE (a : Int) : Int → Int := fun n => if 0 ≤ a ∧ a ≤ n then a else n
def kqgE (a : Int) : Int → Value → Prop := fun n v => v = .int (Int32.ofInt (if 0 ≤ a ∧ a ≤ n then a else -1))
theorem qc_I {f : Int → Int} {S : mS} {z w : mZ} {p : mP} {E : Int → mZ → mZ → mP → Prop} {k : Nat} {as : List Value} (l : kqlo S = true) (lk : kqk S = true) (ln : kqn S = true) (m : wc 9 k as (mk z w p) (poI S z w E)) (he : ∀ v z' w' p', st_ S z w z' w' → E v z' w' p' → (kqC z' w' p' ∧ z' 1 15 = f (z 1 15)) ∧ PPk p p') : wc 9 k as (mk z w p) (kqQ f kqgI kqDK z w p) := by
  refine wc_mono m ?_
  rintro R ⟨v, z', w', p', rfl, hv, hs, hE⟩
  obtain ⟨⟨h1, h2⟩, h3⟩ := he v z' w' p' hs hE
  exact ⟨_, z', w', p', S, rfl, ⟨_, rfl⟩, h1, h2, hs, l, kqk_K hs lk h3, kqn_N hs ln⟩
theorem qc_L {f : Int → Int} {S : mS} {z w : mZ} {p : mP} {E : Int → mZ → mZ → mP → Prop} {k : Nat} {as : List Value} (l : kqlo S = true) (lk : kqk S = true) (ln : kqn S = true) (m : wc 9 k as (mk z w p) (poL S z w E)) (he : ∀ v z' w' p', st_ S z w z' w' → E v z' w' p' → (kqC z' w' p' ∧ z' 1 15 = f (z 1 15)) ∧ PPk p p') : wc 9 k as (mk z w p) (kqQ f kqgL kqDK z w p) := by
  refine wc_mono m ?_
  rintro R ⟨v, z', w', p', rfl, hv, hs, hE⟩
  obtain ⟨⟨h1, h2⟩, h3⟩ := he v z' w' p' hs hE
  exact ⟨_, z', w', p', S, rfl, ⟨_, rfl⟩, h1, h2, hs, l, kqk_K hs lk h3, kqn_N hs ln⟩
theorem qa_I {f : Int → Int} {A : mZ → mZ → mP → Nat → Value → Prop} {S : mS} {z w : mZ} {p : mP} {E : Int → mZ → mZ → mP → Prop} {k : Nat} {as : List Value} (l : kqlo S = true) (lk : kqk S = true) (ln : kqn S = true) (m : wc 9 k as (mk z w p) (poI S z w E)) (he : ∀ v z' w' p', st_ S z w z' w' → E v z' w' p' → ((kqC z' w' p' ∧ z' 1 15 = f (z 1 15)) ∧ PPk p p') ∧ ∀ t, p 1 13 = some t → A z w p t (.int (Int32.ofInt v))) : wc 9 k as (mk z w p) (kqQ f kqgI (kqDN A) z w p) := by
  refine wc_mono m ?_
  rintro R ⟨v, z', w', p', rfl, hv, hs, hE⟩
  obtain ⟨⟨⟨h1, h2⟩, h3⟩, h4⟩ := he v z' w' p' hs hE
  exact ⟨_, z', w', p', S, rfl, ⟨_, rfl⟩, h1, h2, hs, l, kqk_K hs lk h3, kqn_N hs ln, h4⟩
theorem qb_I {f : Int → Int} {A : mZ → mZ → mP → Nat → Value → mZ → mZ → Prop} {S : mS} {z w : mZ} {p : mP} {E : Int → mZ → mZ → mP → Prop} {k : Nat} {as : List Value} (l : kqlo S = true) (lk : kqk S = true) (m : wc 9 k as (mk z w p) (poI S z w E)) (he : ∀ v z' w' p', st_ S z w z' w' → E v z' w' p' → ((kqC z' w' p' ∧ z' 1 15 = f (z 1 15)) ∧ PPk p p') ∧ ∀ t, p 1 13 = some t → A z w p t (.int (Int32.ofInt v)) z' w') : wc 9 k as (mk z w p) (kqQ f kqgI (kqDA A) z w p) := by
  refine wc_mono m ?_
  rintro R ⟨v, z', w', p', rfl, hv, hs, hE⟩
  obtain ⟨⟨⟨h1, h2⟩, h3⟩, h4⟩ := he v z' w' p' hs hE
  exact ⟨_, z', w', p', S, rfl, ⟨_, rfl⟩, h1, h2, hs, l, kqk_K hs lk h3, h4⟩
theorem qb_L {f : Int → Int} {A : mZ → mZ → mP → Nat → Value → mZ → mZ → Prop} {S : mS} {z w : mZ} {p : mP} {E : Int → mZ → mZ → mP → Prop} {k : Nat} {as : List Value} (l : kqlo S = true) (lk : kqk S = true) (m : wc 9 k as (mk z w p) (poL S z w E)) (he : ∀ v z' w' p', st_ S z w z' w' → E v z' w' p' → ((kqC z' w' p' ∧ z' 1 15 = f (z 1 15)) ∧ PPk p p') ∧ ∀ t, p 1 13 = some t → A z w p t (.long (Int64.ofInt v)) z' w') : wc 9 k as (mk z w p) (kqQ f kqgL (kqDA A) z w p) := by
  refine wc_mono m ?_
  rintro R ⟨v, z', w', p', rfl, hv, hs, hE⟩
  obtain ⟨⟨⟨h1, h2⟩, h3⟩, h4⟩ := he v z' w' p' hs hE
  exact ⟨_, z', w', p', S, rfl, ⟨_, rfl⟩, h1, h2, hs, l, kqk_K hs lk h3, h4⟩
theorem qc_g {f : Int → Int} {h : Int → Int} {S : mS} {z w : mZ} {p : mP} {E : Int → mZ → mZ → mP → Prop} {k : Nat} {as : List Value} (l : kqlo S = true) (lk : kqk S = true) (ln : kqn S = true) (m : wc 9 k as (mk z w p) (poI S z w E)) (he : ∀ v z' w' p', st_ S z w z' w' → E v z' w' p' → kqC z' w' p' ∧ (z' 1 15 = f (z 1 15) ∧ v = h (z 1 15)) ∧ PPk p p') : wc 9 k as (mk z w p) (kqQ f (fun n v => v = .int (Int32.ofInt (h n))) kqDK z w p) := by
  refine wc_mono m ?_
  rintro R ⟨v, z', w', p', rfl, hv, hs, hE⟩
  obtain ⟨h1, ⟨h2, h3⟩, h4⟩ := he v z' w' p' hs hE
  exact ⟨_, z', w', p', S, rfl, by rw [h3], h1, h2, hs, l, kqk_K hs lk h4, kqn_N hs ln⟩
theorem qr_I {S : mS} {z w : mZ} {p : mP} {E : Int → mZ → mZ → mP → Prop} {k : Nat} {as : List Value} (K : kqR z w) (l : kqhi S = true) (l1 : kqdF S 225 1 1 = true) (l2 : rvB S = true) (l3 : kqh S = true) (l4 : kqm S = true) (m : wc 9 k as (mk z w p) (poI S z w E)) (he : ∀ v z' w' p', E v z' w' p' → p' = p) : wc 9 k as (mk z w p) (kqP kqfI kqgI kqDH z w p) := by
  refine wc_mono m ?_
  rintro R ⟨v, z', w', p', rfl, hv, hs, hE⟩
  obtain rfl := he v z' w' p' hE
  exact ⟨_, z', w', S, rfl, ⟨_, rfl⟩, ⟨hs.1, hs.2.1, RV_B K.1 hs l2 K.2.2⟩, hs.2.2.1 _ _ (dF_n l1 (by omega) (by omega)), hs, l, kqh_H hs l3, kqm_M hs l4⟩
theorem qr_L {S : mS} {z w : mZ} {p : mP} {E : Int → mZ → mZ → mP → Prop} {k : Nat} {as : List Value} (K : kqR z w) (l : kqhi S = true) (l1 : kqdF S 225 1 1 = true) (l2 : rvB S = true) (l3 : kqh S = true) (l4 : kqm S = true) (m : wc 9 k as (mk z w p) (poL S z w E)) (he : ∀ v z' w' p', E v z' w' p' → p' = p) : wc 9 k as (mk z w p) (kqP kqfI kqgL kqDH z w p) := by
  refine wc_mono m ?_
  rintro R ⟨v, z', w', p', rfl, hv, hs, hE⟩
  obtain rfl := he v z' w' p' hE
  exact ⟨_, z', w', S, rfl, ⟨_, rfl⟩, ⟨hs.1, hs.2.1, RV_B K.1 hs l2 K.2.2⟩, hs.2.2.1 _ _ (dF_n l1 (by omega) (by omega)), hs, l, kqh_H hs l3, kqm_M hs l4⟩
theorem qr_Iv {S : mS} {z w : mZ} {p : mP} {E : Int → mZ → mZ → mP → Prop} {k : Nat} {as : List Value} (l : kqhi S = true) (l1 : kqdF S 225 1 1 = true) (l3 : kqh S = true) (l4 : kqm S = true) (m : wc 9 k as (mk z w p) (poI S z w E)) (he : ∀ v z' w' p', E v z' w' p' → p' = p ∧ RV z' w') : wc 9 k as (mk z w p) (kqP kqfI kqgI kqDH z w p) := by
  refine wc_mono m ?_
  rintro R ⟨v, z', w', p', rfl, hv, hs, hE⟩
  obtain ⟨rfl, h2⟩ := he v z' w' p' hE
  exact ⟨_, z', w', S, rfl, ⟨_, rfl⟩, ⟨hs.1, hs.2.1, h2⟩, hs.2.2.1 _ _ (dF_n l1 (by omega) (by omega)), hs, l, kqh_H hs l3, kqm_M hs l4⟩
theorem qr_Lv {S : mS} {z w : mZ} {p : mP} {E : Int → mZ → mZ → mP → Prop} {k : Nat} {as : List Value} (l : kqhi S = true) (l1 : kqdF S 225 1 1 = true) (l3 : kqh S = true) (l4 : kqm S = true) (m : wc 9 k as (mk z w p) (poL S z w E)) (he : ∀ v z' w' p', E v z' w' p' → p' = p ∧ RV z' w') : wc 9 k as (mk z w p) (kqP kqfI kqgL kqDH z w p) := by
  refine wc_mono m ?_
  rintro R ⟨v, z', w', p', rfl, hv, hs, hE⟩
  obtain ⟨rfl, h2⟩ := he v z' w' p' hE
  exact ⟨_, z', w', S, rfl, ⟨_, rfl⟩, ⟨hs.1, hs.2.1, h2⟩, hs.2.2.1 _ _ (dF_n l1 (by omega) (by omega)), hs, l, kqh_H hs l3, kqm_M hs l4⟩
theorem qr_0 {S : mS} {z w : mZ} {p : mP} {E : Int → mZ → mZ → mP → Prop} {k : Nat} {as : List Value} (l : kqhi S = true) (l3 : kqh S = true) (l4 : kqdF S 225 73 74 = true) (l5 : kqdA S 271 271 = true) (l6 : kqdA S 274 275 = true) (m : wc 9 k as (mk z w p) (poI S z w E)) (he : ∀ v z' w' p', E v z' w' p' → p' = p ∧ z' 225 1 = 0 ∧ RV z' w' ∧ w' 270 = w 270) : wc 9 k as (mk z w p) (kqP kqf0 kqgI kqDH z w p) := by
  refine wc_mono m ?_
  rintro R ⟨v, z', w', p', rfl, hv, hs, hE⟩
  obtain ⟨rfl, h1, h2, h3⟩ := he v z' w' p' hE
  exact ⟨_, z', w', S, rfl, ⟨_, rfl⟩, ⟨hs.1, hs.2.1, h2⟩, h1, hs, l, kqh_H hs l3, ⟨hs.2.2.1 _ _ (dF_n l4 (by omega) (by omega)), hs.2.2.1 _ _ (dF_n l4 (by omega) (by omega)), h3, funext fun i => hs.2.2.2 _ _ (dA_n l5 (by omega) (by omega))⟩, kqb_M hs l6⟩
theorem qr_g {f h : Int → Int} {S : mS} {z w : mZ} {p : mP} {E : Int → mZ → mZ → mP → Prop} {k : Nat} {as : List Value} (K : kqR z w) (l : kqhi S = true) (l2 : rvB S = true) (l3 : kqh S = true) (l4 : kqm S = true) (m : wc 9 k as (mk z w p) (poI S z w E)) (he : ∀ v z' w' p', E v z' w' p' → p' = p ∧ z' 225 1 = f (z 225 1) ∧ v = h (z 225 1)) : wc 9 k as (mk z w p) (kqP f (fun n v => v = .int (Int32.ofInt (h n))) kqDH z w p) := by
  refine wc_mono m ?_
  rintro R ⟨v, z', w', p', rfl, hv, hs, hE⟩
  obtain ⟨rfl, h1, h3⟩ := he v z' w' p' hE
  exact ⟨_, z', w', S, rfl, by rw [h3], ⟨hs.1, hs.2.1, RV_B K.1 hs l2 K.2.2⟩, h1, hs, l, kqh_H hs l3, kqm_M hs l4⟩
theorem ra_I {A : mZ → mZ → Value → Prop} {S : mS} {z w : mZ} {p : mP} {E : Int → mZ → mZ → mP → Prop} {k : Nat} {as : List Value} (K : kqR z w) (l : kqhi S = true) (l1 : kqdF S 225 1 1 = true) (l2 : rvB S = true) (l3 : kqh S = true) (l4 : kqm S = true) (m : wc 9 k as (mk z w p) (poI S z w E)) (he : ∀ v z' w' p', E v z' w' p' → p' = p ∧ A z w (.int (Int32.ofInt v))) : wc 9 k as (mk z w p) (kqP kqfI kqgI (kqDM A) z w p) := by
  refine wc_mono m ?_
  rintro R ⟨v, z', w', p', rfl, hv, hs, hE⟩
  obtain ⟨rfl, h3⟩ := he v z' w' p' hE
  exact ⟨_, z', w', S, rfl, ⟨_, rfl⟩, ⟨hs.1, hs.2.1, RV_B K.1 hs l2 K.2.2⟩, hs.2.2.1 _ _ (dF_n l1 (by omega) (by omega)), hs, l, kqh_H hs l3, kqm_M hs l4, h3⟩
theorem rb_Iv {A : mZ → mZ → Value → mZ → mZ → Prop} {S : mS} {z w : mZ} {p : mP} {E : Int → mZ → mZ → mP → Prop} {k : Nat} {as : List Value} (l : kqhi S = true) (l1 : kqdF S 225 1 1 = true) (l3 : kqh S = true) (m : wc 9 k as (mk z w p) (poI S z w E)) (he : ∀ v z' w' p', st_ S z w z' w' → E v z' w' p' → p' = p ∧ RV z' w' ∧ A z w (.int (Int32.ofInt v)) z' w') : wc 9 k as (mk z w p) (kqP kqfI kqgI (kqDB A) z w p) := by
  refine wc_mono m ?_
  rintro R ⟨v, z', w', p', rfl, hv, hs, hE⟩
  obtain ⟨rfl, h2, h3⟩ := he v z' w' p' hs hE
  exact ⟨_, z', w', S, rfl, ⟨_, rfl⟩, ⟨hs.1, hs.2.1, h2⟩, hs.2.2.1 _ _ (dF_n l1 (by omega) (by omega)), hs, l, kqh_H hs l3, h3⟩
theorem rb_Lv {A : mZ → mZ → Value → mZ → mZ → Prop} {S : mS} {z w : mZ} {p : mP} {E : Int → mZ → mZ → mP → Prop} {k : Nat} {as : List Value} (l : kqhi S = true) (l1 : kqdF S 225 1 1 = true) (l3 : kqh S = true) (m : wc 9 k as (mk z w p) (poL S z w E)) (he : ∀ v z' w' p', st_ S z w z' w' → E v z' w' p' → p' = p ∧ RV z' w' ∧ A z w (.long (Int64.ofInt v)) z' w') : wc 9 k as (mk z w p) (kqP kqfI kqgL (kqDB A) z w p) := by
  refine wc_mono m ?_
  rintro R ⟨v, z', w', p', rfl, hv, hs, hE⟩
  obtain ⟨rfl, h2, h3⟩ := he v z' w' p' hs hE
  exact ⟨_, z', w', S, rfl, ⟨_, rfl⟩, ⟨hs.1, hs.2.1, h2⟩, hs.2.2.1 _ _ (dF_n l1 (by omega) (by omega)), hs, l, kqh_H hs l3, h3⟩
/-- fault's answer; feed's bytes; ground's fault -/
def fq (a x y : Int) : Int := if a = 0 then x else if a = 1 then y else -1
theorem fq_i {a x y v : Int} (h0 : a = 0 → v = x) (h1 : a = 1 → v = y) (h2 : a ≠ 0 → a ≠ 1 → v = -1) : v = fq a x y := by
  unfold fq
  by_cases c : a = 0
  · rw [if_pos c]; exact h0 c
  · rw [if_neg c]
    by_cases d : a = 1
    · rw [if_pos d]; exact h1 d
    · rw [if_neg d]; exact h2 c d
def kqFB (a b c d e n : Int) (T T' : Nat → Int) : Prop := (n + 20 ≤ 1600 → ∀ j : Nat, j < 20 → T' (n.toNat + j) = fbs a b c d e j) ∧ ∀ i : Nat, (i : Int) < n → T' i = T i
def kqDf (a b c d e : Int) : kqDt := fun z w p _ z' w' p' => ((z' 1 16 = z 1 16 ∧ z' 1 17 = z 1 17) ∧ kqKT z w p z' w' p') ∧ kqFB a b c d e (z 1 15) (fun i => z 2 i % 256) (fun i => z' 2 i % 256) ∧ kqN z w z' w'
def kqDf' (a b c d e : Int) : kqEt := fun z w _ z' w' => ((z' 225 2 = z 225 2 ∧ z' 225 3 = z 225 3) ∧ kqHT z z') ∧ kqFB a b c d e (z 225 1) (z 226) (z' 226) ∧ kqM z w z' w'
def kqDq (a : Int) : kqDt := fun z w p v z' w' p' => v = .int (Int32.ofInt (fq a (z 1 16) (z 1 17))) ∧ kqK z w p z' w' p' ∧ kqN z w z' w'
def kqDq' (a : Int) : kqEt := fun z w v z' w' => v = .int (Int32.ofInt (fq a (z 225 2) (z 225 3))) ∧ kqH z z' ∧ kqM z w z' w'
/-- ground: the told ground is another, or what was told stays -/
def kqDg : kqDt := fun z w p v z' w' p' => (∃ x, inI x ∧ v = .int (Int32.ofInt x) ∧ GRx (hr (fun i => z 2 i % 256) (z 1 15)) x (z' 1 16) (z' 1 17)) ∧ ((z' 1 16 ≠ 0 ∧ kqN z w z' w' ∧ PPk p p' ∧ ∀ t, p 1 13 = some t → isT t ∧ (∀ a, t ≤ a → a ≤ t + 32 → ∀ i, z' a i = z a i ∧ w' a i = w a i) ∧ ∀ a, 16 ≤ a → a ≤ 32 → ∀ i, z' a i = z a i) ∨ (z' 1 16 = 0 ∧ ∃ u, isT u ∧ p' 1 13 = some u ∧ p' 10 2 = some u ∧ TYc (hr (fun i => z 2 i % 256) (z 1 15)) z' w' u ∧ CLA z' w' u ∧ GN0 z' w'))
def kqDg' : kqEt := fun z w v z' w' => (∃ x, inI x ∧ v = .int (Int32.ofInt x) ∧ GRx (hr (z 226) (z 225 1)) x (z' 225 2) (z' 225 3)) ∧ (z' 225 2 = 0 → (TXr (hr (z 226) (z 225 1)) z' ∧ PTr z') ∧ RLA z' ∧ RG0 z' w') ∧ (z' 225 2 ≠ 0 → FRr z w z' w')
/-- what both have alike -/
def XT (z w : mZ) (t : Nat) : Prop := (XX (z t 0) (z t 3) (z t 4) (z (t + 1)) (fun j e => w (t + 8 + j) e) (z (t + 18)) (fun a i => z (t + 20 + a) i) (fun a i => z (t + 27 + a) i) (z 225 26) (z 225 27) (z 225 28) (z 235) (fun j e => z 236 (18 * j + e)) (z 239) (fun a i => z 237 (8 * a + i)) (fun a i => z 238 (8 * a + i)) ∧ TZ z w t) ∧ PTz z t ∧ PTr z
theorem XT_f {z w z' w' : mZ} {t : Nat} (ht : isT t) (c : ∀ a, t ≤ a → a ≤ t + 32 → ∀ i, z' a i = z a i ∧ w' a i = w a i) (r : kqHT z z') (x : XT z w t) : XT z' w' t := by
  obtain ⟨⟨x1, x2⟩, x3, x4⟩ := x
  have cz : ∀ k, k ≤ 32 → z' (t + k) = z (t + k) := fun k hk => funext fun i => (c (t + k) (by omega) (by omega) i).1
  have cw : ∀ k, k ≤ 32 → w' (t + k) = w (t + k) := fun k hk => funext fun i => (c (t + k) (by omega) (by omega) i).2
  have c0 : z' t = z t := cz 0 (by omega)
  have r5 := r.1
  have ra : ∀ a, 235 ≤ a → a ≤ 242 → z' a = z a := fun a h1 h2 => funext fun i => r.2.1 a h1 h2 i
  refine ⟨⟨?_, ?_⟩, PTz_f (by rw [c0]) (by rw [c0]) (fun i => by rw [cz 2 (by omega)]) (fun i => by rw [cz 3 (by omega)]) (fun i => by rw [cz 5 (by omega)]) x3, PTr_f (r5 _ (by omega) (by omega)) (r5 _ (by omega) (by omega)) (fun i => by rw [ra 240 (by omega) (by omega)]) (fun i => by rw [ra 242 (by omega) (by omega)]) (fun i => by rw [ra 241 (by omega) (by omega)]) x4⟩
  · obtain ⟨⟨y1, y2, y3⟩, y4, y5, y6, y7⟩ := x1
    rw [c0, cz 1 (by omega), cz 18 (by omega), r5 26 (by omega) (by omega), r5 27 (by omega) (by omega), r5 28 (by omega) (by omega), ra 235 (by omega) (by omega), ra 236 (by omega) (by omega), ra 237 (by omega) (by omega), ra 238 (by omega) (by omega), ra 239 (by omega) (by omega)]
    refine ⟨⟨y1, y2, y3⟩, y4, fun j e h1 h2 h3 h4 => ?_, y6, fun a i h1 h2 h3 h4 => ?_⟩
    · show w' (t + 8 + j) e = _
      rw [show t + 8 + j = t + (8 + j) by omega, cw (8 + j) (by omega), ← show t + 8 + j = t + (8 + j) by omega]
      exact y5 j e h1 h2 h3 h4
    · show z' (t + 20 + a) i = _ ∧ z' (t + 27 + a) i = _
      rw [show t + 20 + a = t + (20 + a) by omega, show t + 27 + a = t + (27 + a) by omega, cz (20 + a) (by omega), cz (27 + a) (by omega), ← show t + 20 + a = t + (20 + a) by omega, ← show t + 27 + a = t + (27 + a) by omega]
      exact y7 a i h1 h2 h3 h4
  · intro j e h1 h2 h3 h4
    rw [c0] at h3 h4
    rw [show t + 8 + j = t + (8 + j) by omega, cw (8 + j) (by omega), ← show t + 8 + j = t + (8 + j) by omega]
    exact x2 j e h1 h2 h3 h4
theorem kqC_v {z w : mZ} {p : mP} {t : Nat} (h : kqC z w p) (e : p 1 13 = some t) : CV z w t := by
  obtain ⟨t', u, tx, it, mt, tt, ct, ht, hu, htu, rfl, hz, hw, hcv, hg⟩ := h
  rw [pp_1_13] at e
  cases e
  exact hcv
/-- the roads of both -/
def XR (z w : mZ) (p : mP) (t : Nat) : Prop := XT z w t ∧ (∀ l : Nat, (l : Int) < z t 3 → RDe z l) ∧ (p 10 2 = none → z t 3 = 0 ∧ z t 4 = 0)
theorem RDe_f {z z' : mZ} {l : Nat} (hl : l < 8) (c : ∀ a, 16 ≤ a → a ≤ 32 → ∀ i, z' a i = z a i) (r : kqHT z z') (x : RDe z l) : RDe z' l := by
  have a : ∀ i, i ≤ 5 → z' (17 + 2 * l) i = z (17 + 2 * l) i := fun i _ => c _ (by omega) (by omega) i
  have b : rdc z' l = rdc z l := rdc_f a (funext fun i => c _ (by omega) (by omega) i)
  have e : rdr z' l = rdr z l := rdr_f (fun a h1 h2 => funext fun i => r.2.2 a h1 (by omega) i)
  unfold RDe at *
  rw [r.2.2 253 (by omega) (by omega), r.2.2 254 (by omega) (by omega), a 0 (by omega), b, e]
  exact x
theorem XR_f {z w z' w' : mZ} {p p' : mP} {t : Nat} (ht : isT t) (h8 : z t 3 ≤ 8) (c : ∀ a, t ≤ a → a ≤ t + 32 → ∀ i, z' a i = z a i ∧ w' a i = w a i) (c2 : ∀ a, 16 ≤ a → a ≤ 32 → ∀ i, z' a i = z a i) (r : kqHT z z') (m : p' 10 2 = p 10 2) (x : XR z w p t) : XR z' w' p' t := by
  have e3 : z' t 3 = z t 3 := (c t (by omega) (by omega) 3).1
  refine ⟨XT_f ht c r x.1, fun l hl => ?_, fun q => ?_⟩
  · rw [e3] at hl
    exact RDe_f (by omega) c2 r (x.2.1 l hl)
  · rw [e3, (c t (by omega) (by omega) 4).1]; exact x.2.2 (m.symm.trans q)
theorem RDA_i {z w : mZ} {t : Nat} (C : CV z w t) (R : RV z w) (x : XT z w t) (h8 : z t 3 ≤ 8) (c : CLA z w t) (r : RLA z) : ∀ l : Nat, (l : Int) < z t 3 → RDe z l := by
  intro l hl
  obtain ⟨⟨⟨⟨y1, y2, y3⟩, y4, y5, y6, y7⟩, x2⟩, x3, x4⟩ := x
  have wc_ : WTt z t := C.1
  have wr : RW z := R.1.1
  have hE := WT.hE wc_
  have hm := WT.hm wc_
  have eE : rE z = z t 1 := by unfold rE; omega
  have e36 : ∀ s : Nat, (s : Int) < 3 * z t 0 → z (t + 1) s = z 235 s := fun s hs => y4 s (by omega) hs
  have hn : ∀ j : Nat, j < 18 → tr (rE z) (lnR z l) j = w (t + 8 + l) j := fun j hj => by
    by_cases d : (j : Int) < 3 * z t 0 / 2
    · rw [tr_l (show (j : Int) < rE z by omega)]
      exact (y5 l j (by omega) hj hl d).symm
    · rw [tr_g (show rE z ≤ (j : Int) by omega)]
      exact (x2 l j (by omega) hj hl (by omega)).symm
  have wr' : WT (z t 0) (z t 1) (z 235) (z 240) (z 241) := by
    have q : WT (z 225 26) (rE z) (z 235) (z 240) (z 241) := wr
    rw [← y1, eE] at q
    exact q
  refine RDe_i wc_ (C.2.1 l hl) ⟨fun s hs => ⟨e36 s hs, WT_o wc_ wr' e36 s hs⟩, fun e he => ⟨WT_f wc_ wr' e36 (fun e he => x3.2 e (by omega)) (fun e he => x4.2 e (by omega)) e he, (hn e (by omega)).symm⟩⟩ y1.symm eE hn (c l hl) (r l (by omega))
def kqX (z w : mZ) (p : mP) : Prop := z 1 16 = z 225 2 ∧ z 1 17 = z 225 3 ∧ kqT z ∧ (LN (rE z) z w z w ∧ BXE (rE z) z w z w) ∧ ∃ t, p 1 13 = some t ∧ isT t ∧ z t 3 ≤ 8 ∧ XR z w p t
/-- what is told stays so over a call of both -/
theorem XT_o {S S' : mS} {z w z1 w1 z2 w2 : mZ} {p p1 : mP} (hs : st_ S z w z1 w1) (hl : kqlo S = true) (hs2 : st_ S' z1 w1 z2 w2) (hl2 : kqhi S' = true) (k : kqKT z w p z1 w1 p1) (h : kqHT z1 z2) (x : ∃ t, p 1 13 = some t ∧ isT t ∧ z t 3 ≤ 8 ∧ XR z w p t) : ∃ t, p1 1 13 = some t ∧ isT t ∧ z2 t 3 ≤ 8 ∧ XR z2 w2 p1 t := by
  obtain ⟨t, e, ht, h8, x⟩ := x
  have hb : 159 ≤ t ∧ t ≤ 192 := by have := ht; unfold isT at this; omega
  have ct : ∀ a, t ≤ a → a ≤ t + 32 → ∀ i, z2 a i = z a i ∧ w2 a i = w a i := fun a h1 h2 i => by
    have q := k.1 a (by omega) (by omega) i
    rw [hs2.2.2.1 _ _ (hi_n hl2 (by omega)), hs2.2.2.2 _ _ (hi_n hl2 (by omega))]
    exact q
  refine ⟨t, k.2.2.1.trans e, ht, by rw [(ct t (by omega) (by omega) 3).1]; exact h8, XR_f ht h8 ct (fun a h1 h2 i => ?_) ⟨fun i h1 h2 => ?_, fun a h1 h2 i => ?_, fun a h1 h2 i => ?_⟩ k.2.2.2 x⟩
  · rw [hs2.2.2.1 _ _ (hi_n hl2 (by omega))]; exact k.2.1 a h1 h2 i
  · rw [h.1 i h1 h2]; exact hs.2.2.1 _ _ (lo_n hl (by omega))
  · rw [h.2.1 a h1 h2]; exact hs.2.2.1 _ _ (lo_n hl (by omega))
  · rw [h.2.2 a h1 h2]; exact hs.2.2.1 _ _ (lo_n hl (by omega))
/-- THE LINE and the boxes of both, over a call of the one, then of the other -/
theorem LN_a {S : mS} {z w z1 w1 : mZ} {E : Int} (hs : st_ S z w z1 w1) (hl : kqlo S = true) (h : LN E z w z w) : LN E z w z1 w1 := LN_u h CU3_r ⟨hs.2.2.1 _ _ (lo_n hl (by omega)), hs.2.2.1 _ _ (lo_n hl (by omega)), funext fun i => hs.2.2.2 _ _ (lo_n hl (by omega)), funext fun i => hs.2.2.2 _ _ (lo_n hl (by omega))⟩
theorem LN_b {S : mS} {z1 w1 z2 w2 : mZ} {E : Int} (hs : st_ S z1 w1 z2 w2) (hl : kqhi S = true) (h : LN E z1 w1 z2 w2) : LN E z2 w2 z2 w2 := LN_u h ⟨⟨hs.2.2.1 _ _ (hi_n hl (by omega)), hs.2.2.1 _ _ (hi_n hl (by omega)), hs.2.2.1 _ _ (hi_n hl (by omega))⟩, fun a h1 h2 => funext fun i => hs.2.2.2 _ _ (hi_n hl (by omega))⟩ RU3_r
theorem BX_u {zc wc zr wr zc' wc' zr' wr' : mZ} {E : Int} (h : BXE E zc wc zr wr) (c : kqBU zc wc zc' wc') (r : kqBM zr wr zr' wr') : BXE E zc' wc' zr' wr' := by
  intro b hb
  obtain ⟨h1, h2⟩ := h b hb
  obtain ⟨c1, c2⟩ := c b hb
  rw [c1, c2, r.1, r.2]
  exact ⟨h1, h2⟩
theorem BX_a {S : mS} {z w z1 w1 : mZ} {E : Int} (hs : st_ S z w z1 w1) (hl : kqlo S = true) (h : BXE E z w z w) : BXE E z w z1 w1 := BX_u h (fun _ _ => ⟨rfl, rfl⟩) ⟨funext fun i => hs.2.2.1 _ _ (lo_n hl (by omega)), funext fun i => hs.2.2.2 _ _ (lo_n hl (by omega))⟩
theorem BX_b {S : mS} {z1 w1 z2 w2 : mZ} {E : Int} (hs : st_ S z1 w1 z2 w2) (hl : kqhi S = true) (h : BXE E z1 w1 z2 w2) : BXE E z2 w2 z2 w2 := BX_u h (fun b hb => ⟨hs.2.2.1 _ _ (hi_n hl (by omega)), funext fun i => hs.2.2.2 _ _ (hi_n hl (by omega))⟩) ⟨rfl, rfl⟩
theorem LX_o {S S' : mS} {z w z1 w1 z2 w2 : mZ} {E : Int} (I : LN E z w z w ∧ BXE E z w z w) (hs : st_ S z w z1 w1) (hl : kqlo S = true) (hs2 : st_ S' z1 w1 z2 w2) (hl2 : kqhi S' = true) (n : kqN z w z1 w1) (m : kqM z1 w1 z2 w2) : LN E z2 w2 z2 w2 ∧ BXE E z2 w2 z2 w2 := ⟨LN_b hs2 hl2 (LN_u (LN_a hs hl I.1) n.1 m.1), BX_b hs2 hl2 (BX_u (BX_a hs hl I.2) n.2 m.2)⟩
theorem BD_z {z w : mZ} {p : mP} (hC : kqC z w p) : BD39 z := by
  obtain ⟨t', u, tx, it, mt, tt, ct, ht, hu, htu, rfl, hz, hw, hcv, hg⟩ := hC
  have h0 := rd_39_0 hz
  have h1 := rd_39_1 hz
  have h2 := rd_39_2 hz
  have h3 := hcv.2.2.1.1
  unfold BD39
  omega
theorem kqX_s {S S' : mS} {z w z1 w1 z2 w2 : mZ} {p p1 : mP} (I : kqX z w p) (hs : st_ S z w z1 w1) (hl : kqlo S = true) (hs2 : st_ S' z1 w1 z2 w2) (hl2 : kqhi S' = true) (hD : kqK z w p z1 w1 p1) (hD2 : kqH z1 z2) (le : z2 225 1 ≤ z 225 1) (X : LN (rE z2) z2 w2 z2 w2 ∧ BXE (rE z2) z2 w2 z2 w2) : kqX z2 w2 p1 := by
  have a : ∀ i, z1 225 i = z 225 i := fun i => hs.2.2.1 _ _ (lo_n hl (by omega))
  have b : ∀ i, z1 226 i = z 226 i := fun i => hs.2.2.1 _ _ (lo_n hl (by omega))
  have c : ∀ x i, x < 225 → z2 x i = z1 x i := fun x i hx => hs2.2.2.1 _ _ (hi_n hl2 hx)
  refine ⟨?_, ?_, fun i hi => ?_, X, XT_o hs hl hs2 hl2 hD.2.2 hD2.2.2 I.2.2.2.2⟩
  · rw [c _ _ (by omega), hD.1.1, hD2.1.1, a, I.1]
  · rw [c _ _ (by omega), hD.1.2, hD2.1.2, a, I.2.1]
  · rw [c 2 i (by omega), hD.2.1, hD2.2.1, b]; exact I.2.2.1 i (by omega)
theorem rE_o {S : mS} {z w z1 w1 z2 : mZ} (hs : st_ S z w z1 w1) (hl : kqlo S = true) (h : kqHT z1 z2) : rE z2 = rE z := by
  unfold rE
  rw [h.1 26 (by omega) (by omega), hs.2.2.1 _ _ (lo_n hl (by omega))]
theorem kqX_o {S S' : mS} {z w z1 w1 z2 w2 : mZ} {p p1 : mP} (I : kqX z w p) (hs : st_ S z w z1 w1) (hl : kqlo S = true) (hs2 : st_ S' z1 w1 z2 w2) (hl2 : kqhi S' = true) (hD : kqK z w p z1 w1 p1 ∧ kqN z w z1 w1) (hD2 : kqH z1 z2 ∧ kqM z1 w1 z2 w2) (le : z2 225 1 ≤ z 225 1) : kqX z2 w2 p1 :=
  kqX_s I hs hl hs2 hl2 hD.1 hD2.1 le (by rw [rE_o hs hl hD2.1.2.2]; exact LX_o I.2.2.2.1 hs hl hs2 hl2 hD.2 hD2.2)
theorem kqX_f {S S' : mS} {z w z1 w1 z2 w2 : mZ} {p p1 : mP} {a b c d e : Int} {v v' : Value} (I : kqX z w p) (I15 : z 1 15 = z 225 1) (n0 : 0 ≤ z 225 1) (hs : st_ S z w z1 w1) (hl : kqlo S = true) (hs2 : st_ S' z1 w1 z2 w2) (hl2 : kqhi S' = true) (hD : kqDf a b c d e z w p v z1 w1 p1) (hD2 : kqDf' a b c d e z1 w1 v' z2 w2) (h1 : z2 225 1 = kqfF (z1 225 1)) : kqX z2 w2 p1 := by
  have a5 : ∀ i, z1 225 i = z 225 i := fun i => hs.2.2.1 _ _ (lo_n hl (by omega))
  have a6 : ∀ i, z1 226 i = z 226 i := fun i => hs.2.2.1 _ _ (lo_n hl (by omega))
  have cc : ∀ x i, x < 225 → z2 x i = z1 x i := fun x i hx => hs2.2.2.1 _ _ (hi_n hl2 hx)
  obtain ⟨⟨⟨d1, d2⟩, d5⟩, ⟨d3, d4⟩, dn⟩ := hD
  obtain ⟨⟨⟨e1, e2⟩, e5⟩, ⟨e3, e4⟩, en⟩ := hD2
  refine ⟨?_, ?_, fun i hi => ?_, by rw [rE_o hs hl e5]; exact LX_o I.2.2.2.1 hs hl hs2 hl2 dn en, XT_o hs hl hs2 hl2 d5 e5 I.2.2.2.2⟩
  · rw [cc _ _ (by omega), d1, e1, a5, I.1]
  · rw [cc _ _ (by omega), d2, e2, a5, I.2.1]
  · rw [cc 2 i (by omega)]
    rw [a5] at e3 e4 h1
    by_cases g : (i : Int) < z 225 1
    · rw [e4 i g, a6]
      have q := d4 i (by omega)
      dsimp only at q
      rw [q]; exact I.2.2.1 i g
    · unfold kqfF at h1
      by_cases g2 : z 225 1 + 20 ≤ 1600
      · rw [if_pos g2] at h1
        have q1 := e3 g2 (i - (z 225 1).toNat) (by omega)
        have q2 := d3 (by omega) (i - (z 225 1).toNat) (by omega)
        dsimp only at q2
        rw [show (z 225 1).toNat + (i - (z 225 1).toNat) = i by omega] at q1
        rw [I15, show (z 225 1).toNat + (i - (z 225 1).toNat) = i by omega] at q2
        rw [q1, q2]
      · rw [if_neg g2] at h1; omega

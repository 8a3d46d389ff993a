/-! numbers taken through roads, exactly: none where they are SPENT -/
def gst (e : Nat) (n : Nat → Int) : Option (Nat → Int) := if n e ≤ 100000000000000 then some n else none
def gfw (cf : Nat → Nat → Nat) : Nat → (Nat → Int) → Option (Nat → Int)
  | 0, n => some n
  | k + 1, n => (gfw cf k n).bind (fun a => gst (cf k 0) (flc cf k a))
def gbw (cf : Nat → Nat → Nat) (K : Nat) : Nat → (Nat → Int) → Option (Nat → Int)
  | 0, n => some n
  | j + 1, n => (gbw cf K j n).bind (fun a => gst (cf (K - 1 - j) 0) (flc cf (K - 1 - j) a))
def gtw (a b u v : Nat) : Nat → (Nat → Int) → Option (Nat → Int)
  | 0, n => some n
  | k + 1, n => (gtw a b u v k n).bind (fun x => gst v (tw a b u v x))
/-- a road: its flips, how many, a b e f -/
abbrev Rdt : Type := (Nat → Nat → Nat) × Nat × Nat × Nat × Nat × Nat
def gtm (r : Rdt) (times : Int) (n : Nat → Int) : Option (Nat → Int) := if 0 < times then gtw r.2.2.1 r.2.2.2.1 r.2.2.2.2.1 r.2.2.2.2.2 times.natAbs n else gtw r.2.2.1 r.2.2.2.1 r.2.2.2.2.2 r.2.2.2.2.1 times.natAbs n
def gal (r : Rdt) (times : Int) (n : Nat → Int) : Option (Nat → Int) := ((gfw r.1 r.2.1 n).bind (gtm r times)).bind (gbw r.1 r.2.1 r.2.1)
def gwd (R : Nat → Rdt) (ln : Nat → Nat) (tm : Nat → Int) : Nat → (Nat → Int) → Option (Nat → Int)
  | 0, n => some n
  | k + 1, n => (gwd R ln tm k n).bind (fun x => gal (R (ln k)) (tm k) x)
/-- a word so often -/
def gwn (f : (Nat → Int) → Option (Nat → Int)) : Nat → (Nat → Int) → Option (Nat → Int)
  | 0, n => some n
  | k + 1, n => (gwn f k n).bind f
theorem gst_y {e : Nat} {n : Nat → Int} (h : n e ≤ 100000000000000) : gst e n = some n := if_pos h
theorem gst_n {e : Nat} {n : Nat → Int} (h : ¬ n e ≤ 100000000000000) : gst e n = none := if_neg h
section
variable {cf : Nat → Nat → Nat} {n a a' : Nat → Int} {k k' K : Nat}
theorem gfw_s (h : gfw cf k n = some a) (e : a' = flc cf k a) (l : a' (cf k 0) ≤ 100000000000000) (hk : k' = k + 1) : gfw cf k' n = some a' := by
  subst hk
  show (gfw cf k n).bind _ = _
  rw [h]
  show gst (cf k 0) (flc cf k a) = _
  rw [← e, gst_y l]
theorem gfw_x (h : gfw cf k n = some a) (e : a' = flc cf k a) (l : ¬ a' (cf k 0) ≤ 100000000000000) : ∀ d, gfw cf (k + d + 1) n = none
  | 0 => by
    show (gfw cf k n).bind _ = _
    rw [h]
    show gst (cf k 0) (flc cf k a) = _
    rw [← e, gst_n l]
  | d + 1 => by
    show (gfw cf (k + d + 1) n).bind _ = _
    rw [gfw_x h e l d]; rfl
theorem gfw_X (h : gfw cf k n = some a) (e : a' = flc cf k a) (l : ¬ a' (cf k 0) ≤ 100000000000000) (hk : k < K) : gfw cf K n = none := by
  have := gfw_x h e l (K - k - 1)
  rw [show k + (K - k - 1) + 1 = K by omega] at this
  exact this
theorem gbw_s {j j' i : Nat} (h : gbw cf K j n = some a) (hi : i = K - 1 - j) (e : a' = flc cf i a) (l : a' (cf i 0) ≤ 100000000000000) (hk : j' = j + 1) : gbw cf K j' n = some a' := by
  subst hk hi
  show (gbw cf K j n).bind _ = _
  rw [h]
  show gst (cf (K - 1 - j) 0) (flc cf (K - 1 - j) a) = _
  rw [← e, gst_y l]
theorem gbw_x {j i : Nat} (h : gbw cf K j n = some a) (hi : i = K - 1 - j) (e : a' = flc cf i a) (l : ¬ a' (cf i 0) ≤ 100000000000000) : ∀ d, gbw cf K (j + d + 1) n = none
  | 0 => by
    subst hi
    show (gbw cf K j n).bind _ = _
    rw [h]
    show gst (cf (K - 1 - j) 0) (flc cf (K - 1 - j) a) = _
    rw [← e, gst_n l]
  | d + 1 => by
    show (gbw cf K (j + d + 1) n).bind _ = _
    rw [gbw_x h hi e l d]; rfl
theorem gbw_X {j i J : Nat} (h : gbw cf K j n = some a) (hi : i = K - 1 - j) (e : a' = flc cf i a) (l : ¬ a' (cf i 0) ≤ 100000000000000) (hk : j < J) : gbw cf K J n = none := by
  have := gbw_x h hi e l (J - j - 1)
  rw [show j + (J - j - 1) + 1 = J by omega] at this
  exact this
theorem gtw_s {p q u v : Nat} (h : gtw p q u v k n = some a) (e : a' = tw p q u v a) (l : a' v ≤ 100000000000000) (hk : k' = k + 1) : gtw p q u v k' n = some a' := by
  subst hk
  show (gtw p q u v k n).bind _ = _
  rw [h]
  show gst v (tw p q u v a) = _
  rw [← e, gst_y l]
theorem gtw_x {p q u v : Nat} (h : gtw p q u v k n = some a) (e : a' = tw p q u v a) (l : ¬ a' v ≤ 100000000000000) : ∀ d, gtw p q u v (k + d + 1) n = none
  | 0 => by
    show (gtw p q u v k n).bind _ = _
    rw [h]
    show gst v (tw p q u v a) = _
    rw [← e, gst_n l]
  | d + 1 => by
    show (gtw p q u v (k + d + 1) n).bind _ = _
    rw [gtw_x h e l d]; rfl
theorem gtw_X {p q u v : Nat} (h : gtw p q u v k n = some a) (e : a' = tw p q u v a) (l : ¬ a' v ≤ 100000000000000) (hk : k < K) : gtw p q u v K n = none := by
  have := gtw_x h e l (K - k - 1)
  rw [show k + (K - k - 1) + 1 = K by omega] at this
  exact this
theorem gwd_s {R : Nat → Rdt} {ln : Nat → Nat} {tm : Nat → Int} (h : gwd R ln tm k n = some a) (e : gal (R (ln k)) (tm k) a = some a') (hk : k' = k + 1) : gwd R ln tm k' n = some a' := by
  subst hk
  show (gwd R ln tm k n).bind _ = _
  rw [h]; exact e
theorem gwd_x {R : Nat → Rdt} {ln : Nat → Nat} {tm : Nat → Int} (h : gwd R ln tm k n = some a) (e : gal (R (ln k)) (tm k) a = none) : ∀ d, gwd R ln tm (k + d + 1) n = none
  | 0 => by
    show (gwd R ln tm k n).bind _ = _
    rw [h]; exact e
  | d + 1 => by
    show (gwd R ln tm (k + d + 1) n).bind _ = _
    rw [gwd_x h e d]; rfl
theorem gwd_X {R : Nat → Rdt} {ln : Nat → Nat} {tm : Nat → Int} (h : gwd R ln tm k n = some a) (e : gal (R (ln k)) (tm k) a = none) (hk : k < K) : gwd R ln tm K n = none := by
  have := gwd_x h e (K - k - 1)
  rw [show k + (K - k - 1) + 1 = K by omega] at this
  exact this
/-- the parts of a twist put together -/
theorem gal_1 {r : Rdt} {t : Int} (h : gfw r.1 r.2.1 n = none) : gal r t n = none := by unfold gal; rw [h]; rfl
theorem gal_2 {r : Rdt} {t : Int} (h : gfw r.1 r.2.1 n = some a) (h2 : gtm r t a = none) : gal r t n = none := by
  unfold gal; rw [h]
  show (gtm r t a).bind _ = _
  rw [h2]; rfl
theorem gal_3 {r : Rdt} {t : Int} (h : gfw r.1 r.2.1 n = some a) (h2 : gtm r t a = some a') : gal r t n = gbw r.1 r.2.1 r.2.1 a' := by
  unfold gal; rw [h]
  show (gtm r t a).bind _ = _
  rw [h2]; rfl
theorem gtm_p {r : Rdt} {t : Int} (h : 0 < t) : gtm r t n = gtw r.2.2.1 r.2.2.2.1 r.2.2.2.2.1 r.2.2.2.2.2 t.natAbs n := if_pos h
theorem gtm_m {r : Rdt} {t : Int} (h : ¬ 0 < t) : gtm r t n = gtw r.2.2.1 r.2.2.2.1 r.2.2.2.2.2 r.2.2.2.2.1 t.natAbs n := if_neg h
end
/-- as the class goes -/
theorem gfw_R {f : Nat → Int} {i i' : Nat} {n a a' : Nat → Int} (h : gfw (cfR f) i n = some a) (e : a' = flR (f i) a) (l : a' (f i % 2 ^ 5).toNat ≤ 100000000000000) (hi : i' = i + 1) : gfw (cfR f) i' n = some a' := gfw_s h (e.trans (flR_c f i a)) (by rw [(cf_of f i).1]; exact l) hi
theorem gfw_RX {f : Nat → Int} {i K : Nat} {n a a' : Nat → Int} (h : gfw (cfR f) i n = some a) (e : a' = flR (f i) a) (l : 100000000000000 < a' (f i % 2 ^ 5).toNat) (hi : i < K) : gfw (cfR f) K n = none := gfw_X h (e.trans (flR_c f i a)) (by rw [(cf_of f i).1]; omega) hi
theorem gbw_R {f : Nat → Int} {i j j' K : Nat} {n a a' : Nat → Int} (h : gbw (cfR f) K j n = some a) (hi : i = K - 1 - j) (e : a' = flR (f i) a) (l : a' (f i % 2 ^ 5).toNat ≤ 100000000000000) (hj : j' = j + 1) : gbw (cfR f) K j' n = some a' := gbw_s h hi (e.trans (flR_c f i a)) (by rw [(cf_of f i).1]; exact l) hj
theorem gbw_RX {f : Nat → Int} {i j J K : Nat} {n a a' : Nat → Int} (h : gbw (cfR f) K j n = some a) (hi : i = K - 1 - j) (e : a' = flR (f i) a) (l : 100000000000000 < a' (f i % 2 ^ 5).toNat) (hj : j < J) : gbw (cfR f) K J n = none := gbw_X h hi (e.trans (flR_c f i a)) (by rw [(cf_of f i).1]; omega) hj
theorem gtw_Y {p q u v k K : Nat} {n a n1 : Nat → Int} (h : gtw p q u v k n = some a) (e : n1 = fl u p v q v a) (l : 100000000000000 < n1 u) (hk : k < K) : gtw p q u v K n = none := gtw_X h (a' := tw p q u v a) rfl (by
  rw [e, fl_e] at l
  have w : tw p q u v a v = max (a p + a q) (a v + a v) - a u := if_pos rfl
  rw [w]; omega) hk
theorem gtm_of {r : Rdt} {t : Int} {U V : Nat} {n : Nat → Int} {x : Option (Nat → Int)} (hp : 0 < t → U = r.2.2.2.2.1 ∧ V = r.2.2.2.2.2) (hm : t ≤ 0 → U = r.2.2.2.2.2 ∧ V = r.2.2.2.2.1) (h : gtw r.2.2.1 r.2.2.2.1 U V t.natAbs n = x) : gtm r t n = x := by
  by_cases c : 0 < t
  · rw [gtm_p c, ← (hp c).1, ← (hp c).2]; exact h
  · rw [gtm_m c, ← (hm (by omega)).1, ← (hm (by omega)).2]; exact h
theorem ex_v {n1 n2 : Nat → Int} {u v : Nat} (uv : u ≠ v) (h2 : n2 = fun j => if j = u then n1 v else if j = v then n1 u else n1 j) : n2 v = n1 u := by
  rw [h2]
  show (if v = u then n1 v else if v = v then n1 u else n1 v) = _
  rw [if_neg (fun q => uv q.symm), if_pos rfl]
/-- like numbers, like roads: like ends -/
def oeq : Option (Nat → Int) → Option (Nat → Int) → Prop
  | none, none => True
  | some a, some b => ∀ j, j < 18 → b j = a j
  | _, _ => False
theorem oeq_b {x y : Option (Nat → Int)} {F G : (Nat → Int) → Option (Nat → Int)} (h : oeq x y) (k : ∀ a b : Nat → Int, (∀ j, j < 18 → b j = a j) → oeq (F a) (G b)) : oeq (x.bind F) (y.bind G) := by
  cases x with
  | none =>
    cases y with
    | none => exact True.intro
    | some b => exact (show False from h).elim
  | some a =>
    cases y with
    | none => exact (show False from h).elim
    | some b => exact k a b h
theorem oeq_g {e : Nat} (he : e < 18) {a b : Nat → Int} (h : ∀ j, j < 18 → b j = a j) : oeq (gst e a) (gst e b) := by
  by_cases c : a e ≤ 100000000000000
  · rw [gst_y c, gst_y (by rw [h e he]; exact c)]; exact h
  · rw [gst_n c, gst_n (by rw [h e he]; exact c)]; exact True.intro
theorem fl_cg {e x y z w : Nat} (hx : x < 18) (hy : y < 18) (hz : z < 18) (hw : w < 18) (he : e < 18) {a b : Nat → Int} (h : ∀ j, j < 18 → b j = a j) : ∀ j, j < 18 → fl e x y z w b j = fl e x y z w a j := by
  intro j hj
  unfold fl
  rw [h x hx, h y hy, h z hz, h w hw, h e he, h j hj]
theorem tw_cg {p q u v : Nat} (hp : p < 18) (hq : q < 18) (hu : u < 18) (hv : v < 18) {a b : Nat → Int} (h : ∀ j, j < 18 → b j = a j) : ∀ j, j < 18 → tw p q u v b j = tw p q u v a j := by
  intro j hj
  unfold tw
  rw [h p hp, h q hq, h u hu, h v hv, h j hj]
section
variable {cf cf' : Nat → Nat → Nat} {K : Nat} {a b : Nat → Int}
theorem gfw_c (hc : ∀ i j, i < K → j < 5 → cf i j < 18) (he : ∀ i j, i < K → j < 5 → cf' i j = cf i j) (h : ∀ j, j < 18 → b j = a j) : ∀ k, k ≤ K → oeq (gfw cf k a) (gfw cf' k b)
  | 0, _ => h
  | k + 1, hk => by
    show oeq ((gfw cf k a).bind (fun a => gst (cf k 0) (flc cf k a))) ((gfw cf' k b).bind (fun a => gst (cf' k 0) (flc cf' k a)))
    refine oeq_b (gfw_c hc he h k (by omega)) (fun x y q => ?_)
    show oeq (gst (cf k 0) (flc cf k x)) (gst (cf' k 0) (flc cf' k y))
    unfold flc
    rw [he k 0 (by omega) (by omega), he k 1 (by omega) (by omega), he k 2 (by omega) (by omega), he k 3 (by omega) (by omega), he k 4 (by omega) (by omega)]
    exact oeq_g (hc k 0 (by omega) (by omega)) (fl_cg (hc k 1 (by omega) (by omega)) (hc k 2 (by omega) (by omega)) (hc k 3 (by omega) (by omega)) (hc k 4 (by omega) (by omega)) (hc k 0 (by omega) (by omega)) q)
theorem gbw_c (hc : ∀ i j, i < K → j < 5 → cf i j < 18) (he : ∀ i j, i < K → j < 5 → cf' i j = cf i j) (h : ∀ j, j < 18 → b j = a j) : ∀ j, j ≤ K → oeq (gbw cf K j a) (gbw cf' K j b)
  | 0, _ => h
  | j + 1, hk => by
    show oeq ((gbw cf K j a).bind (fun a => gst (cf (K - 1 - j) 0) (flc cf (K - 1 - j) a))) ((gbw cf' K j b).bind (fun a => gst (cf' (K - 1 - j) 0) (flc cf' (K - 1 - j) a)))
    refine oeq_b (gbw_c hc he h j (by omega)) (fun x y q => ?_)
    show oeq (gst (cf (K - 1 - j) 0) (flc cf (K - 1 - j) x)) (gst (cf' (K - 1 - j) 0) (flc cf' (K - 1 - j) y))
    unfold flc
    rw [he (K - 1 - j) 0 (by omega) (by omega), he (K - 1 - j) 1 (by omega) (by omega), he (K - 1 - j) 2 (by omega) (by omega), he (K - 1 - j) 3 (by omega) (by omega), he (K - 1 - j) 4 (by omega) (by omega)]
    exact oeq_g (hc _ 0 (by omega) (by omega)) (fl_cg (hc _ 1 (by omega) (by omega)) (hc _ 2 (by omega) (by omega)) (hc _ 3 (by omega) (by omega)) (hc _ 4 (by omega) (by omega)) (hc _ 0 (by omega) (by omega)) q)
theorem gtw_c {p q u v : Nat} (hp : p < 18) (hq : q < 18) (hu : u < 18) (hv : v < 18) (h : ∀ j, j < 18 → b j = a j) : ∀ k, oeq (gtw p q u v k a) (gtw p q u v k b)
  | 0 => h
  | k + 1 => by
    show oeq ((gtw p q u v k a).bind (fun x => gst v (tw p q u v x))) ((gtw p q u v k b).bind (fun x => gst v (tw p q u v x)))
    exact oeq_b (gtw_c hp hq hu hv h k) (fun x y r => oeq_g hv (tw_cg hp hq hu hv r))
end
/-- roads alike -/
def Req (r r' : Rdt) : Prop := (∀ i j, i < r.2.1 → j < 5 → r.1 i j < 18) ∧ (∀ i j, i < r.2.1 → j < 5 → r'.1 i j = r.1 i j) ∧ r'.2 = r.2 ∧ r.2.2.1 < 18 ∧ r.2.2.2.1 < 18 ∧ r.2.2.2.2.1 < 18 ∧ r.2.2.2.2.2 < 18
theorem gtm_c {r r' : Rdt} (h : Req r r') {t : Int} {a b : Nat → Int} (k : ∀ j, j < 18 → b j = a j) : oeq (gtm r t a) (gtm r' t b) := by
  obtain ⟨h1, h2, h3, ha, hb, he, hf⟩ := h
  unfold gtm
  rw [h3]
  by_cases c : 0 < t
  · rw [if_pos c, if_pos c]; exact gtw_c ha hb he hf k _
  · rw [if_neg c, if_neg c]; exact gtw_c ha hb hf he k _
theorem gal_c {r r' : Rdt} (h : Req r r') {t : Int} {a b : Nat → Int} (k : ∀ j, j < 18 → b j = a j) : oeq (gal r t a) (gal r' t b) := by
  have h1 := h.1; have h2 := h.2.1; have h3 := h.2.2.1
  unfold gal
  refine oeq_b (oeq_b ?_ (fun x y q => gtm_c h q)) (fun x y q => ?_)
  · rw [h3]; exact gfw_c h1 h2 k _ (Nat.le_refl _)
  · rw [h3]; exact gbw_c h1 h2 q _ (Nat.le_refl _)
theorem gwd_c {R R' : Nat → Rdt} {ln ln' : Nat → Nat} {tm tm' : Nat → Int} {K : Nat} (h : ∀ i, i < K → Req (R (ln i)) (R' (ln' i)) ∧ tm' i = tm i) {a b : Nat → Int} (k : ∀ j, j < 18 → b j = a j) : ∀ i, i ≤ K → oeq (gwd R ln tm i a) (gwd R' ln' tm' i b)
  | 0, _ => k
  | i + 1, hi => by
    show oeq ((gwd R ln tm i a).bind (fun x => gal (R (ln i)) (tm i) x)) ((gwd R' ln' tm' i b).bind (fun x => gal (R' (ln' i)) (tm' i) x))
    refine oeq_b (gwd_c h k i (by omega)) (fun x y q => ?_)
    show oeq (gal (R (ln i)) (tm i) x) (gal (R' (ln' i)) (tm' i) y)
    rw [(h i (by omega)).2]
    exact gal_c (h i (by omega)).1 q
theorem oeq_ss {x y : Option (Nat → Int)} {a b : Nat → Int} (h : oeq x y) (hx : x = some a) (hy : y = some b) : ∀ j, j < 18 → b j = a j := by rw [hx, hy] at h; exact h
theorem oeq_sn {x y : Option (Nat → Int)} {a : Nat → Int} (h : oeq x y) (hx : x = some a) (hy : y = none) : False := by rw [hx, hy] at h; exact h
theorem oeq_ns {x y : Option (Nat → Int)} {b : Nat → Int} (h : oeq x y) (hx : x = none) (hy : y = some b) : False := by rw [hx, hy] at h; exact h
/-- the roads as both keep them -/
def rdc (z : mZ) (l : Nat) : Rdt := (cfR (z (18 + 2 * l)), (z (17 + 2 * l) 1).toNat, (z (17 + 2 * l) 2).toNat, (z (17 + 2 * l) 3).toNat, (z (17 + 2 * l) 4).toNat, (z (17 + 2 * l) 5).toNat)
def rdr (z : mZ) (l : Nat) : Rdt := (cfQ z l, (z 248 l).toNat, (z 251 l).toNat, (z 252 l).toNat, (z 249 l).toNat, (z 250 l).toNat)
theorem rdc_f {z z' : mZ} {l : Nat} (h : ∀ i, i ≤ 5 → z' (17 + 2 * l) i = z (17 + 2 * l) i) (k : z' (18 + 2 * l) = z (18 + 2 * l)) : rdc z' l = rdc z l := by
  unfold rdc
  rw [k, h 1 (by omega), h 2 (by omega), h 3 (by omega), h 4 (by omega), h 5 (by omega)]
theorem rdr_f {z z' : mZ} {l : Nat} (h : ∀ a, 247 ≤ a → a ≤ 252 → z' a = z a) : rdr z' l = rdr z l := by
  unfold rdr cfQ
  rw [h 247 (by omega) (by omega), h 248 (by omega) (by omega), h 249 (by omega) (by omega), h 250 (by omega) (by omega), h 251 (by omega) (by omega), h 252 (by omega) (by omega)]
/-- what a word does: of the class, of the reference -/
def gwc (z : mZ) (t a : Nat) (n : Nat → Int) : Option (Nat → Int) := gwd (rdc z) (fun i => (z (t + 20 + a) i).toNat) (fun i => z (t + 27 + a) i) (z (t + 18) a).toNat n
def gwr (z : mZ) (a : Nat) (n : Nat → Int) : Option (Nat → Int) := gwd (rdr z) (fun i => (z 237 (8 * a + i)).toNat) (fun i => z 238 (8 * a + i)) (z 239 a).toNat n
/-- on the way through a road: so many turns done; all done -/
def TG (r : Rdt) (u v k : Nat) (n0 n : Nat → Int) : Prop := ∃ n1, gfw r.1 r.2.1 n0 = some n1 ∧ gtw r.2.2.1 r.2.2.2.1 u v k n1 = some n
def TM (r : Rdt) (t : Int) (n0 n : Nat → Int) : Prop := ∃ n1, gfw r.1 r.2.1 n0 = some n1 ∧ gtm r t n1 = some n
section
variable {r : Rdt} {u v k k' : Nat} {t : Int} {n0 a a' : Nat → Int}
theorem TG_0 (h : gfw r.1 r.2.1 n0 = some a) (hk : k = 0) : TG r u v k n0 a := by subst hk; exact ⟨a, h, rfl⟩
theorem TG_s (h : TG r u v k n0 a) (e : a' = tw r.2.2.1 r.2.2.2.1 u v a) (l : a' v ≤ 100000000000000) (hk : k' = k + 1) : TG r u v k' n0 a' := by
  obtain ⟨n1, h1, h2⟩ := h
  exact ⟨n1, h1, gtw_s h2 e l hk⟩
theorem TG_x (h : TG r u v k n0 a) (e : a' = tw r.2.2.1 r.2.2.2.1 u v a) (l : 100000000000000 < a' v) (hp : 0 < t → u = r.2.2.2.2.1 ∧ v = r.2.2.2.2.2) (hm : t ≤ 0 → u = r.2.2.2.2.2 ∧ v = r.2.2.2.2.1) (hk : k < t.natAbs) : gal r t n0 = none := by
  obtain ⟨n1, h1, h2⟩ := h
  exact gal_2 h1 (gtm_of hp hm (gtw_X h2 e (by omega) hk))
theorem TG_Y {n1 : Nat → Int} (h : TG r u v k n0 a) (e : n1 = fl u r.2.2.1 v r.2.2.2.1 v a) (l : 100000000000000 < n1 u) (hp : 0 < t → u = r.2.2.2.2.1 ∧ v = r.2.2.2.2.2) (hm : t ≤ 0 → u = r.2.2.2.2.2 ∧ v = r.2.2.2.2.1) (hk : k < t.natAbs) : gal r t n0 = none := by
  obtain ⟨n1, h1, h2⟩ := h
  exact gal_2 h1 (gtm_of hp hm (gtw_Y h2 e l hk))
theorem TG_m (h : TG r u v k n0 a) (hp : 0 < t → u = r.2.2.2.2.1 ∧ v = r.2.2.2.2.2) (hm : t ≤ 0 → u = r.2.2.2.2.2 ∧ v = r.2.2.2.2.1) (hk : k = t.natAbs) : TM r t n0 a := by
  obtain ⟨n1, h1, h2⟩ := h
  exact ⟨n1, h1, gtm_of hp hm (by rw [← hk]; exact h2)⟩
theorem TM_b (h : TM r t n0 a) : gal r t n0 = gbw r.1 r.2.1 r.2.1 a := by
  obtain ⟨n1, h1, h2⟩ := h
  exact gal_3 h1 h2
end

/-! the class, a token further -/
def Fr (z w z' w' : mZ) : Prop := (∀ a i, a ≠ 3 → z' a i = z a i) ∧ z' 3 5 = z 3 5 ∧ ∀ a i, a ≠ 3 → w' a i = w a i
theorem MC_r {h : Int → Int} {s : RG} {z w z' w' : mZ} {t : Nat} (ht : 159 ≤ t) (f : Fr z w z' w') (k : MC h s z w t) : MC h s z' w' t := MC_f (f.1 _ _ (by omega)) (f.1 _ _ (by omega)) (f.1 _ _ (by omega)) (f.1 _ _ (by omega)) f.2.1 (fun a i h1 h2 => f.1 _ _ (by omega)) (fun a i h1 h2 => f.2.2 _ _ (by omega)) k
/-- an EDGE -/
theorem CA_e {h : Int → Int} {z w z1 w1 z' w' : mZ} {t k : Nat} {nu : Int} (ht : 159 ≤ t) (hc : MC h (sq h k) z w t) (hm : sq h k 0 = 1) (h6 : 0 ≤ sq h k 6 ∧ sq h k 6 < 3) (h3 : 0 ≤ z t 0 ∧ z t 0 ≤ 11) (K : tkK h (tp h k) = 2) (N : nu = tkN h (tp h k)) (n0 : 0 ≤ nu ∧ nu < 18) (T2 : z (t + 4) nu.toNat < 2)
    (f0 : ∀ a i, a ≠ t + 1 → a ≠ t + 4 → a ≠ t + 5 → a ≠ t + 6 → z1 a i = z a i) (u1 : ∀ i : Nat, z1 (t + 1) i = if i = (3 * z t 0 + sq h k 6).toNat then nu else z (t + 1) i) (u4 : ∀ e : Nat, z1 (t + 4) e = if e = nu.toNat then z (t + 4) e + 1 else z (t + 4) e) (pi : PI (z1 (t + 1)) (z1 (t + 4)) (z1 (t + 5)) (z1 (t + 6)) (3 * z t 0 + sq h k 6 + 1)) (fw : ∀ a i, t + 8 ≤ a → a ≤ t + 17 → w1 a i = w a i)
    (fr : Fr z1 w1 z' w') (tk : TKc h z' w' (ups h isB (tkE h (tp h k)))) : CA h z' w' t (k + 1) ∧ sq h (k + 1) 0 = 1 ∧ sq h (k + 1) 6 = sq h k 6 + 1 := by
  have a3 : z t 0 = sq h k 3 := hc.1.1.1
  rw [a3] at h3 u1 pi
  have e4 := hc.2.1.2.1 nu.toNat (by omega)
  have e : sq h (k + 1) = _ := (sq_s h k).trans (a1_o hm h6.2 K (by omega) (by rw [← N, ← e4]; exact T2))
  rw [← N] at e
  have hc1 : MC h (sq h k) z w1 t := MC_f rfl rfl rfl rfl rfl (fun _ _ _ _ => rfl) (fun a i h1 h2 => fw a i h1 h2) hc
  have m := MC_e hm h6 h3 n0 (f0 t 0 (by omega) (by omega) (by omega) (by omega)) (f0 _ _ (by omega) (by omega) (by omega) (by omega)) (f0 _ _ (by omega) (by omega) (by omega) (by omega)) (f0 _ _ (by omega) (by omega) (by omega) (by omega)) (f0 _ _ (by omega) (by omega) (by omega) (by omega)) (fun a i h1 h2 => f0 _ _ (by omega) (by omega) (by omega) (by omega)) u1 u4 pi hc1
  rw [← e] at m
  refine ⟨⟨tk, MC_r ht fr m⟩, ?_, ?_⟩
  · rw [e, su_n (by omega), su_n (by omega), su_n (by omega)]; exact hm
  · rw [e, su_e]
/-- piece: behind its word -/
theorem CA_p {h : Int → Int} {z w z' w' : mZ} {t k : Nat} (ht : 159 ≤ t) (hc : MC h (sq h k) z w t) (hm : sq h k 0 = 0) (K : tkK h (tp h k) = 6) (h5 : z 3 5 = 0) (h0 : z t 0 ≤ 11) (fr : Fr z w z' w') (tk : TKc h z' w' (ups h isB (tkE h (tp h k)))) : CA h z' w' t (k + 1) ∧ sq h (k + 1) 0 = 1 ∧ sq h (k + 1) 6 = 0 := by
  have a3 : z t 0 = sq h k 3 := hc.1.1.1
  have a10 : z 3 5 = sq h k 10 := hc.1.1.2.2.2
  have e : sq h (k + 1) = _ := (sq_s h k).trans (a0_p1 hm K (by omega) (by omega))
  refine ⟨⟨tk, ?_⟩, ?_, ?_⟩
  · rw [e]
    refine MC_m (fun j h1 h2 => ?_) (fun j h1 => ?_) ?_ (fun a i q => ?_) (MC_r ht fr hc)
    · rw [su_n (by omega), su_n (by omega)]
    · rw [su_n (by omega), su_n (by omega)]
    · unfold cs; rw [su_n (by omega), su_e, if_pos rfl, su_e, hm, if_neg (by omega)]
    · unfold iw at q
      rw [su_n (i := 6) (j := 0) (by omega), su_e] at q
      rw [su_n (i := 6) (by omega), su_n (i := 0) (by omega), su_n (i := 6) (by omega), su_n (i := 0) (by omega)] at q
      exact ⟨q.1, q.2.elim Or.inl (fun g => absurd g.2.1 (by omega))⟩
  · rw [e, su_n (by omega), su_e]
  · rw [e, su_e]
/-- a PIECE's end -/
theorem CA_q {h : Int → Int} {z w z1 w1 z' : mZ} {t k : Nat} (ht : 159 ≤ t) (hc : MC h (sq h k) z w t) (hm : sq h k 0 = 1) (h6 : sq h k 6 = 3) (K : tkK h (tp h k) = 3) (h5 : z 3 5 = 0) (fr : Fr z w z1 w1) (tk : TKc h z1 w1 (ups h isB (tkE h (tp h k)))) (a0 : z' t 0 = z1 t 0 + 1) (f0 : ∀ a i, (a = t → i ≠ 0) → z' a i = z1 a i) : CA h z' w1 t (k + 1) ∧ sq h (k + 1) 0 = 0 := by
  have a10 : z 3 5 = sq h k 10 := hc.1.1.2.2.2
  have e : sq h (k + 1) = _ := (sq_s h k).trans (a1_so hm (by omega) K)
  refine ⟨⟨TKc_f (f0 _ _ (by omega)) (f0 _ _ (by omega)) (f0 _ _ (by omega)) (f0 _ _ (by omega)) rfl (f0 _ _ (by omega)) tk, ?_⟩, ?_⟩
  · rw [e]
    exact MC_p hm h6 (by omega) a0 (f0 _ _ (by omega)) (f0 _ _ (by omega)) (f0 _ _ (by omega)) (fun a i h1 h2 => f0 _ _ (by omega)) (MC_r ht fr hc)
  · rw [e, su_e]
theorem CF_n {h : Int → Int} {z : mZ} (k : CF h z) : z 3 0 ≠ 0 := by obtain ⟨_, _, _, _, q⟩ := k; exact q

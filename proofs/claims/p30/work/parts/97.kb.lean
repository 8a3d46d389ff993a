theorem kqX_g {S S' : mS} {z w z1 w1 z2 w2 : mZ} {p p1 : mP} {v v' : Value} (I : kqX z w p) (I15 : z 1 15 = z 225 1) (hs : st_ S z w z1 w1) (hl : kqlo S = true) (hs2 : st_ S' z1 w1 z2 w2) (hl2 : kqhi S' = true) (hD : kqDg z w p v z1 w1 p1) (hD2 : kqDg' z1 w1 v' z2 w2) (h1 : z2 225 1 = 0) (C2 : kqC z2 w2 p1) (R2 : kqR z2 w2) : kqX z2 w2 p1 ∧ v = v' := by
  have a5 : ∀ i, z1 225 i = z 225 i := fun i => hs.2.2.1 _ _ (lo_n hl (by omega))
  have a6 : z1 226 = z 226 := funext fun i => hs.2.2.1 _ _ (lo_n hl (by omega))
  have cc : ∀ x i, x < 225 → z2 x i = z1 x i := fun x i hx => hs2.2.2.1 _ _ (hi_n hl2 hx)
  have cw : ∀ x i, x < 225 → w2 x i = w1 x i := fun x i hx => hs2.2.2.2 _ _ (hi_n hl2 hx)
  obtain ⟨⟨x, _, ev, gx⟩, dd⟩ := hD
  obtain ⟨⟨x', _, ev', gx'⟩, d0, d1⟩ := hD2
  rw [a5, a6, ← I15, hr_t (z := z) (z' := z) (fun i hi => I.2.2.1 i (by omega))] at gx' d0
  have u := GRx_u gx gx'
  refine ⟨⟨by rw [cc _ _ (by omega)]; exact u.2.1, by rw [cc _ _ (by omega)]; exact u.2.2, fun i hi => ?_, ?_, ?_⟩, by rw [ev, ev', u.1]⟩
  · omega
  · rcases dd with ⟨q1, qn, -, -⟩ | ⟨q1, t, ht, q2, qm, q3, q4, q5⟩
    · have f := d1 (by rw [← u.2.1]; exact q1)
      have e : rE z2 = rE z := by unfold rE; rw [f.1 26 (by omega), a5]
      have m : kqM z1 w1 z2 w2 := ⟨⟨f.1 73 (by omega), f.1 74 (by omega), funext fun i => (f.2 270 (by omega) i).2, funext fun i => (f.2 271 (by omega) i).2⟩, funext fun i => (f.2 274 (by omega) i).1, funext fun i => (f.2 275 (by omega) i).2⟩
      rw [e]
      exact LX_o I.2.2.2.1 hs hl hs2 hl2 qn m
    · obtain ⟨-, -, r4⟩ := d0 (by rw [← u.2.1]; exact q1)
      have c0 : z2 39 0 = 0 := by rw [cc _ _ (by omega)]; exact q5.1.1
      have c1 : z2 39 1 = 0 := by rw [cc _ _ (by omega)]; exact q5.1.2.1
      have ea : aR z2 0 = aR z1 0 := by unfold aR; rw [cc 39 2 (by omega)]
      have ea2 : 41 ≤ aR z1 0 ∧ aR z1 0 ≤ 101 := by unfold aR; omega
      refine ⟨LN_1 c0 c1 r4.1.1 r4.1.2.1 (fun e he => ?_), fun b hb => ⟨?_, fun q => ?_⟩⟩
      · rw [ea, cw _ _ (by omega), q5.1.2.2 e he, r4.1.2.2 e he]
        exact ⟨rfl, fun _ => rfl⟩
      · rw [cc _ _ (by omega), q5.2 b hb, r4.2 b hb]
      · rw [r4.2 b hb] at q; exact absurd q (by decide)
  · rcases dd with ⟨q1, -, q2, q3⟩ | ⟨q1, t, ht, q2, qm, q3, q4, q5⟩
    · obtain ⟨t, e, ht, h8, x⟩ := I.2.2.2.2
      have hb : 159 ≤ t ∧ t ≤ 192 := by have := ht; unfold isT at this; omega
      have f := d1 (by rw [← u.2.1]; exact q1)
      have ct : ∀ a, t ≤ a → a ≤ t + 32 → ∀ i, z2 a i = z a i ∧ w2 a i = w a i := fun a h1 h2 i => by
        rw [cc _ _ (by omega), cw _ _ (by omega)]
        exact (q3 t e).2.1 a h1 h2 i
      refine ⟨t, q2.1.trans e, ht, by rw [(ct t (by omega) (by omega) 3).1]; exact h8, XR_f ht h8 ct (fun a h1 h2 i => ?_) ⟨fun i h1 h2 => ?_, fun a h1 h2 i => ?_, fun a h1 h2 i => ?_⟩ q2.2 x⟩
      · rw [cc _ _ (by omega)]; exact (q3 t e).2.2 a h1 h2 i
      · rw [f.1 i h1]; exact a5 i
      · rw [(f.2 a h1 i).1]; exact hs.2.2.1 _ _ (lo_n hl (by omega))
      · rw [(f.2 a (by omega) i).1]; exact hs.2.2.1 _ _ (lo_n hl (by omega))
    · have hb : 159 ≤ t ∧ t ≤ 192 := by have := ht; unfold isT at this; omega
      obtain ⟨⟨r1, r2⟩, r3, -⟩ := d0 (by rw [← u.2.1]; exact q1)
      have k : TYc (hr (fun i => z 2 i % 256) (z 1 15)) z2 w2 t := TYc_f (cc _ _ (by omega)) (cc _ _ (by omega)) (cc _ _ (by omega)) (fun i => cc _ _ (by omega)) (fun j i hj => cw _ _ (by omega)) (fun i => cc _ _ (by omega)) (fun a i ha => cc _ _ (by omega)) (fun a i ha => cc _ _ (by omega)) (cc _ _ (by omega)) (fun i => cc _ _ (by omega)) (fun i => cc _ _ (by omega)) (fun i => cc _ _ (by omega)) q3
      have x : XT z2 w2 t := ⟨⟨TX_u k.1.1 r1, k.1.2⟩, k.2, r2⟩
      have h8 : z2 t 3 ≤ 8 := (rd_T_3 ht R2.1).2
      have c2 : CLA z2 w2 t := fun l hl => by
        have e3 : z2 t 3 = z1 t 3 := cc _ _ (by omega)
        exact CLQ_f (fun i hi => cc _ _ (by omega)) (funext fun i => cc _ _ (by omega)) (CLQ_g (cc _ _ (by omega)) (cc _ _ (by omega)) (funext fun i => cc _ _ (by omega)) (funext fun i => cc _ _ (by omega)) (funext fun i => cc _ _ (by omega)) (funext fun i => cw _ _ (by omega)) (q4 l (by omega)))
      exact ⟨t, q2, ht, h8, x, RDA_i (kqC_v C2 q2) R2.2.2 x h8 c2 r3, fun q => by rw [qm] at q; cases q⟩
/-- fresh objects -/
theorem kqX_0 {z w : mZ} {p : mP} {t : Nat} (X : LN (rE z) z w z w ∧ BXE (rE z) z w z w) (e : p 1 13 = some t) (ht : isT t) (a : z 1 16 = z 225 2) (b : z 1 17 = z 225 3) (n : z 225 1 = 0) (c0 : z t 0 = 0) (c3 : z t 3 = 0) (c4 : z t 4 = 0) (c2 : z t 2 = 0) (r0 : z 225 26 = 0) (r1 : z 225 27 = 0) (r2 : z 225 28 = 0) (r3 : z 225 32 = 0) : kqX z w p := by
  refine ⟨a, b, fun i hi => absurd hi (by omega), X, t, e, ht, by omega, ⟨⟨⟨⟨by omega, by omega, by omega⟩, fun i h1 h2 => absurd h2 (by omega), fun j e h1 h2 h3 => absurd h3 (by omega), fun a h1 h2 => absurd h2 (by omega), fun a i h1 h2 h3 => absurd h3 (by omega)⟩, fun j e h1 h2 h3 => absurd h3 (by omega)⟩, ⟨⟨fun i hi => absurd hi (by omega), ?_⟩, fun e he => absurd he (by omega)⟩, ⟨⟨fun i hi => absurd hi (by omega), ?_⟩, fun e he => absurd he (by unfold rE; omega)⟩⟩, fun l hl => absurd hl (by omega), fun _ => ⟨c3, c4⟩⟩
  · rw [c0]; exact c2
  · rw [r0]; exact r3

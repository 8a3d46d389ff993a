/-! the class at a token -/
def TKc (h : Int → Int) (z w : mZ) (p : Int) : Prop := z 3 8 = p ∧ (0 ≤ p ∧ p ≤ z 3 3) ∧ z 3 7 = tkK h p ∧ (tkK h p = 2 → z 3 9 = tkN h p ∧ 0 ≤ tkN h p ∧ tkN h p ≤ 9999) ∧ (tkK h p = 1 → w 3 10 = tkW5 h p ∧ lets (tkF h p) (tkM h p) ∧ tkM h p ≤ 8) ∧ (tkK h p ≠ 0 → z 3 6 = tkE h p ∧ p < z 3 6) ∧ z 3 6 ≤ z 3 3
theorem TKc_f {h : Int → Int} {z w z' w' : mZ} {p : Int} (h8 : z' 3 8 = z 3 8) (h3 : z' 3 3 = z 3 3) (h7 : z' 3 7 = z 3 7) (h9 : z' 3 9 = z 3 9) (h10 : w' 3 10 = w 3 10) (h6 : z' 3 6 = z 3 6) (k : TKc h z w p) : TKc h z' w' p := by
  unfold TKc at k ⊢
  rw [h8, h3, h7, h9, h10, h6]
  exact k
/-- letters read one further -/
theorem rl_s {h : Int → Int} {p q v l l' : Int} (u : ∀ k, p ≤ k → k < q → isL (h k)) (hp : p ≤ q) (hv : h q = v) (hL : isL v) (hl : q - p ≤ 8 → l = wl5 (tkF h p) (q - p).toNat) (hl' : q - p ≤ 7 → 0 ≤ l → l ≤ 1099511627775 → l' = l * 32 + v - 97 + 1) :
    (∀ k, p ≤ k → k < q + 1 → isL (h k)) ∧ (q + 1 - p ≤ 8 → l' = wl5 (tkF h p) (q + 1 - p).toNat) := by
  refine ⟨fun k h1 h2 => ?_, fun c => ?_⟩
  · by_cases e : k = q
    · rw [e, hv]; exact hL
    · exact u k h1 (by omega)
  · have b := wl5_b (f := tkF h p) (m := (q - p).toNat) (lets_u u) (by omega)
    have e := hl (by omega)
    rw [← e] at b
    rw [hl' (by omega) b.1 b.2, show (q + 1 - p).toNat = (q - p).toNat + 1 by omega, wl5_s, ← e, show tkF h p (q - p).toNat = v from by unfold tkF; rw [← hv]; exact congrArg h (by omega)]
    omega
theorem rd_s {h : Int → Int} {p q v l l' : Int} (u : ∀ k, p ≤ k → k < q → isD (h k)) (hp : p ≤ q) (hv : h q = v) (hL : isD v) (hl : q - p ≤ 4 → l = dn (tkF h p) (q - p).toNat) (hl' : q - p ≤ 3 → 0 ≤ l → l ≤ 9999 → l' = l * 10 + v - 48) :
    (∀ k, p ≤ k → k < q + 1 → isD (h k)) ∧ (q + 1 - p ≤ 4 → l' = dn (tkF h p) (q + 1 - p).toNat) := by
  refine ⟨fun k h1 h2 => ?_, fun c => ?_⟩
  · by_cases e : k = q
    · rw [e, hv]; exact hL
    · exact u k h1 (by omega)
  · have b := dn_b (f := tkF h p) (m := (q - p).toNat) (digs_u u)
    have e := hl (by omega)
    rw [← e] at b
    rw [hl' (by omega) b.1 (b.2.2.2 (by omega)), show (q + 1 - p).toNat = (q - p).toNat + 1 by omega, dn_s, ← e, show tkF h p (q - p).toNat = v from by unfold tkF; rw [← hv]; exact congrArg h (by omega)]
    omega
/-- the end of a word, of a number -/
theorem rl_e {h : Int → Int} {p q l kd : Int} (u : ∀ k, p ≤ k → k < q → isL (h k)) (hp : p < q) (hn : ¬ isL (h q)) (hl : q - p ≤ 8 → l = wl5 (tkF h p) (q - p).toNat) (hk : (8 < q - p ∧ kd = 5) ∨ (q - p ≤ 8 ∧ kd = kw5 l)) :
    q = tkE h p ∧ kd = tkK h p ∧ (tkK h p = 1 → l = tkW5 h p ∧ lets (tkF h p) (tkM h p) ∧ tkM h p ≤ 8) := by
  have c : isL (h p) := u p (by omega) hp
  have e : tkE h p = q := tkE_L c ⟨by omega, u, hn⟩
  have em : tkM h p = (q - p).toNat := by unfold tkM; rw [e]
  refine ⟨e.symm, ?_, fun k1 => ?_⟩
  · rw [tkK_L c]
    rcases hk with ⟨g, rfl⟩ | ⟨g, rfl⟩
    · rw [if_pos (by omega)]
    · rw [if_neg (by omega), hl g]; unfold tkW5; rw [em]
  · rw [tkK_L c] at k1
    by_cases g : 8 < tkM h p
    · rw [if_pos g] at k1; omega
    · refine ⟨?_, by rw [em]; exact lets_u u, by omega⟩
      rw [hl (by omega)]; unfold tkW5; rw [em]
theorem rd_e {h : Int → Int} {p q l kd : Int} (u : ∀ k, p ≤ k → k < q → isD (h k)) (hp : p < q) (hn : ¬ isD (h q)) (hl : q - p ≤ 4 → l = dn (tkF h p) (q - p).toNat) (hk : ((4 < q - p ∨ isL (h q)) ∧ kd = 5) ∨ (q - p ≤ 4 ∧ ¬ isL (h q) ∧ kd = 2)) :
    q = tkE h p ∧ kd = tkK h p ∧ (tkK h p = 2 → l = tkN h p ∧ 0 ≤ tkN h p ∧ tkN h p ≤ 9999) := by
  have c : isD (h p) := u p (by omega) hp
  have e : tkE h p = q := tkE_D c ⟨by omega, u, hn⟩
  have em : tkM h p = (q - p).toNat := by unfold tkM; rw [e]
  refine ⟨e.symm, ?_, fun k1 => ?_⟩
  · rw [tkK_D c, e, em]
    rcases hk with ⟨g, rfl⟩ | ⟨g, g2, rfl⟩
    · rw [if_pos (g.imp (by omega) id)]
    · rw [if_neg (by omega)]
  · rw [tkK_D c, e, em] at k1
    by_cases g : 4 < (q - p).toNat ∨ isL (h q)
    · rw [if_pos g] at k1; omega
    · have b := dn_b (f := tkF h p) (m := (q - p).toNat) (digs_u u)
      have e2 : l = tkN h p := by rw [hl (by omega)]; unfold tkN; rw [em]
      have b4 := b.2.2.2 (by omega)
      rw [← hl (by omega), e2] at b b4
      exact ⟨e2, b.1, b4⟩

theorem WTt_f {S : mS} {z w z' w' : mZ} {t : Nat} (h : st_ S z w z' w') (h0 : ¬ inS S t 0) (h1 : ¬ inS S t 1) (f1 : ∀ i, ¬ inS S (t + 1) i) (f2 : ∀ i, ¬ inS S (t + 2) i) (f5 : ∀ i, ¬ inS S (t + 5) i) (k : WTt z t) : WTt z' t := by
  unfold WTt at *
  rw [h.2.2.1 _ _ h0, h.2.2.1 _ _ h1, show z' (t + 1) = z (t + 1) from funext fun i => h.2.2.1 _ _ (f1 i), show z' (t + 2) = z (t + 2) from funext fun i => h.2.2.1 _ _ (f2 i), show z' (t + 5) = z (t + 5) from funext fun i => h.2.2.1 _ _ (f5 i)]
  exact k
theorem TL_f {S : mS} {z w z' w' : mZ} {t : Nat} (h : st_ S z w z' w') (h0 : ¬ inS S t 0) (h8 : ¬ inS S 4 8) (f1 : ∀ i, ¬ inS S (t + 1) i) (f6 : ∀ i, ¬ inS S 6 i) (f7 : ∀ i, ¬ inS S 7 i) (k : TL z t) : TL z' t := by
  unfold TL FTt at *
  rw [h.2.2.1 _ _ h0, h.2.2.1 _ _ h8, show z' (t + 1) = z (t + 1) from funext fun i => h.2.2.1 _ _ (f1 i), show z' 6 = z 6 from funext fun i => h.2.2.1 _ _ (f6 i), show z' 7 = z 7 from funext fun i => h.2.2.1 _ _ (f7 i)]
  exact k
theorem RD_f {S : mS} {z w z' w' : mZ} {t : Nat} (h : st_ S z w z' w') (h8 : z t 3 ≤ 8) (h5 : ¬ inS S 3 5) (h0 : ¬ inS S t 0) (h1 : ¬ inS S t 1) (h3 : ¬ inS S t 3) (f1 : ∀ a, t + 1 ≤ a → a ≤ t + 2 → ∀ i, ¬ inS S a i) (f4 : ∀ a, t + 4 ≤ a → a ≤ t + 6 → ∀ i, ¬ inS S a i) (f8 : ∀ a, t + 8 ≤ a → a ≤ t + 15 → ∀ i, ¬ inS S a i) (r : RD z w t) : RD z' w' t := by
  refine RD_fr h h8 (fun a i q => ?_) r
  unfold inD at q
  rcases q with ⟨rfl, rfl⟩ | ⟨rfl, rfl | rfl | rfl⟩ | ⟨q1, q2⟩ | ⟨q1, q2⟩ | ⟨q1, q2⟩
  · exact h5
  · exact h0
  · exact h1
  · exact h3
  · exact f1 a q1 q2 i
  · exact f4 a q1 q2 i
  · exact f8 a q1 q2 i

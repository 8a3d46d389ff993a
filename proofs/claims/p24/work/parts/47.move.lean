/-! moving numbers through roads -/
theorem cf_of (f : Nat → Int) (i : Nat) : cfR f i 0 = (f i % 2 ^ 5).toNat ∧ cfR f i 1 = (f i / 2 ^ 5 % 2 ^ 5).toNat ∧ cfR f i 2 = (f i / 2 ^ 10 % 2 ^ 5).toNat ∧ cfR f i 3 = (f i / 2 ^ 15 % 2 ^ 5).toNat ∧ cfR f i 4 = (f i / 2 ^ 20 % 2 ^ 5).toNat := by
  unfold cfR
  refine ⟨?_, ?_, ?_, ?_, ?_⟩
  · show (f i / 1 % 32).toNat = (f i % 32).toNat; rw [Int.ediv_one]
  · show (f i / 32 % 32).toNat = (f i / 32 % 32).toNat; rfl
  · show (f i / 1024 % 32).toNat = (f i / 1024 % 32).toNat; rfl
  · show (f i / 32768 % 32).toNat = (f i / 32768 % 32).toNat; rfl
  · show (f i / 1048576 % 32).toNat = (f i / 1048576 % 32).toNat; rfl
abbrev flR (v : Int) (n : Nat → Int) : Nat → Int := fl (v % 2 ^ 5).toNat (v / 2 ^ 5 % 2 ^ 5).toNat (v / 2 ^ 10 % 2 ^ 5).toNat (v / 2 ^ 15 % 2 ^ 5).toNat (v / 2 ^ 20 % 2 ^ 5).toNat n
theorem flR_c (f : Nat → Int) (i : Nat) (n : Nat → Int) : flR (f i) n = flc (cfR f) i n := by
  obtain ⟨h0, h1, h2, h3, h4⟩ := cf_of f i
  unfold flR flc
  rw [h0, h1, h2, h3, h4]
section
variable {m k : Nat} {T : Nat → Nat} {f : Nat → Int} {G : Nat → (Nat → Int) → Prop}
theorem GRo_fw (h : GRo m T (cfR f) k G) {i i' : Nat} {n n' : Nat → Int} (hi : i < k) (g : G i n) (hn : n' = flR (f i) n) (e : i' = i + 1) : G i' n' := by
  rw [hn, flR_c, e]; exact h.fw i n hi g
theorem GRo_bw (h : GRo m T (cfR f) k G) {i i' : Nat} {n n' : Nat → Int} (hi : i < k) (g : G i' n) (hn : n' = flR (f i) n) (e : i' = i + 1) : G i n' := by
  rw [hn, flR_c]; subst e; exact h.bw i n hi g
end
theorem tw_of {n n1 n2 : Nat → Int} {a b u v : Nat} (uv : u ≠ v) (h1 : n1 = fl u a v b v n) (h2 : n2 = fun j => if j = u then n1 v else if j = v then n1 u else n1 j) : n2 = tw a b u v n := by
  funext j
  rw [h2]
  unfold tw
  by_cases c : j = v
  · subst c
    show (if j = u then n1 j else if j = j then n1 u else n1 j) = _
    rw [if_neg (fun q => uv q.symm), if_pos rfl, if_pos rfl, h1, fl_e]
  · show (if j = u then n1 v else if j = v then n1 u else n1 j) = _
    rw [if_neg c, if_neg c]
    by_cases d : j = u
    · rw [if_pos d, if_pos d, h1, fl_ne (fun q => uv q.symm)]
    · rw [if_neg d, if_neg d, h1, fl_ne d]
theorem nb_fl {n n' : Nat → Int} {e x y z w : Nat} (h : ∀ j : Nat, j < 18 → 0 ≤ n j ∧ n j ≤ 100000000000000) (hn : n' = fl e x y z w n) (h0 : 0 ≤ n' e) (h1 : n' e ≤ 100000000000000) : ∀ j : Nat, j < 18 → 0 ≤ n' j ∧ n' j ≤ 100000000000000 := by
  intro j hj
  by_cases c : j = e
  · subst c; exact ⟨h0, h1⟩
  · rw [hn, fl_ne c]; exact h j hj
theorem nb_ex {n n' : Nat → Int} {u v : Nat} (hu : u < 18) (hv : v < 18) (h : ∀ j : Nat, j < 18 → n j ≤ 100000000000000) (hn : n' = fun j => if j = u then n v else if j = v then n u else n j) (g : ∀ j : Nat, j < 18 → 0 ≤ n' j) : ∀ j : Nat, j < 18 → 0 ≤ n' j ∧ n' j ≤ 100000000000000 := by
  intro j hj
  refine ⟨g j hj, ?_⟩
  rw [hn]
  show (if j = u then n v else if j = v then n u else n j) ≤ _
  by_cases c : j = u
  · rw [if_pos c]; exact h v hv
  · rw [if_neg c]
    by_cases d : j = v
    · rw [if_pos d]; exact h u hu
    · rw [if_neg d]; exact h j hj
/-- a word all lines of which are fair -/
def FW (z : mZ) (t a : Nat) : Prop := ∀ i : Nat, (i : Int) < z (t + 18) a → z (t + 20 + a) i < z t 3 ∧ z (17 + 2 * (z (t + 20 + a) i).toNat) 0 = 2
def GA (z0 z : mZ) (t : Nat) : Prop := ∀ l : Nat, (l : Int) < z0 t 3 → GRt z0 z t l

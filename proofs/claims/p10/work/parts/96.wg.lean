/-! numbers taken through roads, exactly: none where they are SPENT -/
/-- a road: its flips, how many, a b e f -/
abbrev Rdt : Type := (Nat → Nat → Nat) × Nat × Nat × Nat × Nat × Nat
/-- a word so often -/
def gwn (f : (Nat → Int) → Option (Nat → Int)) : Nat → (Nat → Int) → Option (Nat → Int)
  | 0, n => some n
  | k + 1, n => (gwn f k n).bind f
section
variable {cf : Nat → Nat → Nat} {n a a' : Nat → Int} {k k' K : Nat}
end
section
variable {cf cf' : Nat → Nat → Nat} {K : Nat} {a b : Nat → Int}
end
/-- roads alike -/
def Req (r r' : Rdt) : Prop := (∀ i j, i < r.2.1 → j < 5 → r.1 i j < 18) ∧ (∀ i j, i < r.2.1 → j < 5 → r'.1 i j = r.1 i j) ∧ r'.2 = r.2 ∧ r.2.2.1 < 18 ∧ r.2.2.2.1 < 18 ∧ r.2.2.2.2.1 < 18 ∧ r.2.2.2.2.2 < 18
/-- the roads as both keep them -/
def rdc (z : mZ) (l : Nat) : Rdt := (cfR (z (18 + 2 * l)), (z (17 + 2 * l) 1).toNat, (z (17 + 2 * l) 2).toNat, (z (17 + 2 * l) 3).toNat, (z (17 + 2 * l) 4).toNat, (z (17 + 2 * l) 5).toNat)
def rdr (z : mZ) (l : Nat) : Rdt := (cfQ z l, (z 248 l).toNat, (z 251 l).toNat, (z 252 l).toNat, (z 249 l).toNat, (z 250 l).toNat)
theorem rdc_f {z z' : mZ} {l : Nat} (h : ∀ i, i ≤ 5 → z' (17 + 2 * l) i = z (17 + 2 * l) i) (k : z' (18 + 2 * l) = z (18 + 2 * l)) : rdc z' l = rdc z l := by
  unfold rdc
  rw [k, h 1 (by omega), h 2 (by omega), h 3 (by omega), h 4 (by omega), h 5 (by omega)]
theorem rdr_f {z z' : mZ} {l : Nat} (h : ∀ a, 247 ≤ a → a ≤ 252 → z' a = z a) : rdr z' l = rdr z l := by
  unfold rdr cfQ
  rw [h 247 (by omega) (by omega), h 248 (by omega) (by omega), h 249 (by omega) (by omega), h 250 (by omega) (by omega), h 251 (by omega) (by omega), h 252 (by omega) (by omega)]
section
variable {r : Rdt} {u v k k' : Nat} {t : Int} {n0 a a' : Nat → Int}
end

section
variable {z w z1 w1 z2 w2 : mZ} {p : mP} {t : Nat} {a b c : Int} {V V' : Value}
/-- number -/
def kqNc (a b : Int) : mZ → mZ → mP → Nat → Value → Prop := fun z w _ t V => ∃ v, V = .long (Int64.ofInt v) ∧ (((a = -1 ∧ (0 ≤ b ∧ b < z t 1)) ∧ v = w (aR z (z 39 0)) b.toNat) ∨ (((0 ≤ a ∧ a < z t 3) ∧ (0 ≤ b ∧ b < z t 1)) ∧ v = w (t + 8 + a.toNat) b.toNat) ∨ (¬ ((a = -1 ∨ (0 ≤ a ∧ a < z t 3)) ∧ (0 ≤ b ∧ b < z t 1)) ∧ v = -2))
def kqNr (a b : Int) : mZ → mZ → Value → Prop := fun z w V => ∃ v, V = .long (Int64.ofInt v) ∧ (((a = -1 ∧ (0 ≤ b ∧ b < 3 * z 225 26 / 2)) ∧ v = w 270 b.toNat) ∨ (((0 ≤ a ∧ a < z 225 27) ∧ (0 ≤ b ∧ b < 3 * z 225 26 / 2)) ∧ v = z 236 (18 * a.toNat + b.toNat)) ∨ (¬ ((a = -1 ∨ (0 ≤ a ∧ a < z 225 27)) ∧ (0 ≤ b ∧ b < 3 * z 225 26 / 2)) ∧ v = -2))
theorem st_number (C : CV z w t) (ht : isT t) (hz : rz z) (x : XR z w p t) (h8 : z t 3 ≤ 8) (d : BD39 z) (f : kqF z w z1 w1) (L : LN (rE z) z w z1 w1) (A : kqNc a b z w p t V) (B : kqNr a b z1 w1 V') : V = V' := by
  obtain ⟨v, rfl, h⟩ := A
  obtain ⟨v', rfl, h'⟩ := B
  have y2 : z t 3 = z 225 27 := x.1.1.1.1.2.1
  have eE : 3 * z 225 26 / 2 = z t 1 := XT_E C x.1
  have hT18 := rd_T_1 ht hz
  rw [(f 225 (by omega)).1, (f 236 (by omega)).1, eE] at h'
  have e : v = v' := by
    by_cases q : 0 ≤ b ∧ b < z t 1
    · by_cases k : a = -1
      · have n := (LN_now d L (e := b.toNat) (by omega)).1
        omega
      · by_cases l : 0 ≤ a ∧ a < z t 3
        · have n := XT_n x.1 h8 (l := a.toNat) (by omega) b.toNat (by omega)
          rw [tr_l (show ((b.toNat : Nat) : Int) < rE z by rw [XT_E C x.1]; omega)] at n
          have n : z 236 (18 * a.toNat + b.toNat) = w (t + 8 + a.toNat) b.toNat := n
          omega
        · omega
    · omega
  rw [e]
end

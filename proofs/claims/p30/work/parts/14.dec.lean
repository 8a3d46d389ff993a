/-! instructions out of a method's bytes, read once from the first to the last -/
def qd_rn {α : Type} (m : Decoder α) (c : ByteArray) (p : Nat) (r : α × Nat) : Prop := Reader.runAt m c p = .ok r
theorem qd_rb {α β : Type} {m : Decoder α} {f : α → Decoder β} {c : ByteArray} {p q : Nat} {a : α} {r : β × Nat} (h1 : qd_rn m c p (a, q)) (h2 : qd_rn (f a) c q r) : qd_rn (m >>= f) c p r := by
  have e1 : Reader.runAt m c p = .ok (a, q) := h1
  have e2 : Reader.runAt (f a) c q = .ok r := h2
  have e3 : Reader.runAt (m >>= f) c p = Except.bind (Reader.runAt m c p) (fun x => Reader.runAt (f x.1) c x.2) := rfl
  exact e3.trans (by rw [e1]; exact e2)
theorem qd_rp {α : Type} {a : α} {c : ByteArray} {p : Nat} : qd_rn (pure a : Decoder α) c p (a, p) := rfl
theorem qd_rm {α β : Type} {m : Decoder α} {g : α → β} {c : ByteArray} {p q : Nat} {a : α} (h : qd_rn m c p (a, q)) : qd_rn (g <$> m) c p (g a, q) := by
  have e1 : Reader.runAt m c p = .ok (a, q) := h
  have e3 : Reader.runAt (g <$> m) c p = Except.bind (Reader.runAt m c p) (fun x => .ok (g x.1, x.2)) := rfl
  exact e3.trans (by rw [e1]; rfl)
theorem qd_u1 {c : ByteArray} {p : Nat} {b : UInt8} {l : List UInt8} (h : c.data.toList.drop p = b :: l) : qd_rn (Reader.u1 : Decoder Nat) c p (b.toNat, p + 1) ∧ c.data.toList.drop (p + 1) = l := by
  have hp : p < c.data.toList.length := by
    rcases Nat.lt_or_ge p c.data.toList.length with q | q
    · exact q
    · rw [List.drop_eq_nil_of_le q] at h; cases h
  rw [List.drop_eq_getElem_cons hp] at h
  injection h with h1 h2
  refine ⟨?_, h2⟩
  have hs : p < c.size := hp
  have hv : c[p]'hs = b := h1
  have e : Reader.runAt (Reader.u1 : Decoder Nat) c p = Reader.runAt (dite (p < c.size) (fun h => (do set (p + 1); pure (c[p]'h).toNat : Decoder Nat)) (fun _ => throw (HasTruncated.truncated p))) c p := rfl
  unfold qd_rn
  rw [e, dif_pos hs, hv]
  rfl
theorem qd_u2 {c : ByteArray} {p : Nat} {a b : UInt8} {l : List UInt8} (h : c.data.toList.drop p = a :: b :: l) : qd_rn (Reader.u2 : Decoder Nat) c p (a.toNat * 256 + b.toNat, p + 2) ∧ c.data.toList.drop (p + 2) = l := by
  obtain ⟨h1, g1⟩ := qd_u1 h
  obtain ⟨h2, g2⟩ := qd_u1 g1
  exact ⟨qd_rb h1 (qd_rb h2 qd_rp), g2⟩
theorem qd_dec {c : ByteArray} {p n : Nat} {i : Instr} (h : qd_rn (Decoder.instr p) c p (i, p + n)) : decode c p = .ok (i, n) := by
  have e : decode c p = Except.bind (Reader.runAt (Decoder.instr p) c p) (fun x => .ok (x.1, x.2 - p)) := rfl
  have h : Reader.runAt (Decoder.instr p) c p = .ok (i, p + n) := h
  rw [e, h]
  show Except.ok (i, p + n - p) = _
  rw [Nat.add_sub_cancel_left]
abbrev qd_R : Type := Option (Instr × Nat × List UInt8)
def qd_k0 (i : Instr) (r : List UInt8) : qd_R := some (i, 1, r)
def qd_k1 (f : Nat → Instr) (r : List UInt8) : qd_R := match r with
  | a :: t => some (f a.toNat, 2, t)
  | [] => none
def qd_k1s (f : Int → Instr) (r : List UInt8) : qd_R := match r with
  | a :: t => some (f (Reader.signed 8 a.toNat), 2, t)
  | [] => none
def qd_k2 (f : Nat → Instr) (r : List UInt8) : qd_R := match r with
  | a :: b :: t => some (f (a.toNat * 256 + b.toNat), 3, t)
  | _ => none
def qd_k2s (f : Int → Instr) (r : List UInt8) : qd_R := match r with
  | a :: b :: t => some (f (Reader.signed 16 (a.toNat * 256 + b.toNat)), 3, t)
  | _ => none
def qd_ki (r : List UInt8) : qd_R := match r with
  | a :: b :: t => some (.iinc a.toNat (Reader.signed 8 b.toNat), 3, t)
  | _ => none
def qd_at (n : Nat) : Option ArrayType := if n = 10 then some .int else if n = 11 then some .long else if n = 4 then some .boolean else if n = 8 then some .byte else none
theorem qd_at_s {n : Nat} {ty : ArrayType} (h : qd_at n = some ty) : (n = 10 ∧ ty = .int) ∨ (n = 11 ∧ ty = .long) ∨ (n = 4 ∧ ty = .boolean) ∨ (n = 8 ∧ ty = .byte) := by
  unfold qd_at at h
  split at h
  · rename_i q
    cases h
    exact Or.inl ⟨q, rfl⟩
  · split at h
    · rename_i q
      cases h
      exact Or.inr (Or.inl ⟨q, rfl⟩)
    · split at h
      · rename_i q
        cases h
        exact Or.inr (Or.inr (Or.inl ⟨q, rfl⟩))
      · split at h
        · rename_i q
          cases h
          exact Or.inr (Or.inr (Or.inr ⟨q, rfl⟩))
        · cases h
def qd_kn (r : List UInt8) : qd_R := match r with
  | a :: t => match qd_at a.toNat with
    | some ty => some (.newarray ty, 2, t)
    | none => none
  | [] => none
section
variable {c : ByteArray} {p n : Nat} {b : UInt8} {l t : List UInt8} {i : Instr}
theorem qd_k0_ok {i' : Instr} (h : c.data.toList.drop p = b :: l) (e : qd_k0 i' l = some (i, n, t)) (hr : qd_rn (Decoder.instr p) c p (i', p + 1)) : decode c p = .ok (i, n) ∧ c.data.toList.drop (p + n) = t := by
  cases e
  exact ⟨qd_dec hr, (qd_u1 h).2⟩
theorem qd_k1_ok {f : Nat → Instr} (h : c.data.toList.drop p = b :: l) (e : qd_k1 f l = some (i, n, t)) (hr : ∀ x q, qd_rn (Reader.u1 : Decoder Nat) c (p + 1) (x, q) → qd_rn (Decoder.instr p) c p (f x, q)) : decode c p = .ok (i, n) ∧ c.data.toList.drop (p + n) = t := by
  unfold qd_k1 at e
  split at e
  · cases e
    obtain ⟨k1, k2⟩ := qd_u1 (qd_u1 h).2
    exact ⟨qd_dec (hr _ _ k1), k2⟩
  · cases e
theorem qd_k1s_ok {f : Int → Instr} (h : c.data.toList.drop p = b :: l) (e : qd_k1s f l = some (i, n, t)) (hr : ∀ x q, qd_rn (Reader.s1 : Decoder Int) c (p + 1) (x, q) → qd_rn (Decoder.instr p) c p (f x, q)) : decode c p = .ok (i, n) ∧ c.data.toList.drop (p + n) = t := by
  unfold qd_k1s at e
  split at e
  · cases e
    obtain ⟨k1, k2⟩ := qd_u1 (qd_u1 h).2
    exact ⟨qd_dec (hr _ _ (qd_rm k1)), k2⟩
  · cases e
theorem qd_k2_ok {f : Nat → Instr} (h : c.data.toList.drop p = b :: l) (e : qd_k2 f l = some (i, n, t)) (hr : ∀ x q, qd_rn (Reader.u2 : Decoder Nat) c (p + 1) (x, q) → qd_rn (Decoder.instr p) c p (f x, q)) : decode c p = .ok (i, n) ∧ c.data.toList.drop (p + n) = t := by
  unfold qd_k2 at e
  split at e
  · cases e
    obtain ⟨k1, k2⟩ := qd_u2 (qd_u1 h).2
    exact ⟨qd_dec (hr _ _ k1), k2⟩
  · cases e
theorem qd_k2s_ok {f : Int → Instr} (h : c.data.toList.drop p = b :: l) (e : qd_k2s f l = some (i, n, t)) (hr : ∀ x q, qd_rn (Reader.s2 : Decoder Int) c (p + 1) (x, q) → qd_rn (Decoder.instr p) c p (f x, q)) : decode c p = .ok (i, n) ∧ c.data.toList.drop (p + n) = t := by
  unfold qd_k2s at e
  split at e
  · cases e
    obtain ⟨k1, k2⟩ := qd_u2 (qd_u1 h).2
    exact ⟨qd_dec (hr _ _ (qd_rm k1)), k2⟩
  · cases e
theorem qd_ki_ok (h : c.data.toList.drop p = b :: l) (e : qd_ki l = some (i, n, t)) (hr : ∀ x y q q2, qd_rn (Reader.u1 : Decoder Nat) c (p + 1) (x, q) → qd_rn (Reader.s1 : Decoder Int) c q (y, q2) → qd_rn (Decoder.instr p) c p (.iinc x y, q2)) : decode c p = .ok (i, n) ∧ c.data.toList.drop (p + n) = t := by
  unfold qd_ki at e
  split at e
  · cases e
    obtain ⟨k1, k2⟩ := qd_u1 (qd_u1 h).2
    obtain ⟨k3, k4⟩ := qd_u1 k2
    exact ⟨qd_dec (hr _ _ _ _ k1 (qd_rm k3)), k4⟩
  · cases e
theorem qd_kn_ok (h : c.data.toList.drop p = b :: l) (e : qd_kn l = some (i, n, t)) (hr : ∀ x q ty, qd_at x = some ty → qd_rn (Reader.u1 : Decoder Nat) c (p + 1) (x, q) → qd_rn (Decoder.instr p) c p (.newarray ty, q)) : decode c p = .ok (i, n) ∧ c.data.toList.drop (p + n) = t := by
  unfold qd_kn at e
  split at e
  · split at e
    · rename_i ty e2
      cases e
      obtain ⟨k1, k2⟩ := qd_u1 (qd_u1 h).2
      exact ⟨qd_dec (hr _ _ _ e2 k1), k2⟩
    · cases e
  · cases e
end
/-- an opcode, and what is read behind it, as 'decode' has it -/
def qd_good (f : Nat × (List UInt8 → qd_R)) : Prop := ∀ (c : ByteArray) (p n : Nat) (b : UInt8) (l t : List UInt8) (i : Instr), c.data.toList.drop p = b :: l → qd_rn (Reader.u1 : Decoder Nat) c p (f.1, p + 1) → f.2 l = some (i, n, t) → decode c p = .ok (i, n) ∧ c.data.toList.drop (p + n) = t
theorem qd_g42 : qd_good (42, qd_k0 (.aload_n 0)) := fun _ _ _ _ _ _ _ h hu e => qd_k0_ok h e (qd_rb (a := 42) hu qd_rp)
theorem qd_g180 : qd_good (180, qd_k2 .getfield) := fun _ _ _ _ _ _ _ h hu e => qd_k2_ok h e (fun x q hx => qd_rb (a := 180) hu (qd_rb hx qd_rp))
theorem qd_g182 : qd_good (182, qd_k2 .invokevirtual) := fun _ _ _ _ _ _ _ h hu e => qd_k2_ok h e (fun x q hx => qd_rb (a := 182) hu (qd_rb hx qd_rp))
theorem qd_g27 : qd_good (27, qd_k0 (.iload_n 1)) := fun _ _ _ _ _ _ _ h hu e => qd_k0_ok h e (qd_rb (a := 27) hu qd_rp)
theorem qd_g3 : qd_good (3, qd_k0 (.iconst 0)) := fun _ _ _ _ _ _ _ h hu e => qd_k0_ok h e (qd_rb (a := 3) hu qd_rp)
theorem qd_g167 : qd_good (167, qd_k2s .goto) := fun _ _ _ _ _ _ _ h hu e => qd_k2s_ok h e (fun x q hx => qd_rb (a := 167) hu (qd_rb hx qd_rp))
theorem qd_g28 : qd_good (28, qd_k0 (.iload_n 2)) := fun _ _ _ _ _ _ _ h hu e => qd_k0_ok h e (qd_rb (a := 28) hu qd_rp)
theorem qd_g46 : qd_good (46, qd_k0 .iaload) := fun _ _ _ _ _ _ _ h hu e => qd_k0_ok h e (qd_rb (a := 46) hu qd_rp)
theorem qd_g4 : qd_good (4, qd_k0 (.iconst 1)) := fun _ _ _ _ _ _ _ h hu e => qd_k0_ok h e (qd_rb (a := 4) hu qd_rp)
theorem qd_g29 : qd_good (29, qd_k0 (.iload_n 3)) := fun _ _ _ _ _ _ _ h hu e => qd_k0_ok h e (qd_rb (a := 29) hu qd_rp)
theorem qd_g181 : qd_good (181, qd_k2 .putfield) := fun _ _ _ _ _ _ _ h hu e => qd_k2_ok h e (fun x q hx => qd_rb (a := 181) hu (qd_rb hx qd_rp))
theorem qd_g172 : qd_good (172, qd_k0 .ireturn) := fun _ _ _ _ _ _ _ h hu e => qd_k0_ok h e (qd_rb (a := 172) hu qd_rp)
theorem qd_g16 : qd_good (16, qd_k1s .bipush) := fun _ _ _ _ _ _ _ h hu e => qd_k1s_ok h e (fun x q hx => qd_rb (a := 16) hu (qd_rb hx qd_rp))
theorem qd_g96 : qd_good (96, qd_k0 .iadd) := fun _ _ _ _ _ _ _ h hu e => qd_k0_ok h e (qd_rb (a := 96) hu qd_rp)
theorem qd_g21 : qd_good (21, qd_k1 .iload) := fun _ _ _ _ _ _ _ h hu e => qd_k1_ok h e (fun x q hx => qd_rb (a := 21) hu (qd_rb hx qd_rp))
theorem qd_g162 : qd_good (162, qd_k2s (.if_icmp .ge)) := fun _ _ _ _ _ _ _ h hu e => qd_k2s_ok h e (fun x q hx => qd_rb (a := 162) hu (qd_rb hx qd_rp))
theorem qd_g132 : qd_good (132, qd_ki) := fun _ _ _ _ _ _ _ h hu e => qd_ki_ok h e (fun x y q q2 hx hy => qd_rb (a := 132) hu (qd_rb hx (qd_rb hy qd_rp)))
theorem qd_g154 : qd_good (154, qd_k2s (.ifCond .ne)) := fun _ _ _ _ _ _ _ h hu e => qd_k2s_ok h e (fun x q hx => qd_rb (a := 154) hu (qd_rb hx qd_rp))
theorem qd_g153 : qd_good (153, qd_k2s (.ifCond .eq)) := fun _ _ _ _ _ _ _ h hu e => qd_k2s_ok h e (fun x q hx => qd_rb (a := 153) hu (qd_rb hx qd_rp))
theorem qd_g177 : qd_good (177, qd_k0 .return_) := fun _ _ _ _ _ _ _ h hu e => qd_k0_ok h e (qd_rb (a := 177) hu qd_rp)
theorem qd_g47 : qd_good (47, qd_k0 .laload) := fun _ _ _ _ _ _ _ h hu e => qd_k0_ok h e (qd_rb (a := 47) hu qd_rp)
theorem qd_g61 : qd_good (61, qd_k0 (.istore_n 2)) := fun _ _ _ _ _ _ _ h hu e => qd_k0_ok h e (qd_rb (a := 61) hu qd_rp)
theorem qd_g43 : qd_good (43, qd_k0 (.aload_n 1)) := fun _ _ _ _ _ _ _ h hu e => qd_k0_ok h e (qd_rb (a := 43) hu qd_rp)
theorem qd_g6 : qd_good (6, qd_k0 (.iconst 3)) := fun _ _ _ _ _ _ _ h hu e => qd_k0_ok h e (qd_rb (a := 6) hu qd_rp)
theorem qd_g5 : qd_good (5, qd_k0 (.iconst 2)) := fun _ _ _ _ _ _ _ h hu e => qd_k0_ok h e (qd_rb (a := 5) hu qd_rp)
theorem qd_g54 : qd_good (54, qd_k1 .istore) := fun _ _ _ _ _ _ _ h hu e => qd_k1_ok h e (fun x q hx => qd_rb (a := 54) hu (qd_rb hx qd_rp))
theorem qd_g104 : qd_good (104, qd_k0 .imul) := fun _ _ _ _ _ _ _ h hu e => qd_k0_ok h e (qd_rb (a := 104) hu qd_rp)
theorem qd_g79 : qd_good (79, qd_k0 .iastore) := fun _ _ _ _ _ _ _ h hu e => qd_k0_ok h e (qd_rb (a := 79) hu qd_rp)
theorem qd_g2 : qd_good (2, qd_k0 (.iconst (-1))) := fun _ _ _ _ _ _ _ h hu e => qd_k0_ok h e (qd_rb (a := 2) hu qd_rp)
theorem qd_g184 : qd_good (184, qd_k2 .invokestatic) := fun _ _ _ _ _ _ _ h hu e => qd_k2_ok h e (fun x q hx => qd_rb (a := 184) hu (qd_rb hx qd_rp))
theorem qd_g60 : qd_good (60, qd_k0 (.istore_n 1)) := fun _ _ _ _ _ _ _ h hu e => qd_k0_ok h e (qd_rb (a := 60) hu qd_rp)
theorem qd_g20 : qd_good (20, qd_k2 .ldc2_w) := fun _ _ _ _ _ _ _ h hu e => qd_k2_ok h e (fun x q hx => qd_rb (a := 20) hu (qd_rb hx qd_rp))
theorem qd_g62 : qd_good (62, qd_k0 (.istore_n 3)) := fun _ _ _ _ _ _ _ h hu e => qd_k0_ok h e (qd_rb (a := 62) hu qd_rp)
theorem qd_g160 : qd_good (160, qd_k2s (.if_icmp .ne)) := fun _ _ _ _ _ _ _ h hu e => qd_k2s_ok h e (fun x q hx => qd_rb (a := 160) hu (qd_rb hx qd_rp))
theorem qd_g188 : qd_good (188, qd_kn) := by
  intro c p n b l t i h hu e
  refine qd_kn_ok h e (fun x q ty hx hy => ?_)
  rcases qd_at_s hx with ⟨rfl, rfl⟩ | ⟨rfl, rfl⟩ | ⟨rfl, rfl⟩ | ⟨rfl, rfl⟩
  · exact qd_rb (a := 188) hu (qd_rb (a := 10) hy qd_rp)
  · exact qd_rb (a := 188) hu (qd_rb (a := 11) hy qd_rp)
  · exact qd_rb (a := 188) hu (qd_rb (a := 4) hy qd_rp)
  · exact qd_rb (a := 188) hu (qd_rb (a := 8) hy qd_rp)
theorem qd_g100 : qd_good (100, qd_k0 .isub) := fun _ _ _ _ _ _ _ h hu e => qd_k0_ok h e (qd_rb (a := 100) hu qd_rp)
theorem qd_g80 : qd_good (80, qd_k0 .lastore) := fun _ _ _ _ _ _ _ h hu e => qd_k0_ok h e (qd_rb (a := 80) hu qd_rp)
theorem qd_g1 : qd_good (1, qd_k0 .aconst_null) := fun _ _ _ _ _ _ _ h hu e => qd_k0_ok h e (qd_rb (a := 1) hu qd_rp)
theorem qd_g7 : qd_good (7, qd_k0 (.iconst 4)) := fun _ _ _ _ _ _ _ h hu e => qd_k0_ok h e (qd_rb (a := 7) hu qd_rp)
theorem qd_g8 : qd_good (8, qd_k0 (.iconst 5)) := fun _ _ _ _ _ _ _ h hu e => qd_k0_ok h e (qd_rb (a := 8) hu qd_rp)
theorem qd_g9 : qd_good (9, qd_k0 (.lconst 0)) := fun _ _ _ _ _ _ _ h hu e => qd_k0_ok h e (qd_rb (a := 9) hu qd_rp)
theorem qd_g10 : qd_good (10, qd_k0 (.lconst 1)) := fun _ _ _ _ _ _ _ h hu e => qd_k0_ok h e (qd_rb (a := 10) hu qd_rp)
theorem qd_g17 : qd_good (17, qd_k2s .sipush) := fun _ _ _ _ _ _ _ h hu e => qd_k2s_ok h e (fun x q hx => qd_rb (a := 17) hu (qd_rb hx qd_rp))
theorem qd_g18 : qd_good (18, qd_k1 .ldc) := fun _ _ _ _ _ _ _ h hu e => qd_k1_ok h e (fun x q hx => qd_rb (a := 18) hu (qd_rb hx qd_rp))
theorem qd_g19 : qd_good (19, qd_k2 .ldc_w) := fun _ _ _ _ _ _ _ h hu e => qd_k2_ok h e (fun x q hx => qd_rb (a := 19) hu (qd_rb hx qd_rp))
theorem qd_g22 : qd_good (22, qd_k1 .lload) := fun _ _ _ _ _ _ _ h hu e => qd_k1_ok h e (fun x q hx => qd_rb (a := 22) hu (qd_rb hx qd_rp))
theorem qd_g25 : qd_good (25, qd_k1 .aload) := fun _ _ _ _ _ _ _ h hu e => qd_k1_ok h e (fun x q hx => qd_rb (a := 25) hu (qd_rb hx qd_rp))
theorem qd_g26 : qd_good (26, qd_k0 (.iload_n 0)) := fun _ _ _ _ _ _ _ h hu e => qd_k0_ok h e (qd_rb (a := 26) hu qd_rp)
theorem qd_g30 : qd_good (30, qd_k0 (.lload_n 0)) := fun _ _ _ _ _ _ _ h hu e => qd_k0_ok h e (qd_rb (a := 30) hu qd_rp)
theorem qd_g31 : qd_good (31, qd_k0 (.lload_n 1)) := fun _ _ _ _ _ _ _ h hu e => qd_k0_ok h e (qd_rb (a := 31) hu qd_rp)
theorem qd_g32 : qd_good (32, qd_k0 (.lload_n 2)) := fun _ _ _ _ _ _ _ h hu e => qd_k0_ok h e (qd_rb (a := 32) hu qd_rp)
theorem qd_g33 : qd_good (33, qd_k0 (.lload_n 3)) := fun _ _ _ _ _ _ _ h hu e => qd_k0_ok h e (qd_rb (a := 33) hu qd_rp)
theorem qd_g44 : qd_good (44, qd_k0 (.aload_n 2)) := fun _ _ _ _ _ _ _ h hu e => qd_k0_ok h e (qd_rb (a := 44) hu qd_rp)
theorem qd_g45 : qd_good (45, qd_k0 (.aload_n 3)) := fun _ _ _ _ _ _ _ h hu e => qd_k0_ok h e (qd_rb (a := 45) hu qd_rp)
theorem qd_g50 : qd_good (50, qd_k0 .aaload) := fun _ _ _ _ _ _ _ h hu e => qd_k0_ok h e (qd_rb (a := 50) hu qd_rp)
theorem qd_g51 : qd_good (51, qd_k0 .baload) := fun _ _ _ _ _ _ _ h hu e => qd_k0_ok h e (qd_rb (a := 51) hu qd_rp)
theorem qd_g55 : qd_good (55, qd_k1 .lstore) := fun _ _ _ _ _ _ _ h hu e => qd_k1_ok h e (fun x q hx => qd_rb (a := 55) hu (qd_rb hx qd_rp))
theorem qd_g58 : qd_good (58, qd_k1 .astore) := fun _ _ _ _ _ _ _ h hu e => qd_k1_ok h e (fun x q hx => qd_rb (a := 58) hu (qd_rb hx qd_rp))
theorem qd_g59 : qd_good (59, qd_k0 (.istore_n 0)) := fun _ _ _ _ _ _ _ h hu e => qd_k0_ok h e (qd_rb (a := 59) hu qd_rp)
theorem qd_g63 : qd_good (63, qd_k0 (.lstore_n 0)) := fun _ _ _ _ _ _ _ h hu e => qd_k0_ok h e (qd_rb (a := 63) hu qd_rp)
theorem qd_g64 : qd_good (64, qd_k0 (.lstore_n 1)) := fun _ _ _ _ _ _ _ h hu e => qd_k0_ok h e (qd_rb (a := 64) hu qd_rp)
theorem qd_g65 : qd_good (65, qd_k0 (.lstore_n 2)) := fun _ _ _ _ _ _ _ h hu e => qd_k0_ok h e (qd_rb (a := 65) hu qd_rp)
theorem qd_g66 : qd_good (66, qd_k0 (.lstore_n 3)) := fun _ _ _ _ _ _ _ h hu e => qd_k0_ok h e (qd_rb (a := 66) hu qd_rp)
theorem qd_g75 : qd_good (75, qd_k0 (.astore_n 0)) := fun _ _ _ _ _ _ _ h hu e => qd_k0_ok h e (qd_rb (a := 75) hu qd_rp)
theorem qd_g76 : qd_good (76, qd_k0 (.astore_n 1)) := fun _ _ _ _ _ _ _ h hu e => qd_k0_ok h e (qd_rb (a := 76) hu qd_rp)
theorem qd_g77 : qd_good (77, qd_k0 (.astore_n 2)) := fun _ _ _ _ _ _ _ h hu e => qd_k0_ok h e (qd_rb (a := 77) hu qd_rp)
theorem qd_g78 : qd_good (78, qd_k0 (.astore_n 3)) := fun _ _ _ _ _ _ _ h hu e => qd_k0_ok h e (qd_rb (a := 78) hu qd_rp)
theorem qd_g83 : qd_good (83, qd_k0 .aastore) := fun _ _ _ _ _ _ _ h hu e => qd_k0_ok h e (qd_rb (a := 83) hu qd_rp)
theorem qd_g84 : qd_good (84, qd_k0 .bastore) := fun _ _ _ _ _ _ _ h hu e => qd_k0_ok h e (qd_rb (a := 84) hu qd_rp)
theorem qd_g87 : qd_good (87, qd_k0 .pop) := fun _ _ _ _ _ _ _ h hu e => qd_k0_ok h e (qd_rb (a := 87) hu qd_rp)
theorem qd_g88 : qd_good (88, qd_k0 .pop2) := fun _ _ _ _ _ _ _ h hu e => qd_k0_ok h e (qd_rb (a := 88) hu qd_rp)
theorem qd_g89 : qd_good (89, qd_k0 .dup) := fun _ _ _ _ _ _ _ h hu e => qd_k0_ok h e (qd_rb (a := 89) hu qd_rp)
theorem qd_g92 : qd_good (92, qd_k0 .dup2) := fun _ _ _ _ _ _ _ h hu e => qd_k0_ok h e (qd_rb (a := 92) hu qd_rp)
theorem qd_g97 : qd_good (97, qd_k0 .ladd) := fun _ _ _ _ _ _ _ h hu e => qd_k0_ok h e (qd_rb (a := 97) hu qd_rp)
theorem qd_g101 : qd_good (101, qd_k0 .lsub) := fun _ _ _ _ _ _ _ h hu e => qd_k0_ok h e (qd_rb (a := 101) hu qd_rp)
theorem qd_g105 : qd_good (105, qd_k0 .lmul) := fun _ _ _ _ _ _ _ h hu e => qd_k0_ok h e (qd_rb (a := 105) hu qd_rp)
theorem qd_g108 : qd_good (108, qd_k0 .idiv) := fun _ _ _ _ _ _ _ h hu e => qd_k0_ok h e (qd_rb (a := 108) hu qd_rp)
theorem qd_g109 : qd_good (109, qd_k0 .ldiv) := fun _ _ _ _ _ _ _ h hu e => qd_k0_ok h e (qd_rb (a := 109) hu qd_rp)
theorem qd_g112 : qd_good (112, qd_k0 .irem) := fun _ _ _ _ _ _ _ h hu e => qd_k0_ok h e (qd_rb (a := 112) hu qd_rp)
theorem qd_g113 : qd_good (113, qd_k0 .lrem) := fun _ _ _ _ _ _ _ h hu e => qd_k0_ok h e (qd_rb (a := 113) hu qd_rp)
theorem qd_g116 : qd_good (116, qd_k0 .ineg) := fun _ _ _ _ _ _ _ h hu e => qd_k0_ok h e (qd_rb (a := 116) hu qd_rp)
theorem qd_g117 : qd_good (117, qd_k0 .lneg) := fun _ _ _ _ _ _ _ h hu e => qd_k0_ok h e (qd_rb (a := 117) hu qd_rp)
theorem qd_g120 : qd_good (120, qd_k0 .ishl) := fun _ _ _ _ _ _ _ h hu e => qd_k0_ok h e (qd_rb (a := 120) hu qd_rp)
theorem qd_g121 : qd_good (121, qd_k0 .lshl) := fun _ _ _ _ _ _ _ h hu e => qd_k0_ok h e (qd_rb (a := 121) hu qd_rp)
theorem qd_g122 : qd_good (122, qd_k0 .ishr) := fun _ _ _ _ _ _ _ h hu e => qd_k0_ok h e (qd_rb (a := 122) hu qd_rp)
theorem qd_g123 : qd_good (123, qd_k0 .lshr) := fun _ _ _ _ _ _ _ h hu e => qd_k0_ok h e (qd_rb (a := 123) hu qd_rp)
theorem qd_g126 : qd_good (126, qd_k0 .iand) := fun _ _ _ _ _ _ _ h hu e => qd_k0_ok h e (qd_rb (a := 126) hu qd_rp)
theorem qd_g127 : qd_good (127, qd_k0 .land) := fun _ _ _ _ _ _ _ h hu e => qd_k0_ok h e (qd_rb (a := 127) hu qd_rp)
theorem qd_g128 : qd_good (128, qd_k0 .ior) := fun _ _ _ _ _ _ _ h hu e => qd_k0_ok h e (qd_rb (a := 128) hu qd_rp)
theorem qd_g129 : qd_good (129, qd_k0 .lor) := fun _ _ _ _ _ _ _ h hu e => qd_k0_ok h e (qd_rb (a := 129) hu qd_rp)
theorem qd_g131 : qd_good (131, qd_k0 .lxor) := fun _ _ _ _ _ _ _ h hu e => qd_k0_ok h e (qd_rb (a := 131) hu qd_rp)
theorem qd_g133 : qd_good (133, qd_k0 .i2l) := fun _ _ _ _ _ _ _ h hu e => qd_k0_ok h e (qd_rb (a := 133) hu qd_rp)
theorem qd_g136 : qd_good (136, qd_k0 .l2i) := fun _ _ _ _ _ _ _ h hu e => qd_k0_ok h e (qd_rb (a := 136) hu qd_rp)
theorem qd_g145 : qd_good (145, qd_k0 .i2b) := fun _ _ _ _ _ _ _ h hu e => qd_k0_ok h e (qd_rb (a := 145) hu qd_rp)
theorem qd_g148 : qd_good (148, qd_k0 .lcmp) := fun _ _ _ _ _ _ _ h hu e => qd_k0_ok h e (qd_rb (a := 148) hu qd_rp)
theorem qd_g155 : qd_good (155, qd_k2s (.ifCond .lt)) := fun _ _ _ _ _ _ _ h hu e => qd_k2s_ok h e (fun x q hx => qd_rb (a := 155) hu (qd_rb hx qd_rp))
theorem qd_g156 : qd_good (156, qd_k2s (.ifCond .ge)) := fun _ _ _ _ _ _ _ h hu e => qd_k2s_ok h e (fun x q hx => qd_rb (a := 156) hu (qd_rb hx qd_rp))
theorem qd_g157 : qd_good (157, qd_k2s (.ifCond .gt)) := fun _ _ _ _ _ _ _ h hu e => qd_k2s_ok h e (fun x q hx => qd_rb (a := 157) hu (qd_rb hx qd_rp))
theorem qd_g158 : qd_good (158, qd_k2s (.ifCond .le)) := fun _ _ _ _ _ _ _ h hu e => qd_k2s_ok h e (fun x q hx => qd_rb (a := 158) hu (qd_rb hx qd_rp))
theorem qd_g159 : qd_good (159, qd_k2s (.if_icmp .eq)) := fun _ _ _ _ _ _ _ h hu e => qd_k2s_ok h e (fun x q hx => qd_rb (a := 159) hu (qd_rb hx qd_rp))
theorem qd_g161 : qd_good (161, qd_k2s (.if_icmp .lt)) := fun _ _ _ _ _ _ _ h hu e => qd_k2s_ok h e (fun x q hx => qd_rb (a := 161) hu (qd_rb hx qd_rp))
theorem qd_g163 : qd_good (163, qd_k2s (.if_icmp .gt)) := fun _ _ _ _ _ _ _ h hu e => qd_k2s_ok h e (fun x q hx => qd_rb (a := 163) hu (qd_rb hx qd_rp))
theorem qd_g164 : qd_good (164, qd_k2s (.if_icmp .le)) := fun _ _ _ _ _ _ _ h hu e => qd_k2s_ok h e (fun x q hx => qd_rb (a := 164) hu (qd_rb hx qd_rp))
theorem qd_g173 : qd_good (173, qd_k0 .lreturn) := fun _ _ _ _ _ _ _ h hu e => qd_k0_ok h e (qd_rb (a := 173) hu qd_rp)
theorem qd_g176 : qd_good (176, qd_k0 .areturn) := fun _ _ _ _ _ _ _ h hu e => qd_k0_ok h e (qd_rb (a := 176) hu qd_rp)
theorem qd_g183 : qd_good (183, qd_k2 .invokespecial) := fun _ _ _ _ _ _ _ h hu e => qd_k2_ok h e (fun x q hx => qd_rb (a := 183) hu (qd_rb hx qd_rp))
theorem qd_g187 : qd_good (187, qd_k2 .new) := fun _ _ _ _ _ _ _ h hu e => qd_k2_ok h e (fun x q hx => qd_rb (a := 187) hu (qd_rb hx qd_rp))
theorem qd_g189 : qd_good (189, qd_k2 .anewarray) := fun _ _ _ _ _ _ _ h hu e => qd_k2_ok h e (fun x q hx => qd_rb (a := 189) hu (qd_rb hx qd_rp))
theorem qd_g190 : qd_good (190, qd_k0 .arraylength) := fun _ _ _ _ _ _ _ h hu e => qd_k0_ok h e (qd_rb (a := 190) hu qd_rp)
theorem qd_g198 : qd_good (198, qd_k2s .ifnull) := fun _ _ _ _ _ _ _ h hu e => qd_k2s_ok h e (fun x q hx => qd_rb (a := 198) hu (qd_rb hx qd_rp))
theorem qd_g199 : qd_good (199, qd_k2s .ifnonnull) := fun _ _ _ _ _ _ _ h hu e => qd_k2s_ok h e (fun x q hx => qd_rb (a := 199) hu (qd_rb hx qd_rp))
def qd_T : List (Nat × (List UInt8 → qd_R)) := [(42, qd_k0 (.aload_n 0)), (180, qd_k2 .getfield), (182, qd_k2 .invokevirtual), (27, qd_k0 (.iload_n 1)), (3, qd_k0 (.iconst 0)), (167, qd_k2s .goto), (28, qd_k0 (.iload_n 2)), (46, qd_k0 .iaload), (4, qd_k0 (.iconst 1)), (29, qd_k0 (.iload_n 3)), (181, qd_k2 .putfield), (172, qd_k0 .ireturn), (16, qd_k1s .bipush), (96, qd_k0 .iadd), (21, qd_k1 .iload), (162, qd_k2s (.if_icmp .ge)), (132, qd_ki), (154, qd_k2s (.ifCond .ne)), (153, qd_k2s (.ifCond .eq)), (177, qd_k0 .return_), (47, qd_k0 .laload), (61, qd_k0 (.istore_n 2)), (43, qd_k0 (.aload_n 1)), (6, qd_k0 (.iconst 3)), (5, qd_k0 (.iconst 2)), (54, qd_k1 .istore), (104, qd_k0 .imul), (79, qd_k0 .iastore), (2, qd_k0 (.iconst (-1))), (184, qd_k2 .invokestatic), (60, qd_k0 (.istore_n 1)), (20, qd_k2 .ldc2_w), (62, qd_k0 (.istore_n 3)), (160, qd_k2s (.if_icmp .ne)), (188, qd_kn), (100, qd_k0 .isub), (80, qd_k0 .lastore), (1, qd_k0 .aconst_null), (7, qd_k0 (.iconst 4)), (8, qd_k0 (.iconst 5)), (9, qd_k0 (.lconst 0)), (10, qd_k0 (.lconst 1)), (17, qd_k2s .sipush), (18, qd_k1 .ldc), (19, qd_k2 .ldc_w), (22, qd_k1 .lload), (25, qd_k1 .aload), (26, qd_k0 (.iload_n 0)), (30, qd_k0 (.lload_n 0)), (31, qd_k0 (.lload_n 1)), (32, qd_k0 (.lload_n 2)), (33, qd_k0 (.lload_n 3)), (44, qd_k0 (.aload_n 2)), (45, qd_k0 (.aload_n 3)), (50, qd_k0 .aaload), (51, qd_k0 .baload), (55, qd_k1 .lstore), (58, qd_k1 .astore), (59, qd_k0 (.istore_n 0)), (63, qd_k0 (.lstore_n 0)), (64, qd_k0 (.lstore_n 1)), (65, qd_k0 (.lstore_n 2)), (66, qd_k0 (.lstore_n 3)), (75, qd_k0 (.astore_n 0)), (76, qd_k0 (.astore_n 1)), (77, qd_k0 (.astore_n 2)), (78, qd_k0 (.astore_n 3)), (83, qd_k0 .aastore), (84, qd_k0 .bastore), (87, qd_k0 .pop), (88, qd_k0 .pop2), (89, qd_k0 .dup), (92, qd_k0 .dup2), (97, qd_k0 .ladd), (101, qd_k0 .lsub), (105, qd_k0 .lmul), (108, qd_k0 .idiv), (109, qd_k0 .ldiv), (112, qd_k0 .irem), (113, qd_k0 .lrem), (116, qd_k0 .ineg), (117, qd_k0 .lneg), (120, qd_k0 .ishl), (121, qd_k0 .lshl), (122, qd_k0 .ishr), (123, qd_k0 .lshr), (126, qd_k0 .iand), (127, qd_k0 .land), (128, qd_k0 .ior), (129, qd_k0 .lor), (131, qd_k0 .lxor), (133, qd_k0 .i2l), (136, qd_k0 .l2i), (145, qd_k0 .i2b), (148, qd_k0 .lcmp), (155, qd_k2s (.ifCond .lt)), (156, qd_k2s (.ifCond .ge)), (157, qd_k2s (.ifCond .gt)), (158, qd_k2s (.ifCond .le)), (159, qd_k2s (.if_icmp .eq)), (161, qd_k2s (.if_icmp .lt)), (163, qd_k2s (.if_icmp .gt)), (164, qd_k2s (.if_icmp .le)), (173, qd_k0 .lreturn), (176, qd_k0 .areturn), (183, qd_k2 .invokespecial), (187, qd_k2 .new), (189, qd_k2 .anewarray), (190, qd_k0 .arraylength), (198, qd_k2s .ifnull), (199, qd_k2s .ifnonnull)]
theorem qd_T_ok : ∀ f ∈ qd_T, qd_good f := List.forall_mem_cons.mpr ⟨qd_g42, List.forall_mem_cons.mpr ⟨qd_g180, List.forall_mem_cons.mpr ⟨qd_g182, List.forall_mem_cons.mpr ⟨qd_g27, List.forall_mem_cons.mpr ⟨qd_g3, List.forall_mem_cons.mpr ⟨qd_g167, List.forall_mem_cons.mpr ⟨qd_g28, List.forall_mem_cons.mpr ⟨qd_g46, List.forall_mem_cons.mpr ⟨qd_g4, List.forall_mem_cons.mpr ⟨qd_g29, List.forall_mem_cons.mpr ⟨qd_g181, List.forall_mem_cons.mpr ⟨qd_g172, List.forall_mem_cons.mpr ⟨qd_g16, List.forall_mem_cons.mpr ⟨qd_g96, List.forall_mem_cons.mpr ⟨qd_g21, List.forall_mem_cons.mpr ⟨qd_g162, List.forall_mem_cons.mpr ⟨qd_g132, List.forall_mem_cons.mpr ⟨qd_g154, List.forall_mem_cons.mpr ⟨qd_g153, List.forall_mem_cons.mpr ⟨qd_g177, List.forall_mem_cons.mpr ⟨qd_g47, List.forall_mem_cons.mpr ⟨qd_g61, List.forall_mem_cons.mpr ⟨qd_g43, List.forall_mem_cons.mpr ⟨qd_g6, List.forall_mem_cons.mpr ⟨qd_g5, List.forall_mem_cons.mpr ⟨qd_g54, List.forall_mem_cons.mpr ⟨qd_g104, List.forall_mem_cons.mpr ⟨qd_g79, List.forall_mem_cons.mpr ⟨qd_g2, List.forall_mem_cons.mpr ⟨qd_g184, List.forall_mem_cons.mpr ⟨qd_g60, List.forall_mem_cons.mpr ⟨qd_g20, List.forall_mem_cons.mpr ⟨qd_g62, List.forall_mem_cons.mpr ⟨qd_g160, List.forall_mem_cons.mpr ⟨qd_g188, List.forall_mem_cons.mpr ⟨qd_g100, List.forall_mem_cons.mpr ⟨qd_g80, List.forall_mem_cons.mpr ⟨qd_g1, List.forall_mem_cons.mpr ⟨qd_g7, List.forall_mem_cons.mpr ⟨qd_g8, List.forall_mem_cons.mpr ⟨qd_g9, List.forall_mem_cons.mpr ⟨qd_g10, List.forall_mem_cons.mpr ⟨qd_g17, List.forall_mem_cons.mpr ⟨qd_g18, List.forall_mem_cons.mpr ⟨qd_g19, List.forall_mem_cons.mpr ⟨qd_g22, List.forall_mem_cons.mpr ⟨qd_g25, List.forall_mem_cons.mpr ⟨qd_g26, List.forall_mem_cons.mpr ⟨qd_g30, List.forall_mem_cons.mpr ⟨qd_g31, List.forall_mem_cons.mpr ⟨qd_g32, List.forall_mem_cons.mpr ⟨qd_g33, List.forall_mem_cons.mpr ⟨qd_g44, List.forall_mem_cons.mpr ⟨qd_g45, List.forall_mem_cons.mpr ⟨qd_g50, List.forall_mem_cons.mpr ⟨qd_g51, List.forall_mem_cons.mpr ⟨qd_g55, List.forall_mem_cons.mpr ⟨qd_g58, List.forall_mem_cons.mpr ⟨qd_g59, List.forall_mem_cons.mpr ⟨qd_g63, List.forall_mem_cons.mpr ⟨qd_g64, List.forall_mem_cons.mpr ⟨qd_g65, List.forall_mem_cons.mpr ⟨qd_g66, List.forall_mem_cons.mpr ⟨qd_g75, List.forall_mem_cons.mpr ⟨qd_g76, List.forall_mem_cons.mpr ⟨qd_g77, List.forall_mem_cons.mpr ⟨qd_g78, List.forall_mem_cons.mpr ⟨qd_g83, List.forall_mem_cons.mpr ⟨qd_g84, List.forall_mem_cons.mpr ⟨qd_g87, List.forall_mem_cons.mpr ⟨qd_g88, List.forall_mem_cons.mpr ⟨qd_g89, List.forall_mem_cons.mpr ⟨qd_g92, List.forall_mem_cons.mpr ⟨qd_g97, List.forall_mem_cons.mpr ⟨qd_g101, List.forall_mem_cons.mpr ⟨qd_g105, List.forall_mem_cons.mpr ⟨qd_g108, List.forall_mem_cons.mpr ⟨qd_g109, List.forall_mem_cons.mpr ⟨qd_g112, List.forall_mem_cons.mpr ⟨qd_g113, List.forall_mem_cons.mpr ⟨qd_g116, List.forall_mem_cons.mpr ⟨qd_g117, List.forall_mem_cons.mpr ⟨qd_g120, List.forall_mem_cons.mpr ⟨qd_g121, List.forall_mem_cons.mpr ⟨qd_g122, List.forall_mem_cons.mpr ⟨qd_g123, List.forall_mem_cons.mpr ⟨qd_g126, List.forall_mem_cons.mpr ⟨qd_g127, List.forall_mem_cons.mpr ⟨qd_g128, List.forall_mem_cons.mpr ⟨qd_g129, List.forall_mem_cons.mpr ⟨qd_g131, List.forall_mem_cons.mpr ⟨qd_g133, List.forall_mem_cons.mpr ⟨qd_g136, List.forall_mem_cons.mpr ⟨qd_g145, List.forall_mem_cons.mpr ⟨qd_g148, List.forall_mem_cons.mpr ⟨qd_g155, List.forall_mem_cons.mpr ⟨qd_g156, List.forall_mem_cons.mpr ⟨qd_g157, List.forall_mem_cons.mpr ⟨qd_g158, List.forall_mem_cons.mpr ⟨qd_g159, List.forall_mem_cons.mpr ⟨qd_g161, List.forall_mem_cons.mpr ⟨qd_g163, List.forall_mem_cons.mpr ⟨qd_g164, List.forall_mem_cons.mpr ⟨qd_g173, List.forall_mem_cons.mpr ⟨qd_g176, List.forall_mem_cons.mpr ⟨qd_g183, List.forall_mem_cons.mpr ⟨qd_g187, List.forall_mem_cons.mpr ⟨qd_g189, List.forall_mem_cons.mpr ⟨qd_g190, List.forall_mem_cons.mpr ⟨qd_g198, List.forall_mem_cons.mpr ⟨qd_g199, fun _ h => absurd h List.not_mem_nil⟩⟩⟩⟩⟩⟩⟩⟩⟩⟩⟩⟩⟩⟩⟩⟩⟩⟩⟩⟩⟩⟩⟩⟩⟩⟩⟩⟩⟩⟩⟩⟩⟩⟩⟩⟩⟩⟩⟩⟩⟩⟩⟩⟩⟩⟩⟩⟩⟩⟩⟩⟩⟩⟩⟩⟩⟩⟩⟩⟩⟩⟩⟩⟩⟩⟩⟩⟩⟩⟩⟩⟩⟩⟩⟩⟩⟩⟩⟩⟩⟩⟩⟩⟩⟩⟩⟩⟩⟩⟩⟩⟩⟩⟩⟩⟩⟩⟩⟩⟩⟩⟩⟩⟩⟩⟩⟩⟩⟩⟩⟩
noncomputable def qd_find (T : List (Nat × (List UInt8 → qd_R))) (o : Nat) (r : List UInt8) : qd_R := List.rec (motive := fun _ => qd_R) none (fun f _ ih => match Nat.beq f.1 o with
  | true => f.2 r
  | false => ih) T
theorem qd_find_ok {T : List (Nat × (List UInt8 → qd_R))} {o : Nat} {r : List UInt8} {v : Instr × Nat × List UInt8} (h : qd_find T o r = some v) : ∃ f ∈ T, f.1 = o ∧ f.2 r = some v := by
  induction T with
  | nil => cases h
  | cons f T ih =>
    have h : (match Nat.beq f.1 o with
      | true => f.2 r
      | false => qd_find T o r) = some v := h
    split at h
    · rename_i q
      exact ⟨f, List.mem_cons_self, pm_beq q, h⟩
    · obtain ⟨g, h1, h2⟩ := ih h
      exact ⟨g, List.mem_cons_of_mem _ h1, h2⟩
noncomputable def qd_L (l : List UInt8) : qd_R := match l with
  | b :: r => qd_find qd_T b.toNat r
  | [] => none
theorem qd_dec_ok {c : ByteArray} {p n : Nat} {l t : List UInt8} {i : Instr} (h : c.data.toList.drop p = l) (e : qd_L l = some (i, n, t)) : decode c p = .ok (i, n) ∧ c.data.toList.drop (p + n) = t := by
  cases l with
  | nil => cases e
  | cons b r =>
    have hu := (qd_u1 h).1
    have e : qd_find qd_T b.toNat r = some (i, n, t) := e
    obtain ⟨f, h1, h2, h3⟩ := qd_find_ok e
    rw [← h2] at hu
    exact qd_T_ok f h1 c p n b r t i h hu h3

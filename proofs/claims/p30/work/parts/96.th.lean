section
/-! reading as a pure function of the text: one step a token. Places of a state: 0 where it is, 1 2 the fault and its place, 3 PIECES, 4 LINES, 5 WORDS, 6 a count, 7 a name's place, 8 a LINE, 9 a place, 10 whether the PIECES are closed, 100 .. the PIECES' EDGES, 140 .. how often told, 200 .. numbers, 400 .. 410 .. names' places, 420 .. 470 .. TWISTS, 520 .. how many -/
abbrev RG : Type := Nat → Int
def su (s : RG) (i : Nat) (v : Int) : RG := fun j => if j = i then v else s j
theorem su_e {s : RG} {i : Nat} {v : Int} : su s i v i = v := if_pos rfl
theorem su_n {s : RG} {i j : Nat} {v : Int} (h : j ≠ i) : su s i v j = s j := if_neg h
def flt (s : RG) (f p : Int) : RG := su (su (su s 0 21) 1 f) 2 p
def bd (s : RG) (c p : Int) : RG := flt s (if c = 5 then 1 else 2) p
abbrev ED (s : RG) : Int := 3 * s 3 / 2
def hg (T : Nat → Int) (p q : Nat) : Prop := ∃ i j, i < 3 ∧ j < 3 ∧ T (3 * p + i) = T (3 * q + j)
def hgx (T : Nat → Int) (m : Nat) : Nat → Nat → Prop
  | 0 => fun q => q = 0
  | j + 1 => fun q => hgx T m j q ∨ (q < m ∧ hgx T m j (j % m) ∧ hg T (j % m) q)
def WHq (s : RG) : Prop := s 3 % 2 = 0 ∧ (∀ e : Nat, e < 18 → s (140 + e) = if (e : Int) < ED s then 2 else 0) ∧ ∀ q : Nat, (q : Int) < s 3 → hgx (fun i => s (100 + i)) (s 3).toNat ((s 3).toNat * (s 3).toNat) q
abbrev nmq (s : RG) (i : Nat) : Int := s (200 + 18 * (s 4).toNat + (s (100 + i)).toNat)
def FITq (s : RG) : Prop := ∀ q : Nat, (q : Int) < s 3 → tri (nmq s (3 * q)) (nmq s (3 * q + 1)) (nmq s (3 * q + 2))
def fnl (W : Nat → Int) (x : Int) : Nat → Int
  | 0 => -1
  | m + 1 => if W m = x then (m : Int) else fnl W x m
noncomputable abbrev fnq (h : Int → Int) (s : RG) (p : Int) : Int := fnl (fun l => tkW8 h (s (400 + l))) (tkW8 h p) (s 4).toNat
abbrev clq (s : RG) : Prop := s 10 = 1 ∨ WHq s
noncomputable def d0 (h : Int → Int) (s : RG) (p : Int) : RG :=
  if tkK h p = 0 then ifp (clq s) (su (su s 0 20) 10 1) (flt s 6 p)
  else if tkK h p = 6 then (if s 10 = 1 ∨ 12 ≤ s 3 then bd s (tkK h p) p else su (su s 0 1) 6 0)
  else if tkK h p = 7 then ifp (clq s) (if 8 ≤ s 4 then bd s (tkK h p) p else su (su (su s 0 5) 10 1) 6 0) (flt s 6 p)
  else if tkK h p = 9 then ifp (clq s) (if 6 ≤ s 5 then bd s (tkK h p) p else su (su (su s 0 8) 10 1) 6 0) (flt s 6 p)
  else bd s (tkK h p) p
noncomputable def d1 (h : Int → Int) (s : RG) (p : Int) : RG :=
  if s 6 < 3 then
    (if tkK h p ≠ 2 then bd s (tkK h p) p else if 18 ≤ tkN h p then flt s 4 p else if 2 ≤ s (140 + (tkN h p).toNat) then flt s 3 p
     else su (su (su s (100 + (3 * s 3 + s 6).toNat) (tkN h p)) (140 + (tkN h p).toNat) (s (140 + (tkN h p).toNat) + 1)) 6 (s 6 + 1))
  else if tkK h p ≠ 3 then bd s (tkK h p) p else su (su (su s 3 (s 3 + 1)) 6 0) 0 0
noncomputable def d5 (h : Int → Int) (s : RG) (p : Int) : RG :=
  if tkK h p ≠ 1 then bd s (tkK h p) p else ifp (∃ l : Nat, (l : Int) < s 4 ∧ tkW8 h (s (400 + l)) = tkW8 h p) (flt s 3 p) (su (su s 0 6) 7 p)
noncomputable def d6 (h : Int → Int) (s : RG) (p : Int) : RG := if tkK h p ≠ 8 then bd s (tkK h p) p else su s 0 7
def fin7 (s : RG) : RG := su (su (su (su s (400 + (s 4).toNat) (s 7)) 4 (s 4 + 1)) 6 0) 0 0
noncomputable def d7 (h : Int → Int) (s : RG) (p : Int) : RG :=
  if tkK h p = 2 then (if ED s ≤ s 6 then bd s (tkK h p) p else if 99 < tkN h p then flt s 4 p else su (su s (200 + (18 * s 4 + s 6).toNat) (tkN h p)) 6 (s 6 + 1))
  else if tkK h p = 3 then (if s 6 = 0 ∨ s 6 < ED s then bd s (tkK h p) p else ifp (FITq s) (fin7 s) (flt s 6 p))
  else bd s (tkK h p) p
noncomputable def d8 (h : Int → Int) (s : RG) (p : Int) : RG :=
  if tkK h p ≠ 1 then bd s (tkK h p) p else ifp (∃ l : Nat, (l : Int) < s 5 ∧ tkW8 h (s (410 + l)) = tkW8 h p) (flt s 3 p) (su (su s 0 9) 7 p)
noncomputable def d9 (h : Int → Int) (s : RG) (p : Int) : RG := if tkK h p ≠ 10 then bd s (tkK h p) p else su s 0 10
def fin10 (s : RG) : RG := su (su (su (su (su s (410 + (s 5).toNat) (s 7)) (520 + (s 5).toNat) (s 6)) 5 (s 5 + 1)) 6 0) 0 0
noncomputable def d10 (h : Int → Int) (s : RG) (p : Int) : RG :=
  if tkK h p = 3 ∧ 0 < s 6 then fin10 s
  else if tkK h p ≠ 1 ∨ 8 ≤ s 6 then bd s (tkK h p) p
  else if fnq h s p < 0 then flt s 5 p else su (su s 8 (fnq h s p)) 0 11
def adt (s : RG) (v : Int) : RG := su (su (su (su s (420 + (8 * s 5 + s 6).toNat) (s 8)) (470 + (8 * s 5 + s 6).toNat) v) 6 (s 6 + 1)) 0 10
noncomputable def d11 (h : Int → Int) (s : RG) (p : Int) : RG :=
  if tkK h p = 4 then su (su s 9 p) 0 12
  else if tkK h p = 2 then (if tkN h p = 0 ∨ 9 < tkN h p then flt s 4 p else adt s (tkN h p))
  else bd s (tkK h p) p
noncomputable def d12 (h : Int → Int) (s : RG) (p : Int) : RG :=
  if tkK h p ≠ 2 then bd s (tkK h p) p else if tkN h p = 0 ∨ 9 < tkN h p then flt s 4 (s 9) else adt s (-tkN h p)
noncomputable def dl (h : Int → Int) (s : RG) (p : Int) : RG :=
  if s 0 = 0 then d0 h s p else if s 0 = 1 then d1 h s p else if s 0 = 5 then d5 h s p else if s 0 = 6 then d6 h s p else if s 0 = 7 then d7 h s p
  else if s 0 = 8 then d8 h s p else if s 0 = 9 then d9 h s p else if s 0 = 10 then d10 h s p else if s 0 = 11 then d11 h s p else if s 0 = 12 then d12 h s p else s
/-- the place of the k-th token; the state ahead of it -/
noncomputable def tp (h : Int → Int) : Nat → Int
  | 0 => ups h isB 0
  | k + 1 => ups h isB (tkE h (tp h k))
noncomputable def sq (h : Int → Int) : Nat → RG
  | 0 => fun _ => 0
  | k + 1 => dl h (sq h k) (tp h k)
theorem sq_s (h : Int → Int) (k : Nat) : sq h (k + 1) = dl h (sq h k) (tp h k) := rfl
theorem tp_s (h : Int → Int) (k : Nat) : tp h (k + 1) = ups h isB (tkE h (tp h k)) := rfl
theorem dl_e {h : Int → Int} {s : RG} {p : Int} (c : 20 ≤ s 0) : dl h s p = s := by
  unfold dl
  rw [if_neg (by omega), if_neg (by omega), if_neg (by omega), if_neg (by omega), if_neg (by omega), if_neg (by omega), if_neg (by omega), if_neg (by omega), if_neg (by omega), if_neg (by omega)]
theorem sq_e {h : Int → Int} {k : Nat} (c : 20 ≤ sq h k 0) : ∀ j, sq h (k + j) = sq h k
  | 0 => rfl
  | j + 1 => by
    have e := sq_e c j
    rw [show k + (j + 1) = (k + j) + 1 from rfl, sq_s, e]
    exact dl_e c
/-- there is but one end -/
theorem sq_u {h : Int → Int} {j k : Nat} (c : 20 ≤ sq h j 0) (d : 20 ≤ sq h k 0) : sq h j = sq h k := by
  by_cases g : j ≤ k
  · obtain ⟨i, rfl⟩ := Nat.le.dest g
    exact (sq_e c i).symm
  · obtain ⟨i, rfl⟩ := Nat.le.dest (show k ≤ j by omega)
    exact sq_e d i
theorem dl_0 {h : Int → Int} {s : RG} {p : Int} (c : s 0 = 0) : dl h s p = d0 h s p := by unfold dl; rw [if_pos c]
theorem dl_1 {h : Int → Int} {s : RG} {p : Int} (c : s 0 = 1) : dl h s p = d1 h s p := by unfold dl; rw [if_neg (by omega), if_pos c]
theorem dl_5 {h : Int → Int} {s : RG} {p : Int} (c : s 0 = 5) : dl h s p = d5 h s p := by unfold dl; rw [if_neg (by omega), if_neg (by omega), if_pos c]
theorem dl_6 {h : Int → Int} {s : RG} {p : Int} (c : s 0 = 6) : dl h s p = d6 h s p := by unfold dl; rw [if_neg (by omega), if_neg (by omega), if_neg (by omega), if_pos c]
theorem dl_7 {h : Int → Int} {s : RG} {p : Int} (c : s 0 = 7) : dl h s p = d7 h s p := by unfold dl; rw [if_neg (by omega), if_neg (by omega), if_neg (by omega), if_neg (by omega), if_pos c]
theorem dl_8 {h : Int → Int} {s : RG} {p : Int} (c : s 0 = 8) : dl h s p = d8 h s p := by unfold dl; rw [if_neg (by omega), if_neg (by omega), if_neg (by omega), if_neg (by omega), if_neg (by omega), if_pos c]
theorem dl_9 {h : Int → Int} {s : RG} {p : Int} (c : s 0 = 9) : dl h s p = d9 h s p := by unfold dl; rw [if_neg (by omega), if_neg (by omega), if_neg (by omega), if_neg (by omega), if_neg (by omega), if_neg (by omega), if_pos c]
theorem dl_10 {h : Int → Int} {s : RG} {p : Int} (c : s 0 = 10) : dl h s p = d10 h s p := by unfold dl; rw [if_neg (by omega), if_neg (by omega), if_neg (by omega), if_neg (by omega), if_neg (by omega), if_neg (by omega), if_neg (by omega), if_pos c]
theorem dl_11 {h : Int → Int} {s : RG} {p : Int} (c : s 0 = 11) : dl h s p = d11 h s p := by unfold dl; rw [if_neg (by omega), if_neg (by omega), if_neg (by omega), if_neg (by omega), if_neg (by omega), if_neg (by omega), if_neg (by omega), if_neg (by omega), if_pos c]
theorem dl_12 {h : Int → Int} {s : RG} {p : Int} (c : s 0 = 12) : dl h s p = d12 h s p := by unfold dl; rw [if_neg (by omega), if_neg (by omega), if_neg (by omega), if_neg (by omega), if_neg (by omega), if_neg (by omega), if_neg (by omega), if_neg (by omega), if_neg (by omega), if_pos c]
theorem a0_e1 {h : Int → Int} {s : RG} {p : Int} (c : s 0 = 0) (k : tkK h p = 0) (g : clq s) : dl h s p = su (su s 0 20) 10 1 := by rw [dl_0 c]; unfold d0; rw [if_pos k, ifp_t g]
theorem a0_e2 {h : Int → Int} {s : RG} {p : Int} (c : s 0 = 0) (k : tkK h p = 0) (g : ¬ clq s) : dl h s p = flt s 6 p := by rw [dl_0 c]; unfold d0; rw [if_pos k, ifp_f g]
theorem a0_p1 {h : Int → Int} {s : RG} {p : Int} (c : s 0 = 0) (k : tkK h p = 6) (g : s 10 ≠ 1) (g2 : s 3 < 12) : dl h s p = su (su s 0 1) 6 0 := by rw [dl_0 c]; unfold d0; rw [if_neg (by omega), if_pos (by omega), if_neg (by omega)]
theorem a0_p2 {h : Int → Int} {s : RG} {p : Int} (c : s 0 = 0) (k : tkK h p = 6) (g : s 10 = 1 ∨ 12 ≤ s 3) : dl h s p = bd s (tkK h p) p := by rw [dl_0 c]; unfold d0; rw [if_neg (by omega), if_pos (by omega), if_pos (by omega)]
theorem a0_lw {h : Int → Int} {s : RG} {p : Int} (c : s 0 = 0) (k : tkK h p = 7) (g : ¬ clq s) : dl h s p = flt s 6 p := by rw [dl_0 c]; unfold d0; rw [if_neg (by omega), if_neg (by omega), if_pos (by omega), ifp_f g]
theorem a0_l1 {h : Int → Int} {s : RG} {p : Int} (c : s 0 = 0) (k : tkK h p = 7) (g : clq s) (g2 : s 4 < 8) : dl h s p = su (su (su s 0 5) 10 1) 6 0 := by rw [dl_0 c]; unfold d0; rw [if_neg (by omega), if_neg (by omega), if_pos (by omega), ifp_t g, if_neg (by omega)]
theorem a0_l2 {h : Int → Int} {s : RG} {p : Int} (c : s 0 = 0) (k : tkK h p = 7) (g : clq s) (g2 : 8 ≤ s 4) : dl h s p = bd s (tkK h p) p := by rw [dl_0 c]; unfold d0; rw [if_neg (by omega), if_neg (by omega), if_pos (by omega), ifp_t g, if_pos (by omega)]
theorem a0_ww {h : Int → Int} {s : RG} {p : Int} (c : s 0 = 0) (k : tkK h p = 9) (g : ¬ clq s) : dl h s p = flt s 6 p := by rw [dl_0 c]; unfold d0; rw [if_neg (by omega), if_neg (by omega), if_neg (by omega), if_pos (by omega), ifp_f g]
theorem a0_w1 {h : Int → Int} {s : RG} {p : Int} (c : s 0 = 0) (k : tkK h p = 9) (g : clq s) (g2 : s 5 < 6) : dl h s p = su (su (su s 0 8) 10 1) 6 0 := by rw [dl_0 c]; unfold d0; rw [if_neg (by omega), if_neg (by omega), if_neg (by omega), if_pos (by omega), ifp_t g, if_neg (by omega)]
theorem a0_w2 {h : Int → Int} {s : RG} {p : Int} (c : s 0 = 0) (k : tkK h p = 9) (g : clq s) (g2 : 6 ≤ s 5) : dl h s p = bd s (tkK h p) p := by rw [dl_0 c]; unfold d0; rw [if_neg (by omega), if_neg (by omega), if_neg (by omega), if_pos (by omega), ifp_t g, if_pos (by omega)]
theorem a0_b {h : Int → Int} {s : RG} {p : Int} (c : s 0 = 0) (k : tkK h p ≠ 0 ∧ tkK h p ≠ 6 ∧ tkK h p ≠ 7 ∧ tkK h p ≠ 9) : dl h s p = bd s (tkK h p) p := by rw [dl_0 c]; unfold d0; rw [if_neg (by omega), if_neg (by omega), if_neg (by omega), if_neg (by omega)]
theorem a1_b {h : Int → Int} {s : RG} {p : Int} (c : s 0 = 1) (g : s 6 < 3) (k : tkK h p ≠ 2) : dl h s p = bd s (tkK h p) p := by rw [dl_1 c]; unfold d1; rw [if_pos g, if_pos k]
theorem a1_4 {h : Int → Int} {s : RG} {p : Int} (c : s 0 = 1) (g : s 6 < 3) (k : tkK h p = 2) (g2 : 18 ≤ tkN h p) : dl h s p = flt s 4 p := by rw [dl_1 c]; unfold d1; rw [if_pos g, if_neg (by omega), if_pos g2]
theorem a1_3 {h : Int → Int} {s : RG} {p : Int} (c : s 0 = 1) (g : s 6 < 3) (k : tkK h p = 2) (g2 : tkN h p < 18) (g3 : 2 ≤ s (140 + (tkN h p).toNat)) : dl h s p = flt s 3 p := by rw [dl_1 c]; unfold d1; rw [if_pos g, if_neg (by omega), if_neg (by omega), if_pos g3]
theorem a1_o {h : Int → Int} {s : RG} {p : Int} (c : s 0 = 1) (g : s 6 < 3) (k : tkK h p = 2) (g2 : tkN h p < 18) (g3 : s (140 + (tkN h p).toNat) < 2) : dl h s p = su (su (su s (100 + (3 * s 3 + s 6).toNat) (tkN h p)) (140 + (tkN h p).toNat) (s (140 + (tkN h p).toNat) + 1)) 6 (s 6 + 1) := by rw [dl_1 c]; unfold d1; rw [if_pos g, if_neg (by omega), if_neg (by omega), if_neg (by omega)]
theorem a1_sb {h : Int → Int} {s : RG} {p : Int} (c : s 0 = 1) (g : 3 ≤ s 6) (k : tkK h p ≠ 3) : dl h s p = bd s (tkK h p) p := by rw [dl_1 c]; unfold d1; rw [if_neg (by omega), if_pos k]
theorem a1_so {h : Int → Int} {s : RG} {p : Int} (c : s 0 = 1) (g : 3 ≤ s 6) (k : tkK h p = 3) : dl h s p = su (su (su s 3 (s 3 + 1)) 6 0) 0 0 := by rw [dl_1 c]; unfold d1; rw [if_neg (by omega), if_neg (by omega)]
theorem a5_b {h : Int → Int} {s : RG} {p : Int} (c : s 0 = 5) (k : tkK h p ≠ 1) : dl h s p = bd s (tkK h p) p := by rw [dl_5 c]; unfold d5; rw [if_pos k]
theorem a5_3 {h : Int → Int} {s : RG} {p : Int} (c : s 0 = 5) (k : tkK h p = 1) (g : ∃ l : Nat, (l : Int) < s 4 ∧ tkW8 h (s (400 + l)) = tkW8 h p) : dl h s p = flt s 3 p := by rw [dl_5 c]; unfold d5; rw [if_neg (by omega), ifp_t g]
theorem a5_o {h : Int → Int} {s : RG} {p : Int} (c : s 0 = 5) (k : tkK h p = 1) (g : ¬ ∃ l : Nat, (l : Int) < s 4 ∧ tkW8 h (s (400 + l)) = tkW8 h p) : dl h s p = su (su s 0 6) 7 p := by rw [dl_5 c]; unfold d5; rw [if_neg (by omega), ifp_f g]
theorem a8_b {h : Int → Int} {s : RG} {p : Int} (c : s 0 = 8) (k : tkK h p ≠ 1) : dl h s p = bd s (tkK h p) p := by rw [dl_8 c]; unfold d8; rw [if_pos k]
theorem a8_3 {h : Int → Int} {s : RG} {p : Int} (c : s 0 = 8) (k : tkK h p = 1) (g : ∃ l : Nat, (l : Int) < s 5 ∧ tkW8 h (s (410 + l)) = tkW8 h p) : dl h s p = flt s 3 p := by rw [dl_8 c]; unfold d8; rw [if_neg (by omega), ifp_t g]
theorem a8_o {h : Int → Int} {s : RG} {p : Int} (c : s 0 = 8) (k : tkK h p = 1) (g : ¬ ∃ l : Nat, (l : Int) < s 5 ∧ tkW8 h (s (410 + l)) = tkW8 h p) : dl h s p = su (su s 0 9) 7 p := by rw [dl_8 c]; unfold d8; rw [if_neg (by omega), ifp_f g]
theorem a6_b {h : Int → Int} {s : RG} {p : Int} (c : s 0 = 6) (k : tkK h p ≠ 8) : dl h s p = bd s (tkK h p) p := by rw [dl_6 c]; unfold d6; rw [if_pos k]
theorem a6_o {h : Int → Int} {s : RG} {p : Int} (c : s 0 = 6) (k : tkK h p = 8) : dl h s p = su s 0 7 := by rw [dl_6 c]; unfold d6; rw [if_neg (by omega)]
theorem a9_b {h : Int → Int} {s : RG} {p : Int} (c : s 0 = 9) (k : tkK h p ≠ 10) : dl h s p = bd s (tkK h p) p := by rw [dl_9 c]; unfold d9; rw [if_pos k]
theorem a9_o {h : Int → Int} {s : RG} {p : Int} (c : s 0 = 9) (k : tkK h p = 10) : dl h s p = su s 0 10 := by rw [dl_9 c]; unfold d9; rw [if_neg (by omega)]
theorem a7_nb {h : Int → Int} {s : RG} {p : Int} (c : s 0 = 7) (k : tkK h p = 2) (g : ED s ≤ s 6) : dl h s p = bd s (tkK h p) p := by rw [dl_7 c]; unfold d7; rw [if_pos k, if_pos g]
theorem a7_4 {h : Int → Int} {s : RG} {p : Int} (c : s 0 = 7) (k : tkK h p = 2) (g : s 6 < ED s) (g2 : 99 < tkN h p) : dl h s p = flt s 4 p := by rw [dl_7 c]; unfold d7; rw [if_pos k, if_neg (by omega), if_pos g2]
theorem a7_n {h : Int → Int} {s : RG} {p : Int} (c : s 0 = 7) (k : tkK h p = 2) (g : s 6 < ED s) (g2 : tkN h p ≤ 99) : dl h s p = su (su s (200 + (18 * s 4 + s 6).toNat) (tkN h p)) 6 (s 6 + 1) := by rw [dl_7 c]; unfold d7; rw [if_pos k, if_neg (by omega), if_neg (by omega)]
theorem a7_sb {h : Int → Int} {s : RG} {p : Int} (c : s 0 = 7) (k : tkK h p = 3) (g : s 6 = 0 ∨ s 6 < ED s) : dl h s p = bd s (tkK h p) p := by rw [dl_7 c]; unfold d7; rw [if_neg (by omega), if_pos k, if_pos g]
theorem a7_f {h : Int → Int} {s : RG} {p : Int} (c : s 0 = 7) (k : tkK h p = 3) (g : s 6 ≠ 0 ∧ ED s ≤ s 6) (g2 : ¬ FITq s) : dl h s p = flt s 6 p := by rw [dl_7 c]; unfold d7; rw [if_neg (by omega), if_pos k, if_neg (by omega), ifp_f g2]
theorem a7_o {h : Int → Int} {s : RG} {p : Int} (c : s 0 = 7) (k : tkK h p = 3) (g : s 6 ≠ 0 ∧ ED s ≤ s 6) (g2 : FITq s) : dl h s p = fin7 s := by rw [dl_7 c]; unfold d7; rw [if_neg (by omega), if_pos k, if_neg (by omega), ifp_t g2]
theorem a7_b {h : Int → Int} {s : RG} {p : Int} (c : s 0 = 7) (k : tkK h p ≠ 2 ∧ tkK h p ≠ 3) : dl h s p = bd s (tkK h p) p := by rw [dl_7 c]; unfold d7; rw [if_neg (by omega), if_neg (by omega)]
theorem a10_e {h : Int → Int} {s : RG} {p : Int} (c : s 0 = 10) (k : tkK h p = 3) (g : 0 < s 6) : dl h s p = fin10 s := by rw [dl_10 c]; unfold d10; rw [if_pos ⟨k, g⟩]
theorem a10_b {h : Int → Int} {s : RG} {p : Int} (c : s 0 = 10) (k : tkK h p ≠ 3 ∨ s 6 ≤ 0) (g : tkK h p ≠ 1 ∨ 8 ≤ s 6) : dl h s p = bd s (tkK h p) p := by rw [dl_10 c]; unfold d10; rw [if_neg (by omega), if_pos g]
theorem a10_5 {h : Int → Int} {s : RG} {p : Int} (c : s 0 = 10) (k : tkK h p = 1) (g : s 6 < 8) (g2 : fnq h s p < 0) : dl h s p = flt s 5 p := by rw [dl_10 c]; unfold d10; rw [if_neg (by omega), if_neg (by omega), if_pos g2]
theorem a10_o {h : Int → Int} {s : RG} {p : Int} (c : s 0 = 10) (k : tkK h p = 1) (g : s 6 < 8) (g2 : 0 ≤ fnq h s p) : dl h s p = su (su s 8 (fnq h s p)) 0 11 := by rw [dl_10 c]; unfold d10; rw [if_neg (by omega), if_neg (by omega), if_neg (Int.not_lt.mpr g2)]
theorem a11_m {h : Int → Int} {s : RG} {p : Int} (c : s 0 = 11) (k : tkK h p = 4) : dl h s p = su (su s 9 p) 0 12 := by rw [dl_11 c]; unfold d11; rw [if_pos k]
theorem a11_4 {h : Int → Int} {s : RG} {p : Int} (c : s 0 = 11) (k : tkK h p = 2) (g : tkN h p = 0 ∨ 9 < tkN h p) : dl h s p = flt s 4 p := by rw [dl_11 c]; unfold d11; rw [if_neg (by omega), if_pos k, if_pos g]
theorem a11_o {h : Int → Int} {s : RG} {p : Int} (c : s 0 = 11) (k : tkK h p = 2) (g : tkN h p ≠ 0 ∧ tkN h p ≤ 9) : dl h s p = adt s (tkN h p) := by rw [dl_11 c]; unfold d11; rw [if_neg (by omega), if_pos k, if_neg (by omega)]
theorem a11_b {h : Int → Int} {s : RG} {p : Int} (c : s 0 = 11) (k : tkK h p ≠ 4 ∧ tkK h p ≠ 2) : dl h s p = bd s (tkK h p) p := by rw [dl_11 c]; unfold d11; rw [if_neg (by omega), if_neg (by omega)]
theorem a12_b {h : Int → Int} {s : RG} {p : Int} (c : s 0 = 12) (k : tkK h p ≠ 2) : dl h s p = bd s (tkK h p) p := by rw [dl_12 c]; unfold d12; rw [if_pos k]
theorem a12_4 {h : Int → Int} {s : RG} {p : Int} (c : s 0 = 12) (k : tkK h p = 2) (g : tkN h p = 0 ∨ 9 < tkN h p) : dl h s p = flt s 4 (s 9) := by rw [dl_12 c]; unfold d12; rw [if_neg (by omega), if_pos g]
theorem a12_o {h : Int → Int} {s : RG} {p : Int} (c : s 0 = 12) (k : tkK h p = 2) (g : tkN h p ≠ 0 ∧ tkN h p ≤ 9) : dl h s p = adt s (-tkN h p) := by rw [dl_12 c]; unfold d12; rw [if_neg (by omega), if_neg (by omega)]
end
section
/-! what the class has read, and the state -/
abbrev cs (s : RG) : Int := if s 0 = 1 then s 6 else 0
def wdq (h : Int → Int) (q : Int) : Prop := lets (tkF h q) (tkM h q) ∧ tkM h q ≤ 8
theorem w58 {h : Int → Int} {p q : Int} (a : wdq h p) (b : wdq h q) : tkW5 h p = tkW5 h q ↔ tkW8 h p = tkW8 h q := wl_iff a.1 b.1
abbrev iw (s : RG) (a i : Nat) : Prop := (a < 6 ∧ i < 8) ∧ (((a : Int) < s 5 ∧ (i : Int) < s (520 + a)) ∨ ((a : Int) = s 5 ∧ (10 ≤ s 0 ∧ s 0 ≤ 12) ∧ (i : Int) < s 6))
def MA (s : RG) (z : mZ) (t : Nat) : Prop := (z t 0 = s 3 ∧ z t 3 = s 4 ∧ z t 4 = s 5 ∧ z 3 5 = s 10) ∧ (s 10 = 1 → z t 1 = ED s)
def MT (s : RG) (z : mZ) (t : Nat) : Prop := (∀ i : Nat, i < 36 → (i : Int) < 3 * s 3 + cs s → z (t + 1) i = s (100 + i)) ∧ (∀ e : Nat, e < 18 → z (t + 4) e = s (140 + e)) ∧ (s 10 = 0 → PI (z (t + 1)) (z (t + 4)) (z (t + 5)) (z (t + 6)) (3 * s 3 + cs s))
def ML (s : RG) (w : mZ) (t : Nat) : Prop := ∀ l e : Nat, l < 8 → e < 18 → w (t + 8 + l) e = s (200 + 18 * l + e)
def MN (h : Int → Int) (s : RG) (w : mZ) (t : Nat) : Prop := (∀ l : Nat, (l : Int) < s 4 → w (t + 16) l = tkW5 h (s (400 + l)) ∧ wdq h (s (400 + l))) ∧ (∀ l l' : Nat, (l : Int) < s 4 → (l' : Int) < s 4 → tkW8 h (s (400 + l)) = tkW8 h (s (400 + l')) → l = l') ∧ ∀ a : Nat, (a : Int) < s 5 → w (t + 17) a = tkW5 h (s (410 + a)) ∧ wdq h (s (410 + a))
def MW (s : RG) (z : mZ) (t : Nat) : Prop := (∀ a : Nat, (a : Int) < s 5 → z (t + 18) a = s (520 + a)) ∧ ∀ a i : Nat, iw s a i → z (t + 20 + a) i = s (420 + 8 * a + i) ∧ z (t + 27 + a) i = s (470 + 8 * a + i)
def MC (h : Int → Int) (s : RG) (z w : mZ) (t : Nat) : Prop := MA s z t ∧ MT s z t ∧ ML s w t ∧ MN h s w t ∧ MW s z t
def CA (h : Int → Int) (z w : mZ) (t k : Nat) : Prop := TKc h z w (tp h k) ∧ MC h (sq h k) z w t
/-- a fault, as the text has it -/
def CF (h : Int → Int) (z : mZ) : Prop := ∃ k, sq h k 0 = 21 ∧ z 3 0 = sq h k 1 ∧ z 3 1 = sq h k 2 ∧ z 3 0 ≠ 0
theorem CF_i {h : Int → Int} {z : mZ} {k : Nat} {f p : Int} (e : dl h (sq h k) (tp h k) = flt (sq h k) f p) (hf : f ≠ 0) (h0 : z 3 0 = f) (h1 : z 3 1 = p) : CF h z := ⟨k + 1, by rw [sq_s, e]; rfl, by rw [sq_s, e]; exact h0, by rw [sq_s, e]; exact h1, by omega⟩
theorem CF_b {h : Int → Int} {z : mZ} {k : Nat} {c p : Int} (e : dl h (sq h k) (tp h k) = bd (sq h k) c p) (h0 : z 3 0 = if c = 5 then 1 else 2) (h1 : z 3 1 = p) : CF h z := CF_i (f := if c = 5 then 1 else 2) e (by split <;> omega) h0 h1
/-- memory as it was, the state's own places alone another -/
theorem MC_f {h : Int → Int} {s : RG} {z w z' w' : mZ} {t : Nat} (a0 : z' t 0 = z t 0) (a1 : z' t 1 = z t 1) (a3 : z' t 3 = z t 3) (a4 : z' t 4 = z t 4) (a5 : z' 3 5 = z 3 5) (f1 : ∀ a i, t + 1 ≤ a → a ≤ t + 32 → z' a i = z a i) (f2 : ∀ a i, t + 8 ≤ a → a ≤ t + 17 → w' a i = w a i) (k : MC h s z w t) : MC h s z' w' t := by
  obtain ⟨k1, k2, k3, k4, k5⟩ := k
  refine ⟨?_, ?_, ?_, ?_, ?_⟩
  · unfold MA at k1 ⊢; rw [a0, a1, a3, a4, a5]; exact k1
  · unfold MT at k2 ⊢
    rw [show z' (t + 1) = z (t + 1) from funext fun i => f1 _ _ (by omega) (by omega), show z' (t + 4) = z (t + 4) from funext fun i => f1 _ _ (by omega) (by omega), show z' (t + 5) = z (t + 5) from funext fun i => f1 _ _ (by omega) (by omega), show z' (t + 6) = z (t + 6) from funext fun i => f1 _ _ (by omega) (by omega)]
    exact k2
  · intro l e hl he; rw [f2 _ _ (by omega) (by omega)]; exact k3 l e hl he
  · unfold MN at k4 ⊢
    rw [show w' (t + 16) = w (t + 16) from funext fun i => f2 _ _ (by omega) (by omega), show w' (t + 17) = w (t + 17) from funext fun i => f2 _ _ (by omega) (by omega)]
    exact k4
  · unfold MW at k5 ⊢
    rw [show z' (t + 18) = z (t + 18) from funext fun i => f1 _ _ (by omega) (by omega)]
    refine ⟨k5.1, fun a i q => ?_⟩
    rw [f1 _ _ (by omega) (by have := q.1; omega), f1 _ _ (by omega) (by have := q.1; omega)]
    exact k5.2 a i q
/-- steps that change no data -/
theorem MC_m {h : Int → Int} {s s' : RG} {z w : mZ} {t : Nat} (g1 : ∀ j, 3 ≤ j → j ≤ 5 → s' j = s j) (g2 : ∀ j, 10 ≤ j → s' j = s j) (g3 : cs s' = cs s) (g4 : ∀ a i, iw s' a i → iw s a i) (k : MC h s z w t) : MC h s' z w t := by
  obtain ⟨k1, k2, k3, k4, k5⟩ := k
  have e3 := g1 3 (by omega) (by omega)
  have e4 := g1 4 (by omega) (by omega)
  have e5 := g1 5 (by omega) (by omega)
  have e10 := g2 10 (by omega)
  refine ⟨?_, ?_, ?_, ?_, ?_⟩
  · unfold MA ED at k1 ⊢; rw [e3, e4, e5, e10]; exact k1
  · unfold MT at k2 ⊢
    rw [e3, e10, g3]
    exact ⟨fun i hi hj => (k2.1 i hi hj).trans (g2 _ (by omega)).symm, fun e he => (k2.2.1 e he).trans (g2 _ (by omega)).symm, k2.2.2⟩
  · exact fun l e hl he => (k3 l e hl he).trans (g2 _ (by omega)).symm
  · unfold MN at k4 ⊢
    rw [e4, e5]
    refine ⟨fun l hl => ?_, fun l l' h1 h2 => ?_, fun a ha => ?_⟩
    · rw [g2 _ (by omega)]; exact k4.1 l hl
    · rw [g2 _ (by omega), g2 _ (by omega)]; exact k4.2.1 l l' h1 h2
    · rw [g2 _ (by omega)]; exact k4.2.2 a ha
  · refine ⟨fun a ha => ?_, fun a i q => ?_⟩
    · rw [e5] at ha; rw [g2 _ (by omega)]; exact k5.1 a ha
    · rw [g2 _ (by omega), g2 _ (by omega)]; exact k5.2 a i (g4 a i q)
/-- an EDGE told -/
theorem MC_e {h : Int → Int} {s : RG} {z w z' : mZ} {t : Nat} {nu : Int} (hm : s 0 = 1) (h6 : 0 ≤ s 6 ∧ s 6 < 3) (h3 : 0 ≤ s 3 ∧ s 3 ≤ 11) (n0 : 0 ≤ nu ∧ nu < 18) (a0 : z' t 0 = z t 0) (a1 : z' t 1 = z t 1) (a3 : z' t 3 = z t 3) (a4 : z' t 4 = z t 4) (a5 : z' 3 5 = z 3 5) (f1 : ∀ a i, t + 18 ≤ a → a ≤ t + 32 → z' a i = z a i)
    (u1 : ∀ i : Nat, z' (t + 1) i = if i = (3 * s 3 + s 6).toNat then nu else z (t + 1) i) (u4 : ∀ e : Nat, z' (t + 4) e = if e = nu.toNat then z (t + 4) e + 1 else z (t + 4) e) (pi : PI (z' (t + 1)) (z' (t + 4)) (z' (t + 5)) (z' (t + 6)) (3 * s 3 + s 6 + 1)) (k : MC h s z w t) :
    MC h (su (su (su s (100 + (3 * s 3 + s 6).toNat) nu) (140 + nu.toNat) (s (140 + nu.toNat) + 1)) 6 (s 6 + 1)) z' w t := by
  obtain ⟨k1, k2, k3, k4, k5⟩ := k
  generalize hs' : su (su (su s (100 + (3 * s 3 + s 6).toNat) nu) (140 + nu.toNat) (s (140 + nu.toNat) + 1)) 6 (s 6 + 1) = s'
  have ne : ∀ j, j ≠ 6 → (j < 100 ∨ 158 ≤ j) → s' j = s j := fun j h1 h2 => by rw [← hs', su_n h1, su_n (by omega), su_n (by omega)]
  have e6 : s' 6 = s 6 + 1 := by rw [← hs', su_e]
  have e0 := ne 0 (by omega) (by omega)
  have e3 := ne 3 (by omega) (by omega)
  have e4 := ne 4 (by omega) (by omega)
  have e5 := ne 5 (by omega) (by omega)
  have e10 := ne 10 (by omega) (by omega)
  have c' : cs s' = s 6 + 1 := by unfold cs; rw [e0, if_pos hm, e6]
  have c : cs s = s 6 := if_pos hm
  refine ⟨?_, ?_, ?_, ?_, ?_⟩
  · unfold MA ED at k1 ⊢; rw [e3, e4, e5, e10, a0, a1, a3, a4, a5]; exact k1
  · unfold MT at k2 ⊢
    rw [e3, e10, c']
    refine ⟨fun i hi hj => ?_, fun e he => ?_, fun _ => by rw [← Int.add_assoc]; exact pi⟩
    · rw [u1 i]
      by_cases g : i = (3 * s 3 + s 6).toNat
      · rw [if_pos g, ← hs', su_n (by omega), su_n (by omega), g, su_e]
      · rw [if_neg g, k2.1 i hi (by omega), ← hs', su_n (by omega), su_n (by omega), su_n (by omega)]
    · rw [u4 e]
      by_cases g : e = nu.toNat
      · rw [if_pos g, k2.2.1 e he, ← hs', su_n (by omega), g, su_e]
      · rw [if_neg g, k2.2.1 e he, ← hs', su_n (by omega), su_n (by omega), su_n (by omega)]
  · exact fun l e hl he => (k3 l e hl he).trans (ne _ (by omega) (by omega)).symm
  · unfold MN at k4 ⊢
    rw [e4, e5]
    refine ⟨fun l hl => ?_, fun l l' h1 h2 => ?_, fun a ha => ?_⟩
    · rw [ne _ (by omega) (by omega)]; exact k4.1 l hl
    · rw [ne _ (by omega) (by omega), ne _ (by omega) (by omega)]; exact k4.2.1 l l' h1 h2
    · rw [ne _ (by omega) (by omega)]; exact k4.2.2 a ha
  · refine ⟨fun a ha => ?_, fun a i q => ?_⟩
    · rw [e5] at ha; rw [ne _ (by omega) (by omega), f1 _ _ (by omega) (by omega)]; exact k5.1 a ha
    · unfold iw at q
      rw [e0, e5, e6, ne (520 + a) (by omega) (by omega)] at q
      rw [ne _ (by omega) (by omega), ne _ (by omega) (by omega), f1 _ _ (by omega) (by omega), f1 _ _ (by omega) (by omega)]
      exact k5.2 a i ⟨q.1, q.2.elim Or.inl (fun g => absurd g.2.1 (by omega))⟩
/-- a PIECE's end -/
theorem MC_p {h : Int → Int} {s : RG} {z w z' : mZ} {t : Nat} (hm : s 0 = 1) (h6 : s 6 = 3) (h10 : s 10 = 0) (a0 : z' t 0 = z t 0 + 1) (a3 : z' t 3 = z t 3) (a4 : z' t 4 = z t 4) (a5 : z' 3 5 = z 3 5) (f1 : ∀ a i, t + 1 ≤ a → a ≤ t + 32 → z' a i = z a i) (k : MC h s z w t) :
    MC h (su (su (su s 3 (s 3 + 1)) 6 0) 0 0) z' w t := by
  obtain ⟨k1, k2, k3, k4, k5⟩ := k
  generalize hs' : su (su (su s 3 (s 3 + 1)) 6 0) 0 0 = s'
  have ne : ∀ j, j ≠ 6 → j ≠ 3 → j ≠ 0 → s' j = s j := fun j h1 h2 h3 => by rw [← hs', su_n h3, su_n h1, su_n h2]
  have e0 : s' 0 = 0 := by rw [← hs', su_e]
  have e3 : s' 3 = s 3 + 1 := by rw [← hs', su_n (by omega), su_n (by omega), su_e]
  have e4 := ne 4 (by omega) (by omega) (by omega)
  have e5 := ne 5 (by omega) (by omega) (by omega)
  have e10 := ne 10 (by omega) (by omega) (by omega)
  have c' : cs s' = 0 := by unfold cs; rw [e0, if_neg (by omega)]
  have c : cs s = 3 := by unfold cs; rw [if_pos hm]; exact h6
  have n : ∀ j, 100 ≤ j → s' j = s j := fun j h1 => ne j (by omega) (by omega) (by omega)
  refine ⟨?_, ?_, ?_, ?_, ?_⟩
  · unfold MA at k1 ⊢; rw [e3, e4, e5, e10, a0, a3, a4, a5]; exact ⟨⟨by omega, k1.1.2⟩, fun q => absurd q (by omega)⟩
  · unfold MT at k2 ⊢
    rw [e3, e10, c', show z' (t + 1) = z (t + 1) from funext fun i => f1 _ _ (by omega) (by omega), show z' (t + 4) = z (t + 4) from funext fun i => f1 _ _ (by omega) (by omega), show z' (t + 5) = z (t + 5) from funext fun i => f1 _ _ (by omega) (by omega), show z' (t + 6) = z (t + 6) from funext fun i => f1 _ _ (by omega) (by omega)]
    refine ⟨fun i hi hj => ?_, fun e he => ?_, fun q => ?_⟩
    · rw [n _ (by omega)]; exact k2.1 i hi (by omega)
    · rw [n _ (by omega)]; exact k2.2.1 e he
    · have k6 := k2.2.2 h10
      rw [c] at k6
      rw [show 3 * (s 3 + 1) + 0 = 3 * s 3 + 3 by omega]; exact k6
  · exact fun l e hl he => (k3 l e hl he).trans (n _ (by omega)).symm
  · unfold MN at k4 ⊢
    rw [e4, e5]
    refine ⟨fun l hl => ?_, fun l l' h1 h2 => ?_, fun a ha => ?_⟩
    · rw [n _ (by omega)]; exact k4.1 l hl
    · rw [n _ (by omega), n _ (by omega)]; exact k4.2.1 l l' h1 h2
    · rw [n _ (by omega)]; exact k4.2.2 a ha
  · refine ⟨fun a ha => ?_, fun a i q => ?_⟩
    · rw [e5] at ha; rw [n _ (by omega), f1 _ _ (by omega) (by omega)]; exact k5.1 a ha
    · unfold iw at q
      rw [e0, e5, n (520 + a) (by omega)] at q
      rw [n _ (by omega), n _ (by omega), f1 _ _ (by omega) (by omega), f1 _ _ (by omega) (by omega)]
      exact k5.2 a i ⟨q.1, q.2.elim Or.inl (fun g => absurd g.2.1 (by omega))⟩
/-- the PIECES closed -/
theorem MC_c {h : Int → Int} {s : RG} {z w z' : mZ} {t : Nat} (a0 : z' t 0 = z t 0) (a1 : z' t 1 = ED s) (a3 : z' t 3 = z t 3) (a4 : z' t 4 = z t 4) (a5 : z' 3 5 = 1) (f1 : ∀ a i, t + 1 ≤ a → a ≤ t + 32 → a ≠ t + 2 → a ≠ t + 3 → z' a i = z a i) (k : MC h s z w t) : MC h (su s 10 1) z' w t := by
  obtain ⟨k1, k2, k3, k4, k5⟩ := k
  generalize hs' : su s 10 1 = s'
  have n : ∀ j, j ≠ 10 → s' j = s j := fun j h1 => by rw [← hs', su_n h1]
  have e10 : s' 10 = 1 := by rw [← hs', su_e]
  have c' : cs s' = cs s := by unfold cs; rw [n 0 (by omega), n 6 (by omega)]
  refine ⟨?_, ?_, ?_, ?_, ?_⟩
  · unfold MA ED at k1 ⊢; rw [n 3 (by omega), n 4 (by omega), n 5 (by omega), e10, a0, a1, a3, a4, a5]; exact ⟨⟨k1.1.1, k1.1.2.1, k1.1.2.2.1, rfl⟩, fun _ => rfl⟩
  · unfold MT at k2 ⊢
    rw [n 3 (by omega), e10, c', show z' (t + 1) = z (t + 1) from funext fun i => f1 _ _ (by omega) (by omega) (by omega) (by omega), show z' (t + 4) = z (t + 4) from funext fun i => f1 _ _ (by omega) (by omega) (by omega) (by omega)]
    exact ⟨fun i hi hj => (k2.1 i hi hj).trans (n _ (by omega)).symm, fun e he => (k2.2.1 e he).trans (n _ (by omega)).symm, fun q => absurd q (by omega)⟩
  · exact fun l e hl he => (k3 l e hl he).trans (n _ (by omega)).symm
  · unfold MN at k4 ⊢
    rw [n 4 (by omega), n 5 (by omega)]
    refine ⟨fun l hl => ?_, fun l l' h1 h2 => ?_, fun a ha => ?_⟩
    · rw [n _ (by omega)]; exact k4.1 l hl
    · rw [n _ (by omega), n _ (by omega)]; exact k4.2.1 l l' h1 h2
    · rw [n _ (by omega)]; exact k4.2.2 a ha
  · refine ⟨fun a ha => ?_, fun a i q => ?_⟩
    · rw [n 5 (by omega)] at ha; rw [n _ (by omega), f1 _ _ (by omega) (by omega) (by omega) (by omega)]; exact k5.1 a ha
    · unfold iw at q
      rw [n 0 (by omega), n 5 (by omega), n 6 (by omega), n (520 + a) (by omega)] at q
      rw [n _ (by omega), n _ (by omega), f1 _ _ (by omega) (by omega) (by omega) (by omega), f1 _ _ (by omega) (by omega) (by omega) (by omega)]
      exact k5.2 a i q
/-- a LINE's number -/
theorem MC_n {h : Int → Int} {s : RG} {z w w' : mZ} {t : Nat} {nu : Int} (hm : s 0 = 7) (h6 : 0 ≤ s 6 ∧ s 6 < 18) (h4 : 0 ≤ s 4 ∧ s 4 ≤ 7) (u : ∀ e : Nat, w' (t + 8 + (s 4).toNat) e = if e = (s 6).toNat then nu else w (t + 8 + (s 4).toNat) e) (f : ∀ a i, t + 8 ≤ a → a ≤ t + 17 → a ≠ t + 8 + (s 4).toNat → w' a i = w a i) (k : MC h s z w t) : MC h (su (su s (200 + (18 * s 4 + s 6).toNat) nu) 6 (s 6 + 1)) z w' t := by
  obtain ⟨k1, k2, k3, k4, k5⟩ := k
  generalize hs' : su (su s (200 + (18 * s 4 + s 6).toNat) nu) 6 (s 6 + 1) = s'
  have n : ∀ j, j ≠ 6 → (j < 200 ∨ 344 ≤ j) → s' j = s j := fun j h1 h2 => by rw [← hs', su_n h1, su_n (by omega)]
  have e0 := n 0 (by omega) (by omega)
  have c' : cs s' = cs s := by unfold cs; rw [e0, if_neg (by omega), if_neg (by omega)]
  refine ⟨?_, ?_, ?_, ?_, ?_⟩
  · unfold MA ED at k1 ⊢; rw [n 3 (by omega) (by omega), n 4 (by omega) (by omega), n 5 (by omega) (by omega), n 10 (by omega) (by omega)]; exact k1
  · unfold MT at k2 ⊢
    rw [n 3 (by omega) (by omega), n 10 (by omega) (by omega), c']
    exact ⟨fun i hi hj => (k2.1 i hi hj).trans (n _ (by omega) (by omega)).symm, fun e he => (k2.2.1 e he).trans (n _ (by omega) (by omega)).symm, k2.2.2⟩
  · intro l e hl he
    by_cases g : l = (s 4).toNat
    · rw [g, u e]
      by_cases g2 : e = (s 6).toNat
      · rw [if_pos g2, ← hs', su_n (by omega), g2, show 200 + 18 * (s 4).toNat + (s 6).toNat = 200 + (18 * s 4 + s 6).toNat by omega, su_e]
      · rw [if_neg g2, ← hs', su_n (by omega), su_n (by omega)]; exact k3 _ e (by omega) he
    · rw [f _ _ (by omega) (by omega) (by omega), ← hs', su_n (by omega), su_n (by omega)]; exact k3 l e hl he
  · unfold MN at k4 ⊢
    rw [n 4 (by omega) (by omega), n 5 (by omega) (by omega), show w' (t + 16) = w (t + 16) from funext fun i => f _ _ (by omega) (by omega) (by omega), show w' (t + 17) = w (t + 17) from funext fun i => f _ _ (by omega) (by omega) (by omega)]
    refine ⟨fun l hl => ?_, fun l l' h1 h2 => ?_, fun a ha => ?_⟩
    · rw [n _ (by omega) (by omega)]; exact k4.1 l hl
    · rw [n _ (by omega) (by omega), n _ (by omega) (by omega)]; exact k4.2.1 l l' h1 h2
    · rw [n _ (by omega) (by omega)]; exact k4.2.2 a ha
  · refine ⟨fun a ha => ?_, fun a i q => ?_⟩
    · rw [n 5 (by omega) (by omega)] at ha; rw [n _ (by omega) (by omega)]; exact k5.1 a ha
    · unfold iw at q
      rw [e0, n 5 (by omega) (by omega), n (520 + a) (by omega) (by omega)] at q
      rw [n _ (by omega) (by omega), n _ (by omega) (by omega)]
      exact k5.2 a i ⟨q.1, q.2.elim Or.inl (fun g => absurd g.2.1 (by omega))⟩
/-- a LINE's end -/
theorem MC_l {h : Int → Int} {s : RG} {z w z' w' : mZ} {t : Nat} (hm : s 0 = 7) (h4 : 0 ≤ s 4 ∧ s 4 ≤ 7) (h7 : wdq h (s 7)) (hd : ¬ ∃ l : Nat, (l : Int) < s 4 ∧ tkW8 h (s (400 + l)) = tkW8 h (s 7)) (a0 : z' t 0 = z t 0) (a1 : z' t 1 = z t 1) (a3 : z' t 3 = z t 3 + 1) (a4 : z' t 4 = z t 4) (a5 : z' 3 5 = z 3 5) (f1 : ∀ a i, t + 1 ≤ a → a ≤ t + 32 → z' a i = z a i)
    (u : ∀ e : Nat, w' (t + 16) e = if e = (s 4).toNat then tkW5 h (s 7) else w (t + 16) e) (f : ∀ a i, t + 8 ≤ a → a ≤ t + 17 → a ≠ t + 16 → w' a i = w a i) (k : MC h s z w t) : MC h (fin7 s) z' w' t := by
  obtain ⟨k1, k2, k3, k4, k5⟩ := k
  generalize hs' : fin7 s = s'
  unfold fin7 at hs'
  have n : ∀ j, j ≠ 6 → j ≠ 0 → j ≠ 4 → j ≠ 400 + (s 4).toNat → s' j = s j := fun j h1 h2 h3 h4 => by rw [← hs', su_n h2, su_n h1, su_n h3, su_n h4]
  have e0 : s' 0 = 0 := by rw [← hs', su_e]
  have e4 : s' 4 = s 4 + 1 := by rw [← hs', su_n (by omega), su_n (by omega), su_e]
  have e40 : s' (400 + (s 4).toNat) = s 7 := by rw [← hs', su_n (by omega), su_n (by omega), su_n (by omega), su_e]
  have e5 := n 5 (by omega) (by omega) (by omega) (by omega)
  have e3 := n 3 (by omega) (by omega) (by omega) (by omega)
  have e10 := n 10 (by omega) (by omega) (by omega) (by omega)
  have c' : cs s' = cs s := by unfold cs; rw [e0, if_neg (by omega), if_neg (by omega)]
  refine ⟨?_, ?_, ?_, ?_, ?_⟩
  · unfold MA ED at k1 ⊢; rw [e3, e4, e5, e10, a0, a1, a3, a4, a5]; exact ⟨⟨k1.1.1, by omega, k1.1.2.2⟩, k1.2⟩
  · unfold MT at k2 ⊢
    rw [e3, e10, c', show z' (t + 1) = z (t + 1) from funext fun i => f1 _ _ (by omega) (by omega), show z' (t + 4) = z (t + 4) from funext fun i => f1 _ _ (by omega) (by omega), show z' (t + 5) = z (t + 5) from funext fun i => f1 _ _ (by omega) (by omega), show z' (t + 6) = z (t + 6) from funext fun i => f1 _ _ (by omega) (by omega)]
    exact ⟨fun i hi hj => (k2.1 i hi hj).trans (n _ (by omega) (by omega) (by omega) (by omega)).symm, fun e he => (k2.2.1 e he).trans (n _ (by omega) (by omega) (by omega) (by omega)).symm, k2.2.2⟩
  · intro l e hl he
    rw [f _ _ (by omega) (by omega) (by omega), n _ (by omega) (by omega) (by omega) (by omega)]; exact k3 l e hl he
  · unfold MN at k4 ⊢
    rw [e4, e5, show w' (t + 17) = w (t + 17) from funext fun i => f _ _ (by omega) (by omega) (by omega)]
    have L : ∀ l : Nat, (l : Int) < s 4 → s' (400 + l) = s (400 + l) := fun l hl => n _ (by omega) (by omega) (by omega) (by omega)
    refine ⟨fun l hl => ?_, fun l l' h1 h2 q => ?_, fun a ha => ?_⟩
    · by_cases g : l = (s 4).toNat
      · rw [u l, if_pos g, g, e40]; exact ⟨rfl, h7⟩
      · rw [u l, if_neg g, L l (by omega)]; exact k4.1 l (by omega)
    · by_cases g : l = (s 4).toNat
      · by_cases g' : l' = (s 4).toNat
        · omega
        · rw [g, e40, L l' (by omega)] at q
          exact absurd ⟨l', by omega, q.symm⟩ hd
      · by_cases g' : l' = (s 4).toNat
        · rw [g', e40, L l (by omega)] at q
          exact absurd ⟨l, by omega, q⟩ hd
        · rw [L l (by omega), L l' (by omega)] at q
          exact k4.2.1 l l' (by omega) (by omega) q
    · rw [n _ (by omega) (by omega) (by omega) (by omega)]; exact k4.2.2 a ha
  · refine ⟨fun a ha => ?_, fun a i q => ?_⟩
    · rw [e5] at ha; rw [n _ (by omega) (by omega) (by omega) (by omega), f1 _ _ (by omega) (by omega)]; exact k5.1 a ha
    · unfold iw at q
      rw [e0, e5, n (520 + a) (by omega) (by omega) (by omega) (by omega)] at q
      rw [n _ (by omega) (by omega) (by omega) (by omega), n _ (by omega) (by omega) (by omega) (by omega), f1 _ _ (by omega) (by omega), f1 _ _ (by omega) (by omega)]
      exact k5.2 a i ⟨q.1, q.2.elim Or.inl (fun g => absurd g.2.1 (by omega))⟩
/-- a TWIST told -/
theorem MC_t {h : Int → Int} {s : RG} {z w z' : mZ} {t : Nat} {v : Int} (hm : s 0 = 11 ∨ s 0 = 12) (h5 : 0 ≤ s 5 ∧ s 5 ≤ 5) (h6 : 0 ≤ s 6 ∧ s 6 ≤ 7) (h4 : s 4 ≤ 8) (a0 : z' t 0 = z t 0) (a1 : z' t 1 = z t 1) (a3 : z' t 3 = z t 3) (a4 : z' t 4 = z t 4) (a5 : z' 3 5 = z 3 5) (f1 : ∀ a i, t + 1 ≤ a → a ≤ t + 32 → a ≠ t + 20 + (s 5).toNat → a ≠ t + 27 + (s 5).toNat → z' a i = z a i)
    (u1 : ∀ i : Nat, z' (t + 20 + (s 5).toNat) i = if i = (s 6).toNat then s 8 else z (t + 20 + (s 5).toNat) i) (u2 : ∀ i : Nat, z' (t + 27 + (s 5).toNat) i = if i = (s 6).toNat then v else z (t + 27 + (s 5).toNat) i) (k : MC h s z w t) : MC h (adt s v) z' w t := by
  obtain ⟨k1, k2, k3, k4, k5⟩ := k
  generalize hs' : adt s v = s'
  unfold adt at hs'
  have n : ∀ j, j ≠ 6 → j ≠ 0 → j ≠ 420 + (8 * s 5 + s 6).toNat → j ≠ 470 + (8 * s 5 + s 6).toNat → s' j = s j := fun j h1 h2 h3 h4 => by rw [← hs', su_n h2, su_n h1, su_n h4, su_n h3]
  have e0 : s' 0 = 10 := by rw [← hs', su_e]
  have e6 : s' 6 = s 6 + 1 := by rw [← hs', su_n (by omega), su_e]
  have ea : s' (420 + (8 * s 5 + s 6).toNat) = s 8 := by rw [← hs', su_n (by omega), su_n (by omega), su_n (by omega), su_e]
  have eb : s' (470 + (8 * s 5 + s 6).toNat) = v := by rw [← hs', su_n (by omega), su_n (by omega), su_e]
  have e5 := n 5 (by omega) (by omega) (by omega) (by omega)
  have e4 := n 4 (by omega) (by omega) (by omega) (by omega)
  have e3 := n 3 (by omega) (by omega) (by omega) (by omega)
  have e10 := n 10 (by omega) (by omega) (by omega) (by omega)
  have c' : cs s' = cs s := by unfold cs; rw [e0, if_neg (by omega), if_neg (by omega)]
  refine ⟨?_, ?_, ?_, ?_, ?_⟩
  · unfold MA ED at k1 ⊢; rw [e3, e4, e5, e10, a0, a1, a3, a4, a5]; exact k1
  · unfold MT at k2 ⊢
    rw [e3, e10, c', show z' (t + 1) = z (t + 1) from funext fun i => f1 _ _ (by omega) (by omega) (by omega) (by omega), show z' (t + 4) = z (t + 4) from funext fun i => f1 _ _ (by omega) (by omega) (by omega) (by omega), show z' (t + 5) = z (t + 5) from funext fun i => f1 _ _ (by omega) (by omega) (by omega) (by omega), show z' (t + 6) = z (t + 6) from funext fun i => f1 _ _ (by omega) (by omega) (by omega) (by omega)]
    exact ⟨fun i hi hj => (k2.1 i hi hj).trans (n _ (by omega) (by omega) (by omega) (by omega)).symm, fun e he => (k2.2.1 e he).trans (n _ (by omega) (by omega) (by omega) (by omega)).symm, k2.2.2⟩
  · intro l e hl he
    rw [n _ (by omega) (by omega) (by omega) (by omega)]; exact k3 l e hl he
  · unfold MN at k4 ⊢
    rw [e4, e5]
    refine ⟨fun l hl => ?_, fun l l' h1 h2 => ?_, fun a ha => ?_⟩
    · rw [n _ (by omega) (by omega) (by omega) (by omega)]; exact k4.1 l hl
    · rw [n _ (by omega) (by omega) (by omega) (by omega), n _ (by omega) (by omega) (by omega) (by omega)]; exact k4.2.1 l l' h1 h2
    · rw [n _ (by omega) (by omega) (by omega) (by omega)]; exact k4.2.2 a ha
  · refine ⟨fun a ha => ?_, fun a i q => ?_⟩
    · rw [e5] at ha; rw [n _ (by omega) (by omega) (by omega) (by omega), f1 _ _ (by omega) (by omega) (by omega) (by omega)]; exact k5.1 a ha
    · unfold iw at q
      rw [e0, e5, e6, n (520 + a) (by omega) (by omega) (by omega) (by omega)] at q
      by_cases g : a = (s 5).toNat
      · by_cases g2 : i = (s 6).toNat
        · rw [g, g2, u1, u2, if_pos rfl, if_pos rfl, show 420 + 8 * (s 5).toNat + (s 6).toNat = 420 + (8 * s 5 + s 6).toNat by omega, show 470 + 8 * (s 5).toNat + (s 6).toNat = 470 + (8 * s 5 + s 6).toNat by omega, ea, eb]
          exact ⟨rfl, rfl⟩
        · rw [g, u1, u2, if_neg g2, if_neg g2, n _ (by omega) (by omega) (by omega) (by omega), n _ (by omega) (by omega) (by omega) (by omega)]
          exact k5.2 _ i ⟨⟨by omega, q.1.2⟩, Or.inr ⟨by omega, by omega, by omega⟩⟩
      · rw [n _ (by omega) (by omega) (by omega) (by omega), n _ (by omega) (by omega) (by omega) (by omega), f1 _ _ (by omega) (by omega) (by omega) (by omega), f1 _ _ (by omega) (by omega) (by omega) (by omega)]
        exact k5.2 a i ⟨q.1, q.2.elim Or.inl (fun g => absurd g.1 (by omega))⟩
/-- a WORD's end -/
theorem MC_w {h : Int → Int} {s : RG} {z w z' w' : mZ} {t : Nat} (hm : s 0 = 10) (h4 : s 4 ≤ 8) (h5 : 0 ≤ s 5 ∧ s 5 ≤ 5) (h7 : wdq h (s 7)) (a0 : z' t 0 = z t 0) (a1 : z' t 1 = z t 1) (a3 : z' t 3 = z t 3) (a4 : z' t 4 = z t 4 + 1) (a5 : z' 3 5 = z 3 5) (f1 : ∀ a i, t + 1 ≤ a → a ≤ t + 32 → a ≠ t + 18 → z' a i = z a i)
    (u1 : ∀ e : Nat, z' (t + 18) e = if e = (s 5).toNat then s 6 else z (t + 18) e) (u : ∀ e : Nat, w' (t + 17) e = if e = (s 5).toNat then tkW5 h (s 7) else w (t + 17) e) (f : ∀ a i, t + 8 ≤ a → a ≤ t + 17 → a ≠ t + 17 → w' a i = w a i) (k : MC h s z w t) : MC h (fin10 s) z' w' t := by
  obtain ⟨k1, k2, k3, k4, k5⟩ := k
  generalize hs' : fin10 s = s'
  unfold fin10 at hs'
  have n : ∀ j, j ≠ 6 → j ≠ 0 → j ≠ 5 → j ≠ 410 + (s 5).toNat → j ≠ 520 + (s 5).toNat → s' j = s j := fun j h1 h2 h3 h4 h5 => by rw [← hs', su_n h2, su_n h1, su_n h3, su_n h5, su_n h4]
  have e0 : s' 0 = 0 := by rw [← hs', su_e]
  have e5 : s' 5 = s 5 + 1 := by rw [← hs', su_n (by omega), su_n (by omega), su_e]
  have ea : s' (410 + (s 5).toNat) = s 7 := by rw [← hs', su_n (by omega), su_n (by omega), su_n (by omega), su_n (by omega), su_e]
  have eb : s' (520 + (s 5).toNat) = s 6 := by rw [← hs', su_n (by omega), su_n (by omega), su_n (by omega), su_e]
  have e4 := n 4 (by omega) (by omega) (by omega) (by omega) (by omega)
  have e3 := n 3 (by omega) (by omega) (by omega) (by omega) (by omega)
  have e10 := n 10 (by omega) (by omega) (by omega) (by omega) (by omega)
  have c' : cs s' = cs s := by unfold cs; rw [e0, if_neg (by omega), if_neg (by omega)]
  refine ⟨?_, ?_, ?_, ?_, ?_⟩
  · unfold MA ED at k1 ⊢; rw [e3, e4, e5, e10, a0, a1, a3, a4, a5]; exact ⟨⟨k1.1.1, k1.1.2.1, by omega, k1.1.2.2.2⟩, k1.2⟩
  · unfold MT at k2 ⊢
    rw [e3, e10, c', show z' (t + 1) = z (t + 1) from funext fun i => f1 _ _ (by omega) (by omega) (by omega), show z' (t + 4) = z (t + 4) from funext fun i => f1 _ _ (by omega) (by omega) (by omega), show z' (t + 5) = z (t + 5) from funext fun i => f1 _ _ (by omega) (by omega) (by omega), show z' (t + 6) = z (t + 6) from funext fun i => f1 _ _ (by omega) (by omega) (by omega)]
    exact ⟨fun i hi hj => (k2.1 i hi hj).trans (n _ (by omega) (by omega) (by omega) (by omega) (by omega)).symm, fun e he => (k2.2.1 e he).trans (n _ (by omega) (by omega) (by omega) (by omega) (by omega)).symm, k2.2.2⟩
  · intro l e hl he
    rw [f _ _ (by omega) (by omega) (by omega), n _ (by omega) (by omega) (by omega) (by omega) (by omega)]; exact k3 l e hl he
  · unfold MN at k4 ⊢
    rw [e4, e5, show w' (t + 16) = w (t + 16) from funext fun i => f _ _ (by omega) (by omega) (by omega)]
    refine ⟨fun l hl => ?_, fun l l' h1 h2 => ?_, fun a ha => ?_⟩
    · rw [n _ (by omega) (by omega) (by omega) (by omega) (by omega)]; exact k4.1 l hl
    · rw [n _ (by omega) (by omega) (by omega) (by omega) (by omega), n _ (by omega) (by omega) (by omega) (by omega) (by omega)]; exact k4.2.1 l l' h1 h2
    · by_cases g : a = (s 5).toNat
      · rw [u a, if_pos g, g, ea]; exact ⟨rfl, h7⟩
      · rw [u a, if_neg g, n _ (by omega) (by omega) (by omega) (by omega) (by omega)]; exact k4.2.2 a (by omega)
  · refine ⟨fun a ha => ?_, fun a i q => ?_⟩
    · rw [e5] at ha
      by_cases g : a = (s 5).toNat
      · rw [u1 a, if_pos g, g, eb]
      · rw [u1 a, if_neg g, n _ (by omega) (by omega) (by omega) (by omega) (by omega)]; exact k5.1 a (by omega)
    · unfold iw at q
      rw [e0, e5] at q
      rw [n _ (by omega) (by omega) (by omega) (by omega) (by omega), n _ (by omega) (by omega) (by omega) (by omega) (by omega), f1 _ _ (by omega) (by omega) (by omega), f1 _ _ (by omega) (by omega) (by omega)]
      refine k5.2 a i ⟨q.1, ?_⟩
      rcases q.2 with g | g
      · by_cases g2 : a = (s 5).toNat
        · rw [g2, eb] at g
          exact Or.inr ⟨by omega, by omega, by omega⟩
        · rw [n _ (by omega) (by omega) (by omega) (by omega) (by omega)] at g
          exact Or.inl ⟨by omega, g.2⟩
      · exact absurd g.2.1 (by omega)
end
section
/-! the class, a token further -/
def Fr (z w z' w' : mZ) : Prop := (∀ a i, a ≠ 3 → z' a i = z a i) ∧ z' 3 5 = z 3 5 ∧ ∀ a i, a ≠ 3 → w' a i = w a i
theorem MC_r {h : Int → Int} {s : RG} {z w z' w' : mZ} {t : Nat} (ht : 159 ≤ t) (f : Fr z w z' w') (k : MC h s z w t) : MC h s z' w' t := MC_f (f.1 _ _ (by omega)) (f.1 _ _ (by omega)) (f.1 _ _ (by omega)) (f.1 _ _ (by omega)) f.2.1 (fun a i h1 h2 => f.1 _ _ (by omega)) (fun a i h1 h2 => f.2.2 _ _ (by omega)) k
/-- an EDGE -/
theorem CA_e {h : Int → Int} {z w z1 w1 z' w' : mZ} {t k : Nat} {nu : Int} (ht : 159 ≤ t) (hc : MC h (sq h k) z w t) (hm : sq h k 0 = 1) (h6 : 0 ≤ sq h k 6 ∧ sq h k 6 < 3) (h3 : 0 ≤ z t 0 ∧ z t 0 ≤ 11) (K : tkK h (tp h k) = 2) (N : nu = tkN h (tp h k)) (n0 : 0 ≤ nu ∧ nu < 18) (T2 : z (t + 4) nu.toNat < 2)
    (f0 : ∀ a i, a ≠ t + 1 → a ≠ t + 4 → a ≠ t + 5 → a ≠ t + 6 → z1 a i = z a i) (u1 : ∀ i : Nat, z1 (t + 1) i = if i = (3 * z t 0 + sq h k 6).toNat then nu else z (t + 1) i) (u4 : ∀ e : Nat, z1 (t + 4) e = if e = nu.toNat then z (t + 4) e + 1 else z (t + 4) e) (pi : PI (z1 (t + 1)) (z1 (t + 4)) (z1 (t + 5)) (z1 (t + 6)) (3 * z t 0 + sq h k 6 + 1)) (fw : ∀ a i, t + 8 ≤ a → a ≤ t + 17 → w1 a i = w a i)
    (fr : Fr z1 w1 z' w') (tk : TKc h z' w' (ups h isB (tkE h (tp h k)))) : CA h z' w' t (k + 1) ∧ sq h (k + 1) 0 = 1 ∧ sq h (k + 1) 6 = sq h k 6 + 1 := by
  have a3 : z t 0 = sq h k 3 := hc.1.1.1
  rw [a3] at h3 u1 pi
  have e4 := hc.2.1.2.1 nu.toNat (by omega)
  have e : sq h (k + 1) = _ := (sq_s h k).trans (a1_o hm h6.2 K (by omega) (by rw [← N, ← e4]; exact T2))
  rw [← N] at e
  have hc1 : MC h (sq h k) z w1 t := MC_f rfl rfl rfl rfl rfl (fun _ _ _ _ => rfl) (fun a i h1 h2 => fw a i h1 h2) hc
  have m := MC_e hm h6 h3 n0 (f0 t 0 (by omega) (by omega) (by omega) (by omega)) (f0 _ _ (by omega) (by omega) (by omega) (by omega)) (f0 _ _ (by omega) (by omega) (by omega) (by omega)) (f0 _ _ (by omega) (by omega) (by omega) (by omega)) (f0 _ _ (by omega) (by omega) (by omega) (by omega)) (fun a i h1 h2 => f0 _ _ (by omega) (by omega) (by omega) (by omega)) u1 u4 pi hc1
  rw [← e] at m
  refine ⟨⟨tk, MC_r ht fr m⟩, ?_, ?_⟩
  · rw [e, su_n (by omega), su_n (by omega), su_n (by omega)]; exact hm
  · rw [e, su_e]
/-- piece: behind its word -/
theorem CA_p {h : Int → Int} {z w z' w' : mZ} {t k : Nat} (ht : 159 ≤ t) (hc : MC h (sq h k) z w t) (hm : sq h k 0 = 0) (K : tkK h (tp h k) = 6) (h5 : z 3 5 = 0) (h0 : z t 0 ≤ 11) (fr : Fr z w z' w') (tk : TKc h z' w' (ups h isB (tkE h (tp h k)))) : CA h z' w' t (k + 1) ∧ sq h (k + 1) 0 = 1 ∧ sq h (k + 1) 6 = 0 := by
  have a3 : z t 0 = sq h k 3 := hc.1.1.1
  have a10 : z 3 5 = sq h k 10 := hc.1.1.2.2.2
  have e : sq h (k + 1) = _ := (sq_s h k).trans (a0_p1 hm K (by omega) (by omega))
  refine ⟨⟨tk, ?_⟩, ?_, ?_⟩
  · rw [e]
    refine MC_m (fun j h1 h2 => ?_) (fun j h1 => ?_) ?_ (fun a i q => ?_) (MC_r ht fr hc)
    · rw [su_n (by omega), su_n (by omega)]
    · rw [su_n (by omega), su_n (by omega)]
    · unfold cs; rw [su_n (by omega), su_e, if_pos rfl, su_e, hm, if_neg (by omega)]
    · unfold iw at q
      rw [su_n (i := 6) (j := 0) (by omega), su_e] at q
      rw [su_n (i := 6) (by omega), su_n (i := 0) (by omega), su_n (i := 6) (by omega), su_n (i := 0) (by omega)] at q
      exact ⟨q.1, q.2.elim Or.inl (fun g => absurd g.2.1 (by omega))⟩
  · rw [e, su_n (by omega), su_e]
  · rw [e, su_e]
/-- a PIECE's end -/
theorem CA_q {h : Int → Int} {z w z1 w1 z' : mZ} {t k : Nat} (ht : 159 ≤ t) (hc : MC h (sq h k) z w t) (hm : sq h k 0 = 1) (h6 : sq h k 6 = 3) (K : tkK h (tp h k) = 3) (h5 : z 3 5 = 0) (fr : Fr z w z1 w1) (tk : TKc h z1 w1 (ups h isB (tkE h (tp h k)))) (a0 : z' t 0 = z1 t 0 + 1) (f0 : ∀ a i, (a = t → i ≠ 0) → z' a i = z1 a i) : CA h z' w1 t (k + 1) ∧ sq h (k + 1) 0 = 0 := by
  have a10 : z 3 5 = sq h k 10 := hc.1.1.2.2.2
  have e : sq h (k + 1) = _ := (sq_s h k).trans (a1_so hm (by omega) K)
  refine ⟨⟨TKc_f (f0 _ _ (by omega)) (f0 _ _ (by omega)) (f0 _ _ (by omega)) (f0 _ _ (by omega)) rfl (f0 _ _ (by omega)) tk, ?_⟩, ?_⟩
  · rw [e]
    exact MC_p hm h6 (by omega) a0 (f0 _ _ (by omega)) (f0 _ _ (by omega)) (f0 _ _ (by omega)) (fun a i h1 h2 => f0 _ _ (by omega)) (MC_r ht fr hc)
  · rw [e, su_e]
theorem CF_n {h : Int → Int} {z : mZ} (k : CF h z) : z 3 0 ≠ 0 := by obtain ⟨_, _, _, _, q⟩ := k; exact q
end
section
/-! the class: LINES and WORDS, a token further -/
theorem CA_2 {h : Int → Int} {z w z' w' : mZ} {t k i : Nat} (ht : 159 ≤ t) (hc : MC h (sq h k) z w t) (hi : 7 ≤ i ∧ i ≤ 9) (n : ∀ j, j ≠ 0 → j ≠ i → sq h (k + 1) j = sq h k j) (h0 : sq h k 0 ≠ 1) (h0' : sq h (k + 1) 0 ≠ 1) (h6 : (10 ≤ sq h (k + 1) 0 ∧ sq h (k + 1) 0 ≤ 12) → (10 ≤ sq h k 0 ∧ sq h k 0 ≤ 12) ∨ sq h k 6 ≤ 0) (fr : Fr z w z' w') (tk : TKc h z' w' (tp h (k + 1))) : CA h z' w' t (k + 1) := by
  refine ⟨tk, MC_m (fun j h1 h2 => n j (by omega) (by omega)) (fun j h1 => n j (by omega) (by omega)) ?_ (fun a j q => ?_) (MC_r ht fr hc)⟩
  · unfold cs; rw [if_neg h0, if_neg h0']
  · unfold iw at q ⊢
    rw [n 5 (by omega) (by omega), n 6 (by omega) (by omega), n (520 + a) (by omega) (by omega)] at q
    refine ⟨q.1, q.2.elim Or.inl (fun g => ?_)⟩
    rcases h6 g.2.1 with g2 | g2
    · exact Or.inr ⟨g.1, g2, g.2.2⟩
    · have := g.2.2; omega
/-- a LINE's, a WORD's first word -/
theorem CA_b {h : Int → Int} {z w z' w' : mZ} {t k : Nat} {m : Int} (ht : 159 ≤ t) (hc : MC h (su (sq h k) 10 1) z w t) (hm : sq h k 0 = 0) (e : sq h (k + 1) = su (su (su (sq h k) 0 m) 10 1) 6 0) (m1 : m = 5 ∨ m = 8) (fr : Fr z w z' w') (tk : TKc h z' w' (tp h (k + 1))) : CA h z' w' t (k + 1) ∧ sq h (k + 1) 0 = m ∧ sq h (k + 1) 6 = 0 ∧ sq h (k + 1) 10 = 1 := by
  have n : ∀ j, j ≠ 0 → j ≠ 6 → sq h (k + 1) j = su (sq h k) 10 1 j := fun j h1 h2 => by
    rw [e, su_n h2]
    by_cases c : j = 10
    · rw [c, su_e, su_e]
    · rw [su_n c, su_n h1, su_n c]
  have e0 : sq h (k + 1) 0 = m := by rw [e, su_n (by omega), su_n (by omega), su_e]
  refine ⟨⟨tk, MC_m (fun j h1 h2 => n j (by omega) (by omega)) (fun j h1 => n j (by omega) (by omega)) ?_ (fun a j q => ?_) (MC_r ht fr hc)⟩, e0, by rw [e, su_e], by rw [e, su_n (by omega), su_e]⟩
  · unfold cs; rw [e0, if_neg (by omega), su_n (by omega), hm, if_neg (by omega)]
  · unfold iw at q ⊢
    rw [n 5 (by omega) (by omega), n (520 + a) (by omega) (by omega), e0] at q
    exact ⟨q.1, q.2.elim Or.inl (fun g => absurd g.2.1 (by omega))⟩
/-- names told -/
theorem nm_y {h : Int → Int} {s : RG} {w : mZ} {t : Nat} {p x v : Int} (k : MN h s w t) (hp : x = tkW5 h p) (wp : wdq h p) (c : 0 ≤ v ∧ v < s 4 ∧ w (t + 16) v.toNat = x) : ∃ l : Nat, (l : Int) < s 4 ∧ tkW8 h (s (400 + l)) = tkW8 h p := by
  have q := k.1 v.toNat (by omega)
  exact ⟨v.toNat, by omega, (w58 q.2 wp).mp (by rw [← q.1, c.2.2, hp])⟩
theorem nm_n {h : Int → Int} {s : RG} {w : mZ} {t : Nat} {p x : Int} (k : MN h s w t) (hp : x = tkW5 h p) (wp : wdq h p) (c : ∀ i : Nat, (i : Int) < s 4 → w (t + 16) i ≠ x) : ¬ ∃ l : Nat, (l : Int) < s 4 ∧ tkW8 h (s (400 + l)) = tkW8 h p := by
  rintro ⟨l, hl, e⟩
  have q := k.1 l hl
  exact c l hl (by rw [q.1, hp]; exact (w58 q.2 wp).mpr e)
theorem nw_y {h : Int → Int} {s : RG} {w : mZ} {t : Nat} {p x v : Int} (k : MN h s w t) (hp : x = tkW5 h p) (wp : wdq h p) (c : 0 ≤ v ∧ v < s 5 ∧ w (t + 17) v.toNat = x) : ∃ l : Nat, (l : Int) < s 5 ∧ tkW8 h (s (410 + l)) = tkW8 h p := by
  have q := k.2.2 v.toNat (by omega)
  exact ⟨v.toNat, by omega, (w58 q.2 wp).mp (by rw [← q.1, c.2.2, hp])⟩
theorem nw_n {h : Int → Int} {s : RG} {w : mZ} {t : Nat} {p x : Int} (k : MN h s w t) (hp : x = tkW5 h p) (wp : wdq h p) (c : ∀ i : Nat, (i : Int) < s 5 → w (t + 17) i ≠ x) : ¬ ∃ l : Nat, (l : Int) < s 5 ∧ tkW8 h (s (410 + l)) = tkW8 h p := by
  rintro ⟨l, hl, e⟩
  have q := k.2.2 l hl
  exact c l hl (by rw [q.1, hp]; exact (w58 q.2 wp).mpr e)
theorem fnl_n {W : Nat → Int} {x : Int} : ∀ m : Nat, (∀ l, l < m → W l ≠ x) → fnl W x m = -1
  | 0, _ => rfl
  | m + 1, c => by
    show (if W m = x then (m : Int) else fnl W x m) = -1
    rw [if_neg (c m (by omega))]; exact fnl_n m (fun l hl => c l (by omega))
theorem fnl_y {W : Nat → Int} {x : Int} {v : Nat} : ∀ m : Nat, v < m → W v = x → (∀ l, l < m → W l = x → l = v) → fnl W x m = v
  | 0, h, _, _ => absurd h (by omega)
  | m + 1, h, hv, u => by
    show (if W m = x then (m : Int) else fnl W x m) = v
    by_cases c : W m = x
    · rw [if_pos c]; have := u m (by omega) c; omega
    · rw [if_neg c]
      refine fnl_y m ?_ hv (fun l hl => u l (by omega))
      rcases (show v < m ∨ v = m by omega) with g | g
      · exact g
      · rw [g] at hv; exact absurd hv c
/-- the LINE of a name, as the class finds it -/
theorem fn_y {h : Int → Int} {s : RG} {w : mZ} {t : Nat} {p x v : Int} (k : MN h s w t) (hp : x = tkW5 h p) (wp : wdq h p) (c : 0 ≤ v ∧ v < s 4 ∧ w (t + 16) v.toNat = x) : fnq h s p = v := by
  have q := k.1 v.toNat (by omega)
  have e : tkW8 h (s (400 + v.toNat)) = tkW8 h p := (w58 q.2 wp).mp (by rw [← q.1, c.2.2, hp])
  have r := fnl_y (W := fun l => tkW8 h (s (400 + l))) (x := tkW8 h p) (v := v.toNat) (s 4).toNat (by omega) e (fun l hl g => k.2.1 l v.toNat (by omega) (by omega) (g.trans e.symm))
  exact r.trans (by omega)
theorem fn_n {h : Int → Int} {s : RG} {w : mZ} {t : Nat} {p x : Int} (k : MN h s w t) (hp : x = tkW5 h p) (wp : wdq h p) (c : ∀ i : Nat, (i : Int) < s 4 → w (t + 16) i ≠ x) : fnq h s p = -1 := by
  refine fnl_n _ (fun l hl g => ?_)
  have q := k.1 l (by omega)
  exact c l (by omega) (by rw [q.1, hp]; exact (w58 q.2 wp).mpr g)
/-- a LINE's number; a LINE's end -/
theorem CA_n {h : Int → Int} {z w w1 z' w' : mZ} {t k : Nat} {nu : Int} (ht : 159 ≤ t) (hc : MC h (sq h k) z w t) (hm : sq h k 0 = 7) (h6 : 0 ≤ sq h k 6 ∧ sq h k 6 < z t 1) (h1 : z t 1 ≤ 18) (h5 : z 3 5 = 1) (h4 : 0 ≤ z t 3 ∧ z t 3 ≤ 7) (K : tkK h (tp h k) = 2) (N : nu = tkN h (tp h k)) (n0 : nu ≤ 99)
    (u : ∀ e : Nat, w1 (t + 8 + (z t 3).toNat) e = if e = (sq h k 6).toNat then nu else w (t + 8 + (z t 3).toNat) e) (f : ∀ a i, a ≠ t + 8 + (z t 3).toNat → w1 a i = w a i)
    (fr : Fr z w1 z' w') (tk : TKc h z' w' (tp h (k + 1))) : CA h z' w' t (k + 1) ∧ sq h (k + 1) 0 = 7 ∧ sq h (k + 1) 6 = sq h k 6 + 1 ∧ sq h (k + 1) 7 = sq h k 7 ∧ (∀ j, j ≠ 6 → (j < 200 ∨ 344 ≤ j) → sq h (k + 1) j = sq h k j) := by
  have a4 : z t 3 = sq h k 4 := hc.1.1.2.1
  have a1 : z t 1 = ED (sq h k) := hc.1.2 (by have := hc.1.1.2.2.2; omega)
  rw [a4] at u f h4
  have e : sq h (k + 1) = _ := (sq_s h k).trans (a7_n hm K (by omega) (by omega))
  rw [← N] at e
  have m := MC_n hm (by omega) h4 u (fun a i _ _ h3 => f a i h3) hc
  rw [← e] at m
  have n : ∀ j, j ≠ 6 → (j < 200 ∨ 344 ≤ j) → sq h (k + 1) j = sq h k j := fun j g1 g2 => by rw [e, su_n g1, su_n (by omega)]
  exact ⟨⟨tk, MC_r ht fr m⟩, (n 0 (by omega) (by omega)).trans hm, by rw [e, su_e], n 7 (by omega) (by omega), n⟩
theorem CA_le {h : Int → Int} {z w z1 w1 z' w' : mZ} {t k : Nat} (ht : 159 ≤ t) (hc : MC h (sq h k) z w t) (hm : sq h k 0 = 7) (h6 : sq h k 6 ≠ 0 ∧ z t 1 ≤ sq h k 6) (h5 : z 3 5 = 1) (h4 : 0 ≤ z t 3 ∧ z t 3 ≤ 7) (K : tkK h (tp h k) = 3) (F : FITq (sq h k)) (h7 : wdq h (sq h k 7)) (hd : ¬ ∃ l : Nat, (l : Int) < sq h k 4 ∧ tkW8 h (sq h k (400 + l)) = tkW8 h (sq h k 7))
    (a3 : z1 t 3 = z t 3 + 1) (f1 : ∀ a i, (a = t → i ≠ 3) → z1 a i = z a i) (u : ∀ e : Nat, w1 (t + 16) e = if e = (z t 3).toNat then tkW5 h (sq h k 7) else w (t + 16) e) (f : ∀ a i, a ≠ t + 16 → w1 a i = w a i)
    (fr : Fr z1 w1 z' w') (tk : TKc h z' w' (tp h (k + 1))) : CA h z' w' t (k + 1) ∧ sq h (k + 1) 0 = 0 := by
  have a4 : z t 3 = sq h k 4 := hc.1.1.2.1
  have a1 : z t 1 = ED (sq h k) := hc.1.2 (by have := hc.1.1.2.2.2; omega)
  rw [a4] at u h4
  have e : sq h (k + 1) = _ := (sq_s h k).trans (a7_o hm K (by omega) F)
  have m := MC_l hm h4 h7 hd (f1 _ _ (by omega)) (f1 _ _ (by omega)) a3 (f1 _ _ (by omega)) (f1 _ _ (by omega)) (fun a i g1 g2 => f1 _ _ (by omega)) u (fun a i _ _ g => f a i g) hc
  rw [← e] at m
  exact ⟨⟨tk, MC_r ht fr m⟩, by rw [e]; rfl⟩
/-- whether a LINE's numbers FIT -/
theorem FIT_i {h : Int → Int} {s : RG} {z w : mZ} {t : Nat} (hc : MC h s z w t) (hm : s 0 ≠ 1) (h3 : s 3 ≤ 12) (h4 : 0 ≤ s 4 ∧ s 4 ≤ 7) (hT : ∀ i : Nat, i < 36 → 0 ≤ z (t + 1) i ∧ z (t + 1) i < 18) (q : Nat) (hq : (q : Int) < s 3) : tri (nmq s (3 * q)) (nmq s (3 * q + 1)) (nmq s (3 * q + 2)) ↔ tri (w (t + 8 + (s 4).toNat) (z (t + 1) (3 * q)).toNat) (w (t + 8 + (s 4).toNat) (z (t + 1) (3 * q + 1)).toNat) (w (t + 8 + (s 4).toNat) (z (t + 1) (3 * q + 2)).toNat) := by
  have E : ∀ i : Nat, i < 36 → (i : Int) < 3 * s 3 → nmq s i = w (t + 8 + (s 4).toNat) (z (t + 1) i).toNat := fun i h1 h2 => by
    have c : cs s = 0 := if_neg hm
    unfold nmq
    rw [← hc.2.1.1 i h1 (by omega)]
    exact (hc.2.2.1 _ _ (by omega) (by have := hT i h1; omega)).symm
  rw [E _ (by omega) (by omega), E _ (by omega) (by omega), E _ (by omega) (by omega)]
theorem FIT_y {h : Int → Int} {s : RG} {z w : mZ} {t : Nat} (hc : MC h s z w t) (hm : s 0 ≠ 1) (h3 : s 3 ≤ 12) (h4 : 0 ≤ s 4 ∧ s 4 ≤ 7) (hT : ∀ i : Nat, i < 36 → 0 ≤ z (t + 1) i ∧ z (t + 1) i < 18) (g : ∀ q : Nat, (q : Int) < z t 0 → tri (w (t + 8 + (z t 3).toNat) (z (t + 1) (3 * q)).toNat) (w (t + 8 + (z t 3).toNat) (z (t + 1) (3 * q + 1)).toNat) (w (t + 8 + (z t 3).toNat) (z (t + 1) (3 * q + 2)).toNat)) : FITq s := by
  intro q hq
  have g2 := g q (by rw [hc.1.1.1]; exact hq)
  rw [hc.1.1.2.1] at g2
  exact (FIT_i hc hm h3 h4 hT q hq).mpr g2
theorem FIT_n {h : Int → Int} {s : RG} {z w : mZ} {t : Nat} (hc : MC h s z w t) (hm : s 0 ≠ 1) (h3 : s 3 ≤ 12) (h4 : 0 ≤ s 4 ∧ s 4 ≤ 7) (hT : ∀ i : Nat, i < 36 → 0 ≤ z (t + 1) i ∧ z (t + 1) i < 18) (g : ¬ ∀ q : Nat, (q : Int) < z t 0 → tri (w (t + 8 + (z t 3).toNat) (z (t + 1) (3 * q)).toNat) (w (t + 8 + (z t 3).toNat) (z (t + 1) (3 * q + 1)).toNat) (w (t + 8 + (z t 3).toNat) (z (t + 1) (3 * q + 2)).toNat)) : ¬ FITq s := by
  intro F
  refine g (fun q hq => ?_)
  rw [hc.1.1.1] at hq
  rw [hc.1.1.2.1]
  exact (FIT_i hc hm h3 h4 hT q hq).mp (F q hq)
/-- a TWIST; a WORD's end -/
theorem CA_t {h : Int → Int} {z w z1 z' w' : mZ} {t k : Nat} {v : Int} (ht : 159 ≤ t) (hc : MC h (sq h k) z w t) (hm : sq h k 0 = 11 ∨ sq h k 0 = 12) (e : sq h (k + 1) = adt (sq h k) v) (h5 : 0 ≤ z t 4 ∧ z t 4 ≤ 5) (h6 : 0 ≤ sq h k 6 ∧ sq h k 6 ≤ 7) (h4 : z t 3 ≤ 8) (f1 : ∀ a i, a ≠ t + 20 + (z t 4).toNat → a ≠ t + 27 + (z t 4).toNat → z1 a i = z a i)
    (u1 : ∀ i : Nat, z1 (t + 20 + (z t 4).toNat) i = if i = (sq h k 6).toNat then sq h k 8 else z (t + 20 + (z t 4).toNat) i) (u2 : ∀ i : Nat, z1 (t + 27 + (z t 4).toNat) i = if i = (sq h k 6).toNat then v else z (t + 27 + (z t 4).toNat) i)
    (fr : Fr z1 w z' w') (tk : TKc h z' w' (tp h (k + 1))) : CA h z' w' t (k + 1) ∧ sq h (k + 1) 0 = 10 ∧ sq h (k + 1) 6 = sq h k 6 + 1 ∧ (∀ j, j ≠ 0 → j ≠ 6 → (j < 420 ∨ 520 ≤ j) → sq h (k + 1) j = sq h k j) := by
  have a5 : z t 4 = sq h k 5 := hc.1.1.2.2.1
  have a4 : z t 3 = sq h k 4 := hc.1.1.2.1
  rw [a5] at h5 f1 u1 u2
  have m := MC_t (v := v) hm h5 h6 (by omega) (f1 t 0 (by omega) (by omega)) (f1 _ _ (by omega) (by omega)) (f1 _ _ (by omega) (by omega)) (f1 _ _ (by omega) (by omega)) (f1 _ _ (by omega) (by omega)) (fun a i _ _ g1 g2 => f1 a i g1 g2) u1 u2 hc
  rw [← e] at m
  refine ⟨⟨tk, MC_r ht fr m⟩, by rw [e]; rfl, ?_, fun j g1 g2 g3 => ?_⟩
  · rw [e]; unfold adt; rw [su_n (by omega), su_e]
  · rw [e]; unfold adt; rw [su_n g1, su_n g2, su_n (by omega), su_n (by omega)]
theorem CA_we {h : Int → Int} {z w z1 w1 z' w' : mZ} {t k : Nat} (ht : 159 ≤ t) (hc : MC h (sq h k) z w t) (hm : sq h k 0 = 10) (h6 : 0 < sq h k 6) (h5 : 0 ≤ z t 4 ∧ z t 4 ≤ 5) (h4 : z t 3 ≤ 8) (K : tkK h (tp h k) = 3) (h7 : wdq h (sq h k 7)) (fr : Fr z w z1 w1) (tk : TKc h z1 w1 (tp h (k + 1)))
    (a4 : z' t 4 = z1 t 4 + 1) (f1 : ∀ a i, (a = t → i ≠ 4) → a ≠ t + 18 → z' a i = z1 a i) (u1 : ∀ e : Nat, z' (t + 18) e = if e = (z t 4).toNat then sq h k 6 else z1 (t + 18) e) (u : ∀ e : Nat, w' (t + 17) e = if e = (z t 4).toNat then tkW5 h (sq h k 7) else w1 (t + 17) e) (f : ∀ a i, a ≠ t + 17 → w' a i = w1 a i) : CA h z' w' t (k + 1) ∧ sq h (k + 1) 0 = 0 := by
  have a5 : z t 4 = sq h k 5 := hc.1.1.2.2.1
  have a3 : z t 3 = sq h k 4 := hc.1.1.2.1
  rw [a5] at h5 u1 u
  have e : sq h (k + 1) = _ := (sq_s h k).trans (a10_e hm K h6)
  have m := MC_w (z' := z') (w' := w') hm (by omega) h5 h7 (f1 t 0 (by omega) (by omega)) (f1 _ _ (by omega) (by omega)) (f1 _ _ (by omega) (by omega)) a4 (f1 _ _ (by omega) (by omega)) (fun a i g1 g2 g3 => f1 _ _ (by omega) g3) u1 u (fun a i _ _ g => f a i g) (MC_r ht fr hc)
  rw [← e] at m
  exact ⟨⟨TKc_f (f1 _ _ (by omega) (by omega)) (f1 _ _ (by omega) (by omega)) (f1 _ _ (by omega) (by omega)) (f1 _ _ (by omega) (by omega)) (f _ _ (by omega)) (f1 _ _ (by omega) (by omega)) tk, m⟩, by rw [e]; rfl⟩
theorem MC_0 {h : Int → Int} {z w : mZ} {t : Nat} (a0 : z t 0 = 0) (a1 : z t 1 = 0) (a3 : z t 3 = 0) (a4 : z t 4 = 0) (a5 : z 3 5 = 0) (u : ∀ e : Nat, e < 18 → z (t + 4) e = 0) (r : ∀ l e : Nat, l < 8 → e < 18 → w (t + 8 + l) e = 0) : MC h (sq h 0) z w t := by
  refine ⟨⟨⟨a0, a3, a4, a5⟩, fun q => absurd q (by show ¬ (0 : Int) = 1; omega)⟩, ⟨fun i _ hi => ?_, u, fun _ => PI_n u⟩, r, ⟨fun l hl => ?_, fun l _ hl => ?_, fun a ha => ?_⟩, fun a ha => ?_, fun a i q => ?_⟩
  · have hi : (i : Int) < 3 * 0 + 0 := hi
    omega
  · have hl : (l : Int) < 0 := hl
    omega
  · have hl : (l : Int) < 0 := hl
    omega
  · have ha : (a : Int) < 0 := ha
    omega
  · have ha : (a : Int) < 0 := ha
    omega
  · rcases q.2 with g | g
    · have g : (a : Int) < 0 := g.1
      omega
    · have g : (10 : Int) ≤ 0 := g.2.1.1
      omega
/-- the text's end -/
theorem MC_end {h : Int → Int} {z w : mZ} {t k : Nat} (hm : sq h k 0 = 0) (K : tkK h (tp h k) = 0) (hc : MC h (su (sq h k) 10 1) z w t) (c : clq (sq h k)) : ∃ k, sq h k 0 = 20 ∧ MC h (sq h k) z w t := by
  have e : sq h (k + 1) = _ := (sq_s h k).trans (a0_e1 hm K c)
  have n : ∀ j, j ≠ 0 → sq h (k + 1) j = su (sq h k) 10 1 j := fun j g => by
    rw [e]
    by_cases d : j = 10
    · rw [d, su_e, su_e]
    · rw [su_n d, su_n g, su_n d]
  have e0 : sq h (k + 1) 0 = 20 := by rw [e, su_n (by omega), su_e]
  refine ⟨k + 1, e0, MC_m (fun j h1 h2 => n j (by omega)) (fun j h1 => n j (by omega)) ?_ (fun a i q => ?_) hc⟩
  · unfold cs; rw [e0, if_neg (by omega), su_n (by omega), hm, if_neg (by omega)]
  · unfold iw at q ⊢
    rw [e0, n 5 (by omega), n (520 + a) (by omega)] at q
    exact ⟨q.1, q.2.elim Or.inl (fun g => absurd g.2.1 (by omega))⟩
theorem su_i {s : RG} (h : s 10 = 1) : su s 10 1 = s := by
  funext j
  by_cases c : j = 10
  · rw [c, su_e, h]
  · rw [su_n c]
/-- between two lines of the text; the PIECES closed; at the end -/
def CAz (h : Int → Int) (z w : mZ) (t : Nat) : Prop := ∃ k, CA h z w t k ∧ sq h k 0 = 0
def CCz (h : Int → Int) (z w : mZ) (t : Nat) : Prop := ∃ k, (TKc h z w (tp h k) ∧ MC h (su (sq h k) 10 1) z w t) ∧ clq (sq h k) ∧ sq h k 0 = 0
def CEz (h : Int → Int) (z w : mZ) (t : Nat) : Prop := ∃ k, sq h k 0 = 20 ∧ MC h (sq h k) z w t
theorem CEz_i {h : Int → Int} {z w : mZ} {t k : Nat} (hm : sq h k 0 = 0) (K : tkK h (tp h k) = 0) (hc : MC h (su (sq h k) 10 1) z w t) (c : clq (sq h k)) : CEz h z w t := MC_end hm K hc c
end
section
/-! bits of ints; PIECES that hang together -/
def BT (r : Int) (q : Nat) : Prop := r.toNat.testBit q = true
theorem BT_d {r : Int} (h0 : 0 ≤ r) (q : Nat) : BT r q ↔ r / 2 ^ q % 2 = 1 := by
  unfold BT
  rw [Nat.testBit_eq_decide_div_mod_eq, decide_eq_true_iff]
  obtain ⟨n, rfl⟩ := Int.eq_ofNat_of_zero_le h0
  rw [Int.toNat_natCast]
  constructor
  · intro h
    have : (((n / 2 ^ q % 2 : Nat)) : Int) = ((1 : Nat) : Int) := congrArg _ h
    rw [Int.natCast_emod, Int.natCast_ediv, Int.natCast_pow] at this
    exact this
  · intro h
    have : (((n / 2 ^ q % 2 : Nat)) : Int) = ((1 : Nat) : Int) := by
      rw [Int.natCast_emod, Int.natCast_ediv, Int.natCast_pow]
      exact h
    exact Int.ofNat.inj this
theorem BT_2 (e q : Nat) : BT (2 ^ e : Int) q ↔ q = e := by
  unfold BT
  rw [show ((2 : Int) ^ e).toNat = 2 ^ e from by
    have h : ((2 : Int) ^ e) = ((2 ^ e : Nat) : Int) := (Int.natCast_pow 2 e).symm
    rw [h, Int.toNat_natCast], Nat.testBit_two_pow]
  rw [decide_eq_true_iff]
  exact eq_comm
theorem BT_0 (q : Nat) : ¬ BT 0 q := by
  unfold BT
  rw [show (0 : Int).toNat = 0 from rfl, Nat.zero_testBit]
  exact Bool.false_ne_true
theorem BT_1 (q : Nat) : BT 1 q ↔ q = 0 := BT_2 0 q
/-- all bits below m, none else -/
theorem BT_m {r : Int} (h0 : 0 ≤ r) (m : Nat) (hn : ∀ q, BT r q → q < m) : r = 2 ^ m - 1 ↔ ∀ q, q < m → BT r q := by
  have e : ((2 : Int) ^ m - 1) = ((2 ^ m - 1 : Nat) : Int) := by
    have h : ((2 : Int) ^ m) = ((2 ^ m : Nat) : Int) := (Int.natCast_pow 2 m).symm
    have := Nat.one_le_two_pow (n := m)
    rw [h]; omega
  rw [e]
  obtain ⟨n, rfl⟩ := Int.eq_ofNat_of_zero_le h0
  unfold BT at *
  rw [Int.toNat_natCast] at *
  constructor
  · intro h q hq
    have h := Int.ofNat.inj h
    rw [h, Nat.testBit_two_pow_sub_one, decide_eq_true_iff]; exact hq
  · intro h
    refine congrArg _ (Nat.eq_of_testBit_eq fun i => ?_)
    rw [Nat.testBit_two_pow_sub_one]
    by_cases c : i < m
    · rw [h i c, decide_eq_true c]
    · rw [decide_eq_false c]
      have := hn i
      cases g : n.testBit i
      · rfl
      · exact absurd (this g) c
theorem r_sh1 {d k nL : Nat} {rt : Option FieldType} {Q : pm_R → Prop} {pc pc' len r1 r2 : Nat} {cst e : Int} {hs : List (Nat × Nat)} {lv : pm_L} {r : List Value} {h : pm_H} (h1 : pm_ins k pc = some (.ishl, len, r1, r2, cst, hs)) (hp : pc + 1 = pc') (h0 : 0 ≤ e) (he : e ≤ 30) (w : ∀ v, v = 2 ^ e.toNat → 1 ≤ v → v ≤ 1073741824 → wp_ d k nL rt (pc', lv, .int (Int32.ofInt v) :: r, h) Q) : wp_ d k nL rt (pc, lv, .int (Int32.ofInt e) :: .int (Int32.ofInt 1) :: r, h) Q := by
  have b : 1 ≤ (2 : Int) ^ e.toNat ∧ (2 : Int) ^ e.toNat ≤ 1073741824 := by
    have h : ((2 : Int) ^ e.toNat) = ((2 ^ e.toNat : Nat) : Int) := (Int.natCast_pow 2 e.toNat).symm
    have g1 := Nat.one_le_two_pow (n := e.toNat)
    have g2 : 2 ^ e.toNat ≤ 2 ^ 30 := Nat.pow_le_pow_right (by omega) (by omega)
    rw [h]; omega
  have k := r_shl (s := e.toNat) h1 hp (by omega) (a := 1) (Q := Q) (d := d) (nL := nL) (rt := rt) (lv := lv) (r := r) (h := h) (by rw [Int.one_mul]; exact w _ rfl b.1 b.2)
  rw [show ((e.toNat : Nat) : Int) = e by omega] at k
  exact k
theorem r_orb {d k nL : Nat} {rt : Option FieldType} {Q : pm_R → Prop} {pc pc' len r1 r2 : Nat} {cst a b : Int} {hs : List (Nat × Nat)} {lv : pm_L} {r : List Value} {h : pm_H} (h1 : pm_ins k pc = some (.ior, len, r1, r2, cst, hs)) (hp : pc + 1 = pc') (ha : 0 ≤ a ∧ a < 2147483648) (hb : 0 ≤ b ∧ b < 2147483648) (w : ∀ v, 0 ≤ v ∧ v ≤ 2147483647 → (∀ q, BT v q ↔ BT a q ∨ BT b q) → wp_ d k nL rt (pc', lv, .int (Int32.ofInt v) :: r, h) Q) : wp_ d k nL rt (pc, lv, .int (Int32.ofInt b) :: .int (Int32.ofInt a) :: r, h) Q := by
  obtain ⟨x, rfl⟩ := Int.eq_ofNat_of_zero_le ha.1
  obtain ⟨y, rfl⟩ := Int.eq_ofNat_of_zero_le hb.1
  have lt : x ||| y < 2 ^ 31 := Nat.or_lt_two_pow (by omega) (by omega)
  have e : Int32.ofInt (x : Int) ||| Int32.ofInt (y : Int) = Int32.ofInt ((x ||| y : Nat) : Int) := by
    apply Int32.toBitVec_inj.1
    rw [Int32.toBitVec_or]
    apply BitVec.eq_of_toNat_eq
    have e1 : ∀ u : Nat, u < 2147483648 → (Int32.ofInt (u : Int)).toBitVec.toNat = u := by
      intro u hu
      have : (Int32.ofInt (u : Int)).toBitVec = BitVec.ofInt 32 u := rfl
      rw [this, BitVec.toNat_ofInt]
      omega
    rw [BitVec.toNat_or, e1 _ (by omega), e1 _ (by omega), e1 _ (by omega)]
  refine r_al h1 rfl hp (congrArg (fun y => some (Value.int y :: r)) e) (w _ ⟨by omega, by omega⟩ (fun q => ?_))
  unfold BT
  rw [Int.toNat_natCast, Int.toNat_natCast, Int.toNat_natCast, Nat.testBit_or, Bool.or_eq_true]
/-- the class's rounds: slot by slot -/
def hgp (T O : Nat → Int) (m r s q : Nat) : Prop := hgx T m (r * m + s / 3) q ∨ (hgx T m (r * m + s / 3) (s / 3) ∧ ∃ i, i < s % 3 ∧ (O (3 * (s / 3) + i)).toNat / 3 = q)
theorem hgx_s {T : Nat → Int} {m j q : Nat} : hgx T m (j + 1) q ↔ hgx T m j q ∨ (q < m ∧ hgx T m j (j % m) ∧ hg T (j % m) q) := Iff.rfl
theorem hgx_l {T : Nat → Int} {m : Nat} (h : 0 < m) : ∀ j q, hgx T m j q → q < m
  | 0, q, e => by have e : q = 0 := e; omega
  | j + 1, q, e => e.elim (hgx_l h j q) (fun g => g.1)
theorem hgp_0 {T O : Nat → Int} {m r q : Nat} : hgp T O m r 0 q ↔ hgx T m (r * m) q := by
  unfold hgp
  exact ⟨fun h => h.elim id (fun g => absurd g.2 (by rintro ⟨i, hi, _⟩; omega)), Or.inl⟩
theorem hgp_m {T O : Nat → Int} {m r q : Nat} : hgp T O m r (3 * m) q ↔ hgx T m ((r + 1) * m) q := by
  unfold hgp
  rw [show 3 * m / 3 = m by omega, show 3 * m % 3 = 0 by omega, show (r + 1) * m = r * m + m from Nat.succ_mul r m]
  exact ⟨fun h => h.elim id (fun g => absurd g.2 (by rintro ⟨i, hi, _⟩; omega)), Or.inl⟩
theorem hgp_p {T O : Nat → Int} {m r s : Nat} : hgp T O m r s (s / 3) ↔ hgx T m (r * m + s / 3) (s / 3) := by
  unfold hgp
  exact ⟨fun h => h.elim id (fun g => g.1), Or.inl⟩
theorem hgp_s {T O : Nat → Int} {m r s q : Nat} (hs : s < 3 * m) (H : ∀ p q, p < m → q < m → (hg T p q ↔ q = p ∨ ∃ i, i < 3 ∧ (O (3 * p + i)).toNat / 3 = q)) (hO : ∀ i, i < 3 * m → (O i).toNat < 3 * m) : hgp T O m r (s + 1) q ↔ hgp T O m r s q ∨ (hgp T O m r s (s / 3) ∧ (O s).toNat / 3 = q) := by
  rw [hgp_p]
  have es : 3 * (s / 3) + s % 3 = s := by omega
  by_cases c : s % 3 = 2
  · unfold hgp
    rw [show (s + 1) / 3 = s / 3 + 1 by omega, show (s + 1) % 3 = 0 by omega, c, show r * m + (s / 3 + 1) = (r * m + s / 3) + 1 from rfl, hgx_s, hgx_s]
    have em : (r * m + s / 3) % m = s / 3 := by rw [Nat.mul_comm, Nat.mul_add_mod]; exact Nat.mod_eq_of_lt (by omega)
    rw [em]
    constructor
    · rintro ((h | ⟨h1, h2, h3⟩) | ⟨_, i, hi, _⟩)
      · exact Or.inl (Or.inl h)
      · rcases (H _ _ (by omega) h1).mp h3 with h4 | ⟨i, hi, h4⟩
        · rw [h4]; exact Or.inl (Or.inl h2)
        · by_cases d : i < 2
          · exact Or.inl (Or.inr ⟨h2, i, d, h4⟩)
          · refine Or.inr ⟨h2, ?_⟩
            rw [← h4]; congr 2; exact congrArg O (by omega)
      · omega
    · rintro ((h | ⟨h1, i, hi, h2⟩) | ⟨h1, h2⟩)
      · exact Or.inl (Or.inl h)
      · have := hO (3 * (s / 3) + i) (by omega)
        exact Or.inl (Or.inr ⟨by omega, h1, (H _ _ (by omega) (by omega)).mpr (Or.inr ⟨i, by omega, h2⟩)⟩)
      · have := hO s hs
        exact Or.inl (Or.inr ⟨by omega, h1, (H _ _ (by omega) (by omega)).mpr (Or.inr ⟨2, by omega, by rw [← h2]; congr 2; exact congrArg O (by omega)⟩)⟩)
  · unfold hgp
    rw [show (s + 1) / 3 = s / 3 by omega, show (s + 1) % 3 = s % 3 + 1 by omega]
    constructor
    · rintro (h | ⟨h1, i, hi, h2⟩)
      · exact Or.inl (Or.inl h)
      · by_cases d : i < s % 3
        · exact Or.inl (Or.inr ⟨h1, i, d, h2⟩)
        · refine Or.inr ⟨h1, ?_⟩
          rw [← h2]; congr 2; exact congrArg O (by omega)
    · rintro ((h | ⟨h1, i, hi, h2⟩) | ⟨h1, h2⟩)
      · exact Or.inl h
      · exact Or.inr ⟨h1, i, by omega, h2⟩
      · exact Or.inr ⟨h1, s % 3, by omega, by rw [es]; exact h2⟩
/-- the reference's rounds: PIECE by PIECE -/
def hgr (T : Nat → Int) (m r p c q : Nat) : Prop := hgx T m (r * m + p) q ∨ (q < c ∧ hgx T m (r * m + p) p ∧ hg T p q)
theorem hgr_s {T : Nat → Int} {m r p c q : Nat} : hgr T m r p (c + 1) q ↔ hgr T m r p c q ∨ (q = c ∧ hgx T m (r * m + p) p ∧ hg T p c) := by
  unfold hgr
  constructor
  · rintro (h | ⟨h1, h2, h3⟩)
    · exact Or.inl (Or.inl h)
    · by_cases d : q = c
      · exact Or.inr ⟨d, h2, by rw [← d]; exact h3⟩
      · exact Or.inl (Or.inr ⟨by omega, h2, h3⟩)
  · rintro ((h | ⟨h1, h2, h3⟩) | ⟨h1, h2, h3⟩)
    · exact Or.inl h
    · exact Or.inr ⟨by omega, h2, h3⟩
    · exact Or.inr ⟨by omega, h2, by rw [h1]; exact h3⟩
theorem hgr_0 {T : Nat → Int} {m r p q : Nat} : hgr T m r p 0 q ↔ hgx T m (r * m + p) q := ⟨fun h => h.elim id (fun g => absurd g.1 (by omega)), Or.inl⟩
theorem hgr_m {T : Nat → Int} {m r p q : Nat} (hp : p < m) : hgr T m r p m q ↔ hgx T m (r * m + (p + 1)) q := by
  have em : (r * m + p) % m = p := by rw [Nat.mul_comm, Nat.mul_add_mod]; exact Nat.mod_eq_of_lt hp
  rw [show r * m + (p + 1) = (r * m + p) + 1 from rfl, hgx_s, em]
  exact Iff.rfl
theorem hgr_n {T : Nat → Int} {m r p q : Nat} (hp : p < m) (h : ¬ hgx T m (r * m + p) p) : hgx T m (r * m + (p + 1)) q ↔ hgx T m (r * m + p) q := by
  have em : (r * m + p) % m = p := by rw [Nat.mul_comm, Nat.mul_add_mod]; exact Nat.mod_eq_of_lt hp
  rw [show r * m + (p + 1) = (r * m + p) + 1 from rfl, hgx_s, em]
  exact ⟨fun g => g.elim id (fun g => absurd g.2.1 h), Or.inl⟩
theorem hgp_t {T O : Nat → Int} {m r s : Nat} {x u v : Int} {e : Nat} (hs : s < 3 * m) (H : ∀ p q, p < m → q < m → (hg T p q ↔ q = p ∨ ∃ i, i < 3 ∧ (O (3 * p + i)).toNat / 3 = q)) (hO : ∀ i, i < 3 * m → (O i).toNat < 3 * m) (hb : hgp T O m r s (s / 3)) (X : ∀ q, BT x q ↔ hgp T O m r s q) (hv : ∀ q, BT v q ↔ BT x q ∨ BT u q) (hu : u = 2 ^ e) (he : e = (O s).toNat / 3) : ∀ q, BT v q ↔ hgp T O m r (s + 1) q := by
  intro q
  rw [hgp_s hs H hO, hv q, X q, hu, BT_2]
  constructor
  · rintro (h | h)
    · exact Or.inl h
    · exact Or.inr ⟨hb, by omega⟩
  · rintro (h | ⟨_, h⟩)
    · exact Or.inl h
    · exact Or.inr (by omega)
theorem hgp_f {T O : Nat → Int} {m r s : Nat} {x : Int} (hs : s < 3 * m) (H : ∀ p q, p < m → q < m → (hg T p q ↔ q = p ∨ ∃ i, i < 3 ∧ (O (3 * p + i)).toNat / 3 = q)) (hO : ∀ i, i < 3 * m → (O i).toNat < 3 * m) (hb : ¬ hgp T O m r s (s / 3)) (X : ∀ q, BT x q ↔ hgp T O m r s q) : ∀ q, BT x q ↔ hgp T O m r (s + 1) q := by
  intro q
  rw [hgp_s hs H hO, X q]
  exact ⟨Or.inl, fun h => h.elim id (fun g => absurd g.1 hb)⟩
theorem hg_end {T : Nat → Int} {m : Nat} {x v : Int} (h0 : 0 ≤ x) (hm : 0 < m) (X : ∀ q, BT x q ↔ hgx T m (m * m) q) (hv : v = 2 ^ m) : x = v - 1 ↔ ∀ q, q < m → hgx T m (m * m) q := by
  rw [hv, BT_m h0 m (fun q g => hgx_l hm _ q ((X q).mp g))]
  exact ⟨fun g q hq => (X q).mp (g q hq), fun g q hq => (X q).mpr (g q hq)⟩
/-- WHOLE, of rows -/
def WHm (m : Int) (T tt : Nat → Int) : Prop := m % 2 = 0 ∧ (∀ e : Nat, e < 18 → tt e = if (e : Int) < 3 * m / 2 then 2 else 0) ∧ ∀ q : Nat, (q : Int) < m → hgx T m.toNat (m.toNat * m.toNat) q
theorem hg_c {T T' : Nat → Int} {m p q : Nat} (h : ∀ i, i < 3 * m → T i = T' i) (hp : p < m) (hq : q < m) : hg T p q ↔ hg T' p q := by
  unfold hg
  constructor
  · rintro ⟨i, j, hi, hj, e⟩; exact ⟨i, j, hi, hj, by rw [← h _ (by omega), ← h _ (by omega)]; exact e⟩
  · rintro ⟨i, j, hi, hj, e⟩; exact ⟨i, j, hi, hj, by rw [h _ (by omega), h _ (by omega)]; exact e⟩
theorem hgx_c {T T' : Nat → Int} {m : Nat} (hm : 0 < m) (h : ∀ i, i < 3 * m → T i = T' i) : ∀ j q, hgx T m j q ↔ hgx T' m j q
  | 0, q => Iff.rfl
  | j + 1, q => by
    rw [hgx_s, hgx_s, hgx_c hm h j q, hgx_c hm h j (j % m)]
    constructor
    · rintro (g | ⟨g1, g2, g3⟩)
      · exact Or.inl g
      · exact Or.inr ⟨g1, g2, (hg_c h (Nat.mod_lt _ hm) g1).mp g3⟩
    · rintro (g | ⟨g1, g2, g3⟩)
      · exact Or.inl g
      · exact Or.inr ⟨g1, g2, (hg_c h (Nat.mod_lt _ hm) g1).mpr g3⟩
theorem WHm_c {m : Int} {T T' tt tt' : Nat → Int} (hT : ∀ i : Nat, (i : Int) < 3 * m → T i = T' i) (ht : ∀ e, e < 18 → tt e = tt' e) : WHm m T tt ↔ WHm m T' tt' := by
  unfold WHm
  constructor
  · rintro ⟨a, b, c⟩
    exact ⟨a, fun e he => by rw [← ht e he]; exact b e he, fun q hq => (hgx_c (by omega) (fun i hi => hT i (by omega)) _ _).mp (c q hq)⟩
  · rintro ⟨a, b, c⟩
    exact ⟨a, fun e he => by rw [ht e he]; exact b e he, fun q hq => (hgx_c (by omega) (fun i hi => hT i (by omega)) _ _).mpr (c q hq)⟩
theorem WHm_q (s : RG) : WHq s ↔ WHm (s 3) (fun i => s (100 + i)) (fun e => s (140 + e)) := Iff.rfl
theorem PI_z {m : Int} {T tt fs ss : Nat → Int} (p : PI T tt fs ss (3 * m)) (he : m % 2 = 0) (h2 : ∀ e : Nat, (e : Int) < m / 2 * 3 → tt e = 2) (m0 : 0 ≤ m) (hm : m ≤ 12) : ∀ e : Nat, e < 18 → m / 2 * 3 ≤ (e : Int) → tt e = 0 := by
  obtain ⟨hs, hp⟩ := p
  intro e e1 e2
  have nn : ∀ j : Nat, j < 18 → 0 ≤ tt j := fun j hj => (hp j hj).1
  have k : ∀ N : Nat, (N : Int) ≤ m / 2 * 3 → N ≤ 18 → sm tt N = 2 * N := by
    intro N
    induction N with
    | zero => intro _ _; rfl
    | succ N ih =>
      intro a b
      have := ih (by omega) (by omega)
      rw [sm_s, this, h2 N (by omega)]; omega
  have k1 := k (m / 2 * 3).toNat (by omega) (by omega)
  have k2 := sm_le (f := tt) (k := e) 18 (by omega) nn
  have k3 := sm_le (f := tt) (k := e + 1) 18 (by omega) nn
  have k4 := sm_le (f := tt) (k := (m / 2 * 3).toNat) e (by omega) (fun j hj => nn j (by omega))
  have k5 := nn e e1
  rw [sm_s] at k3
  omega
theorem WHm_y {m : Int} {T tt fs ss : Nat → Int} (p : PI T tt fs ss (3 * m)) (m0 : 0 ≤ m) (hm : m ≤ 12) (he : m % 2 = 0) (h2 : ∀ e : Nat, (e : Int) < m / 2 * 3 → tt e = 2) (hx : ∀ q : Nat, (q : Int) < m → hgx T m.toNat (m.toNat * m.toNat) q) : WHm m T tt := by
  refine ⟨he, fun e h => ?_, hx⟩
  by_cases c : (e : Int) < 3 * m / 2
  · rw [if_pos c]; exact h2 e (by omega)
  · rw [if_neg c]; exact PI_z p he h2 m0 hm e h (by omega)
theorem WHm_n {m : Int} {T tt : Nat → Int} {e : Nat} (h : (e : Int) < m / 2 * 3) (m0 : 0 ≤ m) (hm : m ≤ 12) (c : tt e ≠ 2) : ¬ WHm m T tt := by
  rintro ⟨a, b, _⟩
  have := b e (by omega)
  rw [if_pos (by omega)] at this
  exact c this
theorem hg_WT {m E : Int} {T o fs : Nat → Int} (W : WT m E T o fs) (p q : Nat) (hp : p < m.toNat) (hq : q < m.toNat) : hg T p q ↔ q = p ∨ ∃ i, i < 3 ∧ (o (3 * p + i)).toNat / 3 = q := by
  unfold hg
  constructor
  · rintro ⟨i, j, hi, hj, e⟩
    rcases W.tw (3 * p + i) (3 * q + j) (by omega) (by omega) e with g | g
    · exact Or.inl (by omega)
    · exact Or.inr ⟨i, hi, by omega⟩
  · rintro (g | ⟨i, hi, g⟩)
    · exact ⟨0, 0, by omega, by omega, by rw [g]⟩
    · have k := W.oL (3 * p + i) (by omega)
      refine ⟨i, (o (3 * p + i)).toNat % 3, hi, by omega, ?_⟩
      rw [show 3 * q + (o (3 * p + i)).toNat % 3 = (o (3 * p + i)).toNat by omega]
      exact (W.oT (3 * p + i) (by omega)).symm
end

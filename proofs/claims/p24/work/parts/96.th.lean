/-! reading as a pure function of the text: one step a token. Places of a state: 0 where it is, 1 2 the fault and its place, 3 PIECES, 4 LINES, 5 WORDS, 6 a count, 7 a name's place, 8 a LINE, 9 a place, 10 whether the PIECES are closed, 100 .. the PIECES' EDGES, 140 .. how often told, 200 .. numbers, 400 .. 410 .. names' places, 420 .. 470 .. TWISTS, 520 .. how many -/
abbrev RG : Type := Nat → Int
def su (s : RG) (i : Nat) (v : Int) : RG := fun j => if j = i then v else s j
theorem su_e {s : RG} {i : Nat} {v : Int} : su s i v i = v := if_pos rfl
theorem su_n {s : RG} {i j : Nat} {v : Int} (h : j ≠ i) : su s i v j = s j := if_neg h
def flt (s : RG) (f p : Int) : RG := su (su (su s 0 21) 1 f) 2 p
def bd (s : RG) (c p : Int) : RG := flt s (if c = 5 then 1 else 2) p
abbrev ED (s : RG) : Int := 3 * s 3 / 2
def hg (T : Nat → Int) (p q : Nat) : Prop := ∃ i j, i < 3 ∧ j < 3 ∧ T (3 * p + i) = T (3 * q + j)
def hgx (T : Nat → Int) (m : Nat) : Nat → Nat → Prop
  | 0 => fun q => q = 0
  | j + 1 => fun q => hgx T m j q ∨ (q < m ∧ hgx T m j (j % m) ∧ hg T (j % m) q)
def WHq (s : RG) : Prop := s 3 % 2 = 0 ∧ (∀ e : Nat, e < 18 → s (140 + e) = if (e : Int) < ED s then 2 else 0) ∧ ∀ q : Nat, (q : Int) < s 3 → hgx (fun i => s (100 + i)) (s 3).toNat ((s 3).toNat * (s 3).toNat) q
abbrev nmq (s : RG) (i : Nat) : Int := s (200 + 18 * (s 4).toNat + (s (100 + i)).toNat)
def FITq (s : RG) : Prop := ∀ q : Nat, (q : Int) < s 3 → tri (nmq s (3 * q)) (nmq s (3 * q + 1)) (nmq s (3 * q + 2))
def fnl (W : Nat → Int) (x : Int) : Nat → Int
  | 0 => -1
  | m + 1 => if W m = x then (m : Int) else fnl W x m
noncomputable abbrev fnq (h : Int → Int) (s : RG) (p : Int) : Int := fnl (fun l => tkW8 h (s (400 + l))) (tkW8 h p) (s 4).toNat
abbrev clq (s : RG) : Prop := s 10 = 1 ∨ WHq s
noncomputable def d0 (h : Int → Int) (s : RG) (p : Int) : RG :=
  if tkK h p = 0 then ifp (clq s) (su (su s 0 20) 10 1) (flt s 6 p)
  else if tkK h p = 6 then (if s 10 = 1 ∨ 12 ≤ s 3 then bd s (tkK h p) p else su (su s 0 1) 6 0)
  else if tkK h p = 7 then ifp (clq s) (if 8 ≤ s 4 then bd s (tkK h p) p else su (su (su s 0 5) 10 1) 6 0) (flt s 6 p)
  else if tkK h p = 9 then ifp (clq s) (if 6 ≤ s 5 then bd s (tkK h p) p else su (su (su s 0 8) 10 1) 6 0) (flt s 6 p)
  else bd s (tkK h p) p
noncomputable def d1 (h : Int → Int) (s : RG) (p : Int) : RG :=
  if s 6 < 3 then
    (if tkK h p ≠ 2 then bd s (tkK h p) p else if 18 ≤ tkN h p then flt s 4 p else if 2 ≤ s (140 + (tkN h p).toNat) then flt s 3 p
     else su (su (su s (100 + (3 * s 3 + s 6).toNat) (tkN h p)) (140 + (tkN h p).toNat) (s (140 + (tkN h p).toNat) + 1)) 6 (s 6 + 1))
  else if tkK h p ≠ 3 then bd s (tkK h p) p else su (su (su s 3 (s 3 + 1)) 6 0) 0 0
noncomputable def d5 (h : Int → Int) (s : RG) (p : Int) : RG :=
  if tkK h p ≠ 1 then bd s (tkK h p) p else ifp (∃ l : Nat, (l : Int) < s 4 ∧ tkW8 h (s (400 + l)) = tkW8 h p) (flt s 3 p) (su (su s 0 6) 7 p)
noncomputable def d6 (h : Int → Int) (s : RG) (p : Int) : RG := if tkK h p ≠ 8 then bd s (tkK h p) p else su s 0 7
def fin7 (s : RG) : RG := su (su (su (su s (400 + (s 4).toNat) (s 7)) 4 (s 4 + 1)) 6 0) 0 0
noncomputable def d7 (h : Int → Int) (s : RG) (p : Int) : RG :=
  if tkK h p = 2 then (if ED s ≤ s 6 then bd s (tkK h p) p else if 99 < tkN h p then flt s 4 p else su (su s (200 + (18 * s 4 + s 6).toNat) (tkN h p)) 6 (s 6 + 1))
  else if tkK h p = 3 then (if s 6 = 0 ∨ s 6 < ED s then bd s (tkK h p) p else ifp (FITq s) (fin7 s) (flt s 6 p))
  else bd s (tkK h p) p
noncomputable def d8 (h : Int → Int) (s : RG) (p : Int) : RG :=
  if tkK h p ≠ 1 then bd s (tkK h p) p else ifp (∃ l : Nat, (l : Int) < s 5 ∧ tkW8 h (s (410 + l)) = tkW8 h p) (flt s 3 p) (su (su s 0 9) 7 p)
noncomputable def d9 (h : Int → Int) (s : RG) (p : Int) : RG := if tkK h p ≠ 10 then bd s (tkK h p) p else su s 0 10
def fin10 (s : RG) : RG := su (su (su (su (su s (410 + (s 5).toNat) (s 7)) (520 + (s 5).toNat) (s 6)) 5 (s 5 + 1)) 6 0) 0 0
noncomputable def d10 (h : Int → Int) (s : RG) (p : Int) : RG :=
  if tkK h p = 3 ∧ 0 < s 6 then fin10 s
  else if tkK h p ≠ 1 ∨ 8 ≤ s 6 then bd s (tkK h p) p
  else if fnq h s p < 0 then flt s 5 p else su (su s 8 (fnq h s p)) 0 11
def adt (s : RG) (v : Int) : RG := su (su (su (su s (420 + (8 * s 5 + s 6).toNat) (s 8)) (470 + (8 * s 5 + s 6).toNat) v) 6 (s 6 + 1)) 0 10
noncomputable def d11 (h : Int → Int) (s : RG) (p : Int) : RG :=
  if tkK h p = 4 then su (su s 9 p) 0 12
  else if tkK h p = 2 then (if tkN h p = 0 ∨ 9 < tkN h p then flt s 4 p else adt s (tkN h p))
  else bd s (tkK h p) p
noncomputable def d12 (h : Int → Int) (s : RG) (p : Int) : RG :=
  if tkK h p ≠ 2 then bd s (tkK h p) p else if tkN h p = 0 ∨ 9 < tkN h p then flt s 4 (s 9) else adt s (-tkN h p)
noncomputable def dl (h : Int → Int) (s : RG) (p : Int) : RG :=
  if s 0 = 0 then d0 h s p else if s 0 = 1 then d1 h s p else if s 0 = 5 then d5 h s p else if s 0 = 6 then d6 h s p else if s 0 = 7 then d7 h s p
  else if s 0 = 8 then d8 h s p else if s 0 = 9 then d9 h s p else if s 0 = 10 then d10 h s p else if s 0 = 11 then d11 h s p else if s 0 = 12 then d12 h s p else s
/-- the place of the k-th token; the state ahead of it -/
noncomputable def tp (h : Int → Int) : Nat → Int
  | 0 => ups h isB 0
  | k + 1 => ups h isB (tkE h (tp h k))
noncomputable def sq (h : Int → Int) : Nat → RG
  | 0 => fun _ => 0
  | k + 1 => dl h (sq h k) (tp h k)
theorem sq_s (h : Int → Int) (k : Nat) : sq h (k + 1) = dl h (sq h k) (tp h k) := rfl
theorem tp_s (h : Int → Int) (k : Nat) : tp h (k + 1) = ups h isB (tkE h (tp h k)) := rfl
theorem dl_e {h : Int → Int} {s : RG} {p : Int} (c : 20 ≤ s 0) : dl h s p = s := by
  unfold dl
  rw [if_neg (by omega), if_neg (by omega), if_neg (by omega), if_neg (by omega), if_neg (by omega), if_neg (by omega), if_neg (by omega), if_neg (by omega), if_neg (by omega), if_neg (by omega)]
theorem sq_e {h : Int → Int} {k : Nat} (c : 20 ≤ sq h k 0) : ∀ j, sq h (k + j) = sq h k
  | 0 => rfl
  | j + 1 => by
    have e := sq_e c j
    rw [show k + (j + 1) = (k + j) + 1 from rfl, sq_s, e]
    exact dl_e c
/-- there is but one end -/
theorem sq_u {h : Int → Int} {j k : Nat} (c : 20 ≤ sq h j 0) (d : 20 ≤ sq h k 0) : sq h j = sq h k := by
  by_cases g : j ≤ k
  · obtain ⟨i, rfl⟩ := Nat.le.dest g
    exact (sq_e c i).symm
  · obtain ⟨i, rfl⟩ := Nat.le.dest (show k ≤ j by omega)
    exact sq_e d i
theorem dl_0 {h : Int → Int} {s : RG} {p : Int} (c : s 0 = 0) : dl h s p = d0 h s p := by unfold dl; rw [if_pos c]
theorem dl_1 {h : Int → Int} {s : RG} {p : Int} (c : s 0 = 1) : dl h s p = d1 h s p := by unfold dl; rw [if_neg (by omega), if_pos c]
theorem dl_5 {h : Int → Int} {s : RG} {p : Int} (c : s 0 = 5) : dl h s p = d5 h s p := by unfold dl; rw [if_neg (by omega), if_neg (by omega), if_pos c]
theorem dl_6 {h : Int → Int} {s : RG} {p : Int} (c : s 0 = 6) : dl h s p = d6 h s p := by unfold dl; rw [if_neg (by omega), if_neg (by omega), if_neg (by omega), if_pos c]
theorem dl_7 {h : Int → Int} {s : RG} {p : Int} (c : s 0 = 7) : dl h s p = d7 h s p := by unfold dl; rw [if_neg (by omega), if_neg (by omega), if_neg (by omega), if_neg (by omega), if_pos c]
theorem dl_8 {h : Int → Int} {s : RG} {p : Int} (c : s 0 = 8) : dl h s p = d8 h s p := by unfold dl; rw [if_neg (by omega), if_neg (by omega), if_neg (by omega), if_neg (by omega), if_neg (by omega), if_pos c]
theorem dl_9 {h : Int → Int} {s : RG} {p : Int} (c : s 0 = 9) : dl h s p = d9 h s p := by unfold dl; rw [if_neg (by omega), if_neg (by omega), if_neg (by omega), if_neg (by omega), if_neg (by omega), if_neg (by omega), if_pos c]
theorem dl_10 {h : Int → Int} {s : RG} {p : Int} (c : s 0 = 10) : dl h s p = d10 h s p := by unfold dl; rw [if_neg (by omega), if_neg (by omega), if_neg (by omega), if_neg (by omega), if_neg (by omega), if_neg (by omega), if_neg (by omega), if_pos c]
theorem dl_11 {h : Int → Int} {s : RG} {p : Int} (c : s 0 = 11) : dl h s p = d11 h s p := by unfold dl; rw [if_neg (by omega), if_neg (by omega), if_neg (by omega), if_neg (by omega), if_neg (by omega), if_neg (by omega), if_neg (by omega), if_neg (by omega), if_pos c]
theorem dl_12 {h : Int → Int} {s : RG} {p : Int} (c : s 0 = 12) : dl h s p = d12 h s p := by unfold dl; rw [if_neg (by omega), if_neg (by omega), if_neg (by omega), if_neg (by omega), if_neg (by omega), if_neg (by omega), if_neg (by omega), if_neg (by omega), if_neg (by omega), if_pos c]
theorem a0_e1 {h : Int → Int} {s : RG} {p : Int} (c : s 0 = 0) (k : tkK h p = 0) (g : clq s) : dl h s p = su (su s 0 20) 10 1 := by rw [dl_0 c]; unfold d0; rw [if_pos k, ifp_t g]
theorem a0_e2 {h : Int → Int} {s : RG} {p : Int} (c : s 0 = 0) (k : tkK h p = 0) (g : ¬ clq s) : dl h s p = flt s 6 p := by rw [dl_0 c]; unfold d0; rw [if_pos k, ifp_f g]
theorem a0_p1 {h : Int → Int} {s : RG} {p : Int} (c : s 0 = 0) (k : tkK h p = 6) (g : s 10 ≠ 1) (g2 : s 3 < 12) : dl h s p = su (su s 0 1) 6 0 := by rw [dl_0 c]; unfold d0; rw [if_neg (by omega), if_pos (by omega), if_neg (by omega)]
theorem a0_p2 {h : Int → Int} {s : RG} {p : Int} (c : s 0 = 0) (k : tkK h p = 6) (g : s 10 = 1 ∨ 12 ≤ s 3) : dl h s p = bd s (tkK h p) p := by rw [dl_0 c]; unfold d0; rw [if_neg (by omega), if_pos (by omega), if_pos (by omega)]
theorem a0_lw {h : Int → Int} {s : RG} {p : Int} (c : s 0 = 0) (k : tkK h p = 7) (g : ¬ clq s) : dl h s p = flt s 6 p := by rw [dl_0 c]; unfold d0; rw [if_neg (by omega), if_neg (by omega), if_pos (by omega), ifp_f g]
theorem a0_l1 {h : Int → Int} {s : RG} {p : Int} (c : s 0 = 0) (k : tkK h p = 7) (g : clq s) (g2 : s 4 < 8) : dl h s p = su (su (su s 0 5) 10 1) 6 0 := by rw [dl_0 c]; unfold d0; rw [if_neg (by omega), if_neg (by omega), if_pos (by omega), ifp_t g, if_neg (by omega)]
theorem a0_l2 {h : Int → Int} {s : RG} {p : Int} (c : s 0 = 0) (k : tkK h p = 7) (g : clq s) (g2 : 8 ≤ s 4) : dl h s p = bd s (tkK h p) p := by rw [dl_0 c]; unfold d0; rw [if_neg (by omega), if_neg (by omega), if_pos (by omega), ifp_t g, if_pos (by omega)]
theorem a0_ww {h : Int → Int} {s : RG} {p : Int} (c : s 0 = 0) (k : tkK h p = 9) (g : ¬ clq s) : dl h s p = flt s 6 p := by rw [dl_0 c]; unfold d0; rw [if_neg (by omega), if_neg (by omega), if_neg (by omega), if_pos (by omega), ifp_f g]
theorem a0_w1 {h : Int → Int} {s : RG} {p : Int} (c : s 0 = 0) (k : tkK h p = 9) (g : clq s) (g2 : s 5 < 6) : dl h s p = su (su (su s 0 8) 10 1) 6 0 := by rw [dl_0 c]; unfold d0; rw [if_neg (by omega), if_neg (by omega), if_neg (by omega), if_pos (by omega), ifp_t g, if_neg (by omega)]
theorem a0_w2 {h : Int → Int} {s : RG} {p : Int} (c : s 0 = 0) (k : tkK h p = 9) (g : clq s) (g2 : 6 ≤ s 5) : dl h s p = bd s (tkK h p) p := by rw [dl_0 c]; unfold d0; rw [if_neg (by omega), if_neg (by omega), if_neg (by omega), if_pos (by omega), ifp_t g, if_pos (by omega)]
theorem a0_b {h : Int → Int} {s : RG} {p : Int} (c : s 0 = 0) (k : tkK h p ≠ 0 ∧ tkK h p ≠ 6 ∧ tkK h p ≠ 7 ∧ tkK h p ≠ 9) : dl h s p = bd s (tkK h p) p := by rw [dl_0 c]; unfold d0; rw [if_neg (by omega), if_neg (by omega), if_neg (by omega), if_neg (by omega)]
theorem a1_b {h : Int → Int} {s : RG} {p : Int} (c : s 0 = 1) (g : s 6 < 3) (k : tkK h p ≠ 2) : dl h s p = bd s (tkK h p) p := by rw [dl_1 c]; unfold d1; rw [if_pos g, if_pos k]
theorem a1_4 {h : Int → Int} {s : RG} {p : Int} (c : s 0 = 1) (g : s 6 < 3) (k : tkK h p = 2) (g2 : 18 ≤ tkN h p) : dl h s p = flt s 4 p := by rw [dl_1 c]; unfold d1; rw [if_pos g, if_neg (by omega), if_pos g2]
theorem a1_3 {h : Int → Int} {s : RG} {p : Int} (c : s 0 = 1) (g : s 6 < 3) (k : tkK h p = 2) (g2 : tkN h p < 18) (g3 : 2 ≤ s (140 + (tkN h p).toNat)) : dl h s p = flt s 3 p := by rw [dl_1 c]; unfold d1; rw [if_pos g, if_neg (by omega), if_neg (by omega), if_pos g3]
theorem a1_o {h : Int → Int} {s : RG} {p : Int} (c : s 0 = 1) (g : s 6 < 3) (k : tkK h p = 2) (g2 : tkN h p < 18) (g3 : s (140 + (tkN h p).toNat) < 2) : dl h s p = su (su (su s (100 + (3 * s 3 + s 6).toNat) (tkN h p)) (140 + (tkN h p).toNat) (s (140 + (tkN h p).toNat) + 1)) 6 (s 6 + 1) := by rw [dl_1 c]; unfold d1; rw [if_pos g, if_neg (by omega), if_neg (by omega), if_neg (by omega)]
theorem a1_sb {h : Int → Int} {s : RG} {p : Int} (c : s 0 = 1) (g : 3 ≤ s 6) (k : tkK h p ≠ 3) : dl h s p = bd s (tkK h p) p := by rw [dl_1 c]; unfold d1; rw [if_neg (by omega), if_pos k]
theorem a1_so {h : Int → Int} {s : RG} {p : Int} (c : s 0 = 1) (g : 3 ≤ s 6) (k : tkK h p = 3) : dl h s p = su (su (su s 3 (s 3 + 1)) 6 0) 0 0 := by rw [dl_1 c]; unfold d1; rw [if_neg (by omega), if_neg (by omega)]
theorem a5_b {h : Int → Int} {s : RG} {p : Int} (c : s 0 = 5) (k : tkK h p ≠ 1) : dl h s p = bd s (tkK h p) p := by rw [dl_5 c]; unfold d5; rw [if_pos k]
theorem a5_3 {h : Int → Int} {s : RG} {p : Int} (c : s 0 = 5) (k : tkK h p = 1) (g : ∃ l : Nat, (l : Int) < s 4 ∧ tkW8 h (s (400 + l)) = tkW8 h p) : dl h s p = flt s 3 p := by rw [dl_5 c]; unfold d5; rw [if_neg (by omega), ifp_t g]
theorem a5_o {h : Int → Int} {s : RG} {p : Int} (c : s 0 = 5) (k : tkK h p = 1) (g : ¬ ∃ l : Nat, (l : Int) < s 4 ∧ tkW8 h (s (400 + l)) = tkW8 h p) : dl h s p = su (su s 0 6) 7 p := by rw [dl_5 c]; unfold d5; rw [if_neg (by omega), ifp_f g]
theorem a8_b {h : Int → Int} {s : RG} {p : Int} (c : s 0 = 8) (k : tkK h p ≠ 1) : dl h s p = bd s (tkK h p) p := by rw [dl_8 c]; unfold d8; rw [if_pos k]
theorem a8_3 {h : Int → Int} {s : RG} {p : Int} (c : s 0 = 8) (k : tkK h p = 1) (g : ∃ l : Nat, (l : Int) < s 5 ∧ tkW8 h (s (410 + l)) = tkW8 h p) : dl h s p = flt s 3 p := by rw [dl_8 c]; unfold d8; rw [if_neg (by omega), ifp_t g]
theorem a8_o {h : Int → Int} {s : RG} {p : Int} (c : s 0 = 8) (k : tkK h p = 1) (g : ¬ ∃ l : Nat, (l : Int) < s 5 ∧ tkW8 h (s (410 + l)) = tkW8 h p) : dl h s p = su (su s 0 9) 7 p := by rw [dl_8 c]; unfold d8; rw [if_neg (by omega), ifp_f g]
theorem a6_b {h : Int → Int} {s : RG} {p : Int} (c : s 0 = 6) (k : tkK h p ≠ 8) : dl h s p = bd s (tkK h p) p := by rw [dl_6 c]; unfold d6; rw [if_pos k]
theorem a6_o {h : Int → Int} {s : RG} {p : Int} (c : s 0 = 6) (k : tkK h p = 8) : dl h s p = su s 0 7 := by rw [dl_6 c]; unfold d6; rw [if_neg (by omega)]
theorem a9_b {h : Int → Int} {s : RG} {p : Int} (c : s 0 = 9) (k : tkK h p ≠ 10) : dl h s p = bd s (tkK h p) p := by rw [dl_9 c]; unfold d9; rw [if_pos k]
theorem a9_o {h : Int → Int} {s : RG} {p : Int} (c : s 0 = 9) (k : tkK h p = 10) : dl h s p = su s 0 10 := by rw [dl_9 c]; unfold d9; rw [if_neg (by omega)]
theorem a7_nb {h : Int → Int} {s : RG} {p : Int} (c : s 0 = 7) (k : tkK h p = 2) (g : ED s ≤ s 6) : dl h s p = bd s (tkK h p) p := by rw [dl_7 c]; unfold d7; rw [if_pos k, if_pos g]
theorem a7_4 {h : Int → Int} {s : RG} {p : Int} (c : s 0 = 7) (k : tkK h p = 2) (g : s 6 < ED s) (g2 : 99 < tkN h p) : dl h s p = flt s 4 p := by rw [dl_7 c]; unfold d7; rw [if_pos k, if_neg (by omega), if_pos g2]
theorem a7_n {h : Int → Int} {s : RG} {p : Int} (c : s 0 = 7) (k : tkK h p = 2) (g : s 6 < ED s) (g2 : tkN h p ≤ 99) : dl h s p = su (su s (200 + (18 * s 4 + s 6).toNat) (tkN h p)) 6 (s 6 + 1) := by rw [dl_7 c]; unfold d7; rw [if_pos k, if_neg (by omega), if_neg (by omega)]
theorem a7_sb {h : Int → Int} {s : RG} {p : Int} (c : s 0 = 7) (k : tkK h p = 3) (g : s 6 = 0 ∨ s 6 < ED s) : dl h s p = bd s (tkK h p) p := by rw [dl_7 c]; unfold d7; rw [if_neg (by omega), if_pos k, if_pos g]
theorem a7_f {h : Int → Int} {s : RG} {p : Int} (c : s 0 = 7) (k : tkK h p = 3) (g : s 6 ≠ 0 ∧ ED s ≤ s 6) (g2 : ¬ FITq s) : dl h s p = flt s 6 p := by rw [dl_7 c]; unfold d7; rw [if_neg (by omega), if_pos k, if_neg (by omega), ifp_f g2]
theorem a7_o {h : Int → Int} {s : RG} {p : Int} (c : s 0 = 7) (k : tkK h p = 3) (g : s 6 ≠ 0 ∧ ED s ≤ s 6) (g2 : FITq s) : dl h s p = fin7 s := by rw [dl_7 c]; unfold d7; rw [if_neg (by omega), if_pos k, if_neg (by omega), ifp_t g2]
theorem a7_b {h : Int → Int} {s : RG} {p : Int} (c : s 0 = 7) (k : tkK h p ≠ 2 ∧ tkK h p ≠ 3) : dl h s p = bd s (tkK h p) p := by rw [dl_7 c]; unfold d7; rw [if_neg (by omega), if_neg (by omega)]
theorem a10_e {h : Int → Int} {s : RG} {p : Int} (c : s 0 = 10) (k : tkK h p = 3) (g : 0 < s 6) : dl h s p = fin10 s := by rw [dl_10 c]; unfold d10; rw [if_pos ⟨k, g⟩]
theorem a10_b {h : Int → Int} {s : RG} {p : Int} (c : s 0 = 10) (k : tkK h p ≠ 3 ∨ s 6 ≤ 0) (g : tkK h p ≠ 1 ∨ 8 ≤ s 6) : dl h s p = bd s (tkK h p) p := by rw [dl_10 c]; unfold d10; rw [if_neg (by omega), if_pos g]
theorem a10_5 {h : Int → Int} {s : RG} {p : Int} (c : s 0 = 10) (k : tkK h p = 1) (g : s 6 < 8) (g2 : fnq h s p < 0) : dl h s p = flt s 5 p := by rw [dl_10 c]; unfold d10; rw [if_neg (by omega), if_neg (by omega), if_pos g2]
theorem a10_o {h : Int → Int} {s : RG} {p : Int} (c : s 0 = 10) (k : tkK h p = 1) (g : s 6 < 8) (g2 : 0 ≤ fnq h s p) : dl h s p = su (su s 8 (fnq h s p)) 0 11 := by rw [dl_10 c]; unfold d10; rw [if_neg (by omega), if_neg (by omega), if_neg (Int.not_lt.mpr g2)]
theorem a11_m {h : Int → Int} {s : RG} {p : Int} (c : s 0 = 11) (k : tkK h p = 4) : dl h s p = su (su s 9 p) 0 12 := by rw [dl_11 c]; unfold d11; rw [if_pos k]
theorem a11_4 {h : Int → Int} {s : RG} {p : Int} (c : s 0 = 11) (k : tkK h p = 2) (g : tkN h p = 0 ∨ 9 < tkN h p) : dl h s p = flt s 4 p := by rw [dl_11 c]; unfold d11; rw [if_neg (by omega), if_pos k, if_pos g]
theorem a11_o {h : Int → Int} {s : RG} {p : Int} (c : s 0 = 11) (k : tkK h p = 2) (g : tkN h p ≠ 0 ∧ tkN h p ≤ 9) : dl h s p = adt s (tkN h p) := by rw [dl_11 c]; unfold d11; rw [if_neg (by omega), if_pos k, if_neg (by omega)]
theorem a11_b {h : Int → Int} {s : RG} {p : Int} (c : s 0 = 11) (k : tkK h p ≠ 4 ∧ tkK h p ≠ 2) : dl h s p = bd s (tkK h p) p := by rw [dl_11 c]; unfold d11; rw [if_neg (by omega), if_neg (by omega)]
theorem a12_b {h : Int → Int} {s : RG} {p : Int} (c : s 0 = 12) (k : tkK h p ≠ 2) : dl h s p = bd s (tkK h p) p := by rw [dl_12 c]; unfold d12; rw [if_pos k]
theorem a12_4 {h : Int → Int} {s : RG} {p : Int} (c : s 0 = 12) (k : tkK h p = 2) (g : tkN h p = 0 ∨ 9 < tkN h p) : dl h s p = flt s 4 (s 9) := by rw [dl_12 c]; unfold d12; rw [if_neg (by omega), if_pos g]
theorem a12_o {h : Int → Int} {s : RG} {p : Int} (c : s 0 = 12) (k : tkK h p = 2) (g : tkN h p ≠ 0 ∧ tkN h p ≤ 9) : dl h s p = adt s (-tkN h p) := by rw [dl_12 c]; unfold d12; rw [if_neg (by omega), if_neg (by omega)]

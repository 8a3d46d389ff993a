section
/-! moving numbers through roads -/
theorem cf_of (f : Nat → Int) (i : Nat) : cfR f i 0 = (f i % 2 ^ 5).toNat ∧ cfR f i 1 = (f i / 2 ^ 5 % 2 ^ 5).toNat ∧ cfR f i 2 = (f i / 2 ^ 10 % 2 ^ 5).toNat ∧ cfR f i 3 = (f i / 2 ^ 15 % 2 ^ 5).toNat ∧ cfR f i 4 = (f i / 2 ^ 20 % 2 ^ 5).toNat := by
  unfold cfR
  refine ⟨?_, ?_, ?_, ?_, ?_⟩
  · show (f i / 1 % 32).toNat = (f i % 32).toNat; rw [Int.ediv_one]
  · show (f i / 32 % 32).toNat = (f i / 32 % 32).toNat; rfl
  · show (f i / 1024 % 32).toNat = (f i / 1024 % 32).toNat; rfl
  · show (f i / 32768 % 32).toNat = (f i / 32768 % 32).toNat; rfl
  · show (f i / 1048576 % 32).toNat = (f i / 1048576 % 32).toNat; rfl
abbrev flR (v : Int) (n : Nat → Int) : Nat → Int := fl (v % 2 ^ 5).toNat (v / 2 ^ 5 % 2 ^ 5).toNat (v / 2 ^ 10 % 2 ^ 5).toNat (v / 2 ^ 15 % 2 ^ 5).toNat (v / 2 ^ 20 % 2 ^ 5).toNat n
theorem flR_c (f : Nat → Int) (i : Nat) (n : Nat → Int) : flR (f i) n = flc (cfR f) i n := by
  obtain ⟨h0, h1, h2, h3, h4⟩ := cf_of f i
  unfold flR flc
  rw [h0, h1, h2, h3, h4]
section
variable {m k : Nat} {T : Nat → Nat} {f : Nat → Int} {G : Nat → (Nat → Int) → Prop}
theorem GRo_fw (h : GRo m T (cfR f) k G) {i i' : Nat} {n n' : Nat → Int} (hi : i < k) (g : G i n) (hn : n' = flR (f i) n) (e : i' = i + 1) : G i' n' := by
  rw [hn, flR_c, e]; exact h.fw i n hi g
theorem GRo_bw (h : GRo m T (cfR f) k G) {i i' : Nat} {n n' : Nat → Int} (hi : i < k) (g : G i' n) (hn : n' = flR (f i) n) (e : i' = i + 1) : G i n' := by
  rw [hn, flR_c]; subst e; exact h.bw i n hi g
end
theorem tw_of {n n1 n2 : Nat → Int} {a b u v : Nat} (uv : u ≠ v) (h1 : n1 = fl u a v b v n) (h2 : n2 = fun j => if j = u then n1 v else if j = v then n1 u else n1 j) : n2 = tw a b u v n := by
  funext j
  rw [h2]
  unfold tw
  by_cases c : j = v
  · subst c
    show (if j = u then n1 j else if j = j then n1 u else n1 j) = _
    rw [if_neg (fun q => uv q.symm), if_pos rfl, if_pos rfl, h1, fl_e]
  · show (if j = u then n1 v else if j = v then n1 u else n1 j) = _
    rw [if_neg c, if_neg c]
    by_cases d : j = u
    · rw [if_pos d, if_pos d, h1, fl_ne (fun q => uv q.symm)]
    · rw [if_neg d, if_neg d, h1, fl_ne d]
theorem nb_fl {n n' : Nat → Int} {e x y z w : Nat} (h : ∀ j : Nat, j < 18 → 0 ≤ n j ∧ n j ≤ 100000000000000) (hn : n' = fl e x y z w n) (h0 : 0 ≤ n' e) (h1 : n' e ≤ 100000000000000) : ∀ j : Nat, j < 18 → 0 ≤ n' j ∧ n' j ≤ 100000000000000 := by
  intro j hj
  by_cases c : j = e
  · subst c; exact ⟨h0, h1⟩
  · rw [hn, fl_ne c]; exact h j hj
theorem nb_ex {n n' : Nat → Int} {u v : Nat} (hu : u < 18) (hv : v < 18) (h : ∀ j : Nat, j < 18 → n j ≤ 100000000000000) (hn : n' = fun j => if j = u then n v else if j = v then n u else n j) (g : ∀ j : Nat, j < 18 → 0 ≤ n' j) : ∀ j : Nat, j < 18 → 0 ≤ n' j ∧ n' j ≤ 100000000000000 := by
  intro j hj
  refine ⟨g j hj, ?_⟩
  rw [hn]
  show (if j = u then n v else if j = v then n u else n j) ≤ _
  by_cases c : j = u
  · rw [if_pos c]; exact h v hv
  · rw [if_neg c]
    by_cases d : j = v
    · rw [if_pos d]; exact h u hu
    · rw [if_neg d]; exact h j hj
/-- a word all lines of which are fair -/
def FW (z : mZ) (t a : Nat) : Prop := ∀ i : Nat, (i : Int) < z (t + 18) a → z (t + 20 + a) i < z t 3 ∧ z (17 + 2 * (z (t + 20 + a) i).toNat) 0 = 2
def GA (z0 z : mZ) (t : Nat) : Prop := ∀ l : Nat, (l : Int) < z0 t 3 → GRt z0 z t l
end
section
/-! methods, printed by wip/tools/vcg.py -/
/-- Mover change -/
abbrev S_29n (n : Nat) : mS := [(n, n, 0, 17)]
abbrev E_29n (n : Nat) (a2 : Int) (a3 : Int) (a4 : Int) (a5 : Int) (a6 : Int) (z0 w0 : mZ) (x y tx it mt tt ct : Option Nat) : Int → mZ → mZ → mP → Prop := fun v z w p => p = (pq x y tx it mt tt ct) ∧ 0 ≤ v ∧ v ≤ 1 ∧ (w n = fl a2.toNat a3.toNat a5.toNat a4.toNat a6.toNat (w0 n) ∧ (v = 1 → w n a2.toNat ≤ 100000000000000))
theorem m_29n {d : Nat} {z0 w0 : mZ} {x y tx it mt tt ct : Option Nat} (n : Nat) (a2 : Int) (a3 : Int) (a4 : Int) (a5 : Int) (a6 : Int) (hz : rz z0) (hw : rw_ w0) (ha2 : 0 ≤ a2 ∧ a2 ≤ 17) (ha3 : 0 ≤ a3 ∧ a3 ≤ 17) (ha4 : 0 ≤ a4 ∧ a4 ≤ 17) (ha5 : 0 ≤ a5 ∧ a5 ≤ 17) (ha6 : 0 ≤ a6 ∧ a6 ≤ 17) (hnb : ∀ e : Nat, e < 18 → 0 ≤ w0 n e ∧ w0 n e ≤ 100000000000000) (hn : lr n) (b15n : 15 ≤ n) (wn : wrr n) (mn : 149 ≤ n ∧ n ≤ 157) : wc (d + 2) 29 [.ref 10, .ref n, .int (Int32.ofInt a2), .int (Int32.ofInt a3), .int (Int32.ofInt a4), .int (Int32.ofInt a5), .int (Int32.ofInt a6), .null] (mk z0 w0 (pq x y tx it mt tt ct)) (poI (S_29n n) z0 w0 (E_29n n a2 a3 a4 a5 a6 z0 w0 x y tx it mt tt ct)) := by
  have hst : st_ (S_29n n) z0 w0 z0 w0 := st_rf hz hw
  have hn2 := hnb a2.toNat (by omega)
  have hn3 := hnb a3.toNat (by omega)
  have hn4 := hnb a4.toNat (by omega)
  have hn5 := hnb a5.toNat (by omega)
  have hn6 := hnb a6.toNat (by omega)
  have key : ∀ N : Nat, (∀ (z w : mZ), st_ (S_29n n) z0 w0 z w → (w n = fl a2.toNat a3.toNat a5.toNat a4.toNat a6.toNat (w0 n)) → 9 < (N : Int) → wp_ (d + 1) 29 12 (some .boolean) (75, [(1, .ref n), (2, .int (Int32.ofInt a2))], [], mk z w (pq x y tx it mt tt ct)) (poI (S_29n n) z0 w0 (E_29n n a2 a3 a4 a5 a6 z0 w0 x y tx it mt tt ct))) := by
    intro N
    induction N with
    | zero =>
      intro  z w
      intros; exfalso; omega
    | succ N ih =>
      have ih0 := ih; clear ih
      intro  z w  hst as1 hM
      refine r_ld (pc' := 76) rfl rfl rfl rfl ?_
      refine r_ld (pc' := 77) rfl rfl rfl rfl ?_
      have hb28 := lr_rd hn hst.2.1 (i := a2.toNat) (by omega)
      refine r_la (pc' := 78) rfl rfl hn.1 rfl (by omega) (by omega) rfl ?_
      refine r_al (pc' := 81) rfl rfl rfl rfl ?_
      refine r_lgt (pc' := 85) rfl rfl rfl ⟨by omega, by omega⟩ ⟨by decide, by decide⟩ (fun hc29 => ?_) (fun hc29 => ?_)
      · skip
        refine r_c0 (pc' := 90) rfl rfl ?_
        exact r_rz rfl (by omega) (po_I hst ⟨by decide, by decide⟩ ⟨rfl, by omega, by omega, (by exact ⟨as1, fun h => by omega⟩)⟩)
      · skip
        refine r_c0 (pc' := 86) rfl rfl ?_
        refine r_go rfl ?_
        exact r_rz rfl (by omega) (po_I hst ⟨by decide, by decide⟩ ⟨rfl, by omega, by omega, (by exact ⟨as1, fun h => by omega⟩)⟩)
  refine w_m rfl rfl ?_
  refine r_ld (pc' := 1) rfl rfl rfl rfl ?_
  refine r_ld (pc' := 2) rfl rfl rfl rfl ?_
  have hb30 := lr_rd hn hw (i := a3.toNat) (by omega)
  refine r_la (pc' := 3) rfl rfl hn.1 rfl (by omega) (by omega) rfl ?_
  refine r_ld (pc' := 4) rfl rfl rfl rfl ?_
  refine r_ld (pc' := 6) rfl rfl rfl rfl ?_
  have hb31 := lr_rd hn hw (i := a4.toNat) (by omega)
  refine r_la (pc' := 7) rfl rfl hn.1 rfl (by omega) (by omega) rfl ?_
  refine r_ladd (pc' := 8) rfl rfl ?_
  refine w_hxl (fun v32 h33 h34 => ?_)
  refine r_st (pc' := 10) (lv' := [(8, _), (0, _), (1, _), (2, _), (3, _), (4, _), (5, _), (6, _), (7, _)]) rfl rfl rfl rfl ?_
  refine r_ld (pc' := 11) rfl rfl rfl rfl ?_
  refine r_ld (pc' := 13) rfl rfl rfl rfl ?_
  have hb35 := lr_rd hn hw (i := a5.toNat) (by omega)
  refine r_la (pc' := 14) rfl rfl hn.1 rfl (by omega) (by omega) rfl ?_
  refine r_ld (pc' := 15) rfl rfl rfl rfl ?_
  refine r_ld (pc' := 17) rfl rfl rfl rfl ?_
  have hb36 := lr_rd hn hw (i := a6.toNat) (by omega)
  refine r_la (pc' := 18) rfl rfl hn.1 rfl (by omega) (by omega) rfl ?_
  refine r_ladd (pc' := 19) rfl rfl ?_
  refine w_hxl (fun v37 h38 h39 => ?_)
  refine r_st (pc' := 21) (lv' := [(10, _), (8, _), (0, _), (1, _), (2, _), (3, _), (4, _), (5, _), (6, _), (7, _)]) rfl rfl rfl rfl ?_
  refine r_ld (pc' := 22) rfl rfl rfl rfl ?_
  refine r_ld (pc' := 23) rfl rfl rfl rfl ?_
  refine r_ld (pc' := 25) rfl rfl rfl rfl ?_
  refine r_ld (pc' := 27) rfl rfl rfl rfl ?_
  refine r_cSL (pc' := 30) rfl rfl rfl rfl rfl (m_262 (d := d) v32 v37 hst.1 hst.2.1 ⟨by omega, by omega⟩ ⟨by omega, by omega⟩) (fun v40 z41 w42 p43 h44 hs45 hE46 => ?_)
  obtain ⟨rfl, rfl, rfl, hE46⟩ := hE46
  refine r_ld (pc' := 31) rfl rfl rfl rfl ?_
  refine r_ld (pc' := 32) rfl rfl rfl rfl ?_
  have hb48 := lr_rd hn hw (i := a2.toNat) (by omega)
  refine r_la (pc' := 33) rfl rfl hn.1 rfl (by omega) (by omega) rfl ?_
  refine r_lsub (pc' := 34) rfl rfl ?_
  refine w_hxl (fun v49 h50 h51 => ?_)
  refine r_ls (pc' := 35) rfl rfl hn.1 rfl (by omega) (by omega) hst (inS_0 (by omega) (by omega) (by omega) (by omega)) (wrr_w wn ⟨by omega, by omega⟩) (fun w52 hq53 hs54 => ?_)
  have hqw := hq53
  refine r_ld (pc' := 37) rfl rfl rfl rfl ?_
  refine r_nul_t rfl ?_
  exact w_lv (sub_c rfl (sub_c rfl sub_n)) rfl ((key ((9 : Int).toNat + 1)) z0 w52 hs54 (by funext j; rw [show w52 n j = w52 n j from rfl, hqw, mu_sf]; dsimp only; unfold fl; by_cases c : j = a2.toNat; (rw [if_pos c, if_pos c]; omega); (rw [if_neg c, if_neg c])) (by omega))
/-- Mover change -/
abbrev S_29t (n : Nat) : mS := [(n, n, 0, 17), (104, 121, 0, 17)]
abbrev E_29t (n : Nat) (a2 : Int) (a3 : Int) (a4 : Int) (a5 : Int) (a6 : Int) (z0 w0 : mZ) (x y tx it mt tt ct : Option Nat) : Int → mZ → mZ → mP → Prop := fun v z w p => p = (pq x y tx it mt tt ct) ∧ 0 ≤ v ∧ v ≤ 1 ∧ (w n = fl a2.toNat a3.toNat a5.toNat a4.toNat a6.toNat (w0 n) ∧ (v = 1 → w n a2.toNat ≤ 100000000000000))
theorem m_29t {d : Nat} {z0 w0 : mZ} {x y tx it mt tt ct : Option Nat} (n : Nat) (a2 : Int) (a3 : Int) (a4 : Int) (a5 : Int) (a6 : Int) (hz : rz z0) (hw : rw_ w0) (ha2 : 0 ≤ a2 ∧ a2 ≤ 17) (ha3 : 0 ≤ a3 ∧ a3 ≤ 17) (ha4 : 0 ≤ a4 ∧ a4 ≤ 17) (ha5 : 0 ≤ a5 ∧ a5 ≤ 17) (ha6 : 0 ≤ a6 ∧ a6 ≤ 17) (hnb : ∀ e : Nat, e < 18 → 0 ≤ w0 n e ∧ w0 n e ≤ 100000000000000) (hn : lr n) (b15n : 15 ≤ n) (wn : wrr n) (mn : 149 ≤ n ∧ n ≤ 157) : wc (d + 2) 29 [.ref 10, .ref n, .int (Int32.ofInt a2), .int (Int32.ofInt a3), .int (Int32.ofInt a4), .int (Int32.ofInt a5), .int (Int32.ofInt a6), .ref 102] (mk z0 w0 (pq x y tx it mt tt ct)) (poI (S_29t n) z0 w0 (E_29t n a2 a3 a4 a5 a6 z0 w0 x y tx it mt tt ct)) := by
  have hst : st_ (S_29t n) z0 w0 z0 w0 := st_rf hz hw
  have hn2 := hnb a2.toNat (by omega)
  have hn3 := hnb a3.toNat (by omega)
  have hn4 := hnb a4.toNat (by omega)
  have hn5 := hnb a5.toNat (by omega)
  have hn6 := hnb a6.toNat (by omega)
  have key : ∀ N : Nat, (∀ (z w : mZ), st_ (S_29t n) z0 w0 z w → (w n = fl a2.toNat a3.toNat a5.toNat a4.toNat a6.toNat (w0 n)) → 9 < (N : Int) → wp_ (d + 1) 29 12 (some .boolean) (75, [(1, .ref n), (2, .int (Int32.ofInt a2))], [], mk z w (pq x y tx it mt tt ct)) (poI (S_29t n) z0 w0 (E_29t n a2 a3 a4 a5 a6 z0 w0 x y tx it mt tt ct))) := by
    intro N
    induction N with
    | zero =>
      intro  z w
      intros; exfalso; omega
    | succ N ih =>
      have ih0 := ih; clear ih
      intro  z w  hst as1 hM
      refine r_ld (pc' := 76) rfl rfl rfl rfl ?_
      refine r_ld (pc' := 77) rfl rfl rfl rfl ?_
      have hb63 := lr_rd hn hst.2.1 (i := a2.toNat) (by omega)
      refine r_la (pc' := 78) rfl rfl hn.1 rfl (by omega) (by omega) rfl ?_
      refine r_al (pc' := 81) rfl rfl rfl rfl ?_
      refine r_lgt (pc' := 85) rfl rfl rfl ⟨by omega, by omega⟩ ⟨by decide, by decide⟩ (fun hc64 => ?_) (fun hc64 => ?_)
      · skip
        refine r_c0 (pc' := 90) rfl rfl ?_
        exact r_rz rfl (by omega) (po_I hst ⟨by decide, by decide⟩ ⟨rfl, by omega, by omega, (by exact ⟨as1, fun h => by omega⟩)⟩)
      · skip
        refine r_c0 (pc' := 86) rfl rfl ?_
        refine r_go rfl ?_
        exact r_rz rfl (by omega) (po_I hst ⟨by decide, by decide⟩ ⟨rfl, by omega, by omega, (by exact ⟨as1, fun h => by omega⟩)⟩)
  refine w_m rfl rfl ?_
  refine r_ld (pc' := 1) rfl rfl rfl rfl ?_
  refine r_ld (pc' := 2) rfl rfl rfl rfl ?_
  have hb65 := lr_rd hn hw (i := a3.toNat) (by omega)
  refine r_la (pc' := 3) rfl rfl hn.1 rfl (by omega) (by omega) rfl ?_
  refine r_ld (pc' := 4) rfl rfl rfl rfl ?_
  refine r_ld (pc' := 6) rfl rfl rfl rfl ?_
  have hb66 := lr_rd hn hw (i := a4.toNat) (by omega)
  refine r_la (pc' := 7) rfl rfl hn.1 rfl (by omega) (by omega) rfl ?_
  refine r_ladd (pc' := 8) rfl rfl ?_
  refine w_hxl (fun v67 h68 h69 => ?_)
  refine r_st (pc' := 10) (lv' := [(8, _), (0, _), (1, _), (2, _), (3, _), (4, _), (5, _), (6, _), (7, _)]) rfl rfl rfl rfl ?_
  refine r_ld (pc' := 11) rfl rfl rfl rfl ?_
  refine r_ld (pc' := 13) rfl rfl rfl rfl ?_
  have hb70 := lr_rd hn hw (i := a5.toNat) (by omega)
  refine r_la (pc' := 14) rfl rfl hn.1 rfl (by omega) (by omega) rfl ?_
  refine r_ld (pc' := 15) rfl rfl rfl rfl ?_
  refine r_ld (pc' := 17) rfl rfl rfl rfl ?_
  have hb71 := lr_rd hn hw (i := a6.toNat) (by omega)
  refine r_la (pc' := 18) rfl rfl hn.1 rfl (by omega) (by omega) rfl ?_
  refine r_ladd (pc' := 19) rfl rfl ?_
  refine w_hxl (fun v72 h73 h74 => ?_)
  refine r_st (pc' := 21) (lv' := [(10, _), (8, _), (0, _), (1, _), (2, _), (3, _), (4, _), (5, _), (6, _), (7, _)]) rfl rfl rfl rfl ?_
  refine r_ld (pc' := 22) rfl rfl rfl rfl ?_
  refine r_ld (pc' := 23) rfl rfl rfl rfl ?_
  refine r_ld (pc' := 25) rfl rfl rfl rfl ?_
  refine r_ld (pc' := 27) rfl rfl rfl rfl ?_
  refine r_cSL (pc' := 30) rfl rfl rfl rfl rfl (m_262 (d := d) v67 v72 hst.1 hst.2.1 ⟨by omega, by omega⟩ ⟨by omega, by omega⟩) (fun v75 z76 w77 p78 h79 hs80 hE81 => ?_)
  obtain ⟨rfl, rfl, rfl, hE81⟩ := hE81
  refine r_ld (pc' := 31) rfl rfl rfl rfl ?_
  refine r_ld (pc' := 32) rfl rfl rfl rfl ?_
  have hb83 := lr_rd hn hw (i := a2.toNat) (by omega)
  refine r_la (pc' := 33) rfl rfl hn.1 rfl (by omega) (by omega) rfl ?_
  refine r_lsub (pc' := 34) rfl rfl ?_
  refine w_hxl (fun v84 h85 h86 => ?_)
  refine r_ls (pc' := 35) rfl rfl hn.1 rfl (by omega) (by omega) hst (inS_0 (by omega) (by omega) (by omega) (by omega)) (wrr_w wn ⟨by omega, by omega⟩) (fun w87 hq88 hs89 => ?_)
  have hqw := hq88
  refine r_ld (pc' := 37) rfl rfl rfl rfl ?_
  refine r_nul_f (pc' := 40) rfl rfl ?_
  refine r_ld (pc' := 42) rfl rfl rfl rfl ?_
  refine r_ld (pc' := 43) rfl rfl rfl rfl ?_
  refine r_ld (pc' := 45) rfl rfl rfl rfl ?_
  refine r_ld (pc' := 47) rfl rfl rfl rfl ?_
  refine r_llt (pc' := 51) rfl rfl rfl ⟨by omega, by omega⟩ ⟨by omega, by omega⟩ (fun hc90 => ?_) (fun hc90 => ?_)
  · skip
    refine r_ld (pc' := 57) rfl rfl rfl rfl ?_
    refine r_ld (pc' := 59) rfl rfl rfl rfl ?_
    refine r_ld (pc' := 61) rfl rfl rfl rfl ?_
    refine r_llt (pc' := 65) rfl rfl rfl ⟨by omega, by omega⟩ ⟨by omega, by omega⟩ (fun hc91 => ?_) (fun hc91 => ?_)
    · skip
      refine r_ld (pc' := 72) rfl rfl rfl rfl ?_
      refine r_cVV (pc' := 75) rfl rfl rfl rfl rfl sh_102 (m_66 (d := d) a2 a5 a6 hs89.1 hs89.2.1 ⟨by omega, by omega⟩ ⟨by omega, by omega⟩ ⟨by omega, by omega⟩) (fun z93 w94 p95 hs97 hE98 => ?_)
      have hs99 := st_tr hs89 hs97 (subS_c (fun _ _ _ _ _ _ => inS_s (inS_0 (by omega) (by omega) (by omega) (by omega))) subS_n)
      obtain rfl := hE98
      exact w_lv (sub_c rfl (sub_c rfl sub_n)) rfl ((key ((9 : Int).toNat + 1)) z93 w94 hs99 (by funext j; rw [show w94 n j = w87 n j from (hs97.2.2.2 _ _ (notS_c (by omega) notS_n)), hqw, mu_sf]; dsimp only; unfold fl; by_cases c : j = a2.toNat; (rw [if_pos c, if_pos c]; omega); (rw [if_neg c, if_neg c])) (by omega))
    · skip
      refine r_ld (pc' := 67) rfl rfl rfl rfl ?_
      refine r_go rfl ?_
      refine r_cVV (pc' := 75) rfl rfl rfl rfl rfl sh_102 (m_66 (d := d) a2 a5 a4 hs89.1 hs89.2.1 ⟨by omega, by omega⟩ ⟨by omega, by omega⟩ ⟨by omega, by omega⟩) (fun z101 w102 p103 hs105 hE106 => ?_)
      have hs107 := st_tr hs89 hs105 (subS_c (fun _ _ _ _ _ _ => inS_s (inS_0 (by omega) (by omega) (by omega) (by omega))) subS_n)
      obtain rfl := hE106
      exact w_lv (sub_c rfl (sub_c rfl sub_n)) rfl ((key ((9 : Int).toNat + 1)) z101 w102 hs107 (by funext j; rw [show w102 n j = w87 n j from (hs105.2.2.2 _ _ (notS_c (by omega) notS_n)), hqw, mu_sf]; dsimp only; unfold fl; by_cases c : j = a2.toNat; (rw [if_pos c, if_pos c]; omega); (rw [if_neg c, if_neg c])) (by omega))
  · skip
    refine r_ld (pc' := 52) rfl rfl rfl rfl ?_
    refine r_go rfl ?_
    refine r_ld (pc' := 59) rfl rfl rfl rfl ?_
    refine r_ld (pc' := 61) rfl rfl rfl rfl ?_
    refine r_llt (pc' := 65) rfl rfl rfl ⟨by omega, by omega⟩ ⟨by omega, by omega⟩ (fun hc108 => ?_) (fun hc108 => ?_)
    · skip
      refine r_ld (pc' := 72) rfl rfl rfl rfl ?_
      refine r_cVV (pc' := 75) rfl rfl rfl rfl rfl sh_102 (m_66 (d := d) a2 a3 a6 hs89.1 hs89.2.1 ⟨by omega, by omega⟩ ⟨by omega, by omega⟩ ⟨by omega, by omega⟩) (fun z110 w111 p112 hs114 hE115 => ?_)
      have hs116 := st_tr hs89 hs114 (subS_c (fun _ _ _ _ _ _ => inS_s (inS_0 (by omega) (by omega) (by omega) (by omega))) subS_n)
      obtain rfl := hE115
      exact w_lv (sub_c rfl (sub_c rfl sub_n)) rfl ((key ((9 : Int).toNat + 1)) z110 w111 hs116 (by funext j; rw [show w111 n j = w87 n j from (hs114.2.2.2 _ _ (notS_c (by omega) notS_n)), hqw, mu_sf]; dsimp only; unfold fl; by_cases c : j = a2.toNat; (rw [if_pos c, if_pos c]; omega); (rw [if_neg c, if_neg c])) (by omega))
    · skip
      refine r_ld (pc' := 67) rfl rfl rfl rfl ?_
      refine r_go rfl ?_
      refine r_cVV (pc' := 75) rfl rfl rfl rfl rfl sh_102 (m_66 (d := d) a2 a3 a4 hs89.1 hs89.2.1 ⟨by omega, by omega⟩ ⟨by omega, by omega⟩ ⟨by omega, by omega⟩) (fun z118 w119 p120 hs122 hE123 => ?_)
      have hs124 := st_tr hs89 hs122 (subS_c (fun _ _ _ _ _ _ => inS_s (inS_0 (by omega) (by omega) (by omega) (by omega))) subS_n)
      obtain rfl := hE123
      exact w_lv (sub_c rfl (sub_c rfl sub_n)) rfl ((key ((9 : Int).toNat + 1)) z118 w119 hs124 (by funext j; rw [show w119 n j = w87 n j from (hs122.2.2.2 _ _ (notS_c (by omega) notS_n)), hqw, mu_sf]; dsimp only; unfold fl; by_cases c : j = a2.toNat; (rw [if_pos c, if_pos c]; omega); (rw [if_neg c, if_neg c])) (by omega))
/-- Mover exchange -/
abbrev S_30n (n : Nat) : mS := [(n, n, 0, 17)]
abbrev E_30n (n : Nat) (a2 : Int) (a3 : Int) (z0 w0 : mZ) (x y tx it mt tt ct : Option Nat) : mZ → mZ → mP → Prop := fun z w p => p = (pq x y tx it mt tt ct) ∧ (w n = fun j => if j = a3.toNat then w0 n a2.toNat else if j = a2.toNat then w0 n a3.toNat else w0 n j)
theorem m_30n {d : Nat} {z0 w0 : mZ} {x y tx it mt tt ct : Option Nat} (n : Nat) (a2 : Int) (a3 : Int) (hz : rz z0) (hw : rw_ w0) (ha2 : 0 ≤ a2 ∧ a2 ≤ 17) (ha3 : 0 ≤ a3 ∧ a3 ≤ 17) (hn : lr n) (b15n : 15 ≤ n) (wn : wrr n) (mn : 149 ≤ n ∧ n ≤ 157) : wc (d + 2) 30 [.ref 10, .ref n, .int (Int32.ofInt a2), .int (Int32.ofInt a3), .null] (mk z0 w0 (pq x y tx it mt tt ct)) (poV (S_30n n) z0 w0 (E_30n n a2 a3 z0 w0 x y tx it mt tt ct)) := by
  have hst : st_ (S_30n n) z0 w0 z0 w0 := st_rf hz hw
  refine w_m rfl rfl ?_
  refine r_ld (pc' := 1) rfl rfl rfl rfl ?_
  refine r_ld (pc' := 2) rfl rfl rfl rfl ?_
  have hb9 := lr_rd hn hw (i := a2.toNat) (by omega)
  refine r_la (pc' := 3) rfl rfl hn.1 rfl (by omega) (by omega) rfl ?_
  refine r_st (pc' := 5) (lv' := [(5, _), (0, _), (1, _), (2, _), (3, _), (4, _)]) rfl rfl rfl rfl ?_
  refine r_ld (pc' := 6) rfl rfl rfl rfl ?_
  refine r_ld (pc' := 7) rfl rfl rfl rfl ?_
  refine r_ld (pc' := 8) rfl rfl rfl rfl ?_
  refine r_ld (pc' := 9) rfl rfl rfl rfl ?_
  have hb10 := lr_rd hn hw (i := a3.toNat) (by omega)
  refine r_la (pc' := 10) rfl rfl hn.1 rfl (by omega) (by omega) rfl ?_
  refine r_ls (pc' := 11) rfl rfl hn.1 rfl (by omega) (by omega) hst (inS_0 (by omega) (by omega) (by omega) (by omega)) (wrr_w wn ⟨by omega, by omega⟩) (fun w11 hq12 hs13 => ?_)
  have hq10 := hq12
  refine r_ld (pc' := 12) rfl rfl rfl rfl ?_
  refine r_ld (pc' := 13) rfl rfl rfl rfl ?_
  refine r_ld (pc' := 15) rfl rfl rfl rfl ?_
  refine r_ls (pc' := 16) rfl rfl hn.1 rfl (by omega) (by omega) hs13 (inS_0 (by omega) (by omega) (by omega) (by omega)) (wrr_w wn ⟨by omega, by omega⟩) (fun w14 hq15 hs16 => ?_)
  have hq15 := hq15
  refine r_ld (pc' := 18) rfl rfl rfl rfl ?_
  refine r_nul_t rfl ?_
  exact r_ret rfl (po_V hs16 ⟨rfl, (by funext j; rw [show w14 n j = w14 n j from rfl, hq15, mu_sf, hq10, mu_sf])⟩)
/-- Mover exchange -/
abbrev S_30t (n : Nat) : mS := [(n, n, 0, 17), (104, 121, 0, 17)]
abbrev E_30t (n : Nat) (a2 : Int) (a3 : Int) (z0 w0 : mZ) (x y tx it mt tt ct : Option Nat) : mZ → mZ → mP → Prop := fun z w p => p = (pq x y tx it mt tt ct) ∧ (w n = fun j => if j = a3.toNat then w0 n a2.toNat else if j = a2.toNat then w0 n a3.toNat else w0 n j)
theorem m_30t {d : Nat} {z0 w0 : mZ} {x y tx it mt tt ct : Option Nat} (n : Nat) (a2 : Int) (a3 : Int) (hz : rz z0) (hw : rw_ w0) (ha2 : 0 ≤ a2 ∧ a2 ≤ 17) (ha3 : 0 ≤ a3 ∧ a3 ≤ 17) (hn : lr n) (b15n : 15 ≤ n) (wn : wrr n) (mn : 149 ≤ n ∧ n ≤ 157) : wc (d + 2) 30 [.ref 10, .ref n, .int (Int32.ofInt a2), .int (Int32.ofInt a3), .ref 102] (mk z0 w0 (pq x y tx it mt tt ct)) (poV (S_30t n) z0 w0 (E_30t n a2 a3 z0 w0 x y tx it mt tt ct)) := by
  have hst : st_ (S_30t n) z0 w0 z0 w0 := st_rf hz hw
  refine w_m rfl rfl ?_
  refine r_ld (pc' := 1) rfl rfl rfl rfl ?_
  refine r_ld (pc' := 2) rfl rfl rfl rfl ?_
  have hb17 := lr_rd hn hw (i := a2.toNat) (by omega)
  refine r_la (pc' := 3) rfl rfl hn.1 rfl (by omega) (by omega) rfl ?_
  refine r_st (pc' := 5) (lv' := [(5, _), (0, _), (1, _), (2, _), (3, _), (4, _)]) rfl rfl rfl rfl ?_
  refine r_ld (pc' := 6) rfl rfl rfl rfl ?_
  refine r_ld (pc' := 7) rfl rfl rfl rfl ?_
  refine r_ld (pc' := 8) rfl rfl rfl rfl ?_
  refine r_ld (pc' := 9) rfl rfl rfl rfl ?_
  have hb18 := lr_rd hn hw (i := a3.toNat) (by omega)
  refine r_la (pc' := 10) rfl rfl hn.1 rfl (by omega) (by omega) rfl ?_
  refine r_ls (pc' := 11) rfl rfl hn.1 rfl (by omega) (by omega) hst (inS_0 (by omega) (by omega) (by omega) (by omega)) (wrr_w wn ⟨by omega, by omega⟩) (fun w19 hq20 hs21 => ?_)
  have hq10 := hq20
  refine r_ld (pc' := 12) rfl rfl rfl rfl ?_
  refine r_ld (pc' := 13) rfl rfl rfl rfl ?_
  refine r_ld (pc' := 15) rfl rfl rfl rfl ?_
  refine r_ls (pc' := 16) rfl rfl hn.1 rfl (by omega) (by omega) hs21 (inS_0 (by omega) (by omega) (by omega) (by omega)) (wrr_w wn ⟨by omega, by omega⟩) (fun w22 hq23 hs24 => ?_)
  have hq15 := hq23
  refine r_ld (pc' := 18) rfl rfl rfl rfl ?_
  refine r_nul_f (pc' := 21) rfl rfl ?_
  refine r_ld (pc' := 23) rfl rfl rfl rfl ?_
  refine r_ld (pc' := 24) rfl rfl rfl rfl ?_
  refine r_ld (pc' := 25) rfl rfl rfl rfl ?_
  refine r_cVV (pc' := 28) rfl rfl rfl rfl rfl sh_102 (m_67 (d := d) a2 a3 hs24.1 hs24.2.1 ⟨by omega, by omega⟩ ⟨by omega, by omega⟩) (fun z26 w27 p28 hs30 hE31 => ?_)
  have hs32 := st_tr hs24 hs30 (subS_c (fun _ _ _ _ _ _ => inS_s (inS_0 (by omega) (by omega) (by omega) (by omega))) subS_n)
  obtain rfl := hE31
  exact r_ret rfl (po_V hs32 ⟨rfl, (by funext j; rw [show w27 n j = w22 n j from (hs30.2.2.2 _ _ (notS_c (by omega) notS_n)), hq15, mu_sf, hq10, mu_sf])⟩)
/-- Mover passFlips -/
abbrev S_28n (n : Nat) : mS := [(n, n, 0, 17)]
abbrev E_28n (m : Nat) (T : Nat → Nat) (G : Nat → (Nat → Int) → Prop) (n : Nat) (rk : Nat) (a3 : Int) (z0 w0 : mZ) (x y tx it mt tt ct : Option Nat) : Int → mZ → mZ → mP → Prop := fun v z w p => p = (pq x y tx it mt tt ct) ∧ 0 ≤ v ∧ v ≤ 1 ∧ ((v = 1 → (a3 = 0 → G (z0 (17 + 2 * rk) 1).toNat (w n)) ∧ (a3 = 1 → G 0 (w n)) ∧ ∀ e : Nat, e < 18 → 0 ≤ w n e ∧ w n e ≤ 100000000000000))
theorem m_28n {d : Nat} {z0 w0 : mZ} {x y tx it mt tt ct : Option Nat} (m : Nat) (T : Nat → Nat) (G : Nat → (Nat → Int) → Prop) (n : Nat) (rk : Nat) (a3 : Int) (hz : rz z0) (hw : rw_ w0) (ha3 : 0 ≤ a3 ∧ a3 ≤ 1) (hrk : rk < 8) (hnb : ∀ e : Nat, e < 18 → 0 ≤ w0 n e ∧ w0 n e ≤ 100000000000000) (hgo : GRo m T (cfR (z0 (18 + 2 * rk))) (z0 (17 + 2 * rk) 1).toNat G) (hG : (a3 = 0 → G 0 (w0 n)) ∧ (a3 = 1 → G (z0 (17 + 2 * rk) 1).toNat (w0 n))) (hn : lr n) (b15n : 15 ≤ n) (wn : wrr n) (mn : 149 ≤ n ∧ n ≤ 157) : wc (d + 3) 28 [.ref 10, .ref n, .ref (17 + 2 * rk), .int (Int32.ofInt a3), .null] (mk z0 w0 (pq x y tx it mt tt ct)) (poI (S_28n n) z0 w0 (E_28n m T G n rk a3 z0 w0 x y tx it mt tt ct)) := by
  have hst : st_ (S_28n n) z0 w0 z0 w0 := st_rf hz hw
  have hcz := rd_R_1 (k := rk) (by omega) hz
  have key : ∀ N : Nat, (∀ (x5 : Int) (z w : mZ), 0 ≤ x5 ∧ x5 ≤ 1782 → st_ (S_28n n) z0 w0 z w → ((a3 = 0 → G x5.toNat (w n)) ∧ (a3 = 1 → G (z0 (17 + 2 * rk) 1 - x5).toNat (w n))) → (∀ e : Nat, e < 18 → 0 ≤ w n e ∧ w n e ≤ 100000000000000) → (x5 ≤ z0 (17 + 2 * rk) 1) → 62 * (1782 - x5) + 59 < (N : Int) → wp_ (d + 2) 28 11 (some .boolean) (3, [(0, .ref 10), (1, .ref n), (2, .ref (17 + 2 * rk)), (3, .int (Int32.ofInt a3)), (4, .null), (5, .int (Int32.ofInt x5))], [], mk z w (pq x y tx it mt tt ct)) (poI (S_28n n) z0 w0 (E_28n m T G n rk a3 z0 w0 x y tx it mt tt ct))) := by
    intro N
    induction N with
    | zero =>
      intro x5 z w
      intros; exfalso; omega
    | succ N ih =>
      have ih0 := ih; clear ih
      intro x5 z w  hx5 hst as1 as2 as3 hM
      refine r_ld (pc' := 5) rfl rfl rfl rfl ?_
      refine r_ld (pc' := 6) rfl rfl rfl rfl ?_
      have hb24 := rd_R_1 (k := rk) (by omega) hz
      refine r_gi (pc' := 9) rfl rfl (sh_R (k := rk) (by omega)) rfl (hst.2.2.1 _ _ (notS_c (by omega) notS_n)) ?_
      refine r_ige (pc' := 12) rfl rfl ⟨by omega, by omega⟩ ⟨by omega, by omega⟩ (fun hc25 => ?_) (fun hc25 => ?_)
      · skip
        refine r_c0 (pc' := 108) rfl rfl ?_
        exact r_rz rfl (by omega) (po_I hst ⟨by decide, by decide⟩ ⟨rfl, by omega, by omega, (by first | (intro h; exfalso; omega) | (intro _; exact ⟨fun h => by rw [show (z0 (17 + 2 * rk) 1).toNat = x5.toNat by omega]; exact as1.1 h, fun h => by have q := as1.2 h; rw [show (z0 (17 + 2 * rk) 1 - x5).toNat = 0 by omega] at q; exact q, as2⟩))⟩)
      · skip
        refine r_ld (pc' := 13) rfl rfl rfl rfl ?_
        refine r_gr (b := 18 + 2 * rk) (pc' := 16) rfl rfl (sh_R (k := rk) (by omega)) rfl (pp_R (k := rk) (by omega)) ?_
        refine r_ld (pc' := 17) rfl rfl rfl rfl ?_
        refine r_zeq (pc' := 20) rfl rfl ⟨by omega, by omega⟩ (fun hc26 => ?_) (fun hc26 => ?_)
        · skip
          refine r_ld (pc' := 34) rfl rfl rfl rfl ?_
          have hb27 := rd_RF (k := rk) (by omega) hz (i := x5.toNat) (by omega)
          unfold ok_f at hb27
          refine r_ia (pc' := 35) rfl rfl (sh_RF (k := rk) (by omega)) rfl (by omega) (by omega) (hst.2.2.1 _ _ (notS_c (by omega) notS_n)) ?_
          refine r_st (pc' := 37) (lv' := [(6, _), (0, _), (1, _), (2, _), (3, _), (4, _), (5, _)]) rfl rfl rfl rfl ?_
          refine r_ld (pc' := 39) rfl rfl rfl rfl ?_
          refine r_c0 (pc' := 40) rfl rfl ?_
          refine r_shr (s := 5) (pc' := 41) rfl rfl ⟨by omega, by omega⟩ (by decide) ?_
          refine r_cb (pc' := 43) rfl (by decide) rfl ?_
          refine r_msk (m := 31) (n := 5) (pc' := 44) rfl rfl ⟨by omega, by omega⟩ (by decide) (by decide) ?_
          refine r_st (pc' := 46) (lv' := [(7, _), (6, _), (0, _), (1, _), (2, _), (3, _), (4, _), (5, _)]) rfl rfl rfl rfl ?_
          refine r_ld (pc' := 48) rfl rfl rfl rfl ?_
          refine r_cb (pc' := 50) rfl (by decide) rfl ?_
          refine r_shr (s := 10) (pc' := 51) rfl rfl ⟨by omega, by omega⟩ (by decide) ?_
          refine r_cb (pc' := 53) rfl (by decide) rfl ?_
          refine r_msk (m := 31) (n := 5) (pc' := 54) rfl rfl ⟨by omega, by omega⟩ (by decide) (by decide) ?_
          refine r_st (pc' := 56) (lv' := [(8, _), (7, _), (6, _), (0, _), (1, _), (2, _), (3, _), (4, _), (5, _)]) rfl rfl rfl rfl ?_
          refine r_ld (pc' := 58) rfl rfl rfl rfl ?_
          refine r_cb (pc' := 60) rfl (by decide) rfl ?_
          refine r_shr (s := 15) (pc' := 61) rfl rfl ⟨by omega, by omega⟩ (by decide) ?_
          refine r_cb (pc' := 63) rfl (by decide) rfl ?_
          refine r_msk (m := 31) (n := 5) (pc' := 64) rfl rfl ⟨by omega, by omega⟩ (by decide) (by decide) ?_
          refine r_st (pc' := 66) (lv' := [(9, _), (8, _), (7, _), (6, _), (0, _), (1, _), (2, _), (3, _), (4, _), (5, _)]) rfl rfl rfl rfl ?_
          refine r_ld (pc' := 68) rfl rfl rfl rfl ?_
          refine r_cb (pc' := 70) rfl (by decide) rfl ?_
          refine r_shr (s := 20) (pc' := 71) rfl rfl ⟨by omega, by omega⟩ (by decide) ?_
          refine r_cb (pc' := 73) rfl (by decide) rfl ?_
          refine r_msk (m := 31) (n := 5) (pc' := 74) rfl rfl ⟨by omega, by omega⟩ (by decide) (by decide) ?_
          refine r_st (pc' := 76) (lv' := [(10, _), (9, _), (8, _), (7, _), (6, _), (0, _), (1, _), (2, _), (3, _), (4, _), (5, _)]) rfl rfl rfl rfl ?_
          refine r_ld (pc' := 77) rfl rfl rfl rfl ?_
          refine r_ld (pc' := 78) rfl rfl rfl rfl ?_
          refine r_ld (pc' := 80) rfl rfl rfl rfl ?_
          refine r_cb (pc' := 82) rfl (by decide) rfl ?_
          refine r_msk (m := 31) (n := 5) (pc' := 83) rfl rfl ⟨by omega, by omega⟩ (by decide) (by decide) ?_
          refine r_ld (pc' := 85) rfl rfl rfl rfl ?_
          refine r_ld (pc' := 87) rfl rfl rfl rfl ?_
          refine r_ld (pc' := 89) rfl rfl rfl rfl ?_
          refine r_ld (pc' := 91) rfl rfl rfl rfl ?_
          refine r_ld (pc' := 93) rfl rfl rfl rfl ?_
          refine r_cVI (pc' := 96) rfl rfl rfl rfl rfl sh_10 (m_29n (d := d) n ((z0 (18 + 2 * rk) x5.toNat) % 2 ^ 5) (((z0 (18 + 2 * rk) x5.toNat) / 2 ^ 5) % 2 ^ 5) (((z0 (18 + 2 * rk) x5.toNat) / 2 ^ 15) % 2 ^ 5) (((z0 (18 + 2 * rk) x5.toNat) / 2 ^ 10) % 2 ^ 5) (((z0 (18 + 2 * rk) x5.toNat) / 2 ^ 20) % 2 ^ 5) hst.1 hst.2.1 ⟨by omega, by omega⟩ ⟨by omega, by omega⟩ ⟨by omega, by omega⟩ ⟨by omega, by omega⟩ ⟨by omega, by omega⟩ (by exact as2) hn (by first | omega | assumption) wn (by first | omega | assumption)) (fun v28 z29 w30 p31 h32 hs33 hE34 => ?_)
          have hs35 := st_tr hst hs33 (subS_c (fun _ _ _ _ _ _ => inS_0 (by omega) (by omega) (by omega) (by omega)) subS_n)
          obtain ⟨rfl, hE34⟩ := hE34
          have hch := hE34
          refine r_zne (pc' := 99) rfl rfl ⟨by omega, by omega⟩ (fun hc36 => ?_) (fun hc36 => ?_)
          · skip
            have hgd : (a3 = 0 ∨ a3 = 1) := by omega
            have hgn : (a3 = 0 → G (x5 + 1).toNat (w30 n)) ∧ (a3 = 1 → G (z0 (17 + 2 * rk) 1 - (x5 + 1)).toNat (w30 n)) := ⟨fun h => by first | (exfalso; omega) | exact GRo_fw hgo (i := x5.toNat) (by omega) (as1.1 h) hch.2.2.1 (by omega), fun h => by first | (exfalso; omega) | exact GRo_bw hgo (i := (z0 (17 + 2 * rk) 1 - (x5 + 1)).toNat) (by omega) (as1.2 h) (by rw [show (z0 (17 + 2 * rk) 1 - (x5 + 1)).toNat = (z0 (17 + 2 * rk) 1 - 1 - x5).toNat by omega]; exact hch.2.2.1) (by omega)⟩
            have hnn : ∀ j, j < 18 → 0 ≤ w30 n j := by rcases hgd with h | h; exact hgo.nn (x5 + 1).toNat _ (by omega) (hgn.1 h); exact hgo.nn (z0 (17 + 2 * rk) 1 - (x5 + 1)).toNat _ (by omega) (hgn.2 h)
            refine r_inc (pc' := 104) (lv' := [(10, _), (9, _), (8, _), (7, _), (6, _), (0, _), (1, _), (2, _), (3, _), (4, _)]) rfl rfl rfl rfl rfl ?_
            refine r_go rfl ?_
            exact w_lv (sub_c rfl (sub_c rfl (sub_c rfl (sub_c rfl (sub_c rfl (sub_c rfl sub_n)))))) rfl (ih0 (x5 + 1) z29 w30 ⟨by omega, by omega⟩ hs35 (by first | exact hgn | exact ⟨fun h => hG.1 h, fun h => by rw [show (z0 (17 + 2 * rk) 1 - 0).toNat = (z0 (17 + 2 * rk) 1).toNat by omega]; exact hG.2 h⟩) (by first | exact hnb | exact nb_fl as2 hch.2.2.1 (hnn _ (by omega)) (hch.2.2.2 (by omega))) (by first | omega | assumption) (by omega))
          · skip
            refine r_c0 (pc' := 100) rfl rfl ?_
            exact r_rz rfl (by omega) (po_I hs35 ⟨by decide, by decide⟩ ⟨rfl, by omega, by omega, (by first | (intro h; exfalso; omega) | (intro _; exact ⟨fun h => by rw [show (z0 (17 + 2 * rk) 1).toNat = x5.toNat by omega]; exact as1.1 h, fun h => by have q := as1.2 h; rw [show (z0 (17 + 2 * rk) 1 - x5).toNat = 0 by omega] at q; exact q, as2⟩))⟩)
        · skip
          refine r_ld (pc' := 21) rfl rfl rfl rfl ?_
          refine r_gi (pc' := 24) rfl rfl (sh_R (k := rk) (by omega)) rfl (hst.2.2.1 _ _ (notS_c (by omega) notS_n)) ?_
          refine r_c0 (pc' := 25) rfl rfl ?_
          refine r_sub (pc' := 26) rfl rfl ?_
          refine r_ld (pc' := 28) rfl rfl rfl rfl ?_
          refine r_sub (pc' := 29) rfl rfl ?_
          refine r_go rfl ?_
          have hb37 := rd_RF (k := rk) (by omega) hz (i := (((z0 (17 + 2 * rk) 1) - 1) - x5).toNat) (by omega)
          unfold ok_f at hb37
          refine r_ia (pc' := 35) rfl rfl (sh_RF (k := rk) (by omega)) rfl (by omega) (by omega) (hst.2.2.1 _ _ (notS_c (by omega) notS_n)) ?_
          refine r_st (pc' := 37) (lv' := [(6, _), (0, _), (1, _), (2, _), (3, _), (4, _), (5, _)]) rfl rfl rfl rfl ?_
          refine r_ld (pc' := 39) rfl rfl rfl rfl ?_
          refine r_c0 (pc' := 40) rfl rfl ?_
          refine r_shr (s := 5) (pc' := 41) rfl rfl ⟨by omega, by omega⟩ (by decide) ?_
          refine r_cb (pc' := 43) rfl (by decide) rfl ?_
          refine r_msk (m := 31) (n := 5) (pc' := 44) rfl rfl ⟨by omega, by omega⟩ (by decide) (by decide) ?_
          refine r_st (pc' := 46) (lv' := [(7, _), (6, _), (0, _), (1, _), (2, _), (3, _), (4, _), (5, _)]) rfl rfl rfl rfl ?_
          refine r_ld (pc' := 48) rfl rfl rfl rfl ?_
          refine r_cb (pc' := 50) rfl (by decide) rfl ?_
          refine r_shr (s := 10) (pc' := 51) rfl rfl ⟨by omega, by omega⟩ (by decide) ?_
          refine r_cb (pc' := 53) rfl (by decide) rfl ?_
          refine r_msk (m := 31) (n := 5) (pc' := 54) rfl rfl ⟨by omega, by omega⟩ (by decide) (by decide) ?_
          refine r_st (pc' := 56) (lv' := [(8, _), (7, _), (6, _), (0, _), (1, _), (2, _), (3, _), (4, _), (5, _)]) rfl rfl rfl rfl ?_
          refine r_ld (pc' := 58) rfl rfl rfl rfl ?_
          refine r_cb (pc' := 60) rfl (by decide) rfl ?_
          refine r_shr (s := 15) (pc' := 61) rfl rfl ⟨by omega, by omega⟩ (by decide) ?_
          refine r_cb (pc' := 63) rfl (by decide) rfl ?_
          refine r_msk (m := 31) (n := 5) (pc' := 64) rfl rfl ⟨by omega, by omega⟩ (by decide) (by decide) ?_
          refine r_st (pc' := 66) (lv' := [(9, _), (8, _), (7, _), (6, _), (0, _), (1, _), (2, _), (3, _), (4, _), (5, _)]) rfl rfl rfl rfl ?_
          refine r_ld (pc' := 68) rfl rfl rfl rfl ?_
          refine r_cb (pc' := 70) rfl (by decide) rfl ?_
          refine r_shr (s := 20) (pc' := 71) rfl rfl ⟨by omega, by omega⟩ (by decide) ?_
          refine r_cb (pc' := 73) rfl (by decide) rfl ?_
          refine r_msk (m := 31) (n := 5) (pc' := 74) rfl rfl ⟨by omega, by omega⟩ (by decide) (by decide) ?_
          refine r_st (pc' := 76) (lv' := [(10, _), (9, _), (8, _), (7, _), (6, _), (0, _), (1, _), (2, _), (3, _), (4, _), (5, _)]) rfl rfl rfl rfl ?_
          refine r_ld (pc' := 77) rfl rfl rfl rfl ?_
          refine r_ld (pc' := 78) rfl rfl rfl rfl ?_
          refine r_ld (pc' := 80) rfl rfl rfl rfl ?_
          refine r_cb (pc' := 82) rfl (by decide) rfl ?_
          refine r_msk (m := 31) (n := 5) (pc' := 83) rfl rfl ⟨by omega, by omega⟩ (by decide) (by decide) ?_
          refine r_ld (pc' := 85) rfl rfl rfl rfl ?_
          refine r_ld (pc' := 87) rfl rfl rfl rfl ?_
          refine r_ld (pc' := 89) rfl rfl rfl rfl ?_
          refine r_ld (pc' := 91) rfl rfl rfl rfl ?_
          refine r_ld (pc' := 93) rfl rfl rfl rfl ?_
          refine r_cVI (pc' := 96) rfl rfl rfl rfl rfl sh_10 (m_29n (d := d) n ((z0 (18 + 2 * rk) (((z0 (17 + 2 * rk) 1) - 1) - x5).toNat) % 2 ^ 5) (((z0 (18 + 2 * rk) (((z0 (17 + 2 * rk) 1) - 1) - x5).toNat) / 2 ^ 5) % 2 ^ 5) (((z0 (18 + 2 * rk) (((z0 (17 + 2 * rk) 1) - 1) - x5).toNat) / 2 ^ 15) % 2 ^ 5) (((z0 (18 + 2 * rk) (((z0 (17 + 2 * rk) 1) - 1) - x5).toNat) / 2 ^ 10) % 2 ^ 5) (((z0 (18 + 2 * rk) (((z0 (17 + 2 * rk) 1) - 1) - x5).toNat) / 2 ^ 20) % 2 ^ 5) hst.1 hst.2.1 ⟨by omega, by omega⟩ ⟨by omega, by omega⟩ ⟨by omega, by omega⟩ ⟨by omega, by omega⟩ ⟨by omega, by omega⟩ (by exact as2) hn (by first | omega | assumption) wn (by first | omega | assumption)) (fun v38 z39 w40 p41 h42 hs43 hE44 => ?_)
          have hs45 := st_tr hst hs43 (subS_c (fun _ _ _ _ _ _ => inS_0 (by omega) (by omega) (by omega) (by omega)) subS_n)
          obtain ⟨rfl, hE44⟩ := hE44
          have hch := hE44
          refine r_zne (pc' := 99) rfl rfl ⟨by omega, by omega⟩ (fun hc46 => ?_) (fun hc46 => ?_)
          · skip
            have hgd : (a3 = 0 ∨ a3 = 1) := by omega
            have hgn : (a3 = 0 → G (x5 + 1).toNat (w40 n)) ∧ (a3 = 1 → G (z0 (17 + 2 * rk) 1 - (x5 + 1)).toNat (w40 n)) := ⟨fun h => by first | (exfalso; omega) | exact GRo_fw hgo (i := x5.toNat) (by omega) (as1.1 h) hch.2.2.1 (by omega), fun h => by first | (exfalso; omega) | exact GRo_bw hgo (i := (z0 (17 + 2 * rk) 1 - (x5 + 1)).toNat) (by omega) (as1.2 h) (by rw [show (z0 (17 + 2 * rk) 1 - (x5 + 1)).toNat = (z0 (17 + 2 * rk) 1 - 1 - x5).toNat by omega]; exact hch.2.2.1) (by omega)⟩
            have hnn : ∀ j, j < 18 → 0 ≤ w40 n j := by rcases hgd with h | h; exact hgo.nn (x5 + 1).toNat _ (by omega) (hgn.1 h); exact hgo.nn (z0 (17 + 2 * rk) 1 - (x5 + 1)).toNat _ (by omega) (hgn.2 h)
            refine r_inc (pc' := 104) (lv' := [(10, _), (9, _), (8, _), (7, _), (6, _), (0, _), (1, _), (2, _), (3, _), (4, _)]) rfl rfl rfl rfl rfl ?_
            refine r_go rfl ?_
            exact w_lv (sub_c rfl (sub_c rfl (sub_c rfl (sub_c rfl (sub_c rfl (sub_c rfl sub_n)))))) rfl (ih0 (x5 + 1) z39 w40 ⟨by omega, by omega⟩ hs45 (by first | exact hgn | exact ⟨fun h => hG.1 h, fun h => by rw [show (z0 (17 + 2 * rk) 1 - 0).toNat = (z0 (17 + 2 * rk) 1).toNat by omega]; exact hG.2 h⟩) (by first | exact hnb | exact nb_fl as2 hch.2.2.1 (hnn _ (by omega)) (hch.2.2.2 (by omega))) (by first | omega | assumption) (by omega))
          · skip
            refine r_c0 (pc' := 100) rfl rfl ?_
            exact r_rz rfl (by omega) (po_I hs45 ⟨by decide, by decide⟩ ⟨rfl, by omega, by omega, (by first | (intro h; exfalso; omega) | (intro _; exact ⟨fun h => by rw [show (z0 (17 + 2 * rk) 1).toNat = x5.toNat by omega]; exact as1.1 h, fun h => by have q := as1.2 h; rw [show (z0 (17 + 2 * rk) 1 - x5).toNat = 0 by omega] at q; exact q, as2⟩))⟩)
  refine w_m rfl rfl ?_
  refine r_c0 (pc' := 1) rfl rfl ?_
  refine r_st (pc' := 3) (lv' := [(5, _), (0, _), (1, _), (2, _), (3, _), (4, _)]) rfl rfl rfl rfl ?_
  exact w_lv (sub_c rfl (sub_c rfl (sub_c rfl (sub_c rfl (sub_c rfl (sub_c rfl sub_n)))))) rfl ((key ((62 * (1782 - 0) + 59 : Int).toNat + 1)) 0 z0 w0 ⟨by omega, by omega⟩ hst (by first | exact hgn | exact ⟨fun h => hG.1 h, fun h => by rw [show (z0 (17 + 2 * rk) 1 - 0).toNat = (z0 (17 + 2 * rk) 1).toNat by omega]; exact hG.2 h⟩) (by first | exact hnb | exact nb_fl as2 hch.2.2.1 (hnn _ (by omega)) (hch.2.2.2 (by omega))) (by first | omega | assumption) (by omega))
/-- Mover passFlips -/
abbrev S_28t (n : Nat) : mS := [(n, n, 0, 17), (104, 121, 0, 17)]
abbrev E_28t (m : Nat) (T : Nat → Nat) (G : Nat → (Nat → Int) → Prop) (n : Nat) (rk : Nat) (a3 : Int) (z0 w0 : mZ) (x y tx it mt tt ct : Option Nat) : Int → mZ → mZ → mP → Prop := fun v z w p => p = (pq x y tx it mt tt ct) ∧ 0 ≤ v ∧ v ≤ 1 ∧ ((v = 1 → (a3 = 0 → G (z0 (17 + 2 * rk) 1).toNat (w n)) ∧ (a3 = 1 → G 0 (w n)) ∧ ∀ e : Nat, e < 18 → 0 ≤ w n e ∧ w n e ≤ 100000000000000))
theorem m_28t {d : Nat} {z0 w0 : mZ} {x y tx it mt tt ct : Option Nat} (m : Nat) (T : Nat → Nat) (G : Nat → (Nat → Int) → Prop) (n : Nat) (rk : Nat) (a3 : Int) (hz : rz z0) (hw : rw_ w0) (ha3 : 0 ≤ a3 ∧ a3 ≤ 1) (hrk : rk < 8) (hnb : ∀ e : Nat, e < 18 → 0 ≤ w0 n e ∧ w0 n e ≤ 100000000000000) (hgo : GRo m T (cfR (z0 (18 + 2 * rk))) (z0 (17 + 2 * rk) 1).toNat G) (hG : (a3 = 0 → G 0 (w0 n)) ∧ (a3 = 1 → G (z0 (17 + 2 * rk) 1).toNat (w0 n))) (hn : lr n) (b15n : 15 ≤ n) (wn : wrr n) (mn : 149 ≤ n ∧ n ≤ 157) : wc (d + 3) 28 [.ref 10, .ref n, .ref (17 + 2 * rk), .int (Int32.ofInt a3), .ref 102] (mk z0 w0 (pq x y tx it mt tt ct)) (poI (S_28t n) z0 w0 (E_28t m T G n rk a3 z0 w0 x y tx it mt tt ct)) := by
  have hst : st_ (S_28t n) z0 w0 z0 w0 := st_rf hz hw
  have hcz := rd_R_1 (k := rk) (by omega) hz
  have key : ∀ N : Nat, (∀ (x5 : Int) (z w : mZ), 0 ≤ x5 ∧ x5 ≤ 1782 → st_ (S_28t n) z0 w0 z w → ((a3 = 0 → G x5.toNat (w n)) ∧ (a3 = 1 → G (z0 (17 + 2 * rk) 1 - x5).toNat (w n))) → (∀ e : Nat, e < 18 → 0 ≤ w n e ∧ w n e ≤ 100000000000000) → (x5 ≤ z0 (17 + 2 * rk) 1) → 62 * (1782 - x5) + 59 < (N : Int) → wp_ (d + 2) 28 11 (some .boolean) (3, [(0, .ref 10), (1, .ref n), (2, .ref (17 + 2 * rk)), (3, .int (Int32.ofInt a3)), (4, .ref 102), (5, .int (Int32.ofInt x5))], [], mk z w (pq x y tx it mt tt ct)) (poI (S_28t n) z0 w0 (E_28t m T G n rk a3 z0 w0 x y tx it mt tt ct))) := by
    intro N
    induction N with
    | zero =>
      intro x5 z w
      intros; exfalso; omega
    | succ N ih =>
      have ih0 := ih; clear ih
      intro x5 z w  hx5 hst as1 as2 as3 hM
      refine r_ld (pc' := 5) rfl rfl rfl rfl ?_
      refine r_ld (pc' := 6) rfl rfl rfl rfl ?_
      have hb24 := rd_R_1 (k := rk) (by omega) hz
      refine r_gi (pc' := 9) rfl rfl (sh_R (k := rk) (by omega)) rfl (hst.2.2.1 _ _ (notS_c (by omega) (notS_c (by omega) notS_n))) ?_
      refine r_ige (pc' := 12) rfl rfl ⟨by omega, by omega⟩ ⟨by omega, by omega⟩ (fun hc25 => ?_) (fun hc25 => ?_)
      · skip
        refine r_c0 (pc' := 108) rfl rfl ?_
        exact r_rz rfl (by omega) (po_I hst ⟨by decide, by decide⟩ ⟨rfl, by omega, by omega, (by first | (intro h; exfalso; omega) | (intro _; exact ⟨fun h => by rw [show (z0 (17 + 2 * rk) 1).toNat = x5.toNat by omega]; exact as1.1 h, fun h => by have q := as1.2 h; rw [show (z0 (17 + 2 * rk) 1 - x5).toNat = 0 by omega] at q; exact q, as2⟩))⟩)
      · skip
        refine r_ld (pc' := 13) rfl rfl rfl rfl ?_
        refine r_gr (b := 18 + 2 * rk) (pc' := 16) rfl rfl (sh_R (k := rk) (by omega)) rfl (pp_R (k := rk) (by omega)) ?_
        refine r_ld (pc' := 17) rfl rfl rfl rfl ?_
        refine r_zeq (pc' := 20) rfl rfl ⟨by omega, by omega⟩ (fun hc26 => ?_) (fun hc26 => ?_)
        · skip
          refine r_ld (pc' := 34) rfl rfl rfl rfl ?_
          have hb27 := rd_RF (k := rk) (by omega) hz (i := x5.toNat) (by omega)
          unfold ok_f at hb27
          refine r_ia (pc' := 35) rfl rfl (sh_RF (k := rk) (by omega)) rfl (by omega) (by omega) (hst.2.2.1 _ _ (notS_c (by omega) (notS_c (by omega) notS_n))) ?_
          refine r_st (pc' := 37) (lv' := [(6, _), (0, _), (1, _), (2, _), (3, _), (4, _), (5, _)]) rfl rfl rfl rfl ?_
          refine r_ld (pc' := 39) rfl rfl rfl rfl ?_
          refine r_c0 (pc' := 40) rfl rfl ?_
          refine r_shr (s := 5) (pc' := 41) rfl rfl ⟨by omega, by omega⟩ (by decide) ?_
          refine r_cb (pc' := 43) rfl (by decide) rfl ?_
          refine r_msk (m := 31) (n := 5) (pc' := 44) rfl rfl ⟨by omega, by omega⟩ (by decide) (by decide) ?_
          refine r_st (pc' := 46) (lv' := [(7, _), (6, _), (0, _), (1, _), (2, _), (3, _), (4, _), (5, _)]) rfl rfl rfl rfl ?_
          refine r_ld (pc' := 48) rfl rfl rfl rfl ?_
          refine r_cb (pc' := 50) rfl (by decide) rfl ?_
          refine r_shr (s := 10) (pc' := 51) rfl rfl ⟨by omega, by omega⟩ (by decide) ?_
          refine r_cb (pc' := 53) rfl (by decide) rfl ?_
          refine r_msk (m := 31) (n := 5) (pc' := 54) rfl rfl ⟨by omega, by omega⟩ (by decide) (by decide) ?_
          refine r_st (pc' := 56) (lv' := [(8, _), (7, _), (6, _), (0, _), (1, _), (2, _), (3, _), (4, _), (5, _)]) rfl rfl rfl rfl ?_
          refine r_ld (pc' := 58) rfl rfl rfl rfl ?_
          refine r_cb (pc' := 60) rfl (by decide) rfl ?_
          refine r_shr (s := 15) (pc' := 61) rfl rfl ⟨by omega, by omega⟩ (by decide) ?_
          refine r_cb (pc' := 63) rfl (by decide) rfl ?_
          refine r_msk (m := 31) (n := 5) (pc' := 64) rfl rfl ⟨by omega, by omega⟩ (by decide) (by decide) ?_
          refine r_st (pc' := 66) (lv' := [(9, _), (8, _), (7, _), (6, _), (0, _), (1, _), (2, _), (3, _), (4, _), (5, _)]) rfl rfl rfl rfl ?_
          refine r_ld (pc' := 68) rfl rfl rfl rfl ?_
          refine r_cb (pc' := 70) rfl (by decide) rfl ?_
          refine r_shr (s := 20) (pc' := 71) rfl rfl ⟨by omega, by omega⟩ (by decide) ?_
          refine r_cb (pc' := 73) rfl (by decide) rfl ?_
          refine r_msk (m := 31) (n := 5) (pc' := 74) rfl rfl ⟨by omega, by omega⟩ (by decide) (by decide) ?_
          refine r_st (pc' := 76) (lv' := [(10, _), (9, _), (8, _), (7, _), (6, _), (0, _), (1, _), (2, _), (3, _), (4, _), (5, _)]) rfl rfl rfl rfl ?_
          refine r_ld (pc' := 77) rfl rfl rfl rfl ?_
          refine r_ld (pc' := 78) rfl rfl rfl rfl ?_
          refine r_ld (pc' := 80) rfl rfl rfl rfl ?_
          refine r_cb (pc' := 82) rfl (by decide) rfl ?_
          refine r_msk (m := 31) (n := 5) (pc' := 83) rfl rfl ⟨by omega, by omega⟩ (by decide) (by decide) ?_
          refine r_ld (pc' := 85) rfl rfl rfl rfl ?_
          refine r_ld (pc' := 87) rfl rfl rfl rfl ?_
          refine r_ld (pc' := 89) rfl rfl rfl rfl ?_
          refine r_ld (pc' := 91) rfl rfl rfl rfl ?_
          refine r_ld (pc' := 93) rfl rfl rfl rfl ?_
          refine r_cVI (pc' := 96) rfl rfl rfl rfl rfl sh_10 (m_29t (d := d) n ((z0 (18 + 2 * rk) x5.toNat) % 2 ^ 5) (((z0 (18 + 2 * rk) x5.toNat) / 2 ^ 5) % 2 ^ 5) (((z0 (18 + 2 * rk) x5.toNat) / 2 ^ 15) % 2 ^ 5) (((z0 (18 + 2 * rk) x5.toNat) / 2 ^ 10) % 2 ^ 5) (((z0 (18 + 2 * rk) x5.toNat) / 2 ^ 20) % 2 ^ 5) hst.1 hst.2.1 ⟨by omega, by omega⟩ ⟨by omega, by omega⟩ ⟨by omega, by omega⟩ ⟨by omega, by omega⟩ ⟨by omega, by omega⟩ (by exact as2) hn (by first | omega | assumption) wn (by first | omega | assumption)) (fun v28 z29 w30 p31 h32 hs33 hE34 => ?_)
          have hs35 := st_tr hst hs33 (subS_c (fun _ _ _ _ _ _ => inS_0 (by omega) (by omega) (by omega) (by omega)) (subS_c (fun _ _ _ _ _ _ => inS_s (inS_0 (by omega) (by omega) (by omega) (by omega))) subS_n))
          obtain ⟨rfl, hE34⟩ := hE34
          have hch := hE34
          refine r_zne (pc' := 99) rfl rfl ⟨by omega, by omega⟩ (fun hc36 => ?_) (fun hc36 => ?_)
          · skip
            have hgd : (a3 = 0 ∨ a3 = 1) := by omega
            have hgn : (a3 = 0 → G (x5 + 1).toNat (w30 n)) ∧ (a3 = 1 → G (z0 (17 + 2 * rk) 1 - (x5 + 1)).toNat (w30 n)) := ⟨fun h => by first | (exfalso; omega) | exact GRo_fw hgo (i := x5.toNat) (by omega) (as1.1 h) hch.2.2.1 (by omega), fun h => by first | (exfalso; omega) | exact GRo_bw hgo (i := (z0 (17 + 2 * rk) 1 - (x5 + 1)).toNat) (by omega) (as1.2 h) (by rw [show (z0 (17 + 2 * rk) 1 - (x5 + 1)).toNat = (z0 (17 + 2 * rk) 1 - 1 - x5).toNat by omega]; exact hch.2.2.1) (by omega)⟩
            have hnn : ∀ j, j < 18 → 0 ≤ w30 n j := by rcases hgd with h | h; exact hgo.nn (x5 + 1).toNat _ (by omega) (hgn.1 h); exact hgo.nn (z0 (17 + 2 * rk) 1 - (x5 + 1)).toNat _ (by omega) (hgn.2 h)
            refine r_inc (pc' := 104) (lv' := [(10, _), (9, _), (8, _), (7, _), (6, _), (0, _), (1, _), (2, _), (3, _), (4, _)]) rfl rfl rfl rfl rfl ?_
            refine r_go rfl ?_
            exact w_lv (sub_c rfl (sub_c rfl (sub_c rfl (sub_c rfl (sub_c rfl (sub_c rfl sub_n)))))) rfl (ih0 (x5 + 1) z29 w30 ⟨by omega, by omega⟩ hs35 (by first | exact hgn | exact ⟨fun h => hG.1 h, fun h => by rw [show (z0 (17 + 2 * rk) 1 - 0).toNat = (z0 (17 + 2 * rk) 1).toNat by omega]; exact hG.2 h⟩) (by first | exact hnb | exact nb_fl as2 hch.2.2.1 (hnn _ (by omega)) (hch.2.2.2 (by omega))) (by first | omega | assumption) (by omega))
          · skip
            refine r_c0 (pc' := 100) rfl rfl ?_
            exact r_rz rfl (by omega) (po_I hs35 ⟨by decide, by decide⟩ ⟨rfl, by omega, by omega, (by first | (intro h; exfalso; omega) | (intro _; exact ⟨fun h => by rw [show (z0 (17 + 2 * rk) 1).toNat = x5.toNat by omega]; exact as1.1 h, fun h => by have q := as1.2 h; rw [show (z0 (17 + 2 * rk) 1 - x5).toNat = 0 by omega] at q; exact q, as2⟩))⟩)
        · skip
          refine r_ld (pc' := 21) rfl rfl rfl rfl ?_
          refine r_gi (pc' := 24) rfl rfl (sh_R (k := rk) (by omega)) rfl (hst.2.2.1 _ _ (notS_c (by omega) (notS_c (by omega) notS_n))) ?_
          refine r_c0 (pc' := 25) rfl rfl ?_
          refine r_sub (pc' := 26) rfl rfl ?_
          refine r_ld (pc' := 28) rfl rfl rfl rfl ?_
          refine r_sub (pc' := 29) rfl rfl ?_
          refine r_go rfl ?_
          have hb37 := rd_RF (k := rk) (by omega) hz (i := (((z0 (17 + 2 * rk) 1) - 1) - x5).toNat) (by omega)
          unfold ok_f at hb37
          refine r_ia (pc' := 35) rfl rfl (sh_RF (k := rk) (by omega)) rfl (by omega) (by omega) (hst.2.2.1 _ _ (notS_c (by omega) (notS_c (by omega) notS_n))) ?_
          refine r_st (pc' := 37) (lv' := [(6, _), (0, _), (1, _), (2, _), (3, _), (4, _), (5, _)]) rfl rfl rfl rfl ?_
          refine r_ld (pc' := 39) rfl rfl rfl rfl ?_
          refine r_c0 (pc' := 40) rfl rfl ?_
          refine r_shr (s := 5) (pc' := 41) rfl rfl ⟨by omega, by omega⟩ (by decide) ?_
          refine r_cb (pc' := 43) rfl (by decide) rfl ?_
          refine r_msk (m := 31) (n := 5) (pc' := 44) rfl rfl ⟨by omega, by omega⟩ (by decide) (by decide) ?_
          refine r_st (pc' := 46) (lv' := [(7, _), (6, _), (0, _), (1, _), (2, _), (3, _), (4, _), (5, _)]) rfl rfl rfl rfl ?_
          refine r_ld (pc' := 48) rfl rfl rfl rfl ?_
          refine r_cb (pc' := 50) rfl (by decide) rfl ?_
          refine r_shr (s := 10) (pc' := 51) rfl rfl ⟨by omega, by omega⟩ (by decide) ?_
          refine r_cb (pc' := 53) rfl (by decide) rfl ?_
          refine r_msk (m := 31) (n := 5) (pc' := 54) rfl rfl ⟨by omega, by omega⟩ (by decide) (by decide) ?_
          refine r_st (pc' := 56) (lv' := [(8, _), (7, _), (6, _), (0, _), (1, _), (2, _), (3, _), (4, _), (5, _)]) rfl rfl rfl rfl ?_
          refine r_ld (pc' := 58) rfl rfl rfl rfl ?_
          refine r_cb (pc' := 60) rfl (by decide) rfl ?_
          refine r_shr (s := 15) (pc' := 61) rfl rfl ⟨by omega, by omega⟩ (by decide) ?_
          refine r_cb (pc' := 63) rfl (by decide) rfl ?_
          refine r_msk (m := 31) (n := 5) (pc' := 64) rfl rfl ⟨by omega, by omega⟩ (by decide) (by decide) ?_
          refine r_st (pc' := 66) (lv' := [(9, _), (8, _), (7, _), (6, _), (0, _), (1, _), (2, _), (3, _), (4, _), (5, _)]) rfl rfl rfl rfl ?_
          refine r_ld (pc' := 68) rfl rfl rfl rfl ?_
          refine r_cb (pc' := 70) rfl (by decide) rfl ?_
          refine r_shr (s := 20) (pc' := 71) rfl rfl ⟨by omega, by omega⟩ (by decide) ?_
          refine r_cb (pc' := 73) rfl (by decide) rfl ?_
          refine r_msk (m := 31) (n := 5) (pc' := 74) rfl rfl ⟨by omega, by omega⟩ (by decide) (by decide) ?_
          refine r_st (pc' := 76) (lv' := [(10, _), (9, _), (8, _), (7, _), (6, _), (0, _), (1, _), (2, _), (3, _), (4, _), (5, _)]) rfl rfl rfl rfl ?_
          refine r_ld (pc' := 77) rfl rfl rfl rfl ?_
          refine r_ld (pc' := 78) rfl rfl rfl rfl ?_
          refine r_ld (pc' := 80) rfl rfl rfl rfl ?_
          refine r_cb (pc' := 82) rfl (by decide) rfl ?_
          refine r_msk (m := 31) (n := 5) (pc' := 83) rfl rfl ⟨by omega, by omega⟩ (by decide) (by decide) ?_
          refine r_ld (pc' := 85) rfl rfl rfl rfl ?_
          refine r_ld (pc' := 87) rfl rfl rfl rfl ?_
          refine r_ld (pc' := 89) rfl rfl rfl rfl ?_
          refine r_ld (pc' := 91) rfl rfl rfl rfl ?_
          refine r_ld (pc' := 93) rfl rfl rfl rfl ?_
          refine r_cVI (pc' := 96) rfl rfl rfl rfl rfl sh_10 (m_29t (d := d) n ((z0 (18 + 2 * rk) (((z0 (17 + 2 * rk) 1) - 1) - x5).toNat) % 2 ^ 5) (((z0 (18 + 2 * rk) (((z0 (17 + 2 * rk) 1) - 1) - x5).toNat) / 2 ^ 5) % 2 ^ 5) (((z0 (18 + 2 * rk) (((z0 (17 + 2 * rk) 1) - 1) - x5).toNat) / 2 ^ 15) % 2 ^ 5) (((z0 (18 + 2 * rk) (((z0 (17 + 2 * rk) 1) - 1) - x5).toNat) / 2 ^ 10) % 2 ^ 5) (((z0 (18 + 2 * rk) (((z0 (17 + 2 * rk) 1) - 1) - x5).toNat) / 2 ^ 20) % 2 ^ 5) hst.1 hst.2.1 ⟨by omega, by omega⟩ ⟨by omega, by omega⟩ ⟨by omega, by omega⟩ ⟨by omega, by omega⟩ ⟨by omega, by omega⟩ (by exact as2) hn (by first | omega | assumption) wn (by first | omega | assumption)) (fun v38 z39 w40 p41 h42 hs43 hE44 => ?_)
          have hs45 := st_tr hst hs43 (subS_c (fun _ _ _ _ _ _ => inS_0 (by omega) (by omega) (by omega) (by omega)) (subS_c (fun _ _ _ _ _ _ => inS_s (inS_0 (by omega) (by omega) (by omega) (by omega))) subS_n))
          obtain ⟨rfl, hE44⟩ := hE44
          have hch := hE44
          refine r_zne (pc' := 99) rfl rfl ⟨by omega, by omega⟩ (fun hc46 => ?_) (fun hc46 => ?_)
          · skip
            have hgd : (a3 = 0 ∨ a3 = 1) := by omega
            have hgn : (a3 = 0 → G (x5 + 1).toNat (w40 n)) ∧ (a3 = 1 → G (z0 (17 + 2 * rk) 1 - (x5 + 1)).toNat (w40 n)) := ⟨fun h => by first | (exfalso; omega) | exact GRo_fw hgo (i := x5.toNat) (by omega) (as1.1 h) hch.2.2.1 (by omega), fun h => by first | (exfalso; omega) | exact GRo_bw hgo (i := (z0 (17 + 2 * rk) 1 - (x5 + 1)).toNat) (by omega) (as1.2 h) (by rw [show (z0 (17 + 2 * rk) 1 - (x5 + 1)).toNat = (z0 (17 + 2 * rk) 1 - 1 - x5).toNat by omega]; exact hch.2.2.1) (by omega)⟩
            have hnn : ∀ j, j < 18 → 0 ≤ w40 n j := by rcases hgd with h | h; exact hgo.nn (x5 + 1).toNat _ (by omega) (hgn.1 h); exact hgo.nn (z0 (17 + 2 * rk) 1 - (x5 + 1)).toNat _ (by omega) (hgn.2 h)
            refine r_inc (pc' := 104) (lv' := [(10, _), (9, _), (8, _), (7, _), (6, _), (0, _), (1, _), (2, _), (3, _), (4, _)]) rfl rfl rfl rfl rfl ?_
            refine r_go rfl ?_
            exact w_lv (sub_c rfl (sub_c rfl (sub_c rfl (sub_c rfl (sub_c rfl (sub_c rfl sub_n)))))) rfl (ih0 (x5 + 1) z39 w40 ⟨by omega, by omega⟩ hs45 (by first | exact hgn | exact ⟨fun h => hG.1 h, fun h => by rw [show (z0 (17 + 2 * rk) 1 - 0).toNat = (z0 (17 + 2 * rk) 1).toNat by omega]; exact hG.2 h⟩) (by first | exact hnb | exact nb_fl as2 hch.2.2.1 (hnn _ (by omega)) (hch.2.2.2 (by omega))) (by first | omega | assumption) (by omega))
          · skip
            refine r_c0 (pc' := 100) rfl rfl ?_
            exact r_rz rfl (by omega) (po_I hs45 ⟨by decide, by decide⟩ ⟨rfl, by omega, by omega, (by first | (intro h; exfalso; omega) | (intro _; exact ⟨fun h => by rw [show (z0 (17 + 2 * rk) 1).toNat = x5.toNat by omega]; exact as1.1 h, fun h => by have q := as1.2 h; rw [show (z0 (17 + 2 * rk) 1 - x5).toNat = 0 by omega] at q; exact q, as2⟩))⟩)
  refine w_m rfl rfl ?_
  refine r_c0 (pc' := 1) rfl rfl ?_
  refine r_st (pc' := 3) (lv' := [(5, _), (0, _), (1, _), (2, _), (3, _), (4, _)]) rfl rfl rfl rfl ?_
  exact w_lv (sub_c rfl (sub_c rfl (sub_c rfl (sub_c rfl (sub_c rfl (sub_c rfl sub_n)))))) rfl ((key ((62 * (1782 - 0) + 59 : Int).toNat + 1)) 0 z0 w0 ⟨by omega, by omega⟩ hst (by first | exact hgn | exact ⟨fun h => hG.1 h, fun h => by rw [show (z0 (17 + 2 * rk) 1 - 0).toNat = (z0 (17 + 2 * rk) 1).toNat by omega]; exact hG.2 h⟩) (by first | exact hnb | exact nb_fl as2 hch.2.2.1 (hnn _ (by omega)) (hch.2.2.2 (by omega))) (by first | omega | assumption) (by omega))
end
section
/-! methods, printed by wip/tools/vcg.py -/
/-- Mover twistAlong -/
abbrev S_27n (n : Nat) : mS := [(n, n, 0, 17)]
abbrev E_27n (t : Nat) (n : Nat) (a2 : Int) (a3 : Int) (z0 w0 : mZ) (x y tx it mt tt ct : Option Nat) : Int → mZ → mZ → mP → Prop := fun v z w p => p = (pq x y tx it mt tt ct) ∧ 0 ≤ v ∧ v ≤ 1 ∧ ((v = 1 → FTt z0 t (w n) ∧ ∀ e : Nat, e < 18 → 0 ≤ w n e ∧ w n e ≤ 100000000000000))
theorem m_27n {d : Nat} {z0 w0 : mZ} {x y tx it mt tt ct : Option Nat} (t : Nat) (n : Nat) (a2 : Int) (a3 : Int) (hz : rz z0) (hw : rw_ w0) (ha2 : 0 ≤ a2 ∧ a2 ≤ 7) (ha3 : (-99) ≤ a3 ∧ a3 ≤ 99) (ht : isT t) (hnb : ∀ e : Nat, e < 18 → 0 ≤ w0 n e ∧ w0 n e ≤ 100000000000000) (hft : FTt z0 t (w0 n)) (hgr : GRt z0 z0 t a2.toNat) (hkd : z0 (17 + 2 * a2.toNat) 0 = 2) (hn : lr n) (b15n : 15 ≤ n) (wn : wrr n) (mn : 149 ≤ n ∧ n ≤ 157) : wc (d + 4) 27 [.ref 10, .ref n, .int (Int32.ofInt a2), .int (Int32.ofInt a3), .null] (mk z0 w0 (pq x y tx it mt tt ct)) (poI (S_27n n) z0 w0 (E_27n t n a2 a3 z0 w0 x y tx it mt tt ct)) := by
  have hst : st_ (S_27n n) z0 w0 z0 w0 := st_rf hz hw
  have htb : 159 ≤ t ∧ t ≤ 192 := by have := ht; unfold isT at this; omega
  obtain ⟨G, hgo, htw1, htw2, ga, gb, ge, gf, gae, gaf, gbe, gbf, gef⟩ := hgr hkd
  obtain ⟨m, hm⟩ : ∃ m, m = (z0 t 0).toNat := ⟨_, rfl⟩
  obtain ⟨T, hT⟩ : ∃ T, T = vT (z0 (t + 1)) := ⟨_, rfl⟩
  rw [← hm, ← hT] at hgo
  have hr1 := rd_R_1 (k := a2.toNat) (by omega) hz
  have hr2 := rd_R_2 (k := a2.toNat) (by omega) hz
  have hr3 := rd_R_3 (k := a2.toNat) (by omega) hz
  have hr4 := rd_R_4 (k := a2.toNat) (by omega) hz
  have hr5 := rd_R_5 (k := a2.toNat) (by omega) hz
  have key : ∀ N : Nat, (∀ (x6 x7 x8 : Int) (z w : mZ), 0 ≤ x6 ∧ x6 ≤ 17 → 0 ≤ x7 ∧ x7 ≤ 17 → 0 ≤ x8 ∧ x8 ≤ 99 → st_ (S_27n n) z0 w0 z w → (G (z0 (17 + 2 * a2.toNat) 1).toNat (w n)) → (∀ e : Nat, e < 18 → 0 ≤ w n e ∧ w n e ≤ 100000000000000) → ((0 < a3 → x6 = z0 (17 + 2 * a2.toNat) 5 ∧ x7 = z0 (17 + 2 * a2.toNat) 4) ∧ (a3 ≤ 0 → x6 = z0 (17 + 2 * a2.toNat) 4 ∧ x7 = z0 (17 + 2 * a2.toNat) 5)) → 65 * (99 - x8) + 32 < (N : Int) → wp_ (d + 3) 27 9 (some .boolean) (64, [(0, .ref 10), (1, .ref n), (3, .int (Int32.ofInt a3)), (4, .null), (5, .ref (17 + 2 * a2.toNat)), (6, .int (Int32.ofInt x6)), (7, .int (Int32.ofInt x7)), (8, .int (Int32.ofInt x8))], [], mk z w (pq x y tx it mt tt ct)) (poI (S_27n n) z0 w0 (E_27n t n a2 a3 z0 w0 x y tx it mt tt ct))) := by
    intro N
    induction N with
    | zero =>
      intro x6 x7 x8 z w
      intros; exfalso; omega
    | succ N ih =>
      have ih0 := ih; clear ih
      intro x6 x7 x8 z w  hx6 hx7 hx8 hst as1 as2 as3 hM
      have grf : z (18 + 2 * a2.toNat) = z0 (18 + 2 * a2.toNat) := funext fun i => hst.2.2.1 _ _ (notS_c (by omega) (notS_n))
      have gr1 : z (17 + 2 * a2.toNat) 1 = z0 (17 + 2 * a2.toNat) 1 := hst.2.2.1 _ _ (notS_c (by omega) (notS_n))
      refine r_ld (pc' := 66) rfl rfl rfl rfl ?_
      refine r_ld (pc' := 67) rfl rfl rfl rfl ?_
      refine r_cSI (pc' := 70) rfl rfl rfl rfl rfl (m_259 (d := d + 2) a3 hst.1 hst.2.1 ⟨by omega, by omega⟩) (fun v57 z58 w59 p60 h61 hs62 hE63 => ?_)
      obtain ⟨rfl, rfl, rfl, hE63⟩ := hE63
      refine r_ige (pc' := 73) rfl rfl ⟨by omega, by omega⟩ ⟨by omega, by omega⟩ (fun hc65 => ?_) (fun hc65 => ?_)
      · skip
        refine r_ld (pc' := 119) rfl rfl rfl rfl ?_
        refine r_ld (pc' := 120) rfl rfl rfl rfl ?_
        refine r_ld (pc' := 122) rfl rfl rfl rfl ?_
        refine r_c0 (pc' := 123) rfl rfl ?_
        refine r_ld (pc' := 125) rfl rfl rfl rfl ?_
        have hb66 := rd_R_1 (k := a2.toNat) (by omega) hz
        have hf67 : z (17 + 2 * a2.toNat) 1 = z0 (17 + 2 * a2.toNat) 1 := (hst.2.2.1 _ _ (notS_c (by omega) notS_n))
        have hF68 : z (18 + 2 * a2.toNat) = z0 (18 + 2 * a2.toNat) := (funext fun _ => hst.2.2.1 _ _ (notS_c (by omega) notS_n))
        refine r_cVI (pc' := 128) rfl rfl rfl rfl rfl sh_10 (m_28n (d := d) m T G n a2.toNat 1 hst.1 hst.2.1 ⟨by omega, by omega⟩ (by first | omega | assumption | (simp only [hF68, hf67]; assumption)) (by exact as2) (by rw [grf, gr1]; exact hgo) (by exact ⟨fun h => absurd h (by omega), fun _ => by rw [gr1]; exact as1⟩) hn (by first | omega | assumption | (simp only [hF68, hf67]; assumption)) wn (by first | omega | assumption | (simp only [hF68, hf67]; assumption))) (fun v69 z70 w71 p72 h73 hs74 hE75 => ?_)
        have hs76 := st_tr hst hs74 (subS_c (fun _ _ _ _ _ _ => inS_0 (by omega) (by omega) (by omega) (by omega)) subS_n)
        obtain ⟨rfl, hE75⟩ := hE75
        have hpb := hE75.2.2
        exact r_rz rfl (by omega) (po_I hs76 ⟨by omega, by omega⟩ ⟨rfl, by omega, by omega, (by first | (intro h; exfalso; omega) | (intro h; exact ⟨by have q := (hgo.g0 _).mpr ((hpb (by omega)).2.1 rfl); rw [hm, hT] at q; exact q, (hpb (by omega)).2.2⟩))⟩)
      · skip
        refine r_ld (pc' := 74) rfl rfl rfl rfl ?_
        refine r_ld (pc' := 75) rfl rfl rfl rfl ?_
        refine r_ld (pc' := 77) rfl rfl rfl rfl ?_
        refine r_ld (pc' := 79) rfl rfl rfl rfl ?_
        have hb77 := rd_R_2 (k := a2.toNat) (by omega) hz
        refine r_gi (pc' := 82) rfl rfl (sh_R (k := a2.toNat) (by omega)) rfl (hst.2.2.1 _ _ (notS_c (by omega) notS_n)) ?_
        refine r_ld (pc' := 84) rfl rfl rfl rfl ?_
        have hb78 := rd_R_3 (k := a2.toNat) (by omega) hz
        refine r_gi (pc' := 87) rfl rfl (sh_R (k := a2.toNat) (by omega)) rfl (hst.2.2.1 _ _ (notS_c (by omega) notS_n)) ?_
        refine r_ld (pc' := 89) rfl rfl rfl rfl ?_
        refine r_ld (pc' := 91) rfl rfl rfl rfl ?_
        refine r_ld (pc' := 93) rfl rfl rfl rfl ?_
        refine r_cVI (pc' := 96) rfl rfl rfl rfl rfl sh_10 (m_29n (d := d + 1) n x7 (z0 (17 + 2 * a2.toNat) 2) (z0 (17 + 2 * a2.toNat) 3) x6 x6 hst.1 hst.2.1 ⟨by omega, by omega⟩ ⟨by omega, by omega⟩ ⟨by omega, by omega⟩ ⟨by omega, by omega⟩ ⟨by omega, by omega⟩ (by exact as2) hn (by first | omega | assumption) wn (by first | omega | assumption)) (fun v79 z80 w81 p82 h83 hs84 hE85 => ?_)
        have hs86 := st_tr hst hs84 (subS_c (fun _ _ _ _ _ _ => inS_0 (by omega) (by omega) (by omega) (by omega)) subS_n)
        obtain ⟨rfl, hE85⟩ := hE85
        have hch := hE85.2.2
        refine r_zne (pc' := 99) rfl rfl ⟨by omega, by omega⟩ (fun hc87 => ?_) (fun hc87 => ?_)
        · skip
          refine r_ld (pc' := 102) rfl rfl rfl rfl ?_
          refine r_ld (pc' := 103) rfl rfl rfl rfl ?_
          refine r_ld (pc' := 105) rfl rfl rfl rfl ?_
          refine r_ld (pc' := 107) rfl rfl rfl rfl ?_
          refine r_ld (pc' := 109) rfl rfl rfl rfl ?_
          refine r_cVV (pc' := 112) rfl rfl rfl rfl rfl sh_10 (m_30n (d := d + 1) n x6 x7 hs86.1 hs86.2.1 ⟨by omega, by omega⟩ ⟨by omega, by omega⟩ hn (by first | omega | assumption) wn (by first | omega | assumption)) (fun z89 w90 p91 hs93 hE94 => ?_)
          have hs95 := st_tr hs86 hs93 (subS_c (fun _ _ _ _ _ _ => inS_0 (by omega) (by omega) (by omega) (by omega)) subS_n)
          obtain ⟨rfl, hE94⟩ := hE94
          have hex := hE94
          have htw := tw_of (n := w n) (by omega) hch.1 hex
          have hgt : G (z0 (17 + 2 * a2.toNat) 1).toNat (w90 n) := by rw [htw]; (rcases (show 0 < a3 ∨ a3 ≤ 0 by omega) with q | q; (rw [(as3.1 q).1, (as3.1 q).2]; exact htw1 _ as1); (rw [(as3.2 q).1, (as3.2 q).2]; exact htw2 _ as1))
          refine r_inc (pc' := 115) (lv' := [(0, _), (1, _), (3, _), (4, _), (5, _), (6, _), (7, _)]) rfl rfl rfl rfl rfl ?_
          refine r_go rfl ?_
          exact w_lv (sub_c rfl (sub_c rfl (sub_c rfl (sub_c rfl (sub_c rfl (sub_c rfl (sub_c rfl (sub_c rfl sub_n)))))))) rfl (ih0 x6 x7 (x8 + 1) z89 w90 ⟨by omega, by omega⟩ ⟨by omega, by omega⟩ ⟨by omega, by omega⟩ hs95 (by first | exact (hpf (by omega)).1 rfl | exact hgt) (by first | exact (hpf (by omega)).2.2 | exact nb_ex (by omega) (by omega) (fun j hj => by by_cases c : j = x7.toNat; (subst c; exact hch.2 (by omega)); (rw [hch.1, fl_ne c]; exact (as2 j hj).2)) hex (hgo.nn _ _ (by omega) hgt)) (by first | omega | assumption) (by omega))
        · skip
          refine r_c0 (pc' := 100) rfl rfl ?_
          exact r_rz rfl (by omega) (po_I hs86 ⟨by decide, by decide⟩ ⟨rfl, by omega, by omega, (by first | (intro h; exfalso; omega) | (intro h; exact ⟨by have q := (hgo.g0 _).mpr ((hpb (by omega)).2.1 rfl); rw [hm, hT] at q; exact q, (hpb (by omega)).2.2⟩))⟩)
  refine w_m rfl rfl ?_
  refine r_ld (pc' := 1) rfl rfl rfl rfl ?_
  refine r_gr (b := 16) (pc' := 4) rfl rfl sh_10 rfl pp_10_1 ?_
  refine r_ld (pc' := 5) rfl rfl rfl rfl ?_
  refine r_aa (b := 17 + 2 * a2.toNat) (pc' := 6) rfl rfl sh_16 (Or.inr (Or.inr rfl)) rfl (by omega) (by omega) (pa_16 (by omega)) ?_
  refine r_st (pc' := 8) (lv' := [(5, _), (0, _), (1, _), (2, _), (3, _), (4, _)]) rfl rfl rfl rfl ?_
  refine r_ld (pc' := 9) rfl rfl rfl rfl ?_
  refine r_ld (pc' := 10) rfl rfl rfl rfl ?_
  refine r_ld (pc' := 12) rfl rfl rfl rfl ?_
  refine r_c0 (pc' := 13) rfl rfl ?_
  refine r_ld (pc' := 15) rfl rfl rfl rfl ?_
  have hb96 := rd_R_1 (k := a2.toNat) (by omega) hz
  refine r_cVI (pc' := 18) rfl rfl rfl rfl rfl sh_10 (m_28n (d := d) m T G n a2.toNat 0 hst.1 hst.2.1 ⟨by omega, by omega⟩ (by first | omega | assumption) (by exact hnb) (by exact hgo) (by exact ⟨fun _ => (hgo.g0 _).mp (by rw [hm, hT]; exact hft), fun h => absurd h (by omega)⟩) hn (by first | omega | assumption) wn (by first | omega | assumption)) (fun v97 z98 w99 p100 h101 hs102 hE103 => ?_)
  have hs104 := st_tr hst hs102 (subS_c (fun _ _ _ _ _ _ => inS_0 (by omega) (by omega) (by omega) (by omega)) subS_n)
  obtain ⟨rfl, hE103⟩ := hE103
  have hpf := hE103.2.2
  refine r_zne (pc' := 21) rfl rfl ⟨by omega, by omega⟩ (fun hc105 => ?_) (fun hc105 => ?_)
  · skip
    refine r_ld (pc' := 24) rfl rfl rfl rfl ?_
    refine r_zle (pc' := 27) rfl rfl ⟨by omega, by omega⟩ (fun hc106 => ?_) (fun hc106 => ?_)
    · skip
      refine r_ld (pc' := 37) rfl rfl rfl rfl ?_
      have hb107 := rd_R_4 (k := a2.toNat) (by omega) hz
      refine r_gi (pc' := 40) rfl rfl (sh_R (k := a2.toNat) (by omega)) rfl (hs102.2.2.1 _ _ (notS_c (by omega) notS_n)) ?_
      refine r_st (pc' := 42) (lv' := [(6, _), (5, _), (0, _), (1, _), (2, _), (3, _), (4, _)]) rfl rfl rfl rfl ?_
      refine r_ld (pc' := 43) rfl rfl rfl rfl ?_
      refine r_zle (pc' := 46) rfl rfl ⟨by omega, by omega⟩ (fun hc108 => ?_) (fun hc108 => ?_)
      · skip
        refine r_ld (pc' := 56) rfl rfl rfl rfl ?_
        have hb109 := rd_R_5 (k := a2.toNat) (by omega) hz
        refine r_gi (pc' := 59) rfl rfl (sh_R (k := a2.toNat) (by omega)) rfl (hs102.2.2.1 _ _ (notS_c (by omega) notS_n)) ?_
        refine r_st (pc' := 61) (lv' := [(7, _), (6, _), (5, _), (0, _), (1, _), (2, _), (3, _), (4, _)]) rfl rfl rfl rfl ?_
        refine r_c0 (pc' := 62) rfl rfl ?_
        refine r_st (pc' := 64) (lv' := [(8, _), (7, _), (6, _), (5, _), (0, _), (1, _), (2, _), (3, _), (4, _)]) rfl rfl rfl rfl ?_
        exact w_lv (sub_c rfl (sub_c rfl (sub_c rfl (sub_c rfl (sub_c rfl (sub_c rfl (sub_c rfl (sub_c rfl sub_n)))))))) rfl ((key ((65 * (99 - 0) + 32 : Int).toNat + 1)) (z0 (17 + 2 * a2.toNat) 4) (z0 (17 + 2 * a2.toNat) 5) 0 z98 w99 ⟨by omega, by omega⟩ ⟨by omega, by omega⟩ ⟨by omega, by omega⟩ hs104 (by first | exact (hpf (by omega)).1 rfl | exact hgt) (by first | exact (hpf (by omega)).2.2 | exact nb_ex (by omega) (by omega) (fun j hj => by by_cases c : j = x7.toNat; (subst c; exact hch.2 (by omega)); (rw [hch.1, fl_ne c]; exact (as2 j hj).2)) hex (hgo.nn _ _ (by omega) hgt)) (by first | omega | assumption) (by omega))
      · exfalso; omega
    · skip
      refine r_ld (pc' := 29) rfl rfl rfl rfl ?_
      have hb110 := rd_R_5 (k := a2.toNat) (by omega) hz
      refine r_gi (pc' := 32) rfl rfl (sh_R (k := a2.toNat) (by omega)) rfl (hs102.2.2.1 _ _ (notS_c (by omega) notS_n)) ?_
      refine r_go rfl ?_
      refine r_st (pc' := 42) (lv' := [(6, _), (5, _), (0, _), (1, _), (2, _), (3, _), (4, _)]) rfl rfl rfl rfl ?_
      refine r_ld (pc' := 43) rfl rfl rfl rfl ?_
      refine r_zle (pc' := 46) rfl rfl ⟨by omega, by omega⟩ (fun hc111 => ?_) (fun hc111 => ?_)
      · exfalso; omega
      · skip
        refine r_ld (pc' := 48) rfl rfl rfl rfl ?_
        have hb112 := rd_R_4 (k := a2.toNat) (by omega) hz
        refine r_gi (pc' := 51) rfl rfl (sh_R (k := a2.toNat) (by omega)) rfl (hs102.2.2.1 _ _ (notS_c (by omega) notS_n)) ?_
        refine r_go rfl ?_
        refine r_st (pc' := 61) (lv' := [(7, _), (6, _), (5, _), (0, _), (1, _), (2, _), (3, _), (4, _)]) rfl rfl rfl rfl ?_
        refine r_c0 (pc' := 62) rfl rfl ?_
        refine r_st (pc' := 64) (lv' := [(8, _), (7, _), (6, _), (5, _), (0, _), (1, _), (2, _), (3, _), (4, _)]) rfl rfl rfl rfl ?_
        exact w_lv (sub_c rfl (sub_c rfl (sub_c rfl (sub_c rfl (sub_c rfl (sub_c rfl (sub_c rfl (sub_c rfl sub_n)))))))) rfl ((key ((65 * (99 - 0) + 32 : Int).toNat + 1)) (z0 (17 + 2 * a2.toNat) 5) (z0 (17 + 2 * a2.toNat) 4) 0 z98 w99 ⟨by omega, by omega⟩ ⟨by omega, by omega⟩ ⟨by omega, by omega⟩ hs104 (by first | exact (hpf (by omega)).1 rfl | exact hgt) (by first | exact (hpf (by omega)).2.2 | exact nb_ex (by omega) (by omega) (fun j hj => by by_cases c : j = x7.toNat; (subst c; exact hch.2 (by omega)); (rw [hch.1, fl_ne c]; exact (as2 j hj).2)) hex (hgo.nn _ _ (by omega) hgt)) (by first | omega | assumption) (by omega))
  · skip
    refine r_c0 (pc' := 22) rfl rfl ?_
    exact r_rz rfl (by omega) (po_I hs104 ⟨by decide, by decide⟩ ⟨rfl, by omega, by omega, (by first | (intro h; exfalso; omega) | (intro h; exact ⟨by have q := (hgo.g0 _).mpr ((hpb (by omega)).2.1 rfl); rw [hm, hT] at q; exact q, (hpb (by omega)).2.2⟩))⟩)
/-- Mover twistAlong -/
abbrev S_27t (n : Nat) : mS := [(n, n, 0, 17), (104, 121, 0, 17)]
abbrev E_27t (t : Nat) (n : Nat) (a2 : Int) (a3 : Int) (z0 w0 : mZ) (x y tx it mt tt ct : Option Nat) : Int → mZ → mZ → mP → Prop := fun v z w p => p = (pq x y tx it mt tt ct) ∧ 0 ≤ v ∧ v ≤ 1 ∧ ((v = 1 → FTt z0 t (w n) ∧ ∀ e : Nat, e < 18 → 0 ≤ w n e ∧ w n e ≤ 100000000000000))
theorem m_27t {d : Nat} {z0 w0 : mZ} {x y tx it mt tt ct : Option Nat} (t : Nat) (n : Nat) (a2 : Int) (a3 : Int) (hz : rz z0) (hw : rw_ w0) (ha2 : 0 ≤ a2 ∧ a2 ≤ 7) (ha3 : (-99) ≤ a3 ∧ a3 ≤ 99) (ht : isT t) (hnb : ∀ e : Nat, e < 18 → 0 ≤ w0 n e ∧ w0 n e ≤ 100000000000000) (hft : FTt z0 t (w0 n)) (hgr : GRt z0 z0 t a2.toNat) (hkd : z0 (17 + 2 * a2.toNat) 0 = 2) (hn : lr n) (b15n : 15 ≤ n) (wn : wrr n) (mn : 149 ≤ n ∧ n ≤ 157) : wc (d + 4) 27 [.ref 10, .ref n, .int (Int32.ofInt a2), .int (Int32.ofInt a3), .ref 102] (mk z0 w0 (pq x y tx it mt tt ct)) (poI (S_27t n) z0 w0 (E_27t t n a2 a3 z0 w0 x y tx it mt tt ct)) := by
  have hst : st_ (S_27t n) z0 w0 z0 w0 := st_rf hz hw
  have htb : 159 ≤ t ∧ t ≤ 192 := by have := ht; unfold isT at this; omega
  obtain ⟨G, hgo, htw1, htw2, ga, gb, ge, gf, gae, gaf, gbe, gbf, gef⟩ := hgr hkd
  obtain ⟨m, hm⟩ : ∃ m, m = (z0 t 0).toNat := ⟨_, rfl⟩
  obtain ⟨T, hT⟩ : ∃ T, T = vT (z0 (t + 1)) := ⟨_, rfl⟩
  rw [← hm, ← hT] at hgo
  have hr1 := rd_R_1 (k := a2.toNat) (by omega) hz
  have hr2 := rd_R_2 (k := a2.toNat) (by omega) hz
  have hr3 := rd_R_3 (k := a2.toNat) (by omega) hz
  have hr4 := rd_R_4 (k := a2.toNat) (by omega) hz
  have hr5 := rd_R_5 (k := a2.toNat) (by omega) hz
  have key : ∀ N : Nat, (∀ (x6 x7 x8 : Int) (z w : mZ), 0 ≤ x6 ∧ x6 ≤ 17 → 0 ≤ x7 ∧ x7 ≤ 17 → 0 ≤ x8 ∧ x8 ≤ 99 → st_ (S_27t n) z0 w0 z w → (G (z0 (17 + 2 * a2.toNat) 1).toNat (w n)) → (∀ e : Nat, e < 18 → 0 ≤ w n e ∧ w n e ≤ 100000000000000) → ((0 < a3 → x6 = z0 (17 + 2 * a2.toNat) 5 ∧ x7 = z0 (17 + 2 * a2.toNat) 4) ∧ (a3 ≤ 0 → x6 = z0 (17 + 2 * a2.toNat) 4 ∧ x7 = z0 (17 + 2 * a2.toNat) 5)) → 65 * (99 - x8) + 32 < (N : Int) → wp_ (d + 3) 27 9 (some .boolean) (64, [(0, .ref 10), (1, .ref n), (3, .int (Int32.ofInt a3)), (4, .ref 102), (5, .ref (17 + 2 * a2.toNat)), (6, .int (Int32.ofInt x6)), (7, .int (Int32.ofInt x7)), (8, .int (Int32.ofInt x8))], [], mk z w (pq x y tx it mt tt ct)) (poI (S_27t n) z0 w0 (E_27t t n a2 a3 z0 w0 x y tx it mt tt ct))) := by
    intro N
    induction N with
    | zero =>
      intro x6 x7 x8 z w
      intros; exfalso; omega
    | succ N ih =>
      have ih0 := ih; clear ih
      intro x6 x7 x8 z w  hx6 hx7 hx8 hst as1 as2 as3 hM
      have grf : z (18 + 2 * a2.toNat) = z0 (18 + 2 * a2.toNat) := funext fun i => hst.2.2.1 _ _ (notS_c (by omega) (notS_c (by omega) (notS_n)))
      have gr1 : z (17 + 2 * a2.toNat) 1 = z0 (17 + 2 * a2.toNat) 1 := hst.2.2.1 _ _ (notS_c (by omega) (notS_c (by omega) (notS_n)))
      refine r_ld (pc' := 66) rfl rfl rfl rfl ?_
      refine r_ld (pc' := 67) rfl rfl rfl rfl ?_
      refine r_cSI (pc' := 70) rfl rfl rfl rfl rfl (m_259 (d := d + 2) a3 hst.1 hst.2.1 ⟨by omega, by omega⟩) (fun v57 z58 w59 p60 h61 hs62 hE63 => ?_)
      obtain ⟨rfl, rfl, rfl, hE63⟩ := hE63
      refine r_ige (pc' := 73) rfl rfl ⟨by omega, by omega⟩ ⟨by omega, by omega⟩ (fun hc65 => ?_) (fun hc65 => ?_)
      · skip
        refine r_ld (pc' := 119) rfl rfl rfl rfl ?_
        refine r_ld (pc' := 120) rfl rfl rfl rfl ?_
        refine r_ld (pc' := 122) rfl rfl rfl rfl ?_
        refine r_c0 (pc' := 123) rfl rfl ?_
        refine r_ld (pc' := 125) rfl rfl rfl rfl ?_
        have hb66 := rd_R_1 (k := a2.toNat) (by omega) hz
        have hf67 : z (17 + 2 * a2.toNat) 1 = z0 (17 + 2 * a2.toNat) 1 := (hst.2.2.1 _ _ (notS_c (by omega) (notS_c (by omega) notS_n)))
        have hF68 : z (18 + 2 * a2.toNat) = z0 (18 + 2 * a2.toNat) := (funext fun _ => hst.2.2.1 _ _ (notS_c (by omega) (notS_c (by omega) notS_n)))
        refine r_cVI (pc' := 128) rfl rfl rfl rfl rfl sh_10 (m_28t (d := d) m T G n a2.toNat 1 hst.1 hst.2.1 ⟨by omega, by omega⟩ (by first | omega | assumption | (simp only [hF68, hf67]; assumption)) (by exact as2) (by rw [grf, gr1]; exact hgo) (by exact ⟨fun h => absurd h (by omega), fun _ => by rw [gr1]; exact as1⟩) hn (by first | omega | assumption | (simp only [hF68, hf67]; assumption)) wn (by first | omega | assumption | (simp only [hF68, hf67]; assumption))) (fun v69 z70 w71 p72 h73 hs74 hE75 => ?_)
        have hs76 := st_tr hst hs74 (subS_c (fun _ _ _ _ _ _ => inS_0 (by omega) (by omega) (by omega) (by omega)) (subS_c (fun _ _ _ _ _ _ => inS_s (inS_0 (by omega) (by omega) (by omega) (by omega))) subS_n))
        obtain ⟨rfl, hE75⟩ := hE75
        have hpb := hE75.2.2
        exact r_rz rfl (by omega) (po_I hs76 ⟨by omega, by omega⟩ ⟨rfl, by omega, by omega, (by first | (intro h; exfalso; omega) | (intro h; exact ⟨by have q := (hgo.g0 _).mpr ((hpb (by omega)).2.1 rfl); rw [hm, hT] at q; exact q, (hpb (by omega)).2.2⟩))⟩)
      · skip
        refine r_ld (pc' := 74) rfl rfl rfl rfl ?_
        refine r_ld (pc' := 75) rfl rfl rfl rfl ?_
        refine r_ld (pc' := 77) rfl rfl rfl rfl ?_
        refine r_ld (pc' := 79) rfl rfl rfl rfl ?_
        have hb77 := rd_R_2 (k := a2.toNat) (by omega) hz
        refine r_gi (pc' := 82) rfl rfl (sh_R (k := a2.toNat) (by omega)) rfl (hst.2.2.1 _ _ (notS_c (by omega) (notS_c (by omega) notS_n))) ?_
        refine r_ld (pc' := 84) rfl rfl rfl rfl ?_
        have hb78 := rd_R_3 (k := a2.toNat) (by omega) hz
        refine r_gi (pc' := 87) rfl rfl (sh_R (k := a2.toNat) (by omega)) rfl (hst.2.2.1 _ _ (notS_c (by omega) (notS_c (by omega) notS_n))) ?_
        refine r_ld (pc' := 89) rfl rfl rfl rfl ?_
        refine r_ld (pc' := 91) rfl rfl rfl rfl ?_
        refine r_ld (pc' := 93) rfl rfl rfl rfl ?_
        refine r_cVI (pc' := 96) rfl rfl rfl rfl rfl sh_10 (m_29t (d := d + 1) n x7 (z0 (17 + 2 * a2.toNat) 2) (z0 (17 + 2 * a2.toNat) 3) x6 x6 hst.1 hst.2.1 ⟨by omega, by omega⟩ ⟨by omega, by omega⟩ ⟨by omega, by omega⟩ ⟨by omega, by omega⟩ ⟨by omega, by omega⟩ (by exact as2) hn (by first | omega | assumption) wn (by first | omega | assumption)) (fun v79 z80 w81 p82 h83 hs84 hE85 => ?_)
        have hs86 := st_tr hst hs84 (subS_c (fun _ _ _ _ _ _ => inS_0 (by omega) (by omega) (by omega) (by omega)) (subS_c (fun _ _ _ _ _ _ => inS_s (inS_0 (by omega) (by omega) (by omega) (by omega))) subS_n))
        obtain ⟨rfl, hE85⟩ := hE85
        have hch := hE85.2.2
        refine r_zne (pc' := 99) rfl rfl ⟨by omega, by omega⟩ (fun hc87 => ?_) (fun hc87 => ?_)
        · skip
          refine r_ld (pc' := 102) rfl rfl rfl rfl ?_
          refine r_ld (pc' := 103) rfl rfl rfl rfl ?_
          refine r_ld (pc' := 105) rfl rfl rfl rfl ?_
          refine r_ld (pc' := 107) rfl rfl rfl rfl ?_
          refine r_ld (pc' := 109) rfl rfl rfl rfl ?_
          refine r_cVV (pc' := 112) rfl rfl rfl rfl rfl sh_10 (m_30t (d := d + 1) n x6 x7 hs86.1 hs86.2.1 ⟨by omega, by omega⟩ ⟨by omega, by omega⟩ hn (by first | omega | assumption) wn (by first | omega | assumption)) (fun z89 w90 p91 hs93 hE94 => ?_)
          have hs95 := st_tr hs86 hs93 (subS_c (fun _ _ _ _ _ _ => inS_0 (by omega) (by omega) (by omega) (by omega)) (subS_c (fun _ _ _ _ _ _ => inS_s (inS_0 (by omega) (by omega) (by omega) (by omega))) subS_n))
          obtain ⟨rfl, hE94⟩ := hE94
          have hex := hE94
          have htw := tw_of (n := w n) (by omega) hch.1 hex
          have hgt : G (z0 (17 + 2 * a2.toNat) 1).toNat (w90 n) := by rw [htw]; (rcases (show 0 < a3 ∨ a3 ≤ 0 by omega) with q | q; (rw [(as3.1 q).1, (as3.1 q).2]; exact htw1 _ as1); (rw [(as3.2 q).1, (as3.2 q).2]; exact htw2 _ as1))
          refine r_inc (pc' := 115) (lv' := [(0, _), (1, _), (3, _), (4, _), (5, _), (6, _), (7, _)]) rfl rfl rfl rfl rfl ?_
          refine r_go rfl ?_
          exact w_lv (sub_c rfl (sub_c rfl (sub_c rfl (sub_c rfl (sub_c rfl (sub_c rfl (sub_c rfl (sub_c rfl sub_n)))))))) rfl (ih0 x6 x7 (x8 + 1) z89 w90 ⟨by omega, by omega⟩ ⟨by omega, by omega⟩ ⟨by omega, by omega⟩ hs95 (by first | exact (hpf (by omega)).1 rfl | exact hgt) (by first | exact (hpf (by omega)).2.2 | exact nb_ex (by omega) (by omega) (fun j hj => by by_cases c : j = x7.toNat; (subst c; exact hch.2 (by omega)); (rw [hch.1, fl_ne c]; exact (as2 j hj).2)) hex (hgo.nn _ _ (by omega) hgt)) (by first | omega | assumption) (by omega))
        · skip
          refine r_c0 (pc' := 100) rfl rfl ?_
          exact r_rz rfl (by omega) (po_I hs86 ⟨by decide, by decide⟩ ⟨rfl, by omega, by omega, (by first | (intro h; exfalso; omega) | (intro h; exact ⟨by have q := (hgo.g0 _).mpr ((hpb (by omega)).2.1 rfl); rw [hm, hT] at q; exact q, (hpb (by omega)).2.2⟩))⟩)
  refine w_m rfl rfl ?_
  refine r_ld (pc' := 1) rfl rfl rfl rfl ?_
  refine r_gr (b := 16) (pc' := 4) rfl rfl sh_10 rfl pp_10_1 ?_
  refine r_ld (pc' := 5) rfl rfl rfl rfl ?_
  refine r_aa (b := 17 + 2 * a2.toNat) (pc' := 6) rfl rfl sh_16 (Or.inr (Or.inr rfl)) rfl (by omega) (by omega) (pa_16 (by omega)) ?_
  refine r_st (pc' := 8) (lv' := [(5, _), (0, _), (1, _), (2, _), (3, _), (4, _)]) rfl rfl rfl rfl ?_
  refine r_ld (pc' := 9) rfl rfl rfl rfl ?_
  refine r_ld (pc' := 10) rfl rfl rfl rfl ?_
  refine r_ld (pc' := 12) rfl rfl rfl rfl ?_
  refine r_c0 (pc' := 13) rfl rfl ?_
  refine r_ld (pc' := 15) rfl rfl rfl rfl ?_
  have hb96 := rd_R_1 (k := a2.toNat) (by omega) hz
  refine r_cVI (pc' := 18) rfl rfl rfl rfl rfl sh_10 (m_28t (d := d) m T G n a2.toNat 0 hst.1 hst.2.1 ⟨by omega, by omega⟩ (by first | omega | assumption) (by exact hnb) (by exact hgo) (by exact ⟨fun _ => (hgo.g0 _).mp (by rw [hm, hT]; exact hft), fun h => absurd h (by omega)⟩) hn (by first | omega | assumption) wn (by first | omega | assumption)) (fun v97 z98 w99 p100 h101 hs102 hE103 => ?_)
  have hs104 := st_tr hst hs102 (subS_c (fun _ _ _ _ _ _ => inS_0 (by omega) (by omega) (by omega) (by omega)) (subS_c (fun _ _ _ _ _ _ => inS_s (inS_0 (by omega) (by omega) (by omega) (by omega))) subS_n))
  obtain ⟨rfl, hE103⟩ := hE103
  have hpf := hE103.2.2
  refine r_zne (pc' := 21) rfl rfl ⟨by omega, by omega⟩ (fun hc105 => ?_) (fun hc105 => ?_)
  · skip
    refine r_ld (pc' := 24) rfl rfl rfl rfl ?_
    refine r_zle (pc' := 27) rfl rfl ⟨by omega, by omega⟩ (fun hc106 => ?_) (fun hc106 => ?_)
    · skip
      refine r_ld (pc' := 37) rfl rfl rfl rfl ?_
      have hb107 := rd_R_4 (k := a2.toNat) (by omega) hz
      refine r_gi (pc' := 40) rfl rfl (sh_R (k := a2.toNat) (by omega)) rfl (hs102.2.2.1 _ _ (notS_c (by omega) (notS_c (by omega) notS_n))) ?_
      refine r_st (pc' := 42) (lv' := [(6, _), (5, _), (0, _), (1, _), (2, _), (3, _), (4, _)]) rfl rfl rfl rfl ?_
      refine r_ld (pc' := 43) rfl rfl rfl rfl ?_
      refine r_zle (pc' := 46) rfl rfl ⟨by omega, by omega⟩ (fun hc108 => ?_) (fun hc108 => ?_)
      · skip
        refine r_ld (pc' := 56) rfl rfl rfl rfl ?_
        have hb109 := rd_R_5 (k := a2.toNat) (by omega) hz
        refine r_gi (pc' := 59) rfl rfl (sh_R (k := a2.toNat) (by omega)) rfl (hs102.2.2.1 _ _ (notS_c (by omega) (notS_c (by omega) notS_n))) ?_
        refine r_st (pc' := 61) (lv' := [(7, _), (6, _), (5, _), (0, _), (1, _), (2, _), (3, _), (4, _)]) rfl rfl rfl rfl ?_
        refine r_c0 (pc' := 62) rfl rfl ?_
        refine r_st (pc' := 64) (lv' := [(8, _), (7, _), (6, _), (5, _), (0, _), (1, _), (2, _), (3, _), (4, _)]) rfl rfl rfl rfl ?_
        exact w_lv (sub_c rfl (sub_c rfl (sub_c rfl (sub_c rfl (sub_c rfl (sub_c rfl (sub_c rfl (sub_c rfl sub_n)))))))) rfl ((key ((65 * (99 - 0) + 32 : Int).toNat + 1)) (z0 (17 + 2 * a2.toNat) 4) (z0 (17 + 2 * a2.toNat) 5) 0 z98 w99 ⟨by omega, by omega⟩ ⟨by omega, by omega⟩ ⟨by omega, by omega⟩ hs104 (by first | exact (hpf (by omega)).1 rfl | exact hgt) (by first | exact (hpf (by omega)).2.2 | exact nb_ex (by omega) (by omega) (fun j hj => by by_cases c : j = x7.toNat; (subst c; exact hch.2 (by omega)); (rw [hch.1, fl_ne c]; exact (as2 j hj).2)) hex (hgo.nn _ _ (by omega) hgt)) (by first | omega | assumption) (by omega))
      · exfalso; omega
    · skip
      refine r_ld (pc' := 29) rfl rfl rfl rfl ?_
      have hb110 := rd_R_5 (k := a2.toNat) (by omega) hz
      refine r_gi (pc' := 32) rfl rfl (sh_R (k := a2.toNat) (by omega)) rfl (hs102.2.2.1 _ _ (notS_c (by omega) (notS_c (by omega) notS_n))) ?_
      refine r_go rfl ?_
      refine r_st (pc' := 42) (lv' := [(6, _), (5, _), (0, _), (1, _), (2, _), (3, _), (4, _)]) rfl rfl rfl rfl ?_
      refine r_ld (pc' := 43) rfl rfl rfl rfl ?_
      refine r_zle (pc' := 46) rfl rfl ⟨by omega, by omega⟩ (fun hc111 => ?_) (fun hc111 => ?_)
      · exfalso; omega
      · skip
        refine r_ld (pc' := 48) rfl rfl rfl rfl ?_
        have hb112 := rd_R_4 (k := a2.toNat) (by omega) hz
        refine r_gi (pc' := 51) rfl rfl (sh_R (k := a2.toNat) (by omega)) rfl (hs102.2.2.1 _ _ (notS_c (by omega) (notS_c (by omega) notS_n))) ?_
        refine r_go rfl ?_
        refine r_st (pc' := 61) (lv' := [(7, _), (6, _), (5, _), (0, _), (1, _), (2, _), (3, _), (4, _)]) rfl rfl rfl rfl ?_
        refine r_c0 (pc' := 62) rfl rfl ?_
        refine r_st (pc' := 64) (lv' := [(8, _), (7, _), (6, _), (5, _), (0, _), (1, _), (2, _), (3, _), (4, _)]) rfl rfl rfl rfl ?_
        exact w_lv (sub_c rfl (sub_c rfl (sub_c rfl (sub_c rfl (sub_c rfl (sub_c rfl (sub_c rfl (sub_c rfl sub_n)))))))) rfl ((key ((65 * (99 - 0) + 32 : Int).toNat + 1)) (z0 (17 + 2 * a2.toNat) 5) (z0 (17 + 2 * a2.toNat) 4) 0 z98 w99 ⟨by omega, by omega⟩ ⟨by omega, by omega⟩ ⟨by omega, by omega⟩ hs104 (by first | exact (hpf (by omega)).1 rfl | exact hgt) (by first | exact (hpf (by omega)).2.2 | exact nb_ex (by omega) (by omega) (fun j hj => by by_cases c : j = x7.toNat; (subst c; exact hch.2 (by omega)); (rw [hch.1, fl_ne c]; exact (as2 j hj).2)) hex (hgo.nn _ _ (by omega) hgt)) (by first | omega | assumption) (by omega))
  · skip
    refine r_c0 (pc' := 22) rfl rfl ?_
    exact r_rz rfl (by omega) (po_I hs104 ⟨by decide, by decide⟩ ⟨rfl, by omega, by omega, (by first | (intro h; exfalso; omega) | (intro h; exact ⟨by have q := (hgo.g0 _).mpr ((hpb (by omega)).2.1 rfl); rw [hm, hT] at q; exact q, (hpb (by omega)).2.2⟩))⟩)
end
section
/-! what holds of the class's object between calls -/
abbrev aR (z : mZ) (j : Int) : Nat := 41 + ((z 39 2 + j) % 61).toNat
def AK (z w : mZ) (t : Nat) : Prop := z 39 0 + z 39 1 ≤ 60 ∧ ∀ j : Nat, (j : Int) ≤ z 39 0 + z 39 1 → FTt z t (w (aR z j))
def BX (z w : mZ) (t : Nat) : Prop := ∀ b : Nat, b < 3 → z 147 b = 1 → FTt z t (w (144 + b))
abbrev KNz (z : mZ) : Prop := z 3 7 = 2 → 0 ≤ z 3 9 ∧ z 3 9 ≤ 9999
def CV (z w : mZ) (t : Nat) : Prop := WTt z t ∧ LF z w t ∧ AK z w t ∧ BX z w t ∧ KNz z
/-- places on which it rests -/
theorem CV_f {S : mS} {z w z' w' : mZ} {t : Nat} (ht : isT t) (hz : rz z) (h : st_ S z w z' w') (s7 : ¬ inS S 3 7) (s9 : ¬ inS S 3 9) (h0 : ¬ inS S t 0) (h1 : ¬ inS S t 1) (h3 : ¬ inS S t 3) (f1 : ∀ i, ¬ inS S (t + 1) i) (f2 : ∀ i, ¬ inS S (t + 2) i) (f5 : ∀ i, ¬ inS S (t + 5) i) (f8 : ∀ a, t + 8 ≤ a → a ≤ t + 15 → ∀ i, ¬ inS S a i)
    (a0 : ¬ inS S 39 0) (a1 : ¬ inS S 39 1) (a2 : ¬ inS S 39 2) (a4 : ∀ a, 41 ≤ a → a ≤ 101 → ∀ i, ¬ inS S a i) (b1 : ∀ a, 144 ≤ a → a ≤ 147 → ∀ i, ¬ inS S a i) (k : CV z w t) : CV z' w' t := by
  obtain ⟨k1, k2, k3, k4, k5⟩ := k
  have e0 := h.2.2.1 _ _ h0; have e3 := h.2.2.1 _ _ h3
  have g1 : z' (t + 1) = z (t + 1) := funext fun i => h.2.2.1 _ _ (f1 i)
  have ft : ∀ n, FTt z t n → FTt z' t n := fun n q => FTt_fr e0 g1 q
  have t3 := rd_T_3 ht hz
  refine ⟨WTt_f h h0 h1 f1 f2 f5 k1, fun l hl => ?_, ⟨?_, fun j hj => ?_⟩, fun b hb q => ?_, ?_⟩
  · rw [show w' (t + 8 + l) = w (t + 8 + l) from funext fun i => h.2.2.2 _ _ (f8 _ (by omega) (by omega) i)]
    exact ft _ (k2 l (by omega))
  · rw [h.2.2.1 _ _ a0, h.2.2.1 _ _ a1]; exact k3.1
  · rw [h.2.2.1 _ _ a0, h.2.2.1 _ _ a1] at hj
    unfold aR
    rw [h.2.2.1 _ _ a2, show w' (41 + ((z 39 2 + j) % 61).toNat) = w (41 + ((z 39 2 + j) % 61).toNat) from funext fun i => h.2.2.2 _ _ (a4 _ (by omega) (by omega) i)]
    exact ft _ (k3.2 j hj)
  · rw [h.2.2.1 _ _ (b1 147 (by omega) (by omega) b)] at q
    rw [show w' (144 + b) = w (144 + b) from funext fun i => h.2.2.2 _ _ (b1 _ (by omega) (by omega) i)]
    exact ft _ (k4 b hb q)
  · unfold KNz
    rw [h.2.2.1 _ _ s7, h.2.2.1 _ _ s9]; exact k5
theorem GA_f {S : mS} {z w z' w' : mZ} {t : Nat} (ht : isT t) (hz : rz z) (h : st_ S z w z' w') (h0 : ¬ inS S t 0) (h3 : ¬ inS S t 3) (f1 : ∀ i, ¬ inS S (t + 1) i) (r : ∀ a, 17 ≤ a → a ≤ 32 → ∀ i, ¬ inS S a i) (k : GA z z t) : GA z' z' t := by
  intro l hl
  have t3 := rd_T_3 ht hz
  rw [h.2.2.1 _ _ h3] at hl
  exact GRt_cg (k l hl) (h.2.2.1 _ _ h0).symm (funext fun i => (h.2.2.1 _ _ (f1 i)).symm) (fun i _ => h.2.2.1 _ _ (r _ (by omega) (by omega) i)) (funext fun i => h.2.2.1 _ _ (r _ (by omega) (by omega) i))
theorem FT_0 {m : Nat} {T : Nat → Nat} {n : Nat → Int} (hT : ∀ s, s < 3 * m → T s < 18) (h : ∀ j, j < 18 → n j = 0) : FT m T n := by
  refine ⟨fun e he => by rw [h e he]; omega, fun s hs => ?_⟩
  rw [h _ (hT s hs), h _ (hT _ (bh_lt hs)), h _ (hT _ (ah_lt hs))]
  exact ⟨by omega, by omega, by omega, by omega⟩
theorem FTt_cg {z w w' : mZ} {t a b : Nat} (hw : WTt z t) (h : ∀ j : Nat, j < 18 → w' b j = w a j) (f : FTt z t (w a)) : FTt z t (w' b) := FT_cg (WT.lt hw) (fun j hj => (h j hj).symm) f
/-- rows of numbers 0 .. 10^14 take such numbers -/
def wrb (a : Nat) : Prop := ∀ (i : Nat) (v : Int), (0 ≤ v ∧ v ≤ 100000000000000) → ok_t ((wkl[a]?).getD (.inr [])) i v
theorem wrb_w {a : Nat} (h : wrb a) {i : Nat} {v : Int} (hv : 0 ≤ v ∧ v ≤ 100000000000000) : ok_t ((wkl[a]?).getD (.inr [])) i v := h i v hv
theorem wrb_41 {k : Nat} (hk : k < 61) : wrb (41 + k) := fun i v h => wr_41 hk h
theorem wrb_144 {k : Nat} (hk : k < 3) : wrb (144 + k) := fun i v h => wr_144 hk h
/-- an act is kept: the row behind the last is new, the others stay -/
theorem AK_k {z z' w w' : mZ} {t n : Nat} (hw : WTt z t) (k : AK z w t) (e0 : z' t 0 = z t 0) (e1 : z' (t + 1) = z (t + 1)) (hf : FTt z t (w n)) (d0 : 0 ≤ z 39 0) (d1 : z 39 0 ≤ 60) (a0 : 0 ≤ z 39 1) (o0 : 0 ≤ z 39 2) (o1 : z 39 2 ≤ 60)
    (ha : z' 39 1 = 0) (hc : (z 39 0 ≤ 59 ∧ z' 39 0 = z 39 0 + 1 ∧ z' 39 2 = z 39 2) ∨ (z 39 0 = 60 ∧ z' 39 0 = 60 ∧ z' 39 2 = (z 39 2 + 1) % 61))
    (hn : ∀ j : Nat, j < 18 → w' (aR z' (z' 39 0)) j = w n j) (ho : ∀ a, 41 ≤ a → a ≤ 101 → a ≠ aR z' (z' 39 0) → w' a = w a) : AK z' w' t := by
  refine ⟨by omega, fun j hj => ?_⟩
  apply FTt_fr e0 e1
  by_cases c : aR z' j = aR z' (z' 39 0)
  · rw [c]; exact FTt_cg hw hn hf
  · rw [ho _ (by unfold aR; omega) (by unfold aR; omega) c]
    rcases hc with ⟨c1, c2, c3⟩ | ⟨c1, c2, c3⟩
    · have : aR z' j = aR z j := by unfold aR; rw [c3]
      rw [this]
      apply k.2 j
      apply Classical.byContradiction
      intro q
      apply c
      unfold aR
      omega
    · have e : aR z' j = aR z ((j + 1 : Nat) : Int) := by unfold aR; rw [c3]; omega
      rw [e]
      apply k.2 (j + 1)
      apply Classical.byContradiction
      intro q
      apply c
      unfold aR
      omega
theorem AK_c {z w : mZ} {t : Nat} (h0 : z 39 0 = 0) (h1 : z 39 1 = 0) (h : FTt z t (w (aR z 0))) : AK z w t := by
  refine ⟨by omega, fun j hj => ?_⟩
  have : j = 0 := by omega
  subst this; exact h
theorem AK_s {z w z' w' : mZ} {t : Nat} (k : AK z w t) (e0 : z' t 0 = z t 0) (e1 : z' (t + 1) = z (t + 1)) (h : z' 39 0 + z' 39 1 = z 39 0 + z 39 1) (h2 : z' 39 2 = z 39 2) (hw : ∀ a, 41 ≤ a → a ≤ 101 → w' a = w a) : AK z' w' t := by
  refine ⟨by rw [h]; exact k.1, fun j hj => ?_⟩
  apply FTt_fr e0 e1
  have : aR z' j = aR z j := by unfold aR; rw [h2]
  rw [this, hw _ (by unfold aR; omega) (by unfold aR; omega)]
  exact k.2 j (by omega)
theorem AK_now {z w : mZ} {t : Nat} (k : AK z w t) (h0 : 0 ≤ z 39 0) (h1 : 0 ≤ z 39 1) : FTt z t (w (41 + ((z 39 2 + z 39 0) % 61).toNat)) := by
  have q := k.2 (z 39 0).toNat (by omega)
  unfold aR at q
  rw [show ((z 39 0).toNat : Int) = z 39 0 by omega] at q
  exact q
end

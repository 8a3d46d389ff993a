section
/-! the reference reads a ground -/
def PIR (z : mZ) (c : Nat) : Prop := ∀ e : Nat, e < 18 → z 230 e = ct (z 229) e c
theorem PIR_c {z z' : mZ} {c c' : Nat} (h1 : z' 229 = z 229) (h2 : z' 230 = z 230) (hc : c' = c) (h : PIR z c) : PIR z' c' := by
  unfold PIR at *; rw [h1, h2, hc]; exact h
theorem PIR_s {z z' : mZ} {c c' : Nat} {e : Int} (h : PIR z c) (e0 : 0 ≤ e) (h230 : ∀ j : Nat, z' 230 j = if j = e.toNat then z 230 e.toNat + 1 else z 230 j) (h229 : ∀ s : Nat, z' 229 s = if s = c then e else z 229 s) (hc : c' = c + 1) : PIR z' c' := by
  intro j hj
  rw [hc, ct_s, ct_c (T := z 229) c (fun s hs => by rw [h229 s, if_neg (by omega)]), h230 j, h229 c, if_pos rfl]
  have k := h j hj
  by_cases q : j = e.toNat
  · rw [if_pos q, if_pos (by omega), ← q, k]
  · rw [if_neg q, if_neg (by omega), k]; omega
theorem PIR_0 {z : mZ} (h : ∀ e : Nat, e < 18 → z 230 e = 0) : PIR z 0 := h
abbrev nE (z : mZ) : Int := 3 * z 225 23 / 2
def WHn (z : mZ) : Prop := z 225 23 % 2 = 0 ∧ ∀ e : Nat, e < 18 → ct (z 229) e (3 * z 225 23).toNat = if (e : Int) < nE z then 2 else 0
def LFn (z : mZ) : Prop := ∀ l : Nat, (l : Int) < z 225 24 → FT (z 225 23).toNat (vT (z 229)) (tr (nE z) (fun e => z 231 (18 * l + e))) ∧ ∀ e : Nat, (e : Int) < nE z → z 231 (18 * l + e) ≤ 99
def WDn (z : mZ) : Prop := ∀ a : Nat, (a : Int) < z 225 25 → ∀ i : Nat, (i : Int) < z 234 a → z 232 (8 * a + i) < z 225 24
def RDr (z : mZ) : Prop := (z 225 24 + z 225 25 = 0 → PIR z (3 * z 225 23).toNat) ∧ (0 < z 225 24 + z 225 25 → WHn z) ∧ LFn z ∧ WDn z
theorem LY_n {z : mZ} (hz : rz z) (w : WHn z) : LY (z 225 23) (nE z) (z 229) := by
  have h23 := rd_225_23 hz
  refine LY_ct (by omega) (by omega) w.1 (fun s hs => rd_229 hz (i := s) (by omega)) (fun e he => ?_)
  have := w.2 e he
  rw [show (3 * z 225 23).toNat = 3 * (z 225 23).toNat by omega] at this
  exact this
theorem LFn_s {z z' : mZ} {n0 : Nat} (h : LFn z) (e23 : z' 225 23 = z 225 23) (e229 : z' 229 = z 229) (e24 : z' 225 24 = z 225 24 + 1) (hn : (n0 : Int) = z 225 24) (o : ∀ i : Nat, i < 18 * n0 → z' 231 i = z 231 i) (h18 : nE z ≤ 18)
    (new : FT (z 225 23).toNat (vT (z 229)) (tr (nE z) (fun e => z' 231 (18 * n0 + e)))) (n99 : ∀ e : Nat, (e : Int) < nE z → z' 231 (18 * n0 + e) ≤ 99) : LFn z' := by
  intro l hl
  unfold nE at *
  rw [e23, e229]
  by_cases c : l = n0
  · subst c; exact ⟨new, n99⟩
  · obtain ⟨h1, h2⟩ := h l (by omega)
    have f : (tr (3 * z 225 23 / 2) fun e => z' 231 (18 * l + e)) = tr (3 * z 225 23 / 2) fun e => z 231 (18 * l + e) := by
      funext e
      by_cases d : (e : Int) < 3 * z 225 23 / 2
      · rw [tr_l d, tr_l d]; exact o _ (by omega)
      · rw [tr_g (by omega), tr_g (by omega)]
    rw [f]
    exact ⟨h1, fun e he => by rw [o _ (by omega)]; exact h2 e he⟩
theorem FT_n {m : Nat} {T : Nat → Nat} {n : Nat → Int} (h0 : ∀ e, e < 18 → 0 ≤ n e) (h : ∀ q, q < m → tri (n (T (3 * q))) (n (T (3 * q + 1))) (n (T (3 * q + 2)))) : FT m T n := FT_of h0 h
end
section
/-! methods, printed by wip/tools/vcg.py -/
/-- LoopGroundModel nFits -/
abbrev S_166v  : mS := []
abbrev E_166v (a1 : Int) (z0 w0 : mZ) (x y tx it mt tt ct : Option Nat) : Int → mZ → mZ → mP → Prop := fun v z w p => p = (pq x y tx it mt tt ct) ∧ z0 = z ∧ w0 = w ∧ 0 ≤ v ∧ v ≤ 1 ∧ ((v = 1 → ∀ q : Int, 0 ≤ q → q < z0 225 23 → tri (z0 231 (a1 + z0 229 (3 * q).toNat).toNat) (z0 231 (a1 + z0 229 (3 * q + 1).toNat).toNat) (z0 231 (a1 + z0 229 (3 * q + 2).toNat).toNat)))
theorem m_166v {d : Nat} {z0 w0 : mZ} {x y tx it mt tt ct : Option Nat} (a1 : Int) (hz : rz z0) (hw : rw_ w0) (ha1 : 0 ≤ a1 ∧ a1 ≤ 126) : wc (d + 1) 166 [.ref 225, .int (Int32.ofInt a1)] (mk z0 w0 (pq x y tx it mt tt ct)) (poI S_166v z0 w0 (E_166v a1 z0 w0 x y tx it mt tt ct)) := by
  have hst : st_ S_166v z0 w0 z0 w0 := st_rf hz hw
  have hz14 := rd_225_23 hz
  have h23 := rd_225_23 hz
  have key : ∀ N : Nat, (∀ (x2 x3 : Int) , 0 ≤ x2 ∧ x2 ≤ 1 → 0 ≤ x3 ∧ x3 ≤ 12 → (x2 = 1 → ∀ q : Int, 0 ≤ q → q < x3 → tri (z0 231 (a1 + z0 229 (3 * q).toNat).toNat) (z0 231 (a1 + z0 229 (3 * q + 1).toNat).toNat) (z0 231 (a1 + z0 229 (3 * q + 2).toNat).toNat)) → (x3 ≤ z0 225 23) → 81 * (12 - x3) + 76 < (N : Int) → wp_ (d) 166 7 (some .boolean) (4, [(0, .ref 225), (1, .int (Int32.ofInt a1)), (2, .int (Int32.ofInt x2)), (3, .int (Int32.ofInt x3))], [], mk z0 w0 (pq x y tx it mt tt ct)) (poI S_166v z0 w0 (E_166v a1 z0 w0 x y tx it mt tt ct))) := by
    intro N
    induction N with
    | zero =>
      intro x2 x3 
      intros; exfalso; omega
    | succ N ih =>
      have ih0 := ih; clear ih
      intro x2 x3  hx2 hx3 as1 as2 hM
      refine r_ld (pc' := 5) rfl rfl rfl rfl ?_
      refine r_ld (pc' := 6) rfl rfl rfl rfl ?_
      have hb15 := rd_225_23 hz
      refine r_gi (pc' := 9) rfl rfl sh_225 rfl rfl ?_
      refine r_ige (pc' := 12) rfl rfl ⟨by omega, by omega⟩ ⟨by omega, by omega⟩ (fun hc16 => ?_) (fun hc16 => ?_)
      · skip
        refine r_ld (pc' := 127) rfl rfl rfl rfl ?_
        exact r_rz rfl (by omega) (po_I hst ⟨by omega, by omega⟩ ⟨rfl, rfl, rfl, by omega, by omega, (by first | (intro h; exfalso; omega) | exact fun _ q h0 h1 => as1 (by omega) q h0 (by omega))⟩)
      · skip
        refine r_ld (pc' := 13) rfl rfl rfl rfl ?_
        refine r_gr (b := 231) (pc' := 16) rfl rfl sh_225 rfl pp_225_14 ?_
        refine r_ld (pc' := 17) rfl rfl rfl rfl ?_
        refine r_ld (pc' := 18) rfl rfl rfl rfl ?_
        refine r_gr (b := 229) (pc' := 21) rfl rfl sh_225 rfl pp_225_12 ?_
        refine r_c0 (pc' := 22) rfl rfl ?_
        refine r_ld (pc' := 23) rfl rfl rfl rfl ?_
        refine r_mul (pc' := 24) rfl rfl ?_
        have hb17 := rd_229 hz (i := (3 * x3).toNat) (by omega)
        refine r_ia (pc' := 25) rfl rfl sh_229 rfl (by omega) (by omega) rfl ?_
        refine r_add (pc' := 26) rfl rfl ?_
        have hb18 := rd_231 hz (i := (a1 + (z0 229 (3 * x3).toNat)).toNat) (by omega)
        refine r_ia (pc' := 27) rfl rfl sh_231 rfl (by omega) (by omega) rfl ?_
        refine r_st (pc' := 29) (lv' := [(4, _), (0, _), (1, _), (2, _), (3, _)]) rfl rfl rfl rfl ?_
        refine r_ld (pc' := 30) rfl rfl rfl rfl ?_
        refine r_gr (b := 231) (pc' := 33) rfl rfl sh_225 rfl pp_225_14 ?_
        refine r_ld (pc' := 34) rfl rfl rfl rfl ?_
        refine r_ld (pc' := 35) rfl rfl rfl rfl ?_
        refine r_gr (b := 229) (pc' := 38) rfl rfl sh_225 rfl pp_225_12 ?_
        refine r_c0 (pc' := 39) rfl rfl ?_
        refine r_ld (pc' := 40) rfl rfl rfl rfl ?_
        refine r_mul (pc' := 41) rfl rfl ?_
        refine r_c0 (pc' := 42) rfl rfl ?_
        refine r_add (pc' := 43) rfl rfl ?_
        have hb19 := rd_229 hz (i := ((3 * x3) + 1).toNat) (by omega)
        refine r_ia (pc' := 44) rfl rfl sh_229 rfl (by omega) (by omega) rfl ?_
        refine r_add (pc' := 45) rfl rfl ?_
        have hb20 := rd_231 hz (i := (a1 + (z0 229 ((3 * x3) + 1).toNat)).toNat) (by omega)
        refine r_ia (pc' := 46) rfl rfl sh_231 rfl (by omega) (by omega) rfl ?_
        refine r_st (pc' := 48) (lv' := [(5, _), (4, _), (0, _), (1, _), (2, _), (3, _)]) rfl rfl rfl rfl ?_
        refine r_ld (pc' := 49) rfl rfl rfl rfl ?_
        refine r_gr (b := 231) (pc' := 52) rfl rfl sh_225 rfl pp_225_14 ?_
        refine r_ld (pc' := 53) rfl rfl rfl rfl ?_
        refine r_ld (pc' := 54) rfl rfl rfl rfl ?_
        refine r_gr (b := 229) (pc' := 57) rfl rfl sh_225 rfl pp_225_12 ?_
        refine r_c0 (pc' := 58) rfl rfl ?_
        refine r_ld (pc' := 59) rfl rfl rfl rfl ?_
        refine r_mul (pc' := 60) rfl rfl ?_
        refine r_c0 (pc' := 61) rfl rfl ?_
        refine r_add (pc' := 62) rfl rfl ?_
        have hb21 := rd_229 hz (i := ((3 * x3) + 2).toNat) (by omega)
        refine r_ia (pc' := 63) rfl rfl sh_229 rfl (by omega) (by omega) rfl ?_
        refine r_add (pc' := 64) rfl rfl ?_
        have hb22 := rd_231 hz (i := (a1 + (z0 229 ((3 * x3) + 2).toNat)).toNat) (by omega)
        refine r_ia (pc' := 65) rfl rfl sh_231 rfl (by omega) (by omega) rfl ?_
        refine r_st (pc' := 67) (lv' := [(6, _), (5, _), (4, _), (0, _), (1, _), (2, _), (3, _)]) rfl rfl rfl rfl ?_
        refine r_ld (pc' := 68) rfl rfl rfl rfl ?_
        refine r_zeq (pc' := 71) rfl rfl ⟨by omega, by omega⟩ (fun hc23 => ?_) (fun hc23 => ?_)
        · skip
          refine r_c0 (pc' := 119) rfl rfl ?_
          refine r_st (pc' := 120) (lv' := [(2, _), (6, _), (5, _), (4, _), (0, _), (1, _), (3, _)]) rfl rfl rfl rfl ?_
          refine r_inc (pc' := 123) (lv' := [(2, _), (6, _), (5, _), (4, _), (0, _), (1, _)]) rfl rfl rfl rfl rfl ?_
          refine r_go rfl ?_
          exact w_lv (sub_c rfl (sub_c rfl (sub_c rfl (sub_c rfl sub_n)))) rfl (ih0 0 (x3 + 1) ⟨by omega, by omega⟩ ⟨by omega, by omega⟩ (by first | (intro h; exfalso; omega) | (intro _ q h0 h1; exfalso; omega) | (intro _ q h0 h1; by_cases c : q = x3; (subst c; exact ⟨by omega, by omega, by omega, by omega⟩); exact as1 (by omega) q h0 (by omega))) (by first | omega | assumption) (by omega))
        · skip
          refine r_ld (pc' := 73) rfl rfl rfl rfl ?_
          refine r_ld (pc' := 75) rfl rfl rfl rfl ?_
          refine r_add (pc' := 76) rfl rfl ?_
          refine r_ld (pc' := 78) rfl rfl rfl rfl ?_
          refine r_add (pc' := 79) rfl rfl ?_
          refine r_c0 (pc' := 80) rfl rfl ?_
          refine r_rm (pc' := 81) (v := (((z0 231 (a1 + (z0 229 (3 * x3).toNat)).toNat) + (z0 231 (a1 + (z0 229 ((3 * x3) + 1).toNat)).toNat)) + (z0 231 (a1 + (z0 229 ((3 * x3) + 2).toNat)).toNat)) % 2) rfl rfl ⟨by omega, by omega⟩ ⟨by decide, by decide⟩ (by decide) (tmod_n (by omega)) ?_
          refine r_zne (pc' := 84) rfl rfl ⟨by omega, by omega⟩ (fun hc24 => ?_) (fun hc24 => ?_)
          · skip
            refine r_c0 (pc' := 119) rfl rfl ?_
            refine r_st (pc' := 120) (lv' := [(2, _), (6, _), (5, _), (4, _), (0, _), (1, _), (3, _)]) rfl rfl rfl rfl ?_
            refine r_inc (pc' := 123) (lv' := [(2, _), (6, _), (5, _), (4, _), (0, _), (1, _)]) rfl rfl rfl rfl rfl ?_
            refine r_go rfl ?_
            exact w_lv (sub_c rfl (sub_c rfl (sub_c rfl (sub_c rfl sub_n)))) rfl (ih0 0 (x3 + 1) ⟨by omega, by omega⟩ ⟨by omega, by omega⟩ (by first | (intro h; exfalso; omega) | (intro _ q h0 h1; exfalso; omega) | (intro _ q h0 h1; by_cases c : q = x3; (subst c; exact ⟨by omega, by omega, by omega, by omega⟩); exact as1 (by omega) q h0 (by omega))) (by first | omega | assumption) (by omega))
          · skip
            refine r_ld (pc' := 86) rfl rfl rfl rfl ?_
            refine r_ld (pc' := 88) rfl rfl rfl rfl ?_
            refine r_ld (pc' := 90) rfl rfl rfl rfl ?_
            refine r_add (pc' := 91) rfl rfl ?_
            refine r_igt (pc' := 94) rfl rfl ⟨by omega, by omega⟩ ⟨by omega, by omega⟩ (fun hc25 => ?_) (fun hc25 => ?_)
            · skip
              refine r_c0 (pc' := 119) rfl rfl ?_
              refine r_st (pc' := 120) (lv' := [(2, _), (6, _), (5, _), (4, _), (0, _), (1, _), (3, _)]) rfl rfl rfl rfl ?_
              refine r_inc (pc' := 123) (lv' := [(2, _), (6, _), (5, _), (4, _), (0, _), (1, _)]) rfl rfl rfl rfl rfl ?_
              refine r_go rfl ?_
              exact w_lv (sub_c rfl (sub_c rfl (sub_c rfl (sub_c rfl sub_n)))) rfl (ih0 0 (x3 + 1) ⟨by omega, by omega⟩ ⟨by omega, by omega⟩ (by first | (intro h; exfalso; omega) | (intro _ q h0 h1; exfalso; omega) | (intro _ q h0 h1; by_cases c : q = x3; (subst c; exact ⟨by omega, by omega, by omega, by omega⟩); exact as1 (by omega) q h0 (by omega))) (by first | omega | assumption) (by omega))
            · skip
              refine r_ld (pc' := 96) rfl rfl rfl rfl ?_
              refine r_ld (pc' := 98) rfl rfl rfl rfl ?_
              refine r_ld (pc' := 100) rfl rfl rfl rfl ?_
              refine r_add (pc' := 101) rfl rfl ?_
              refine r_igt (pc' := 104) rfl rfl ⟨by omega, by omega⟩ ⟨by omega, by omega⟩ (fun hc26 => ?_) (fun hc26 => ?_)
              · skip
                refine r_c0 (pc' := 119) rfl rfl ?_
                refine r_st (pc' := 120) (lv' := [(2, _), (6, _), (5, _), (4, _), (0, _), (1, _), (3, _)]) rfl rfl rfl rfl ?_
                refine r_inc (pc' := 123) (lv' := [(2, _), (6, _), (5, _), (4, _), (0, _), (1, _)]) rfl rfl rfl rfl rfl ?_
                refine r_go rfl ?_
                exact w_lv (sub_c rfl (sub_c rfl (sub_c rfl (sub_c rfl sub_n)))) rfl (ih0 0 (x3 + 1) ⟨by omega, by omega⟩ ⟨by omega, by omega⟩ (by first | (intro h; exfalso; omega) | (intro _ q h0 h1; exfalso; omega) | (intro _ q h0 h1; by_cases c : q = x3; (subst c; exact ⟨by omega, by omega, by omega, by omega⟩); exact as1 (by omega) q h0 (by omega))) (by first | omega | assumption) (by omega))
              · skip
                refine r_ld (pc' := 106) rfl rfl rfl rfl ?_
                refine r_ld (pc' := 108) rfl rfl rfl rfl ?_
                refine r_ld (pc' := 110) rfl rfl rfl rfl ?_
                refine r_add (pc' := 111) rfl rfl ?_
                refine r_igt (pc' := 114) rfl rfl ⟨by omega, by omega⟩ ⟨by omega, by omega⟩ (fun hc27 => ?_) (fun hc27 => ?_)
                · skip
                  refine r_c0 (pc' := 119) rfl rfl ?_
                  refine r_st (pc' := 120) (lv' := [(2, _), (6, _), (5, _), (4, _), (0, _), (1, _), (3, _)]) rfl rfl rfl rfl ?_
                  refine r_inc (pc' := 123) (lv' := [(2, _), (6, _), (5, _), (4, _), (0, _), (1, _)]) rfl rfl rfl rfl rfl ?_
                  refine r_go rfl ?_
                  exact w_lv (sub_c rfl (sub_c rfl (sub_c rfl (sub_c rfl sub_n)))) rfl (ih0 0 (x3 + 1) ⟨by omega, by omega⟩ ⟨by omega, by omega⟩ (by first | (intro h; exfalso; omega) | (intro _ q h0 h1; exfalso; omega) | (intro _ q h0 h1; by_cases c : q = x3; (subst c; exact ⟨by omega, by omega, by omega, by omega⟩); exact as1 (by omega) q h0 (by omega))) (by first | omega | assumption) (by omega))
                · skip
                  refine r_c0 (pc' := 115) rfl rfl ?_
                  refine r_go rfl ?_
                  refine r_st (pc' := 120) (lv' := [(2, _), (6, _), (5, _), (4, _), (0, _), (1, _), (3, _)]) rfl rfl rfl rfl ?_
                  refine r_inc (pc' := 123) (lv' := [(2, _), (6, _), (5, _), (4, _), (0, _), (1, _)]) rfl rfl rfl rfl rfl ?_
                  refine r_go rfl ?_
                  exact w_lv (sub_c rfl (sub_c rfl (sub_c rfl (sub_c rfl sub_n)))) rfl (ih0 1 (x3 + 1) ⟨by omega, by omega⟩ ⟨by omega, by omega⟩ (by first | (intro h; exfalso; omega) | (intro _ q h0 h1; exfalso; omega) | (intro _ q h0 h1; by_cases c : q = x3; (subst c; exact ⟨by omega, by omega, by omega, by omega⟩); exact as1 (by omega) q h0 (by omega))) (by first | omega | assumption) (by omega))
  refine w_m rfl rfl ?_
  refine r_c0 (pc' := 1) rfl rfl ?_
  refine r_st (pc' := 2) (lv' := [(2, _), (0, _), (1, _)]) rfl rfl rfl rfl ?_
  refine r_c0 (pc' := 3) rfl rfl ?_
  refine r_st (pc' := 4) (lv' := [(3, _), (2, _), (0, _), (1, _)]) rfl rfl rfl rfl ?_
  exact w_lv (sub_c rfl (sub_c rfl (sub_c rfl (sub_c rfl sub_n)))) rfl ((key ((81 * (12 - 0) + 76 : Int).toNat + 1)) 1 0 ⟨by omega, by omega⟩ ⟨by omega, by omega⟩ (by first | (intro h; exfalso; omega) | (intro _ q h0 h1; exfalso; omega) | (intro _ q h0 h1; by_cases c : q = x3; (subst c; exact ⟨by omega, by omega, by omega, by omega⟩); exact as1 (by omega) q h0 (by omega))) (by first | omega | assumption) (by omega))
/-- LoopGroundModel isWhole -/
abbrev S_163v  : mS := []
abbrev E_163v  (z0 w0 : mZ) (x y tx it mt tt ct : Option Nat) : Int → mZ → mZ → mP → Prop := fun v z w p => p = (pq x y tx it mt tt ct) ∧ z0 = z ∧ w0 = w ∧ 0 ≤ v ∧ v ≤ 1 ∧ ((v = 1 → z0 225 23 % 2 = 0 ∧ ∀ e : Nat, e < 18 → z0 230 e = if (e : Int) < nE z0 then 2 else 0))
theorem m_163v {d : Nat} {z0 w0 : mZ} {x y tx it mt tt ct : Option Nat}  (hz : rz z0) (hw : rw_ w0) : wc (d + 2) 163 [.ref 225] (mk z0 w0 (pq x y tx it mt tt ct)) (poI S_163v z0 w0 (E_163v  z0 w0 x y tx it mt tt ct)) := by
  have hst : st_ S_163v z0 w0 z0 w0 := st_rf hz hw
  have hz48 := rd_225_23 hz
  have h23 := rd_225_23 hz
  have hnE : nE z0 = 3 * z0 225 23 / 2 := rfl
  have key : ∀ N : Nat, (∀ (x1 x2 : Int) , 0 ≤ x1 ∧ x1 ≤ 1 → 0 ≤ x2 ∧ x2 ≤ 18 → (x1 = 1 → z0 225 23 % 2 = 0 ∧ ∀ e : Nat, (e : Int) < x2 → z0 230 e = if (e : Int) < nE z0 then 2 else 0) → 97 * (18 - x2) + 305635 < (N : Int) → wp_ (d + 1) 163 6 (some .boolean) (17, [(0, .ref 225), (1, .int (Int32.ofInt x1)), (2, .int (Int32.ofInt x2))], [], mk z0 w0 (pq x y tx it mt tt ct)) (poI S_163v z0 w0 (E_163v  z0 w0 x y tx it mt tt ct))) ∧ (∀ (x1 x2 x3 : Int) , 0 ≤ x1 ∧ x1 ≤ 1 → (-2147483648) ≤ x2 ∧ x2 ≤ 2147483647 → 0 ≤ x3 ∧ x3 ≤ 12 → (x1 = 1 → z0 225 23 % 2 = 0 ∧ ∀ e : Nat, e < 18 → z0 230 e = if (e : Int) < nE z0 then 2 else 0) → 21825 * (12 - x3) + 20428 < (N : Int) → wp_ (d + 1) 163 6 (some .boolean) (65, [(0, .ref 225), (1, .int (Int32.ofInt x1)), (2, .int (Int32.ofInt x2)), (3, .int (Int32.ofInt x3))], [], mk z0 w0 (pq x y tx it mt tt ct)) (poI S_163v z0 w0 (E_163v  z0 w0 x y tx it mt tt ct))) ∧ (∀ (x1 x2 x3 x4 : Int) , 0 ≤ x1 ∧ x1 ≤ 1 → (-2147483648) ≤ x2 ∧ x2 ≤ 2147483647 → 0 ≤ x3 ∧ x3 ≤ 11 → 0 ≤ x4 ∧ x4 ≤ 12 → 1 ≤ z0 225 23 ∧ z0 225 23 ≤ 12 → (x1 = 1 → z0 225 23 % 2 = 0 ∧ ∀ e : Nat, e < 18 → z0 230 e = if (e : Int) < nE z0 then 2 else 0) → 21825 * (12 - x3) + 1455 * (12 - x4) + 1410 < (N : Int) → wp_ (d + 1) 163 6 (some .boolean) (76, [(0, .ref 225), (1, .int (Int32.ofInt x1)), (2, .int (Int32.ofInt x2)), (3, .int (Int32.ofInt x3)), (4, .int (Int32.ofInt x4))], [], mk z0 w0 (pq x y tx it mt tt ct)) (poI S_163v z0 w0 (E_163v  z0 w0 x y tx it mt tt ct))) ∧ (∀ (x1 x2 x3 x4 x5 : Int) , 0 ≤ x1 ∧ x1 ≤ 1 → (-2147483648) ≤ x2 ∧ x2 ≤ 2147483647 → 0 ≤ x3 ∧ x3 ≤ 11 → 0 ≤ x4 ∧ x4 ≤ 11 → 0 ≤ x5 ∧ x5 ≤ 12 → 1 ≤ z0 225 23 ∧ z0 225 23 ≤ 12 → (x1 = 1 → z0 225 23 % 2 = 0 ∧ ∀ e : Nat, e < 18 → z0 230 e = if (e : Int) < nE z0 then 2 else 0) → 21825 * (12 - x3) + 1455 * (12 - x4) + 97 * (12 - x5) + 39 < (N : Int) → wp_ (d + 1) 163 6 (some .boolean) (98, [(0, .ref 225), (1, .int (Int32.ofInt x1)), (2, .int (Int32.ofInt x2)), (3, .int (Int32.ofInt x3)), (4, .int (Int32.ofInt x4)), (5, .int (Int32.ofInt x5))], [], mk z0 w0 (pq x y tx it mt tt ct)) (poI S_163v z0 w0 (E_163v  z0 w0 x y tx it mt tt ct))) := by
    intro N
    induction N with
    | zero =>
      refine ⟨?_, ?_, ?_, ?_⟩
      · intro x1 x2 
        intros; exfalso; omega
      · intro x1 x2 x3 
        intros; exfalso; omega
      · intro x1 x2 x3 x4 
        intros; exfalso; omega
      · intro x1 x2 x3 x4 x5 
        intros; exfalso; omega
    | succ N ih =>
      obtain ⟨ih0, ih1, ih2, ih3⟩ := ih
      refine ⟨?_, ?_, ?_, ?_⟩
      · intro x1 x2  hx1 hx2 as1 hM
        refine r_ld (pc' := 18) rfl rfl rfl rfl ?_
        refine r_cb (pc' := 20) rfl (by decide) rfl ?_
        refine r_ige (pc' := 23) rfl rfl ⟨by omega, by omega⟩ ⟨by decide, by decide⟩ (fun hc49 => ?_) (fun hc49 => ?_)
        · skip
          refine r_c0 (pc' := 62) rfl rfl ?_
          refine r_st (pc' := 63) (lv' := [(2, _), (0, _), (1, _)]) rfl rfl rfl rfl ?_
          refine r_c0 (pc' := 64) rfl rfl ?_
          refine r_st (pc' := 65) (lv' := [(3, _), (2, _), (0, _), (1, _)]) rfl rfl rfl rfl ?_
          exact w_lv (sub_c rfl (sub_c rfl (sub_c rfl (sub_c rfl sub_n)))) rfl (ih1 x1 1 0 ⟨by omega, by omega⟩ ⟨by omega, by omega⟩ ⟨by omega, by omega⟩ (by first | exact as1 | exact fun h => ⟨(as1 h).1, fun e he => (as1 h).2 e (by omega)⟩) (by omega))
        · skip
          refine r_ld (pc' := 24) rfl rfl rfl rfl ?_
          refine r_zeq (pc' := 27) rfl rfl ⟨by omega, by omega⟩ (fun hc50 => ?_) (fun hc50 => ?_)
          · skip
            refine r_c0 (pc' := 54) rfl rfl ?_
            refine r_st (pc' := 55) (lv' := [(1, _), (0, _), (2, _)]) rfl rfl rfl rfl ?_
            refine r_inc (pc' := 58) (lv' := [(1, _), (0, _)]) rfl rfl rfl rfl rfl ?_
            refine r_go rfl ?_
            exact w_lv (sub_c rfl (sub_c rfl (sub_c rfl sub_n))) rfl (ih0 0 (x2 + 1) ⟨by omega, by omega⟩ ⟨by omega, by omega⟩ (by first | (intro h; exfalso; omega) | (intro _; exact ⟨by omega, fun e he => absurd he (by omega)⟩) | (intro _; refine ⟨(as1 (by omega)).1, fun e he => ?_⟩; by_cases c : e = x2.toNat; (subst c; first | (rw [if_pos (by omega)]; omega) | (rw [if_neg (by omega)]; omega)); exact (as1 (by omega)).2 e (by omega))) (by omega))
          · skip
            refine r_ld (pc' := 28) rfl rfl rfl rfl ?_
            refine r_gr (b := 230) (pc' := 31) rfl rfl sh_225 rfl pp_225_13 ?_
            refine r_ld (pc' := 32) rfl rfl rfl rfl ?_
            have hb51 := rd_230 hz (i := x2.toNat) (by omega)
            refine r_ia (pc' := 33) rfl rfl sh_230 rfl (by omega) (by omega) rfl ?_
            refine r_ld (pc' := 34) rfl rfl rfl rfl ?_
            refine r_ld (pc' := 35) rfl rfl rfl rfl ?_
            have hb52 := rd_225_23 hz
            refine r_cVI (pc' := 38) rfl rfl rfl rfl rfl sh_225 (m_160 (d := d)  hst.1 hst.2.1 ) (fun v53 z54 w55 p56 h57 hs58 hE59 => ?_)
            obtain ⟨rfl, rfl, rfl, hE59⟩ := hE59
            refine r_ige (pc' := 41) rfl rfl ⟨by omega, by omega⟩ ⟨by omega, by omega⟩ (fun hc61 => ?_) (fun hc61 => ?_)
            · skip
              refine r_c0 (pc' := 46) rfl rfl ?_
              refine r_ine (pc' := 49) rfl rfl ⟨by omega, by omega⟩ ⟨by decide, by decide⟩ (fun hc62 => ?_) (fun hc62 => ?_)
              · skip
                refine r_c0 (pc' := 54) rfl rfl ?_
                refine r_st (pc' := 55) (lv' := [(1, _), (0, _), (2, _)]) rfl rfl rfl rfl ?_
                refine r_inc (pc' := 58) (lv' := [(1, _), (0, _)]) rfl rfl rfl rfl rfl ?_
                refine r_go rfl ?_
                exact w_lv (sub_c rfl (sub_c rfl (sub_c rfl sub_n))) rfl (ih0 0 (x2 + 1) ⟨by omega, by omega⟩ ⟨by omega, by omega⟩ (by first | (intro h; exfalso; omega) | (intro _; exact ⟨by omega, fun e he => absurd he (by omega)⟩) | (intro _; refine ⟨(as1 (by omega)).1, fun e he => ?_⟩; by_cases c : e = x2.toNat; (subst c; first | (rw [if_pos (by omega)]; omega) | (rw [if_neg (by omega)]; omega)); exact (as1 (by omega)).2 e (by omega))) (by omega))
              · skip
                refine r_c0 (pc' := 50) rfl rfl ?_
                refine r_go rfl ?_
                refine r_st (pc' := 55) (lv' := [(1, _), (0, _), (2, _)]) rfl rfl rfl rfl ?_
                refine r_inc (pc' := 58) (lv' := [(1, _), (0, _)]) rfl rfl rfl rfl rfl ?_
                refine r_go rfl ?_
                exact w_lv (sub_c rfl (sub_c rfl (sub_c rfl sub_n))) rfl (ih0 1 (x2 + 1) ⟨by omega, by omega⟩ ⟨by omega, by omega⟩ (by first | (intro h; exfalso; omega) | (intro _; exact ⟨by omega, fun e he => absurd he (by omega)⟩) | (intro _; refine ⟨(as1 (by omega)).1, fun e he => ?_⟩; by_cases c : e = x2.toNat; (subst c; first | (rw [if_pos (by omega)]; omega) | (rw [if_neg (by omega)]; omega)); exact (as1 (by omega)).2 e (by omega))) (by omega))
            · skip
              refine r_c0 (pc' := 42) rfl rfl ?_
              refine r_go rfl ?_
              refine r_ine (pc' := 49) rfl rfl ⟨by omega, by omega⟩ ⟨by decide, by decide⟩ (fun hc63 => ?_) (fun hc63 => ?_)
              · skip
                refine r_c0 (pc' := 54) rfl rfl ?_
                refine r_st (pc' := 55) (lv' := [(1, _), (0, _), (2, _)]) rfl rfl rfl rfl ?_
                refine r_inc (pc' := 58) (lv' := [(1, _), (0, _)]) rfl rfl rfl rfl rfl ?_
                refine r_go rfl ?_
                exact w_lv (sub_c rfl (sub_c rfl (sub_c rfl sub_n))) rfl (ih0 0 (x2 + 1) ⟨by omega, by omega⟩ ⟨by omega, by omega⟩ (by first | (intro h; exfalso; omega) | (intro _; exact ⟨by omega, fun e he => absurd he (by omega)⟩) | (intro _; refine ⟨(as1 (by omega)).1, fun e he => ?_⟩; by_cases c : e = x2.toNat; (subst c; first | (rw [if_pos (by omega)]; omega) | (rw [if_neg (by omega)]; omega)); exact (as1 (by omega)).2 e (by omega))) (by omega))
              · skip
                refine r_c0 (pc' := 50) rfl rfl ?_
                refine r_go rfl ?_
                refine r_st (pc' := 55) (lv' := [(1, _), (0, _), (2, _)]) rfl rfl rfl rfl ?_
                refine r_inc (pc' := 58) (lv' := [(1, _), (0, _)]) rfl rfl rfl rfl rfl ?_
                refine r_go rfl ?_
                exact w_lv (sub_c rfl (sub_c rfl (sub_c rfl sub_n))) rfl (ih0 1 (x2 + 1) ⟨by omega, by omega⟩ ⟨by omega, by omega⟩ (by first | (intro h; exfalso; omega) | (intro _; exact ⟨by omega, fun e he => absurd he (by omega)⟩) | (intro _; refine ⟨(as1 (by omega)).1, fun e he => ?_⟩; by_cases c : e = x2.toNat; (subst c; first | (rw [if_pos (by omega)]; omega) | (rw [if_neg (by omega)]; omega)); exact (as1 (by omega)).2 e (by omega))) (by omega))
      · intro x1 x2 x3  hx1 hx2 hx3 as1 hM
        refine r_ld (pc' := 66) rfl rfl rfl rfl ?_
        refine r_ld (pc' := 67) rfl rfl rfl rfl ?_
        have hb64 := rd_225_23 hz
        refine r_gi (pc' := 70) rfl rfl sh_225 rfl rfl ?_
        refine r_ige (pc' := 73) rfl rfl ⟨by omega, by omega⟩ ⟨by omega, by omega⟩ (fun hc65 => ?_) (fun hc65 => ?_)
        · skip
          refine r_ld (pc' := 148) rfl rfl rfl rfl ?_
          refine r_zeq (pc' := 151) rfl rfl ⟨by omega, by omega⟩ (fun hc66 => ?_) (fun hc66 => ?_)
          · skip
            refine r_c0 (pc' := 175) rfl rfl ?_
            exact r_rz rfl (by omega) (po_I hst ⟨by decide, by decide⟩ ⟨rfl, rfl, rfl, by omega, by omega, (by first | (intro h; exfalso; omega) | exact fun _ => as1 (by omega))⟩)
          · skip
            refine r_ld (pc' := 152) rfl rfl rfl rfl ?_
            refine r_gi (pc' := 155) rfl rfl sh_225 rfl rfl ?_
            refine r_zeq (pc' := 158) rfl rfl ⟨by omega, by omega⟩ (fun hc67 => ?_) (fun hc67 => ?_)
            · skip
              refine r_c0 (pc' := 171) rfl rfl ?_
              refine r_go rfl ?_
              exact r_rz rfl (by omega) (po_I hst ⟨by decide, by decide⟩ ⟨rfl, rfl, rfl, by omega, by omega, (by first | (intro h; exfalso; omega) | exact fun _ => as1 (by omega))⟩)
            · skip
              refine r_ld (pc' := 159) rfl rfl rfl rfl ?_
              refine r_c0 (pc' := 160) rfl rfl ?_
              refine r_ld (pc' := 161) rfl rfl rfl rfl ?_
              refine r_gi (pc' := 164) rfl rfl sh_225 rfl rfl ?_
              refine r_ai (pc' := 165) rfl rfl rfl rfl (fun v68 h69 => ?_)
              unfold inI at h69
              refine r_c0 (pc' := 166) rfl rfl ?_
              refine r_sub (pc' := 167) rfl rfl ?_
              refine w_hxi (fun v70 h71 h72 => ?_)
              refine r_ine (pc' := 170) rfl rfl ⟨by omega, by omega⟩ ⟨by omega, by omega⟩ (fun hc73 => ?_) (fun hc73 => ?_)
              · skip
                refine r_c0 (pc' := 175) rfl rfl ?_
                exact r_rz rfl (by omega) (po_I hst ⟨by decide, by decide⟩ ⟨rfl, rfl, rfl, by omega, by omega, (by first | (intro h; exfalso; omega) | exact fun _ => as1 (by omega))⟩)
              · skip
                refine r_c0 (pc' := 171) rfl rfl ?_
                refine r_go rfl ?_
                exact r_rz rfl (by omega) (po_I hst ⟨by decide, by decide⟩ ⟨rfl, rfl, rfl, by omega, by omega, (by first | (intro h; exfalso; omega) | exact fun _ => as1 (by omega))⟩)
        · skip
          refine r_c0 (pc' := 74) rfl rfl ?_
          refine r_st (pc' := 76) (lv' := [(4, _), (0, _), (1, _), (2, _), (3, _)]) rfl rfl rfl rfl ?_
          exact w_lv (sub_c rfl (sub_c rfl (sub_c rfl (sub_c rfl (sub_c rfl sub_n))))) rfl (ih2 x1 x2 x3 0 ⟨by omega, by omega⟩ ⟨by omega, by omega⟩ ⟨by omega, by omega⟩ ⟨by omega, by omega⟩ ⟨by omega, by omega⟩ (by first | exact as1 | exact fun h => ⟨(as1 h).1, fun e he => (as1 h).2 e (by omega)⟩) (by omega))
      · intro x1 x2 x3 x4  hx1 hx2 hx3 hx4 hz0_0 as1 hM
        refine r_ld (pc' := 78) rfl rfl rfl rfl ?_
        refine r_ld (pc' := 79) rfl rfl rfl rfl ?_
        refine r_gi (pc' := 82) rfl rfl sh_225 rfl rfl ?_
        refine r_ige (pc' := 85) rfl rfl ⟨by omega, by omega⟩ ⟨by omega, by omega⟩ (fun hc74 => ?_) (fun hc74 => ?_)
        · skip
          refine r_inc (pc' := 144) (lv' := [(0, _), (1, _), (2, _), (4, _)]) rfl rfl rfl rfl rfl ?_
          refine r_go rfl ?_
          exact w_lv (sub_c rfl (sub_c rfl (sub_c rfl (sub_c rfl sub_n)))) rfl (ih1 x1 x2 (x3 + 1) ⟨by omega, by omega⟩ ⟨by omega, by omega⟩ ⟨by omega, by omega⟩ (by first | exact as1 | exact fun h => ⟨(as1 h).1, fun e he => (as1 h).2 e (by omega)⟩) (by omega))
        · skip
          refine r_ld (pc' := 86) rfl rfl rfl rfl ?_
          refine r_ld (pc' := 88) rfl rfl rfl rfl ?_
          refine r_ai (pc' := 89) rfl rfl rfl rfl (fun v75 h76 => ?_)
          unfold inI at h76
          refine r_c0 (pc' := 90) rfl rfl ?_
          refine r_msk (m := 1) (n := 1) (pc' := 91) rfl rfl ⟨by omega, by omega⟩ (by decide) (by decide) ?_
          refine r_c0 (pc' := 92) rfl rfl ?_
          refine r_ine (pc' := 95) rfl rfl ⟨by omega, by omega⟩ ⟨by decide, by decide⟩ (fun hc77 => ?_) (fun hc77 => ?_)
          · skip
            refine r_inc (pc' := 138) (lv' := [(0, _), (1, _), (2, _), (3, _)]) rfl rfl rfl rfl rfl ?_
            refine r_go rfl ?_
            exact w_lv (sub_c rfl (sub_c rfl (sub_c rfl (sub_c rfl (sub_c rfl sub_n))))) rfl (ih2 x1 x2 x3 (x4 + 1) ⟨by omega, by omega⟩ ⟨by omega, by omega⟩ ⟨by omega, by omega⟩ ⟨by omega, by omega⟩ ⟨by omega, by omega⟩ (by first | exact as1 | exact fun h => ⟨(as1 h).1, fun e he => (as1 h).2 e (by omega)⟩) (by omega))
          · skip
            refine r_c0 (pc' := 96) rfl rfl ?_
            refine r_st (pc' := 98) (lv' := [(5, _), (0, _), (1, _), (2, _), (3, _), (4, _)]) rfl rfl rfl rfl ?_
            exact w_lv (sub_c rfl (sub_c rfl (sub_c rfl (sub_c rfl (sub_c rfl (sub_c rfl sub_n)))))) rfl (ih3 x1 x2 x3 x4 0 ⟨by omega, by omega⟩ ⟨by omega, by omega⟩ ⟨by omega, by omega⟩ ⟨by omega, by omega⟩ ⟨by omega, by omega⟩ ⟨by omega, by omega⟩ (by first | exact as1 | exact fun h => ⟨(as1 h).1, fun e he => (as1 h).2 e (by omega)⟩) (by omega))
      · intro x1 x2 x3 x4 x5  hx1 hx2 hx3 hx4 hx5 hz0_0 as1 hM
        refine r_ld (pc' := 100) rfl rfl rfl rfl ?_
        refine r_ld (pc' := 101) rfl rfl rfl rfl ?_
        refine r_gi (pc' := 104) rfl rfl sh_225 rfl rfl ?_
        refine r_ige (pc' := 107) rfl rfl ⟨by omega, by omega⟩ ⟨by omega, by omega⟩ (fun hc78 => ?_) (fun hc78 => ?_)
        · skip
          refine r_inc (pc' := 138) (lv' := [(0, _), (1, _), (2, _), (3, _), (5, _)]) rfl rfl rfl rfl rfl ?_
          refine r_go rfl ?_
          exact w_lv (sub_c rfl (sub_c rfl (sub_c rfl (sub_c rfl (sub_c rfl sub_n))))) rfl (ih2 x1 x2 x3 (x4 + 1) ⟨by omega, by omega⟩ ⟨by omega, by omega⟩ ⟨by omega, by omega⟩ ⟨by omega, by omega⟩ ⟨by omega, by omega⟩ (by first | exact as1 | exact fun h => ⟨(as1 h).1, fun e he => (as1 h).2 e (by omega)⟩) (by omega))
        · skip
          refine r_ld (pc' := 108) rfl rfl rfl rfl ?_
          refine r_ld (pc' := 109) rfl rfl rfl rfl ?_
          refine r_ld (pc' := 111) rfl rfl rfl rfl ?_
          refine r_ld (pc' := 113) rfl rfl rfl rfl ?_
          refine r_cVI (pc' := 116) rfl rfl rfl rfl rfl sh_225 (m_164 (d := d) x4 x5 hst.1 hst.2.1 ⟨by omega, by omega⟩ ⟨by omega, by omega⟩) (fun v79 z80 w81 p82 h83 hs84 hE85 => ?_)
          obtain ⟨rfl, rfl, rfl, hE85⟩ := hE85
          refine r_zeq (pc' := 119) rfl rfl ⟨by omega, by omega⟩ (fun hc87 => ?_) (fun hc87 => ?_)
          · skip
            refine r_c0 (pc' := 127) rfl rfl ?_
            refine r_ai (pc' := 128) rfl rfl rfl rfl (fun v88 h89 => ?_)
            unfold inI at h89
            refine r_st (pc' := 129) (lv' := [(2, _), (0, _), (1, _), (3, _), (4, _), (5, _)]) rfl rfl rfl rfl ?_
            refine r_inc (pc' := 132) (lv' := [(2, _), (0, _), (1, _), (3, _), (4, _)]) rfl rfl rfl rfl rfl ?_
            refine r_go rfl ?_
            exact w_lv (sub_c rfl (sub_c rfl (sub_c rfl (sub_c rfl (sub_c rfl (sub_c rfl sub_n)))))) rfl (ih3 x1 v88 x3 x4 (x5 + 1) ⟨by omega, by omega⟩ ⟨by omega, by omega⟩ ⟨by omega, by omega⟩ ⟨by omega, by omega⟩ ⟨by omega, by omega⟩ ⟨by omega, by omega⟩ (by first | exact as1 | exact fun h => ⟨(as1 h).1, fun e he => (as1 h).2 e (by omega)⟩) (by omega))
          · skip
            refine r_c0 (pc' := 120) rfl rfl ?_
            refine r_ld (pc' := 122) rfl rfl rfl rfl ?_
            refine r_ai (pc' := 123) rfl rfl rfl rfl (fun v90 h91 => ?_)
            unfold inI at h91
            refine r_go rfl ?_
            refine r_ai (pc' := 128) rfl rfl rfl rfl (fun v92 h93 => ?_)
            unfold inI at h93
            refine r_st (pc' := 129) (lv' := [(2, _), (0, _), (1, _), (3, _), (4, _), (5, _)]) rfl rfl rfl rfl ?_
            refine r_inc (pc' := 132) (lv' := [(2, _), (0, _), (1, _), (3, _), (4, _)]) rfl rfl rfl rfl rfl ?_
            refine r_go rfl ?_
            exact w_lv (sub_c rfl (sub_c rfl (sub_c rfl (sub_c rfl (sub_c rfl (sub_c rfl sub_n)))))) rfl (ih3 x1 v92 x3 x4 (x5 + 1) ⟨by omega, by omega⟩ ⟨by omega, by omega⟩ ⟨by omega, by omega⟩ ⟨by omega, by omega⟩ ⟨by omega, by omega⟩ ⟨by omega, by omega⟩ (by first | exact as1 | exact fun h => ⟨(as1 h).1, fun e he => (as1 h).2 e (by omega)⟩) (by omega))
  refine w_m rfl rfl ?_
  refine r_ld (pc' := 1) rfl rfl rfl rfl ?_
  have hb94 := rd_225_23 hz
  refine r_gi (pc' := 4) rfl rfl sh_225 rfl rfl ?_
  refine r_c0 (pc' := 5) rfl rfl ?_
  refine r_rm (pc' := 6) (v := (z0 225 23) % 2) rfl rfl ⟨by omega, by omega⟩ ⟨by decide, by decide⟩ (by decide) (tmod_n (by omega)) ?_
  refine r_zne (pc' := 9) rfl rfl ⟨by omega, by omega⟩ (fun hc95 => ?_) (fun hc95 => ?_)
  · skip
    refine r_c0 (pc' := 14) rfl rfl ?_
    refine r_st (pc' := 15) (lv' := [(1, _), (0, _)]) rfl rfl rfl rfl ?_
    refine r_c0 (pc' := 16) rfl rfl ?_
    refine r_st (pc' := 17) (lv' := [(2, _), (1, _), (0, _)]) rfl rfl rfl rfl ?_
    exact w_lv (sub_c rfl (sub_c rfl (sub_c rfl sub_n))) rfl ((key ((97 * (18 - 0) + 305635 : Int).toNat + 1)).1 0 0 ⟨by omega, by omega⟩ ⟨by omega, by omega⟩ (by first | (intro h; exfalso; omega) | (intro _; exact ⟨by omega, fun e he => absurd he (by omega)⟩) | (intro _; refine ⟨(as1 (by omega)).1, fun e he => ?_⟩; by_cases c : e = x2.toNat; (subst c; first | (rw [if_pos (by omega)]; omega) | (rw [if_neg (by omega)]; omega)); exact (as1 (by omega)).2 e (by omega))) (by omega))
  · skip
    refine r_c0 (pc' := 10) rfl rfl ?_
    refine r_go rfl ?_
    refine r_st (pc' := 15) (lv' := [(1, _), (0, _)]) rfl rfl rfl rfl ?_
    refine r_c0 (pc' := 16) rfl rfl ?_
    refine r_st (pc' := 17) (lv' := [(2, _), (1, _), (0, _)]) rfl rfl rfl rfl ?_
    exact w_lv (sub_c rfl (sub_c rfl (sub_c rfl sub_n))) rfl ((key ((97 * (18 - 0) + 305635 : Int).toNat + 1)).1 1 0 ⟨by omega, by omega⟩ ⟨by omega, by omega⟩ (by first | (intro h; exfalso; omega) | (intro _; exact ⟨by omega, fun e he => absurd he (by omega)⟩) | (intro _; refine ⟨(as1 (by omega)).1, fun e he => ?_⟩; by_cases c : e = x2.toNat; (subst c; first | (rw [if_pos (by omega)]; omega) | (rw [if_neg (by omega)]; omega)); exact (as1 (by omega)).2 e (by omega))) (by omega))
/-- LoopGroundModel readPiece -/
abbrev S_162v  : mS := [(225, 225, 4, 4), (225, 225, 7, 7), (225, 225, 9, 9), (225, 225, 8, 8), (225, 225, 6, 6), (225, 225, 2, 2), (225, 225, 3, 3), (230, 230, 0, 17), (229, 229, 0, 35), (225, 225, 23, 23)]
abbrev E_162v  (z0 w0 : mZ) (x y tx it mt tt ct : Option Nat) : mZ → mZ → mP → Prop := fun z w p => p = (pq x y tx it mt tt ct) ∧ (z0 225 4 ≤ z 225 4 ∧ z 225 4 ≤ z0 225 5 ∧ (z 225 6 = 59 → z0 225 4 < z 225 4) ∧ (z 225 2 = 0 → PIR z (3 * z 225 23).toNat))
theorem m_162v {d : Nat} {z0 w0 : mZ} {x y tx it mt tt ct : Option Nat}  (hz : rz z0) (hw : rw_ w0) (hat : z0 225 4 ≤ z0 225 5) (hpr : PIR z0 (3 * z0 225 23).toNat) (hzb0 : 0 ≤ z0 225 23 ∧ z0 225 23 ≤ 11) : wc (d + 4) 162 [.ref 225] (mk z0 w0 (pq x y tx it mt tt ct)) (poV S_162v z0 w0 (E_162v  z0 w0 x y tx it mt tt ct)) := by
  have hst : st_ S_162v z0 w0 z0 w0 := st_rf hz hw
  have hz68 := rd_225_23 hz
  have hz69 := rd_225_4 hz
  have hz70 := rd_225_5 hz
  have key : ∀ N : Nat, (∀ (x1 : Int) (z w : mZ), 0 ≤ x1 ∧ x1 ≤ 3 → st_ S_162v z0 w0 z w → z 225 23 = z0 225 23 → (z0 225 4 ≤ z 225 4 ∧ z 225 4 ≤ z0 225 5 ∧ (z 225 6 = 59 → z0 225 4 < z 225 4)) → ((z 225 2 = 0 → PIR z (3 * z0 225 23 + x1).toNat)) → 67 * (3 - x1) + 62 < (N : Int) → wp_ (d + 3) 162 3 none (6, [(0, .ref 225), (1, .int (Int32.ofInt x1))], [], mk z w (pq x y tx it mt tt ct)) (poV S_162v z0 w0 (E_162v  z0 w0 x y tx it mt tt ct))) ∧ (∀ (x1 : Int) (z w : mZ), 0 ≤ x1 ∧ x1 ≤ 2 → st_ S_162v z0 w0 z w → z 225 23 = z0 225 23 → (z0 225 4 ≤ z 225 4 ∧ z 225 4 ≤ z0 225 5 ∧ (z 225 6 = 59 → z0 225 4 < z 225 4)) → ((z 225 2 = 0 → z 225 6 = 2 → z 225 8 ≤ 17 → z 230 (z 225 8).toNat ≤ 1)) → ((z 225 2 = 0 → PIR z (3 * z0 225 23 + x1).toNat)) → 67 * (3 - x1) + 38 < (N : Int) → wp_ (d + 3) 162 3 none (53, [(0, .ref 225), (1, .int (Int32.ofInt x1))], [], mk z w (pq x y tx it mt tt ct)) (poV S_162v z0 w0 (E_162v  z0 w0 x y tx it mt tt ct))) ∧ (∀ (z w : mZ), st_ S_162v z0 w0 z w → z 225 23 = z0 225 23 → (z0 225 4 ≤ z 225 4 ∧ z 225 4 ≤ z0 225 5 ∧ (z 225 6 = 59 → z0 225 4 < z 225 4)) → ((z 225 2 = 0 → PIR z (3 * z0 225 23 + 3).toNat)) → 9 < (N : Int) → wp_ (d + 3) 162 3 none (99, [(0, .ref 225)], [], mk z w (pq x y tx it mt tt ct)) (poV S_162v z0 w0 (E_162v  z0 w0 x y tx it mt tt ct))) := by
    intro N
    induction N with
    | zero =>
      refine ⟨?_, ?_, ?_⟩
      · intro x1 z w
        intros; exfalso; omega
      · intro x1 z w
        intros; exfalso; omega
      · intro  z w
        intros; exfalso; omega
    | succ N ih =>
      obtain ⟨ih0, ih1, ih2⟩ := ih
      refine ⟨?_, ?_, ?_⟩
      · intro x1 z w  hx1 hst un_z_225_23 as1 as3 hM
        refine r_ld (pc' := 7) rfl rfl rfl rfl ?_
        refine r_c0 (pc' := 8) rfl rfl ?_
        refine r_ige (pc' := 11) rfl rfl ⟨by omega, by omega⟩ ⟨by decide, by decide⟩ (fun hc71 => ?_) (fun hc71 => ?_)
        · skip
          have hb72 := rd_225_4 hst.1
          have hb73 := rd_225_6 hst.1
          have hb74 := rd_225_2 hst.1
          exact w_lv (sub_c rfl sub_n) rfl (ih2 z w hst (un_z_225_23) (by first | omega | assumption) (by first | (intro h; exfalso; omega) | exact fun _ => PIR_c (funext fun i => (hst.2.2.1 _ _ (notS_c (by omega) (notS_c (by omega) (notS_c (by omega) (notS_c (by omega) (notS_c (by omega) (notS_c (by omega) (notS_c (by omega) (notS_c (by omega) (notS_c (by omega) (notS_c (by omega) notS_n)))))))))))) (funext fun i => (hst.2.2.1 _ _ (notS_c (by omega) (notS_c (by omega) (notS_c (by omega) (notS_c (by omega) (notS_c (by omega) (notS_c (by omega) (notS_c (by omega) (notS_c (by omega) (notS_c (by omega) (notS_c (by omega) notS_n)))))))))))) (by omega) hpr | exact fun h => PIR_c (funext fun i => rfl) (funext fun i => rfl) (by omega) (as3 (by omega)) | exact fun _ => hps) (by omega))
        · skip
          refine r_ld (pc' := 12) rfl rfl rfl rfl ?_
          have hb75 := rd_225_2 hst.1
          refine r_gi (pc' := 15) rfl rfl sh_225 rfl rfl ?_
          refine r_zne (pc' := 18) rfl rfl ⟨by omega, by omega⟩ (fun hc76 => ?_) (fun hc76 => ?_)
          · skip
            have hb77 := rd_225_4 hst.1
            have hb78 := rd_225_6 hst.1
            exact w_lv (sub_c rfl sub_n) rfl (ih2 z w hst (un_z_225_23) (by first | omega | assumption) (by first | (intro h; exfalso; omega) | exact fun _ => PIR_c (funext fun i => (hst.2.2.1 _ _ (notS_c (by omega) (notS_c (by omega) (notS_c (by omega) (notS_c (by omega) (notS_c (by omega) (notS_c (by omega) (notS_c (by omega) (notS_c (by omega) (notS_c (by omega) (notS_c (by omega) notS_n)))))))))))) (funext fun i => (hst.2.2.1 _ _ (notS_c (by omega) (notS_c (by omega) (notS_c (by omega) (notS_c (by omega) (notS_c (by omega) (notS_c (by omega) (notS_c (by omega) (notS_c (by omega) (notS_c (by omega) (notS_c (by omega) notS_n)))))))))))) (by omega) hpr | exact fun h => PIR_c (funext fun i => rfl) (funext fun i => rfl) (by omega) (as3 (by omega)) | exact fun _ => hps) (by omega))
          · skip
            refine r_ld (pc' := 19) rfl rfl rfl rfl ?_
            have hb79 := rd_225_6 hst.1
            refine r_gi (pc' := 22) rfl rfl sh_225 rfl rfl ?_
            refine r_c0 (pc' := 23) rfl rfl ?_
            refine r_ine (pc' := 26) rfl rfl ⟨by omega, by omega⟩ ⟨by decide, by decide⟩ (fun hc80 => ?_) (fun hc80 => ?_)
            · skip
              have hb81 := rd_225_4 hst.1
              have hb82 := rd_225_8 hst.1
              exact w_lv (sub_c rfl (sub_c rfl sub_n)) rfl (ih1 x1 z w ⟨by omega, by omega⟩ hst (un_z_225_23) (by first | omega | assumption) (by first | omega | assumption) (by first | (intro h; exfalso; omega) | exact fun _ => PIR_c (funext fun i => (hst.2.2.1 _ _ (notS_c (by omega) (notS_c (by omega) (notS_c (by omega) (notS_c (by omega) (notS_c (by omega) (notS_c (by omega) (notS_c (by omega) (notS_c (by omega) (notS_c (by omega) (notS_c (by omega) notS_n)))))))))))) (funext fun i => (hst.2.2.1 _ _ (notS_c (by omega) (notS_c (by omega) (notS_c (by omega) (notS_c (by omega) (notS_c (by omega) (notS_c (by omega) (notS_c (by omega) (notS_c (by omega) (notS_c (by omega) (notS_c (by omega) notS_n)))))))))))) (by omega) hpr | exact fun h => PIR_c (funext fun i => rfl) (funext fun i => rfl) (by omega) (as3 (by omega)) | exact fun _ => hps) (by omega))
            · skip
              refine r_ld (pc' := 27) rfl rfl rfl rfl ?_
              have hb83 := rd_225_8 hst.1
              refine r_gi (pc' := 30) rfl rfl sh_225 rfl rfl ?_
              refine r_cb (pc' := 32) rfl (by decide) rfl ?_
              refine r_ige (pc' := 35) rfl rfl ⟨by omega, by omega⟩ ⟨by decide, by decide⟩ (fun hc84 => ?_) (fun hc84 => ?_)
              · skip
                have hb85 := rd_225_4 hst.1
                exact w_lv (sub_c rfl (sub_c rfl sub_n)) rfl (ih1 x1 z w ⟨by omega, by omega⟩ hst (un_z_225_23) (by first | omega | assumption) (by first | omega | assumption) (by first | (intro h; exfalso; omega) | exact fun _ => PIR_c (funext fun i => (hst.2.2.1 _ _ (notS_c (by omega) (notS_c (by omega) (notS_c (by omega) (notS_c (by omega) (notS_c (by omega) (notS_c (by omega) (notS_c (by omega) (notS_c (by omega) (notS_c (by omega) (notS_c (by omega) notS_n)))))))))))) (funext fun i => (hst.2.2.1 _ _ (notS_c (by omega) (notS_c (by omega) (notS_c (by omega) (notS_c (by omega) (notS_c (by omega) (notS_c (by omega) (notS_c (by omega) (notS_c (by omega) (notS_c (by omega) (notS_c (by omega) notS_n)))))))))))) (by omega) hpr | exact fun h => PIR_c (funext fun i => rfl) (funext fun i => rfl) (by omega) (as3 (by omega)) | exact fun _ => hps) (by omega))
              · skip
                refine r_ld (pc' := 36) rfl rfl rfl rfl ?_
                refine r_gr (b := 230) (pc' := 39) rfl rfl sh_225 rfl pp_225_13 ?_
                refine r_ld (pc' := 40) rfl rfl rfl rfl ?_
                refine r_gi (pc' := 43) rfl rfl sh_225 rfl rfl ?_
                have hb86 := rd_230 hst.1 (i := (z 225 8).toNat) (by omega)
                refine r_ia (pc' := 44) rfl rfl sh_230 rfl (by omega) (by omega) rfl ?_
                refine r_c0 (pc' := 45) rfl rfl ?_
                refine r_ine (pc' := 48) rfl rfl ⟨by omega, by omega⟩ ⟨by decide, by decide⟩ (fun hc87 => ?_) (fun hc87 => ?_)
                · skip
                  have hb88 := rd_225_4 hst.1
                  exact w_lv (sub_c rfl (sub_c rfl sub_n)) rfl (ih1 x1 z w ⟨by omega, by omega⟩ hst (un_z_225_23) (by first | omega | assumption) (by first | omega | assumption) (by first | (intro h; exfalso; omega) | exact fun _ => PIR_c (funext fun i => (hst.2.2.1 _ _ (notS_c (by omega) (notS_c (by omega) (notS_c (by omega) (notS_c (by omega) (notS_c (by omega) (notS_c (by omega) (notS_c (by omega) (notS_c (by omega) (notS_c (by omega) (notS_c (by omega) notS_n)))))))))))) (funext fun i => (hst.2.2.1 _ _ (notS_c (by omega) (notS_c (by omega) (notS_c (by omega) (notS_c (by omega) (notS_c (by omega) (notS_c (by omega) (notS_c (by omega) (notS_c (by omega) (notS_c (by omega) (notS_c (by omega) notS_n)))))))))))) (by omega) hpr | exact fun h => PIR_c (funext fun i => rfl) (funext fun i => rfl) (by omega) (as3 (by omega)) | exact fun _ => hps) (by omega))
                · skip
                  refine r_ld (pc' := 49) rfl rfl rfl rfl ?_
                  refine r_c0 (pc' := 50) rfl rfl ?_
                  refine r_cVV (pc' := 53) rfl rfl rfl rfl rfl sh_225 (m_154 (d := d + 1) 3 hst.1 hst.2.1 ⟨by omega, by omega⟩) (fun z90 w91 p92 hs94 hE95 => ?_)
                  have hs96 := st_tr hst hs94 (sub_B rfl)
                  obtain ⟨rfl, hE95⟩ := hE95
                  have hb97 := rd_225_4 hst.1
                  have hf98 : z90 225 4 = z 225 4 := (hs94.2.2.1 _ _ (notS_c (by omega) (notS_c (by omega) notS_n)))
                  have hf99 : z90 225 6 = z 225 6 := (hs94.2.2.1 _ _ (notS_c (by omega) (notS_c (by omega) notS_n)))
                  have hb100 := rd_225_2 hs96.1
                  have hf101 : z90 225 8 = z 225 8 := (hs94.2.2.1 _ _ (notS_c (by omega) (notS_c (by omega) notS_n)))
                  exact w_lv (sub_c rfl (sub_c rfl sub_n)) rfl (ih1 x1 z90 w91 ⟨by omega, by omega⟩ hs96 (((hs94.2.2.1 _ _ (notS_c (by omega) (notS_c (by omega) notS_n))).trans un_z_225_23)) (by first | omega | assumption | (simp only [hf98, hf99, hf101]; assumption)) (by first | omega | assumption | (simp only [hf98, hf99, hf101]; assumption)) (by first | (intro h; exfalso; omega) | exact fun _ => PIR_c (funext fun i => ((hs94.2.2.1 _ _ (notS_c (by omega) (notS_c (by omega) notS_n))).trans (hst.2.2.1 _ _ (notS_c (by omega) (notS_c (by omega) (notS_c (by omega) (notS_c (by omega) (notS_c (by omega) (notS_c (by omega) (notS_c (by omega) (notS_c (by omega) (notS_c (by omega) (notS_c (by omega) notS_n))))))))))))) (funext fun i => ((hs94.2.2.1 _ _ (notS_c (by omega) (notS_c (by omega) notS_n))).trans (hst.2.2.1 _ _ (notS_c (by omega) (notS_c (by omega) (notS_c (by omega) (notS_c (by omega) (notS_c (by omega) (notS_c (by omega) (notS_c (by omega) (notS_c (by omega) (notS_c (by omega) (notS_c (by omega) notS_n))))))))))))) (by omega) hpr | exact fun h => PIR_c (funext fun i => (hs94.2.2.1 _ _ (notS_c (by omega) (notS_c (by omega) notS_n)))) (funext fun i => (hs94.2.2.1 _ _ (notS_c (by omega) (notS_c (by omega) notS_n)))) (by omega) (as3 (by omega)) | exact fun _ => hps) (by omega))
      · intro x1 z w  hx1 hst un_z_225_23 as1 as2 as3 hM
        refine r_ld (pc' := 54) rfl rfl rfl rfl ?_
        refine r_c0 (pc' := 55) rfl rfl ?_
        refine r_cb (pc' := 57) rfl (by decide) rfl ?_
        have hb102 := rd_225_4 hst.1
        have hb103 := rd_225_5 hz
        have hf104 : z 225 5 = z0 225 5 := (hst.2.2.1 _ _ (notS_c (by omega) (notS_c (by omega) (notS_c (by omega) (notS_c (by omega) (notS_c (by omega) (notS_c (by omega) (notS_c (by omega) (notS_c (by omega) (notS_c (by omega) (notS_c (by omega) notS_n)))))))))))
        have hb105 := rd_225_2 hst.1
        have hb106 := rd_225_8 hst.1
        have hb107 := rd_225_6 hst.1
        refine r_cVI (pc' := 60) rfl rfl rfl rfl rfl sh_225 (m_158 (d := d) 0 17 hst.1 hst.2.1 ⟨by omega, by omega⟩ ⟨by omega, by omega⟩ (by first | omega | assumption | (simp only [hf104]; assumption))) (fun v108 z109 w110 p111 h112 hs113 hE114 => ?_)
        have hs115 := st_tr hst hs113 (sub_B rfl)
        obtain ⟨rfl, hE114⟩ := hE114
        have hj : z109 225 2 = 0 → z 230 v108.toNat ≤ 1 := fun h => by rw [show v108 = z 225 8 by omega]; omega
        have hvb := hE114
        refine r_st (pc' := 61) (lv' := [(2, _), (0, _), (1, _)]) rfl rfl rfl rfl ?_
        refine r_ld (pc' := 62) rfl rfl rfl rfl ?_
        have hb229 : ∀ i, z109 229 i = z 229 i := fun i => (hs113.2.2.1 _ _ (notS_c (by omega) (notS_c (by omega) (notS_c (by omega) (notS_c (by omega) (notS_c (by omega) (notS_c (by omega) (notS_c (by omega) notS_n))))))))
        have hb230 : ∀ i, z109 230 i = z 230 i := fun i => (hs113.2.2.1 _ _ (notS_c (by omega) (notS_c (by omega) (notS_c (by omega) (notS_c (by omega) (notS_c (by omega) (notS_c (by omega) (notS_c (by omega) notS_n))))))))
        have hb116 := rd_225_2 hs115.1
        refine r_gi (pc' := 65) rfl rfl sh_225 rfl rfl ?_
        refine r_zle (pc' := 68) rfl rfl ⟨by omega, by omega⟩ (fun hc117 => ?_) (fun hc117 => ?_)
        · skip
          refine r_ld (pc' := 70) rfl rfl rfl rfl ?_
          refine r_gr (b := 230) (pc' := 73) rfl rfl sh_225 rfl pp_225_13 ?_
          refine r_ld (pc' := 74) rfl rfl rfl rfl ?_
          refine r_al (pc' := 75) rfl rfl rfl rfl ?_
          have hb118 := rd_230 hst.1 (i := v108.toNat) (by omega)
          refine r_ia (pc' := 76) rfl rfl sh_230 rfl (by omega) (by omega) (hs113.2.2.1 _ _ (notS_c (by omega) (notS_c (by omega) (notS_c (by omega) (notS_c (by omega) (notS_c (by omega) (notS_c (by omega) (notS_c (by omega) notS_n)))))))) ?_
          refine r_c0 (pc' := 77) rfl rfl ?_
          refine r_add (pc' := 78) rfl rfl ?_
          refine r_is (pc' := 79) rfl rfl sh_230 rfl (by omega) (by omega) hs115 (inS_s (inS_s (inS_s (inS_s (inS_s (inS_s (inS_s (inS_0 (by omega) (by omega) (by omega) (by omega))))))))) (wr_230 ⟨by omega, by omega⟩) (fun z119 hq120 hs121 => ?_)
          have hqo := hq120
          refine r_ld (pc' := 80) rfl rfl rfl rfl ?_
          refine r_gr (b := 229) (pc' := 83) rfl rfl sh_225 rfl pp_225_12 ?_
          refine r_c0 (pc' := 84) rfl rfl ?_
          refine r_ld (pc' := 85) rfl rfl rfl rfl ?_
          refine r_gi (pc' := 88) rfl rfl sh_225 rfl (((congrFun (congrFun hq120 _) _).trans (mu_ne (by omega))).trans ((hs113.2.2.1 _ _ (notS_c (by omega) (notS_c (by omega) (notS_c (by omega) (notS_c (by omega) (notS_c (by omega) (notS_c (by omega) (notS_c (by omega) notS_n)))))))).trans un_z_225_23)) ?_
          refine r_mul (pc' := 89) rfl rfl ?_
          refine r_ld (pc' := 90) rfl rfl rfl rfl ?_
          refine r_add (pc' := 91) rfl rfl ?_
          refine r_ld (pc' := 92) rfl rfl rfl rfl ?_
          refine r_is (pc' := 93) rfl rfl sh_229 rfl (by omega) (by omega) hs121 (inS_s (inS_s (inS_s (inS_s (inS_s (inS_s (inS_s (inS_s (inS_0 (by omega) (by omega) (by omega) (by omega)))))))))) (wr_229 ⟨by omega, by omega⟩) (fun z122 hq123 hs124 => ?_)
          have hqp := hq123
          have hpb : PIR z109 (3 * z0 225 23 + x1).toNat := PIR_c (funext fun i => hb229 i) (funext fun i => hb230 i) rfl (as3 (by omega))
          have hps : PIR z122 (3 * z0 225 23 + (x1 + 1)).toNat := PIR_s (e := v108) hpb (by omega) (fun j => by rw [hqp, mu_ne (by omega), hqo, mu_sf]; dsimp only; rw [hb230 v108.toNat]) (fun s => by rw [hqp, mu_sf]; dsimp only; rw [hqo, mu_ne (by omega)]) (by omega)
          refine r_inc (pc' := 96) (lv' := [(2, _), (0, _)]) rfl rfl rfl rfl rfl ?_
          refine r_go rfl ?_
          have hb125 := rd_225_4 hs115.1
          have hf126 : z122 225 4 = z109 225 4 := (((congrFun (congrFun hq123 _) _).trans (mu_ne (by omega))).trans ((congrFun (congrFun hq120 _) _).trans (mu_ne (by omega))))
          have hb127 := rd_225_6 hs115.1
          have hf128 : z122 225 6 = z109 225 6 := (((congrFun (congrFun hq123 _) _).trans (mu_ne (by omega))).trans ((congrFun (congrFun hq120 _) _).trans (mu_ne (by omega))))
          have hf129 : z122 225 2 = z109 225 2 := (((congrFun (congrFun hq123 _) _).trans (mu_ne (by omega))).trans ((congrFun (congrFun hq120 _) _).trans (mu_ne (by omega))))
          exact w_lv (sub_c rfl (sub_c rfl sub_n)) rfl (ih0 (x1 + 1) z122 w110 ⟨by omega, by omega⟩ hs124 ((((congrFun (congrFun hq123 _) _).trans (mu_ne (by omega))).trans (((congrFun (congrFun hq120 _) _).trans (mu_ne (by omega))).trans ((hs113.2.2.1 _ _ (notS_c (by omega) (notS_c (by omega) (notS_c (by omega) (notS_c (by omega) (notS_c (by omega) (notS_c (by omega) (notS_c (by omega) notS_n)))))))).trans un_z_225_23)))) (by first | omega | assumption | (simp only [hf126, hf128, hf129]; assumption)) (by first | (intro h; exfalso; omega) | exact fun _ => PIR_c (funext fun i => (((congrFun (congrFun hq123 _) _).trans (mu_ne (by omega))).trans (((congrFun (congrFun hq120 _) _).trans (mu_ne (by omega))).trans ((hs113.2.2.1 _ _ (notS_c (by omega) (notS_c (by omega) (notS_c (by omega) (notS_c (by omega) (notS_c (by omega) (notS_c (by omega) (notS_c (by omega) notS_n)))))))).trans (hst.2.2.1 _ _ (notS_c (by omega) (notS_c (by omega) (notS_c (by omega) (notS_c (by omega) (notS_c (by omega) (notS_c (by omega) (notS_c (by omega) (notS_c (by omega) (notS_c (by omega) (notS_c (by omega) notS_n))))))))))))))) (funext fun i => (((congrFun (congrFun hq123 _) _).trans (mu_ne (by omega))).trans (((congrFun (congrFun hq120 _) _).trans (mu_ne (by omega))).trans ((hs113.2.2.1 _ _ (notS_c (by omega) (notS_c (by omega) (notS_c (by omega) (notS_c (by omega) (notS_c (by omega) (notS_c (by omega) (notS_c (by omega) notS_n)))))))).trans (hst.2.2.1 _ _ (notS_c (by omega) (notS_c (by omega) (notS_c (by omega) (notS_c (by omega) (notS_c (by omega) (notS_c (by omega) (notS_c (by omega) (notS_c (by omega) (notS_c (by omega) (notS_c (by omega) notS_n))))))))))))))) (by omega) hpr | exact fun h => PIR_c (funext fun i => (((congrFun (congrFun hq123 _) _).trans (mu_ne (by omega))).trans (((congrFun (congrFun hq120 _) _).trans (mu_ne (by omega))).trans (hs113.2.2.1 _ _ (notS_c (by omega) (notS_c (by omega) (notS_c (by omega) (notS_c (by omega) (notS_c (by omega) (notS_c (by omega) (notS_c (by omega) notS_n))))))))))) (funext fun i => (((congrFun (congrFun hq123 _) _).trans (mu_ne (by omega))).trans (((congrFun (congrFun hq120 _) _).trans (mu_ne (by omega))).trans (hs113.2.2.1 _ _ (notS_c (by omega) (notS_c (by omega) (notS_c (by omega) (notS_c (by omega) (notS_c (by omega) (notS_c (by omega) (notS_c (by omega) notS_n))))))))))) (by omega) (as3 (by omega)) | exact fun _ => hps) (by omega))
        · skip
          have hb130 := rd_225_4 hs115.1
          have hb131 := rd_225_6 hs115.1
          have hf132 : z109 225 23 = z0 225 23 := ((hs113.2.2.1 _ _ (notS_c (by omega) (notS_c (by omega) (notS_c (by omega) (notS_c (by omega) (notS_c (by omega) (notS_c (by omega) (notS_c (by omega) notS_n)))))))).trans un_z_225_23)
          exact r_ret rfl (po_V hs115 ⟨rfl, (by refine ⟨by omega, by omega, by omega, ?_⟩; first | (intro h; exfalso; omega) | exact fun h => PIR_c (funext fun i => (hs113.2.2.1 _ _ (notS_c (by omega) (notS_c (by omega) (notS_c (by omega) (notS_c (by omega) (notS_c (by omega) (notS_c (by omega) (notS_c (by omega) notS_n))))))))) (funext fun i => (hs113.2.2.1 _ _ (notS_c (by omega) (notS_c (by omega) (notS_c (by omega) (notS_c (by omega) (notS_c (by omega) (notS_c (by omega) (notS_c (by omega) notS_n))))))))) (by omega) (as3 (by omega)))⟩)
      · intro  z w  hst un_z_225_23 as1 as3 hM
        refine r_ld (pc' := 100) rfl rfl rfl rfl ?_
        have hb133 := rd_225_2 hst.1
        refine r_gi (pc' := 103) rfl rfl sh_225 rfl rfl ?_
        refine r_zne (pc' := 106) rfl rfl ⟨by omega, by omega⟩ (fun hc134 => ?_) (fun hc134 => ?_)
        · skip
          have hb135 := rd_225_4 hst.1
          have hb136 := rd_225_6 hst.1
          have hf137 : z 225 23 = z0 225 23 := un_z_225_23
          exact r_ret rfl (po_V hst ⟨rfl, (by refine ⟨by omega, by omega, by omega, ?_⟩; first | (intro h; exfalso; omega) | exact fun h => PIR_c (funext fun i => rfl) (funext fun i => rfl) (by omega) (as3 (by omega)))⟩)
        · skip
          refine r_ld (pc' := 107) rfl rfl rfl rfl ?_
          refine r_al (pc' := 108) rfl rfl rfl rfl ?_
          refine r_gi (pc' := 111) rfl rfl sh_225 rfl un_z_225_23 ?_
          refine r_c0 (pc' := 112) rfl rfl ?_
          refine r_add (pc' := 113) rfl rfl ?_
          refine r_pi (pc' := 116) rfl rfl sh_225 rfl rfl hst (inS_s (inS_s (inS_s (inS_s (inS_s (inS_s (inS_s (inS_s (inS_s (inS_0 (by omega) (by omega) (by omega) (by omega))))))))))) (wr_225_23 ⟨by omega, by omega⟩) (fun z138 hq139 hs140 => ?_)
          have hb141 := rd_225_4 hst.1
          have hf142 : z138 225 4 = z 225 4 := ((congrFun (congrFun hq139 _) _).trans (mu_ne (by omega)))
          have hb143 := rd_225_6 hst.1
          have hf144 : z138 225 6 = z 225 6 := ((congrFun (congrFun hq139 _) _).trans (mu_ne (by omega)))
          have hf145 : z138 225 2 = z 225 2 := ((congrFun (congrFun hq139 _) _).trans (mu_ne (by omega)))
          have hf146 : z138 225 23 = (z0 225 23) + 1 := ((congrFun (congrFun hq139 _) _).trans mu_eq)
          exact r_ret rfl (po_V hs140 ⟨rfl, (by refine ⟨by omega, by omega, by omega, ?_⟩; first | (intro h; exfalso; omega) | exact fun h => PIR_c (funext fun i => ((congrFun (congrFun hq139 _) _).trans (mu_ne (by omega)))) (funext fun i => ((congrFun (congrFun hq139 _) _).trans (mu_ne (by omega)))) (by omega) (as3 (by omega)))⟩)
  refine w_m rfl rfl ?_
  refine r_ld (pc' := 1) rfl rfl rfl rfl ?_
  have hb147 := rd_225_4 hz
  have hb148 := rd_225_5 hz
  refine r_cVV (pc' := 4) rfl rfl rfl rfl rfl sh_225 (m_152 (d := d + 1)  hst.1 hst.2.1 (by first | omega | assumption)) (fun z150 w151 p152 hs154 hE155 => ?_)
  have hs156 := st_tr hst hs154 (sub_B rfl)
  obtain ⟨rfl, hE155⟩ := hE155
  refine r_c0 (pc' := 5) rfl rfl ?_
  refine r_st (pc' := 6) (lv' := [(1, _), (0, _)]) rfl rfl rfl rfl ?_
  have hb157 := rd_225_4 hs156.1
  have hb158 := rd_225_6 hs156.1
  have hb159 := rd_225_2 hz
  have hf160 : z150 225 2 = z0 225 2 := (hs154.2.2.1 _ _ (notS_c (by omega) (notS_c (by omega) (notS_c (by omega) (notS_c (by omega) (notS_c (by omega) notS_n))))))
  exact w_lv (sub_c rfl (sub_c rfl sub_n)) rfl ((key ((67 * (3 - 0) + 62 : Int).toNat + 1)).1 0 z150 w151 ⟨by omega, by omega⟩ hs156 ((hs154.2.2.1 _ _ (notS_c (by omega) (notS_c (by omega) (notS_c (by omega) (notS_c (by omega) (notS_c (by omega) notS_n))))))) (by first | omega | assumption | (simp only [hf160]; assumption)) (by first | (intro h; exfalso; omega) | exact fun _ => PIR_c (funext fun i => (hs154.2.2.1 _ _ (notS_c (by omega) (notS_c (by omega) (notS_c (by omega) (notS_c (by omega) (notS_c (by omega) notS_n))))))) (funext fun i => (hs154.2.2.1 _ _ (notS_c (by omega) (notS_c (by omega) (notS_c (by omega) (notS_c (by omega) (notS_c (by omega) notS_n))))))) (by omega) hpr | exact fun h => PIR_c (funext fun i => (hs154.2.2.1 _ _ (notS_c (by omega) (notS_c (by omega) (notS_c (by omega) (notS_c (by omega) (notS_c (by omega) notS_n))))))) (funext fun i => (hs154.2.2.1 _ _ (notS_c (by omega) (notS_c (by omega) (notS_c (by omega) (notS_c (by omega) (notS_c (by omega) notS_n))))))) (by omega) (as3 (by omega)) | exact fun _ => hps) (by omega))
end
section
/-! the reference reads lines -/
theorem FT_q {z0 z : mZ} (hz : rz z0) (hz' : rz z) (w : WHn z0) {n0 : Nat} (h7 : n0 ≤ 7) (h : ∀ q : Int, 0 ≤ q → q < z0 225 23 → tri (z 231 (18 * n0 + z0 229 (3 * q).toNat).toNat) (z 231 (18 * n0 + z0 229 (3 * q + 1).toNat).toNat) (z 231 (18 * n0 + z0 229 (3 * q + 2).toNat).toNat)) : FT (z0 225 23).toNat (vT (z0 229)) (tr (nE z0) (fun e => z 231 (18 * n0 + e))) := by
  have ly := LY_n hz w
  have h23 := rd_225_23 hz
  refine FT_n (fun e he => ?_) (fun q hq => ?_)
  · by_cases c : (e : Int) < nE z0
    · rw [tr_l c]; exact (rd_231 hz' (i := 18 * n0 + e) (by omega)).1
    · rw [tr_g (by omega)]; omega
  · have k := h q (by omega) (by omega)
    have t0 := ly.2.2.2.1 (3 * q) (by omega); have t1 := ly.2.2.2.1 (3 * q + 1) (by omega); have t2 := ly.2.2.2.1 (3 * q + 2) (by omega)
    rw [show (3 * (q : Int)).toNat = 3 * q by omega, show (3 * (q : Int) + 1).toNat = 3 * q + 1 by omega, show (3 * (q : Int) + 2).toNat = 3 * q + 2 by omega] at k
    rw [tr_l (by show (((z0 229 (3 * q)).toNat : Nat) : Int) < _; omega), tr_l (by show (((z0 229 (3 * q + 1)).toNat : Nat) : Int) < _; omega), tr_l (by show (((z0 229 (3 * q + 2)).toNat : Nat) : Int) < _; omega)]
    show tri (z 231 (18 * n0 + (z0 229 (3 * q)).toNat)) (z 231 (18 * n0 + (z0 229 (3 * q + 1)).toNat)) (z 231 (18 * n0 + (z0 229 (3 * q + 2)).toNat))
    rw [show 18 * n0 + (z0 229 (3 * q)).toNat = (18 * (n0 : Int) + z0 229 (3 * q)).toNat by omega, show 18 * n0 + (z0 229 (3 * q + 1)).toNat = (18 * (n0 : Int) + z0 229 (3 * q + 1)).toNat by omega, show 18 * n0 + (z0 229 (3 * q + 2)).toNat = (18 * (n0 : Int) + z0 229 (3 * q + 2)).toNat by omega]
    exact k
theorem WHn_c {z z' : mZ} (e23 : z' 225 23 = z 225 23) (e229 : z' 229 = z 229) (h : WHn z) : WHn z' := by
  unfold WHn nE at *; rw [e23, e229]; exact h
theorem LFn_c {z z' : mZ} (e23 : z' 225 23 = z 225 23) (e24 : z' 225 24 = z 225 24) (e229 : z' 229 = z 229) (e231 : z' 231 = z 231) (h : LFn z) : LFn z' := by
  unfold LFn nE at *; rw [e23, e24, e229, e231]; exact h
theorem WDn_l {z z' : mZ} (e25 : z' 225 25 = z 225 25) (e24 : z' 225 24 = z 225 24 + 1) (e232 : z' 232 = z 232) (e234 : z' 234 = z 234) (h : WDn z) : WDn z' := by
  intro a ha i hi
  rw [e25] at ha; rw [e234] at hi; rw [e232, e24]
  have := h a ha i hi; omega
end

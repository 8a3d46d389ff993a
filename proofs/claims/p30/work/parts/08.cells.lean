/-! the group of instructions that work on cells -/
section PM4
variable {p : Program} {l : Launch} {e : Env} {R : Room} {s : State} {m : MethodId} {args : Array Value} {below : List Frame} {meth : Method} {c : Code} {H : Heap} {locs : List Loc} {cells slots : Nat} {Q : State → Prop}
variable {cc : ByteArray} {pc : Nat} {ls : Array Slot} {b base : Nat} {D : va_G} {cl : List vw_C} {cA : Nat → ClassId} {RD own : String} {TB : List Cond} {cs : Nat → List Value} {h : pm_H} {r : List Value}
theorem pm_growL {H1 : Heap} {t : pm_H} (hP : va_P D cl (pm_ws (pm_tr cA b base) base h) H) (hS : va_S (fun q => base ≤ q) s.heap H locs) (hz : H.size = base + h.length) (z1 : H.size ≤ H1.size) (o1 : ∀ q : Nat, q < H.size → H1[q]? = H[q]?) (hat : ∀ (k : Nat) (x : pm_E), t[k]? = some x → va_at D cl (base + h.length + k, pm_tr cA b base x) H1) :
    va_P D cl (pm_ws (pm_tr cA b base) base (h ++ t)) H1 ∧ va_S (fun q => base ≤ q) s.heap H1 locs := by
  refine ⟨?_, Nat.le_trans hS.1 z1, fun q h1 h2 => (o1 q (Nat.lt_of_lt_of_le h1 hS.1)).trans (hS.2.1 q h1 h2), hS.2.2⟩
  rw [pm_ws_app]
  refine (hP.kept (fun k q hk => o1 q.1 ((hP k q hk).lt))).app (fun k q hk => ?_)
  rw [pm_ws_get] at hk
  cases e1 : t[k]? with
  | none => rw [e1] at hk; cases hk
  | some x =>
    rw [e1] at hk
    cases hk
    exact hat k x e1
theorem pm_nwm_s {h h' : pm_H} {r st' : List Value} {r1 r2 : Nat} {n k : Int32} (q : pm_nwm h r r1 r2 n k = some (st', h')) : ∃ N K, (¬ n < 0 ∧ n.toNatClampNeg = N ∧ N ≤ 67108864) ∧ (¬ k < 0 ∧ k.toNatClampNeg = K ∧ K ≤ 67108864) ∧ st' = .ref (h.length + 1) :: r ∧ h' = h ++ (.inl (r1, N, .inr (.inr (.inr (.inr (fun i => if i < N then some (h.length + 2 + i) else none))))) :: List.replicate N (pm_zero r2 K)) := by
  unfold pm_nwm at q; split at q
  · rename_i e1 e2
    cases q
    exact ⟨_, _, pm_sz_s e1, pm_sz_s e2, rfl, rfl⟩
  · cases q
theorem pm_multi {r1 r2 n0 x N K : Nat} {n k : Int32} {ty : FieldType} (hx : p.tables.exec = Jvm.exec) (hb : c.code = cc) (hown : s.vm.findClass own = some m.cls) (hlink : (Jvm.Cond.classLink own x ("[" ++ (FieldType.array ty).toString)).before args s = true) (hover : (Jvm.Cond.arrayOver (.array ty)).before args s = true) (harr : (Jvm.Cond.arrayClass ty).before args s = true)
    (hK : va_K D cl (pm_tys RD cA) s) (hP : va_P D cl (pm_ws (pm_tr cA b base) base h) H) (hS : va_S (fun q => base ≤ q) s.heap H locs) (h0 : s.heap.size = base + n0) (hc : cells + n0 = h.length)
    (hk1 : s.vm.findClass ("[" ++ (FieldType.array ty).toString) = some (cA r1)) (hk2 : s.vm.findClass (FieldType.array ty).toString = some (cA r2)) (hrow : ∃ a0, pm_tr cA b base (pm_zero r2 K) = .inl (cA r2, a0) ∧ vp_cell (cA r2) a0 = arrV (cA r2) K (fun _ => defaultValue ty)) (hcb : componentBytes ty ≤ 8) (hdf : fits ty (defaultValue ty) = true)
    (hn : ¬ n < 0 ∧ n.toNatClampNeg = N ∧ N ≤ 67108864) (hk : ¬ k < 0 ∧ k.toNatClampNeg = K ∧ K ≤ 67108864) (hcells : cells + (1 + N) ≤ R.cells) (hslots : slots + (N + N * K) ≤ R.slots) (hdg : decode cc pc = .ok (.multianewarray x 2, 4))
    (kk : ∀ H1 : Heap, va_P D cl (pm_ws (pm_tr cA b base) base (h ++ (.inl (r1, N, .inr (.inr (.inr (.inr (fun i => if i < N then some (h.length + 2 + i) else none))))) :: List.replicate N (pm_zero r2 K)))) H1 → va_S (fun q => base ≤ q) s.heap H1 locs → W p l e R s m args below meth c H1 locs (cells + 1 + N) (slots + N + N * K) Q (F0 m (pc + 4) ls (.ref (base + h.length) :: r))) : W p l e R s m args below meth c H locs cells slots Q (F0 m pc ls (.int k :: .int n :: r)) := by
  refine pm_bound fun hbd => ?_
  have hz := pm_size hP hS h0 hc hbd
  obtain ⟨n1, rfl, n2⟩ := hn
  obtain ⟨k1, rfl, k2⟩ := hk
  refine pg_mna hx hb hown hlink hover harr hdg n1 k1 (by omega) (Nat.le_trans (Nat.mul_le_mul k2 hcb) (Nat.le_refl _)) (by omega) hdf hcells hslots fun H1 c1 c2 f1 f2 z1 o1 e1 e2 => ?_
  have ec1 : c1 = cA r1 := Option.some.inj (f1.symm.trans hk1)
  have ec2 : c2 = cA r2 := Option.some.inj (f2.symm.trans hk2)
  subst ec1
  subst ec2
  obtain ⟨u1, u2⟩ := pm_growL (t := .inl (r1, n.toNatClampNeg, .inr (.inr (.inr (.inr (fun i => if i < n.toNatClampNeg then some (h.length + 2 + i) else none))))) :: List.replicate n.toNatClampNeg (pm_zero r2 k.toNatClampNeg)) hP hS hz (by omega) o1 (by
    intro j y hj
    cases j with
    | zero =>
      cases hj
      show H1[base + h.length + 0]? = some (vp_cell (cA r1) (n.toNatClampNeg, .inr (.inr (.inr (.inr (fun j => (if j < n.toNatClampNeg then some (h.length + 2 + j) else none).map (pm_ad b base)))))))
      rw [Nat.add_zero, ← hz, e1, vp_cell_q]
      unfold pg_out
      congr 2
      funext j
      by_cases hj : j < n.toNatClampNeg
      · rw [if_pos hj, if_pos hj]
        show Value.ref (H.size + 1 + j) = .ref (pm_ad b base (h.length + 2 + j))
        rw [show h.length + 2 + j = (h.length + 1 + j) + 1 by omega]
        show Value.ref (H.size + 1 + j) = .ref (base + (h.length + 1 + j))
        exact congrArg Value.ref (show H.size + 1 + j = base + (h.length + 1 + j) by omega)
      · rw [if_neg hj, if_neg hj]
        rfl
    | succ j =>
      have hj2 : (List.replicate n.toNatClampNeg (pm_zero r2 k.toNatClampNeg))[j]? = some y := hj
      rw [List.getElem?_replicate] at hj2
      split at hj2
      · rename_i hlt
        cases hj2
        obtain ⟨a0, t1, t2⟩ := hrow
        rw [t1]
        show H1[base + h.length + (j + 1)]? = some (vp_cell (cA r2) a0)
        rw [t2, show base + h.length + (j + 1) = H.size + 1 + j by omega, e2 j hlt]
        unfold pg_row
        rw [arrV_new]
      · cases hj2)
  rw [hz]
  exact kk H1 u1 u2
theorem pm_sls_rep (N K : Nat) (x : pm_E) (hx : pm_sl x = K) : pm_sls (List.replicate N x) = N * K := by
  induction N with
  | zero => simp [pm_sls]
  | succ N ih =>
    rw [List.replicate_succ]
    show pm_sl x + pm_sls (List.replicate N x) = _
    rw [ih, hx, Nat.succ_mul]
    omega
theorem pm_zero_sl (k N : Nat) : pm_sl (pm_zero k N) = N := by
  unfold pm_zero
  split <;> rfl
theorem pm_wr_sls {h : pm_H} {k : Nat} {x y : pm_E} (hk : h[k]? = some x) (hy : pm_sl y = pm_sl x) : (pm_wr h (k + 1) y).length = h.length ∧ pm_sls (pm_wr h (k + 1) y) = pm_sls h := by
  rw [pm_wr_s]
  exact ⟨List.length_set, pm_sls_set h k x y hk hy⟩
/-- a store changes neither how many cells there are nor their slots -/
theorem pm_wrs_n {h : pm_H} {a : Nat} {x : pm_E} (f : Option pm_E → Option pm_E) (hf : ∀ o y, f o = some y → ∃ z, o = some z ∧ pm_sl y = pm_sl z) (q : f (pm_cell h a) = some x) : (pm_wr h a x).length = h.length ∧ pm_sls (pm_wr h a x) = pm_sls h := by
  obtain ⟨z, q1, q2⟩ := hf _ _ q
  obtain ⟨k, rfl, q3⟩ := pm_cell_s q1
  exact pm_wr_sls q3 q2
theorem pm_n_pf {r1 r2 : Nat} {cst : Int} {v : Value} : ∀ o y, pm_pf r1 r2 cst v o = some y → ∃ z, o = some z ∧ pm_sl y = pm_sl z := by
  intro o y q
  obtain ⟨fs, rfl, -, -, rfl⟩ := pm_pf_s q
  exact ⟨_, rfl, List.length_set⟩
theorem pm_n_wri {i x : Int32} : ∀ o y, pm_wri i x o = some y → ∃ z, o = some z ∧ pm_sl y = pm_sl z := by
  intro o y q
  unfold pm_wri at q
  split at q
  · split at q
    · split at q
      · cases q; exact ⟨_, rfl, rfl⟩
      · cases q
    · cases q
  · cases q
theorem pm_n_wrl {i : Int32} {x : Int64} : ∀ o y, pm_wrl i x o = some y → ∃ z, o = some z ∧ pm_sl y = pm_sl z := by
  intro o y q
  unfold pm_wrl at q
  split at q
  · split at q
    · split at q
      · cases q; exact ⟨_, rfl, rfl⟩
      · cases q
    · cases q
  · cases q
theorem pm_n_wrb {i x : Int32} : ∀ o y, pm_wrb i x o = some y → ∃ z, o = some z ∧ pm_sl y = pm_sl z := by
  intro o y q
  unfold pm_wrb at q
  split at q
  · split at q
    · split at q
      · cases q; exact ⟨_, rfl, rfl⟩
      · cases q
    · split at q
      · cases q; exact ⟨_, rfl, rfl⟩
      · cases q
    · cases q
  · cases q
theorem pm_n_wra {ci x : Nat} {i : Int32} {w : Option pm_E} : ∀ o y, pm_wra ci i x w o = some y → ∃ z, o = some z ∧ pm_sl y = pm_sl z := by
  intro o y q
  unfold pm_wra at q
  split at q
  · split at q
    · split at q
      · cases q; exact ⟨_, rfl, rfl⟩
      · cases q
    · cases q
  · cases q
/-- cells only grow -/
def pm_le (h h' : pm_H) : Prop := h.length ≤ h'.length ∧ pm_sls h ≤ pm_sls h'
theorem pm_le_app (h t : pm_H) : pm_le h (h ++ t) := ⟨by rw [List.length_append]; omega, by rw [pm_sls_app]; omega⟩
theorem pm_le_rf (h : pm_H) : pm_le h h := ⟨Nat.le_refl _, Nat.le_refl _⟩
theorem pm_le_tr {a b c : pm_H} (h1 : pm_le a b) (h2 : pm_le b c) : pm_le a c := ⟨Nat.le_trans h1.1 h2.1, Nat.le_trans h1.2 h2.2⟩
theorem pm_le_eq {h h' : pm_H} (q : h'.length = h.length ∧ pm_sls h' = pm_sls h) : pm_le h h' := ⟨by rw [q.1]; exact Nat.le_refl _, by rw [q.2]; exact Nat.le_refl _⟩
set_option maxHeartbeats 1000000 in
theorem pm_mem_le {cs : Nat → List Value} {scr : pm_S} {i : Instr} {r1 r2 : Nat} {cst : Int} {st st' : List Value} {h h' : pm_H} (q : pm_mem cs scr i r1 r2 cst st h = some (st', h')) : pm_le h h' := by
  cases i <;> simp only [pm_mem] at q <;> try exact pm_no q
  case getfield =>
    split at q
    · obtain ⟨x, -, -, rfl⟩ := pm_psh_s q; exact pm_le_rf _
    · cases q
  case putfield =>
    split at q
    · obtain ⟨x, q1, -, rfl⟩ := pm_wrs_s q; exact pm_le_eq (pm_wrs_n _ pm_n_pf q1)
    · cases q
  case iaload =>
    split at q
    · split at q
      · obtain ⟨x, -, -, rfl⟩ := pm_psh_s q; exact pm_le_rf _
      · obtain ⟨x, -, -, rfl⟩ := pm_psh_s q; exact pm_le_rf _
    · cases q
  case baload =>
    split at q
    · obtain ⟨x, -, -, rfl⟩ := pm_psh_s q; exact pm_le_rf _
    · cases q
  case laload =>
    split at q
    · obtain ⟨x, -, -, rfl⟩ := pm_psh_s q; exact pm_le_rf _
    · cases q
  case aaload =>
    split at q
    · obtain ⟨x, -, -, rfl⟩ := pm_psh_s q; exact pm_le_rf _
    · cases q
  case iastore =>
    split at q
    · obtain ⟨x, q1, -, rfl⟩ := pm_wrs_s q; exact pm_le_eq (pm_wrs_n _ pm_n_wri q1)
    · cases q
  case bastore =>
    split at q
    · obtain ⟨x, q1, -, rfl⟩ := pm_wrs_s q; exact pm_le_eq (pm_wrs_n _ pm_n_wrb q1)
    · cases q
  case lastore =>
    split at q
    · obtain ⟨x, q1, -, rfl⟩ := pm_wrs_s q; exact pm_le_eq (pm_wrs_n _ pm_n_wrl q1)
    · cases q
  case aastore =>
    split at q
    · obtain ⟨x, q1, -, rfl⟩ := pm_wrs_s q; exact pm_le_eq (pm_wrs_n _ pm_n_wra q1)
    · cases q
  case arraylength =>
    split at q
    · split at q
      · split at q
        · cases q; exact pm_le_rf _
        · cases q
      · obtain ⟨x, -, -, rfl⟩ := pm_psh_s q; exact pm_le_rf _
    · cases q
  case newarray ty =>
    split at q
    · cases ty <;> first | (obtain ⟨N, -, -, -, -, rfl⟩ := pm_nwa_s q; exact pm_le_app _ _) | exact pm_no q
    · cases q
  case anewarray =>
    split at q
    · obtain ⟨N, -, -, -, -, rfl⟩ := pm_nwa_s q; exact pm_le_app _ _
    · cases q
  case multianewarray =>
    split at q
    · obtain ⟨N, K, -, -, -, rfl⟩ := pm_nwm_s q; exact pm_le_app _ _
    · cases q
  case new => cases q; exact pm_le_app _ _
theorem pm_zero_tr (kd N : Nat) (ty : FieldType) (hd : (kd = 0 ∧ ty = .int) ∨ (kd = 1 ∧ ty = .long) ∨ (kd = 2 ∧ ty = .byte) ∨ (kd = 3 ∧ ty = .boolean)) : ∃ a0, pm_tr cA b base (pm_zero kd N) = .inl (cA kd, a0) ∧ vp_cell (cA kd) a0 = arrV (cA kd) N (fun _ => defaultValue ty) := by
  rcases hd with ⟨rfl, rfl⟩ | ⟨rfl, rfl⟩ | ⟨rfl, rfl⟩ | ⟨rfl, rfl⟩
  · exact ⟨_, rfl, rfl⟩
  · exact ⟨_, rfl, rfl⟩
  · exact ⟨_, rfl, rfl⟩
  · exact ⟨_, rfl, rfl⟩
theorem pm_scr_s {i : Int32} {scr : pm_S} {v : Value} (q : pm_scr i scr = some v) : ∃ n xs, scr = some (n, xs) ∧ vp_in i n ∧ v = .int (xs i.toNatClampNeg) := by
  unfold pm_scr at q
  split at q
  · split at q
    · rename_i e1
      obtain ⟨h1, rfl⟩ := pm_ix_s e1
      cases q
      exact ⟨_, _, rfl, h1, rfl⟩
    · cases q
  · cases q
/-- where the script may be read, it lies at b -/
def pm_Sc (scr : pm_S) (b base : Nat) (s : State) : Prop := ∀ n xs, scr = some (n, xs) → va_X b n xs s s.heap ∧ b < s.heap.size ∧ b < base
set_option maxHeartbeats 4000000 in
theorem pm_g4 {i : Instr} {r1 r2 n0 z0 : Nat} {cst : Int} {st st' : List Value} {h' : pm_H} {scr : pm_S} (hx : p.tables.exec = Jvm.exec) (hb : c.code = cc) (hts : ∀ w ∈ TB, w.before args s = true) (hcl : pm_clOk cl TB cs) (hown : s.vm.findClass own = some m.cls) (hK : va_K D cl (pm_tys RD cA) s) (hSc : pm_Sc scr b base s)
    (hP : va_P D cl (pm_ws (pm_tr cA b base) base h) H) (hS : va_S (fun q => base ≤ q) s.heap H locs) (h0 : s.heap.size = base + n0) (hc : cells + n0 = h.length) (hs : slots + z0 = pm_sls h) (hr1 : h'.length ≤ n0 + R.cells) (hr2 : pm_sls h' ≤ z0 + R.slots)
    (hok : pm_okm cl TB RD own meth.name i r1 r2 cst) (hdg : decode cc pc = .ok (i, pm_memn i)) (q : pm_mem cs scr i r1 r2 cst st h = some (st', h'))
    (kk : ∀ (H1 : Heap) (locs1 : List Loc) (cells1 slots1 : Nat), va_P D cl (pm_ws (pm_tr cA b base) base h') H1 → va_S (fun q => base ≤ q) s.heap H1 locs1 → cells1 + n0 = h'.length → slots1 + z0 = pm_sls h' → W p l e R s m args below meth c H1 locs1 cells1 slots1 Q (F0 m (pc + pm_memn i) ls (st'.map (pm_sh b base)))) : W p l e R s m args below meth c H locs cells slots Q (F0 m pc ls (st.map (pm_sh b base))) := by
  cases i <;> simp only [pm_mem] at q <;> try exact pm_no q
  case getfield x =>
    split at q
    · obtain ⟨y, q1, rfl, rfl⟩ := pm_psh_s q
      exact pm_getfield hx hb hts hcl hown hK hP hok hdg q1 (kk H locs cells slots hP hS hc hs)
    · cases q
  case putfield x =>
    split at q
    · obtain ⟨y, q1, rfl, rfl⟩ := pm_wrs_s q
      obtain ⟨g1, g2⟩ := pm_wrs_n _ pm_n_pf q1
      exact pm_putfield hx hb hts hcl hown hK hP hS hok hdg q1 (fun H1 locs1 hP1 hS1 => kk H1 locs1 cells slots hP1 hS1 (by rw [g1]; exact hc) (by rw [g2]; exact hs))
    · cases q
  case iaload =>
    split at q
    · split at q
      · obtain ⟨y, q1, rfl, rfl⟩ := pm_psh_s q
        obtain ⟨n, xs, e1, e2, rfl⟩ := pm_scr_s q1
        obtain ⟨s1, s2, s3⟩ := hSc n xs e1
        exact va_sld hx hb s1 s2 (Nat.not_le.mpr s3) hS e2 hdg (kk H locs cells slots hP hS hc hs)
      · obtain ⟨y, q1, rfl, rfl⟩ := pm_psh_s q
        exact pm_iaload hx hb hK hP hdg q1 (kk H locs cells slots hP hS hc hs)
    · cases q
  case baload =>
    split at q
    · obtain ⟨y, q1, rfl, rfl⟩ := pm_psh_s q
      exact pm_baload hx hb hK hP hdg q1 (kk H locs cells slots hP hS hc hs)
    · cases q
  case laload =>
    split at q
    · obtain ⟨y, q1, rfl, rfl⟩ := pm_psh_s q
      exact pm_laload hx hb hK hP hdg q1 (kk H locs cells slots hP hS hc hs)
    · cases q
  case aaload =>
    split at q
    · obtain ⟨y, q1, rfl, rfl⟩ := pm_psh_s q
      exact pm_aaload hx hb hK hP hdg q1 (kk H locs cells slots hP hS hc hs)
    · cases q
  case iastore =>
    split at q
    · obtain ⟨y, q1, rfl, rfl⟩ := pm_wrs_s q
      obtain ⟨g1, g2⟩ := pm_wrs_n _ pm_n_wri q1
      exact pm_iastore hx hb hK hP hS hdg q1 (fun H1 locs1 hP1 hS1 => kk H1 locs1 cells slots hP1 hS1 (by rw [g1]; exact hc) (by rw [g2]; exact hs))
    · cases q
  case bastore =>
    split at q
    · obtain ⟨y, q1, rfl, rfl⟩ := pm_wrs_s q
      obtain ⟨g1, g2⟩ := pm_wrs_n _ pm_n_wrb q1
      exact pm_bastore hx hb hK hP hS hdg q1 (fun H1 locs1 hP1 hS1 => kk H1 locs1 cells slots hP1 hS1 (by rw [g1]; exact hc) (by rw [g2]; exact hs))
    · cases q
  case lastore =>
    split at q
    · obtain ⟨y, q1, rfl, rfl⟩ := pm_wrs_s q
      obtain ⟨g1, g2⟩ := pm_wrs_n _ pm_n_wrl q1
      exact pm_lastore hx hb hK hP hS hdg q1 (fun H1 locs1 hP1 hS1 => kk H1 locs1 cells slots hP1 hS1 (by rw [g1]; exact hc) (by rw [g2]; exact hs))
    · cases q
  case aastore =>
    split at q
    · obtain ⟨y, q1, rfl, rfl⟩ := pm_wrs_s q
      obtain ⟨g1, g2⟩ := pm_wrs_n _ pm_n_wra q1
      obtain ⟨T, N, o1⟩ := hok
      exact pm_aastore hx hb hK hP hS o1 hdg q1 (fun H1 locs1 hP1 hS1 => kk H1 locs1 cells slots hP1 hS1 (by rw [g1]; exact hc) (by rw [g2]; exact hs))
    · cases q
  case arraylength =>
    split at q
    · split at q
      · split at q
        · rename_i n xs
          cases q
          obtain ⟨s1, s2, s3⟩ := hSc n xs rfl
          exact va_slen hx hb s1 s2 (Nat.not_le.mpr s3) hS hdg (kk H locs cells slots hP hS hc hs)
        · cases q
      · obtain ⟨y, q1, rfl, rfl⟩ := pm_psh_s q
        exact pm_arraylength hx hb hK hP hdg q1 (kk H locs cells slots hP hS hc hs)
    · cases q
  case newarray aty =>
    split at q
    · have key : ∀ (kd : Nat) (ty : FieldType) (n : Int32) (r : List Value), newarray.typeOf aty = ty → ((kd = 0 ∧ ty = .int) ∨ (kd = 1 ∧ ty = .long) ∨ (kd = 2 ∧ ty = .byte) ∨ (kd = 3 ∧ ty = .boolean)) → (pm_tys RD cA)[kd]? = some (cA kd, ty) → componentBytes ty ≤ 8 → pm_nwa h r n (pm_zero kd) = some (st', h') → W p l e R s m args below meth c H locs cells slots Q (F0 m pc ls (.int n :: r.map (pm_sh b base))) := by
        intro kd ty n r hty hd hkd hcb q
        obtain ⟨N, n1, n2, n3, rfl, rfl⟩ := pm_nwa_s q
        rw [List.length_append] at hr1
        rw [pm_sls_app] at hr2
        have e1 : pm_sls [pm_zero kd N] = N := by show pm_sl _ + 0 = N; rw [pm_zero_sl]; rfl
        rw [e1] at hr2
        have hr1 : h.length + 1 ≤ n0 + R.cells := hr1
        exact pm_newarray (kd := kd) (x := pm_zero kd N) hx hb (hts _ hok) hty (by rcases hd with ⟨rfl, rfl⟩ | ⟨rfl, rfl⟩ | ⟨rfl, rfl⟩ | ⟨rfl, rfl⟩ <;> (intro C z; cases z)) hK hP hS h0 hc hkd (pm_zero_tr kd N ty hd) hcb n1 n2 n3 (by omega) (by omega) hdg (fun H1 hP1 hS1 => kk H1 locs _ _ hP1 hS1 (by rw [List.length_append]; show cells + 1 + n0 = h.length + 1; omega) (by rw [pm_sls_app, e1]; omega))
      cases aty <;> first | exact pm_no q | skip
      · exact key 3 .boolean _ _ rfl (by simp) rfl (by decide) q
      · exact key 2 .byte _ _ rfl (by simp) rfl (by decide) q
      · exact key 0 .int _ _ rfl (by simp) rfl (by decide) q
      · exact key 1 .long _ _ rfl (by simp) rfl (by decide) q
    · cases q
  case anewarray x =>
    split at q
    · obtain ⟨N, n1, n2, n3, rfl, rfl⟩ := pm_nwa_s q
      obtain ⟨o1, o2⟩ := hok
      rw [List.length_append] at hr1
      rw [pm_sls_app] at hr2
      have hr1 : h.length + 1 ≤ n0 + R.cells := hr1
      have hr2 : pm_sls h + (N + 0) ≤ z0 + R.slots := hr2
      exact pm_anewarray hx hb hown (hts _ o1) (hts _ o2) hK hP hS h0 hc n1 n2 n3 (by omega) (by omega) hdg (fun H1 hP1 hS1 => kk H1 locs _ _ hP1 hS1 (by rw [List.length_append]; show cells + 1 + n0 = h.length + 1; omega) (by rw [pm_sls_app]; show slots + N + z0 = pm_sls h + (N + 0); omega))
    · cases q
  case multianewarray x d =>
    split at q
    · obtain ⟨N, K, n1, k1, rfl, rfl⟩ := pm_nwm_s q
      have e1 : pm_sls ((.inl (r1, N, .inr (.inr (.inr (.inr (fun i => if i < N then some (h.length + 2 + i) else none))))) : pm_E) :: List.replicate N (pm_zero r2 K)) = N + N * K := by
        show N + pm_sls _ = _
        rw [pm_sls_rep N K _ (pm_zero_sl r2 K)]
      have e2 : ((.inl (r1, N, .inr (.inr (.inr (.inr (fun i => if i < N then some (h.length + 2 + i) else none))))) : pm_E) :: List.replicate N (pm_zero r2 K)).length = N + 1 := by
        rw [List.length_cons, List.length_replicate]
      rw [List.length_append, e2] at hr1
      rw [pm_sls_app, e1] at hr2
      obtain ⟨rfl, o⟩ := hok
      rcases o with ⟨rfl, rfl, o1, o2, o3⟩ | ⟨rfl, rfl, o1, o2, o3⟩
      · exact pm_multi (ty := .long) hx hb hown (hts _ o1) (hts _ o2) (hts _ o3) hK hP hS h0 hc (hK.2 4 _ rfl).2 (hK.2 1 _ rfl).2 (pm_zero_tr 1 K .long (by simp)) (by decide) rfl n1 k1 (by omega) (by omega) hdg (fun H1 hP1 hS1 => kk H1 locs _ _ hP1 hS1 (by rw [List.length_append, e2]; omega) (by rw [pm_sls_app, e1]; omega))
      · exact pm_multi (ty := .int) hx hb hown (hts _ o1) (hts _ o2) (hts _ o3) hK hP hS h0 hc (hK.2 5 _ rfl).2 (hK.2 0 _ rfl).2 (pm_zero_tr 0 K .int (by simp)) (by decide) rfl n1 k1 (by omega) (by omega) hdg (fun H1 hP1 hS1 => kk H1 locs _ _ hP1 hS1 (by rw [List.length_append, e2]; omega) (by rw [pm_sls_app, e1]; omega))
    · cases q
  case new x =>
    cases q
    obtain ⟨C, T, N, o1, o2, o3, o4⟩ := hok
    have eN : (cs r1).length = N := (hcl _ _ _ _ o1).2.2.2.1
    rw [List.length_append] at hr1
    rw [pm_sls_app] at hr2
    have hr1 : h.length + 1 ≤ n0 + R.cells := hr1
    have hr2 : pm_sls h + ((cs r1).length + 0) ≤ z0 + R.slots := hr2
    rw [eN] at hr2
    exact pm_newobj hx hb hts hcl hown o1 (hts _ o2) (hts _ o3) (hts _ o4) hK hP hS h0 hc (by omega) (by omega) hdg (fun H1 hP1 hS1 => kk H1 locs _ _ hP1 hS1 (by rw [List.length_append]; show cells + 1 + n0 = h.length + 1; omega) (by rw [pm_sls_app]; show slots + N + z0 = pm_sls h + ((cs r1).length + 0); rw [eN]; omega))
end PM4

/-! array stores, lengths, the script, new cells -/
section PM3
variable {p : Program} {l : Launch} {e : Env} {R : Room} {s : State} {m : MethodId} {args : Array Value} {below : List Frame} {meth : Method} {c : Code} {H : Heap} {locs : List Loc} {cells slots : Nat} {Q : State → Prop}
variable {cc : ByteArray} {pc : Nat} {ls : Array Slot} {b base : Nat} {D : va_G} {cl : List vw_C} {cA : Nat → ClassId} {RD own : String} {TB : List Cond} {cs : Nat → List Value} {h : pm_H} {r : List Value}
theorem pm_iastore {a : Nat} {i x : Int32} {y : pm_E} (hx : p.tables.exec = Jvm.exec) (hb : c.code = cc) (hK : va_K D cl (pm_tys RD cA) s) (hP : va_P D cl (pm_ws (pm_tr cA b base) base h) H) (hS : va_S (fun q => base ≤ q) s.heap H locs) (hdg : decode cc pc = .ok (.iastore, 1)) (q : pm_wri i x (pm_cell h a) = some y)
    (kk : ∀ (H1 : Heap) (locs1 : List Loc), va_P D cl (pm_ws (pm_tr cA b base) base (pm_wr h a y)) H1 → va_S (fun q => base ≤ q) s.heap H1 locs1 → W p l e R s m args below meth c H1 locs1 cells slots Q (F0 m (pc + 1) ls r)) : W p l e R s m args below meth c H locs cells slots Q (F0 m pc ls (.int x :: .int i :: .ref (pm_ad b base a) :: r)) := by
  unfold pm_wri at q
  split at q
  · rename_i e1
    split at q
    · rename_i e2
      split at q
      · rename_i e3
        cases q
        cases pm_beq e2
        obtain ⟨hin, rfl⟩ := pm_ix_s e3
        obtain ⟨k, rfl, q3⟩ := pm_cell_s e1
        refine va_iast hx hb hK hP (pm_ws_D _ base h) hS k 0 (pm_at (D := D) (cl := cl) (H := H) q3) rfl hin hdg (fun H1 locs1 hP1 _ hS1 => kk H1 locs1 ?_ hS1)
        rw [pm_wr_s, ← pm_ws_set]
        exact hP1
      · cases q
    · cases q
  · cases q
theorem pm_lastore {a : Nat} {i : Int32} {x : Int64} {y : pm_E} (hx : p.tables.exec = Jvm.exec) (hb : c.code = cc) (hK : va_K D cl (pm_tys RD cA) s) (hP : va_P D cl (pm_ws (pm_tr cA b base) base h) H) (hS : va_S (fun q => base ≤ q) s.heap H locs) (hdg : decode cc pc = .ok (.lastore, 1)) (q : pm_wrl i x (pm_cell h a) = some y)
    (kk : ∀ (H1 : Heap) (locs1 : List Loc), va_P D cl (pm_ws (pm_tr cA b base) base (pm_wr h a y)) H1 → va_S (fun q => base ≤ q) s.heap H1 locs1 → W p l e R s m args below meth c H1 locs1 cells slots Q (F0 m (pc + 1) ls r)) : W p l e R s m args below meth c H locs cells slots Q (F0 m pc ls (.long x :: .int i :: .ref (pm_ad b base a) :: r)) := by
  unfold pm_wrl at q
  split at q
  · rename_i e1
    split at q
    · rename_i e2
      split at q
      · rename_i e3
        cases q
        cases pm_beq e2
        obtain ⟨hin, rfl⟩ := pm_ix_s e3
        obtain ⟨k, rfl, q3⟩ := pm_cell_s e1
        refine va_last hx hb hK hP (pm_ws_D _ base h) hS k 1 (pm_at (D := D) (cl := cl) (H := H) q3) rfl hin hdg (fun H1 locs1 hP1 _ hS1 => kk H1 locs1 ?_ hS1)
        rw [pm_wr_s, ← pm_ws_set]
        exact hP1
      · cases q
    · cases q
  · cases q
theorem pm_bastore {a : Nat} {i x : Int32} {y : pm_E} (hx : p.tables.exec = Jvm.exec) (hb : c.code = cc) (hK : va_K D cl (pm_tys RD cA) s) (hP : va_P D cl (pm_ws (pm_tr cA b base) base h) H) (hS : va_S (fun q => base ≤ q) s.heap H locs) (hdg : decode cc pc = .ok (.bastore, 1)) (q : pm_wrb i x (pm_cell h a) = some y)
    (kk : ∀ (H1 : Heap) (locs1 : List Loc), va_P D cl (pm_ws (pm_tr cA b base) base (pm_wr h a y)) H1 → va_S (fun q => base ≤ q) s.heap H1 locs1 → W p l e R s m args below meth c H1 locs1 cells slots Q (F0 m (pc + 1) ls r)) : W p l e R s m args below meth c H locs cells slots Q (F0 m pc ls (.int x :: .int i :: .ref (pm_ad b base a) :: r)) := by
  unfold pm_wrb at q
  split at q
  · rename_i e1
    split at q
    · rename_i e2
      split at q
      · rename_i e3
        cases q
        cases pm_beq e2
        obtain ⟨hin, rfl⟩ := pm_ix_s e3
        obtain ⟨k, rfl, q3⟩ := pm_cell_s e1
        refine va_bast hx hb hK hP (pm_ws_D _ base h) hS k 2 (pm_at (D := D) (cl := cl) (H := H) q3) rfl hin hdg (fun H1 locs1 hP1 _ hS1 => kk H1 locs1 ?_ hS1)
        rw [pm_wr_s, ← pm_ws_set]
        exact hP1
      · cases q
    · rename_i e2 _
      split at q
      · rename_i e3
        cases q
        cases pm_beq e2
        obtain ⟨hin, rfl⟩ := pm_ix_s e3
        obtain ⟨k, rfl, q3⟩ := pm_cell_s e1
        refine va_zast hx hb hK hP (pm_ws_D _ base h) hS k 3 (pm_at (D := D) (cl := cl) (H := H) q3) rfl hin hdg (fun H1 locs1 hP1 _ hS1 => kk H1 locs1 ?_ hS1)
        rw [pm_wr_s, ← pm_ws_set]
        exact hP1
      · cases q
    · cases q
  · cases q
theorem pm_aastore {a x ci : Nat} {i : Int32} {y : pm_E} {T : u_T} {N : Nat} (hx : p.tables.exec = Jvm.exec) (hb : c.code = cc) (hK : va_K D cl (pm_tys RD cA) s) (hP : va_P D cl (pm_ws (pm_tr cA b base) base h) H) (hS : va_S (fun q => base ≤ q) s.heap H locs) (hci : cl[ci]? = some (RD, T, N)) (hdg : decode cc pc = .ok (.aastore, 1)) (q : pm_wra ci i x (pm_cell h x) (pm_cell h a) = some y)
    (kk : ∀ (H1 : Heap) (locs1 : List Loc), va_P D cl (pm_ws (pm_tr cA b base) base (pm_wr h a y)) H1 → va_S (fun q => base ≤ q) s.heap H1 locs1 → W p l e R s m args below meth c H1 locs1 cells slots Q (F0 m (pc + 1) ls r)) : W p l e R s m args below meth c H locs cells slots Q (F0 m pc ls (.ref (pm_ad b base x) :: .int i :: .ref (pm_ad b base a) :: r)) := by
  unfold pm_wra at q
  split at q
  · rename_i k9 n f c9 fs e1 e0
    split at q
    · rename_i e2 e4
      split at q
      · rename_i e3
        cases q
        cases pm_beq e2
        cases pm_beq e4
        obtain ⟨hin, rfl⟩ := pm_ix_s e3
        obtain ⟨k, rfl, q3⟩ := pm_cell_s e1
        obtain ⟨kx, rfl, q4⟩ := pm_cell_s e0
        refine va_astq (r := (RD, T, N)) hx hb hK hP (pm_ws_D _ base h) hS k 6 kx ci (pm_at (D := D) (cl := cl) (H := H) q3) rfl (pm_at (D := D) (cl := cl) (H := H) q4) hci hin hdg (fun H1 locs1 hP1 _ hS1 => kk H1 locs1 ?_ hS1)
        rw [pm_wr_s, ← pm_ws_set]
        have e9 : pm_tr cA b base (.inl (6, n, .inr (.inr (.inr (.inr (va_up f i.toNatClampNeg (some (kx + 1)))))))) = .inl (cA 6, n, .inr (.inr (.inr (.inr (va_up (fun j => (f j).map (pm_ad b base)) i.toNatClampNeg (some (base + kx))))))) := by
          show Sum.inl (cA 6, n, Sum.inr (Sum.inr (Sum.inr (Sum.inr (fun j => (va_up f i.toNatClampNeg (some (kx + 1)) j).map (pm_ad b base)))))) = _
          congr 7
          funext j
          unfold va_up
          split <;> rfl
        rw [e9]
        exact hP1
      · cases q
    · cases q
  · cases q
theorem pm_arraylength {a : Nat} {v : Value} (hx : p.tables.exec = Jvm.exec) (hb : c.code = cc) (hK : va_K D cl (pm_tys RD cA) s) (hP : va_P D cl (pm_ws (pm_tr cA b base) base h) H) (hdg : decode cc pc = .ok (.arraylength, 1)) (q : pm_len (pm_cell h a) = some v)
    (kk : W p l e R s m args below meth c H locs cells slots Q (F0 m (pc + 1) ls (pm_sh b base v :: r))) : W p l e R s m args below meth c H locs cells slots Q (F0 m pc ls (.ref (pm_ad b base a) :: r)) := by
  unfold pm_len at q
  split at q
  · rename_i kd n f e1
    split at q
    · rename_i e2
      cases q
      obtain ⟨k, rfl, q3⟩ := pm_cell_s e1
      have hle := Nat.le_of_ble_eq_true e2
      have key : ∀ ty : FieldType, (pm_tys RD cA)[kd]? = some (cA kd, ty) → W p l e R s m args below meth c H locs cells slots Q (F0 m pc ls (.ref (base + k) :: r)) := by
        intro ty ht
        obtain f | f | f | f | f := f
        · exact va_alen (x := (n, .inl f)) hx hb hK hP k kd (pm_at (D := D) (cl := cl) (H := H) q3) ht rfl hdg kk
        · exact va_alen (x := (n, .inr (.inl f))) hx hb hK hP k kd (pm_at (D := D) (cl := cl) (H := H) q3) ht rfl hdg kk
        · exact va_alen (x := (n, .inr (.inr (.inl f)))) hx hb hK hP k kd (pm_at (D := D) (cl := cl) (H := H) q3) ht rfl hdg kk
        · exact va_alen (x := (n, .inr (.inr (.inr (.inl f))))) hx hb hK hP k kd (pm_at (D := D) (cl := cl) (H := H) q3) ht rfl hdg kk
        · exact va_alen (x := (n, .inr (.inr (.inr (.inr (fun j => (f j).map (pm_ad b base))))))) hx hb hK hP k kd (pm_at (D := D) (cl := cl) (H := H) q3) ht rfl hdg kk
      rcases (show kd = 0 ∨ kd = 1 ∨ kd = 2 ∨ kd = 3 ∨ kd = 4 ∨ kd = 5 ∨ kd = 6 by omega) with rfl | rfl | rfl | rfl | rfl | rfl | rfl <;> exact key _ rfl
    · cases q
  · cases q
/-- a new cell at the end of the heap -/
theorem pm_grow {H1 : Heap} {x : pm_E} (hP : va_P D cl (pm_ws (pm_tr cA b base) base h) H) (hS : va_S (fun q => base ≤ q) s.heap H locs) (hz : H.size = base + h.length) (z1 : H1.size = H.size + 1) (o1 : ∀ q : Nat, q < H.size → H1[q]? = H[q]?) (hat : va_at D cl (base + h.length, pm_tr cA b base x) H1) :
    va_P D cl (pm_ws (pm_tr cA b base) base (h ++ [x])) H1 ∧ va_S (fun q => base ≤ q) s.heap H1 locs := by
  refine ⟨?_, Nat.le_trans hS.1 (by omega), fun q h1 h2 => (o1 q (Nat.lt_of_lt_of_le h1 hS.1)).trans (hS.2.1 q h1 h2), hS.2.2⟩
  rw [pm_ws_app]
  refine (hP.kept (fun k q hk => o1 q.1 ((hP k q hk).lt))).app (fun k q hk => ?_)
  have hk0 : k < 1 := (List.getElem?_eq_some_iff.mp hk).1
  rw [show k = 0 by omega] at hk
  cases hk
  exact hat
theorem pm_sz_s {n : Int32} {N : Nat} (q : pm_sz n = some N) : ¬ n < 0 ∧ n.toNatClampNeg = N ∧ N ≤ 67108864 := by
  unfold pm_sz at q; split at q
  · cases q
  · rename_i h0
    split at q
    · rename_i h1; cases q; exact ⟨h0, rfl, Nat.le_of_ble_eq_true h1⟩
    · cases q
theorem pm_nwa_s {h h' : pm_H} {r st' : List Value} {n : Int32} {f : Nat → pm_E} (q : pm_nwa h r n f = some (st', h')) : ∃ N, ¬ n < 0 ∧ n.toNatClampNeg = N ∧ N ≤ 67108864 ∧ st' = .ref (h.length + 1) :: r ∧ h' = h ++ [f N] := by
  unfold pm_nwa at q; split at q
  · rename_i e1
    obtain ⟨a1, a2, a3⟩ := pm_sz_s e1
    cases q
    exact ⟨_, a1, a2, a3, rfl, rfl⟩
  · cases q
theorem pm_newarray {aty : ArrayType} {ty : FieldType} {kd n0 : Nat} {n : Int32} {N : Nat} {x : pm_E} (hx : p.tables.exec = Jvm.exec) (hb : c.code = cc) (harr : (Jvm.Cond.arrayClass (newarray.typeOf aty)).before args s = true) (hty : newarray.typeOf aty = ty) (hprim : ∀ C, ty ≠ .object C) (hK : va_K D cl (pm_tys RD cA) s) (hP : va_P D cl (pm_ws (pm_tr cA b base) base h) H) (hS : va_S (fun q => base ≤ q) s.heap H locs) (h0 : s.heap.size = base + n0) (hc : cells + n0 = h.length)
    (hkd : (pm_tys RD cA)[kd]? = some (cA kd, ty)) (hcell : ∃ a0, pm_tr cA b base x = .inl (cA kd, a0) ∧ vp_cell (cA kd) a0 = arrV (cA kd) N (fun _ => defaultValue ty)) (hcb : componentBytes ty ≤ 8) (hn : ¬ n < 0) (hN : n.toNatClampNeg = N) (hN2 : N ≤ 67108864) (hcells : cells + 1 ≤ R.cells) (hslots : slots + N ≤ R.slots) (hdg : decode cc pc = .ok (.newarray aty, 2))
    (kk : ∀ H1 : Heap, va_P D cl (pm_ws (pm_tr cA b base) base (h ++ [x])) H1 → va_S (fun q => base ≤ q) s.heap H1 locs → W p l e R s m args below meth c H1 locs (cells + 1) (slots + N) Q (F0 m (pc + 2) ls (.ref (base + h.length) :: r))) : W p l e R s m args below meth c H locs cells slots Q (F0 m pc ls (.int n :: r)) := by
  refine pm_bound fun hbd => ?_
  have hz := pm_size hP hS h0 hc hbd
  subst hty
  refine va_newaK hx hb harr rfl hdg rfl hn hN (Nat.le_trans (Nat.mul_le_mul hN2 hcb) (Nat.le_refl _)) hcells hslots hz fun H1 cA1 e1 z1 o1 hAr hNm => ?_
  have hra := (hK.2 kd _ hkd).2
  have ec : cA1 = cA kd := by
    have h9 : s.vm.findClass ("[" ++ (newarray.typeOf aty).toString) = some (cA kd) := by
      cases aty <;> exact hra
    exact Option.some.inj (hNm.symm.trans h9)
  subst ec
  obtain ⟨a0, t1, t2⟩ := hcell
  obtain ⟨g1, g2⟩ := pm_grow (x := x) hP hS hz (by rw [z1, hz]) (fun q hq => o1 q (by rw [← hz]; exact hq)) (by
    rw [t1]
    show H1[base + h.length]? = some (vp_cell _ _)
    rw [t2]; exact e1)
  exact kk H1 g1 g2
theorem pm_anewarray {n0 x : Nat} {n : Int32} {N : Nat} (hx : p.tables.exec = Jvm.exec) (hb : c.code = cc) (hown : s.vm.findClass own = some m.cls) (hlink : (Jvm.Cond.classLink own x RD).before args s = true) (hover : (Jvm.Cond.arrayOver (.object RD)).before args s = true) (hK : va_K D cl (pm_tys RD cA) s) (hP : va_P D cl (pm_ws (pm_tr cA b base) base h) H) (hS : va_S (fun q => base ≤ q) s.heap H locs) (h0 : s.heap.size = base + n0) (hc : cells + n0 = h.length)
    (hn : ¬ n < 0) (hN : n.toNatClampNeg = N) (hN2 : N ≤ 67108864) (hcells : cells + 1 ≤ R.cells) (hslots : slots + N ≤ R.slots) (hdg : decode cc pc = .ok (.anewarray x, 3))
    (kk : ∀ H1 : Heap, va_P D cl (pm_ws (pm_tr cA b base) base (h ++ [.inl (6, N, .inr (.inr (.inr (.inr (fun _ => none)))))])) H1 → va_S (fun q => base ≤ q) s.heap H1 locs → W p l e R s m args below meth c H1 locs (cells + 1) (slots + N) Q (F0 m (pc + 3) ls (.ref (base + h.length) :: r))) : W p l e R s m args below meth c H locs cells slots Q (F0 m pc ls (.int n :: r)) := by
  refine pm_bound fun hbd => ?_
  have hz := pm_size hP hS h0 hc hbd
  subst hN
  refine W.anew hx hb hown hlink hover rfl hdg rfl hn (by omega) hcells hslots fun cA1 kA comp f1 f2 f3 f4 => ?_
  generalize hH1 : H.push ({ cls := cA1, slots := Array.replicate n.toNatClampNeg .null, vm := .none } : Cell) = H1
  have z1 : H1.size = H.size + 1 := by rw [← hH1, Array.size_push]
  have e1 : H1[H.size]? = some (arrV cA1 n.toNatClampNeg (fun _ => .null)) := by rw [← hH1, Array.getElem?_push_size, ← arrV_new]
  have o1 : ∀ q : Nat, q < H.size → H1[q]? = H[q]? := fun q hq => by rw [← hH1, Array.getElem?_push, if_neg (Nat.ne_of_lt hq)]
  obtain ⟨kA', comp', g1, g2, g3, g4⟩ := (hK.2 6 _ rfl).2
  have ec : cA1 = cA 6 := Option.some.inj (f1.symm.trans g4)
  subst ec
  obtain ⟨u1, u2⟩ := pm_grow (x := .inl (6, n.toNatClampNeg, .inr (.inr (.inr (.inr (fun _ => none)))))) hP hS hz z1 o1 (by
    show H1[base + h.length]? = some (vp_cell _ _)
    rw [← hz, e1]
    rfl)
  rw [hz]
  exact kk H1 u1 u2
theorem pm_newobj {n0 x ci : Nat} {C : String} {T : u_T} {N : Nat} (hx : p.tables.exec = Jvm.exec) (hb : c.code = cc) (hts : ∀ w ∈ TB, w.before args s = true) (hcl : pm_clOk cl TB cs) (hown : s.vm.findClass own = some m.cls) (hci : cl[ci]? = some (C, T, N)) (hlink : (Jvm.Cond.classLink own x C).before args s = true) (hinst : (Jvm.Cond.instantiable C N).before args s = true) (hini : (Jvm.Cond.initialized C).before args s = true)
    (hK : va_K D cl (pm_tys RD cA) s) (hP : va_P D cl (pm_ws (pm_tr cA b base) base h) H) (hS : va_S (fun q => base ≤ q) s.heap H locs) (h0 : s.heap.size = base + n0) (hc : cells + n0 = h.length) (hcells : cells + 1 ≤ R.cells) (hslots : slots + N ≤ R.slots) (hdg : decode cc pc = .ok (.new x, 3))
    (kk : ∀ H1 : Heap, va_P D cl (pm_ws (pm_tr cA b base) base (h ++ [.inr (ci, cs ci)])) H1 → va_S (fun q => base ≤ q) s.heap H1 locs → W p l e R s m args below meth c H1 locs (cells + 1) (slots + N) Q (F0 m (pc + 3) ls (.ref (base + h.length) :: r))) : W p l e R s m args below meth c H locs cells slots Q (F0 m pc ls r) := by
  refine pm_bound fun hbd => ?_
  have hz := pm_size hP hS h0 hc hbd
  obtain ⟨c1, c2, ⟨ty0, c3, c4⟩, c5, c6⟩ := hcl _ _ _ _ hci
  have hKn := hK.1 ci _ hci
  refine W.newcK hx hb hown hlink hinst hini rfl hdg hcells hslots hKn.2.1 hz fun H1 kC hkC e1 z1 o1 => ?_
  have es : (cs ci).map (pm_sh b base) = cs ci := by
    conv => rhs; rw [← List.map_id (cs ci)]
    exact List.map_congr_left (fun v hv => c6 v hv b base)
  obtain ⟨u1, u2⟩ := pm_grow (x := .inr (ci, cs ci)) hP hS hz (by rw [z1, hz]) (fun q hq => o1 q (by rw [← hz]; exact hq)) (by
    show va_at D cl (base + h.length, .inr (ci, (cs ci).map (pm_sh b base))) H1
    rw [es]
    exact ⟨_, hci, (u_born ty0 hts c1 hKn hkC e1 c3).to c4⟩)
  exact kk H1 u1 u2
end PM3

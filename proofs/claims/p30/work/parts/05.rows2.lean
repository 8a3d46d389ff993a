/-! the instructions that read and write cells, over the kit's rows -/
def pm_tyc (ty : FieldType) : Int := match ty with
  | .int => 0
  | .long => 1
  | .boolean => 2
  | .object _ => 3
  | .array _ => 3
  | _ => 9
theorem pm_fit_ok {ty : FieldType} {v : Value} {b base : Nat} (h : pm_fit (pm_tyc ty) v = true) : narrow ty (pm_sh b base v) = pm_sh b base v ∧ fits ty (pm_sh b base v) = true := by
  cases ty <;> cases v <;> first
    | exact ⟨rfl, rfl⟩
    | cases h
    | (rename_i x
       have h2 : (decide (x = 0) || decide (x = 1)) = true := h
       rw [Bool.or_eq_true, decide_eq_true_eq, decide_eq_true_eq] at h2
       rcases h2 with rfl | rfl <;> exact ⟨rfl, rfl⟩)
def pm_tys (RD : String) (cA : Nat → ClassId) : List (ClassId × FieldType) := [(cA 0, .int), (cA 1, .long), (cA 2, .byte), (cA 3, .boolean), (cA 4, .array .long), (cA 5, .array .int), (cA 6, .object RD)]
/-- what the tables say of the classes -/
def pm_clOk (cl : List vw_C) (TB : List Cond) (cs : Nat → List Value) : Prop := ∀ (ci : Nat) (C : String) (T : u_T) (N : Nat), cl[ci]? = some (C, T, N) →
  (∀ w ∈ u_ws C T N, w ∈ TB) ∧ (∀ a, a < N → ∀ b, b < N → a ≠ b → (T a).2.1 ≠ (T b).2.1) ∧ (∃ ty0 : Nat → FieldType, (∀ k, k < N → parseFieldDescriptor (T k).2.2.1 = some (ty0 k)) ∧ ∀ j, j < N → defaultValue (ty0 j) = vp_V (cs ci) j) ∧ (cs ci).length = N ∧ ∀ v ∈ cs ci, ∀ b base, pm_sh b base v = v
/-- what the tables say of an instruction that works on cells -/
def pm_okm (cl : List vw_C) (TB : List Cond) (RD own mname : String) (i : Instr) (r1 r2 : Nat) (cst : Int) : Prop := match i with
  | .getfield x => ∃ (C : String) (T : u_T) (N : Nat), cl[r1]? = some (C, T, N) ∧ r2 < N ∧ Jvm.Cond.fieldLink own x (T r2).1 (T r2).2.1 (T r2).2.2.1 ∈ TB
  | .putfield x => ∃ (C : String) (T : u_T) (N : Nat) (ty : FieldType), cl[r1]? = some (C, T, N) ∧ r2 < N ∧ Jvm.Cond.fieldLink own x (T r2).1 (T r2).2.1 (T r2).2.2.1 ∈ TB ∧ parseFieldDescriptor (T r2).2.2.1 = some ty ∧ pm_tyc ty = cst ∧ ((T r2).2.2.2 = true → mname = "<init>" ∧ (T r2).1 = own)
  | .newarray ty => Jvm.Cond.arrayClass (newarray.typeOf ty) ∈ TB
  | .anewarray x => Jvm.Cond.classLink own x RD ∈ TB ∧ Jvm.Cond.arrayOver (.object RD) ∈ TB
  | .multianewarray x d => d = 2 ∧ ((r1 = 4 ∧ r2 = 1 ∧ Jvm.Cond.classLink own x ("[" ++ (FieldType.array .long).toString) ∈ TB ∧ Jvm.Cond.arrayOver (.array .long) ∈ TB ∧ Jvm.Cond.arrayClass .long ∈ TB) ∨ (r1 = 5 ∧ r2 = 0 ∧ Jvm.Cond.classLink own x ("[" ++ (FieldType.array .int).toString) ∈ TB ∧ Jvm.Cond.arrayOver (.array .int) ∈ TB ∧ Jvm.Cond.arrayClass .int ∈ TB))
  | .new x => ∃ (C : String) (T : u_T) (N : Nat), cl[r1]? = some (C, T, N) ∧ Jvm.Cond.classLink own x C ∈ TB ∧ Jvm.Cond.instantiable C N ∈ TB ∧ Jvm.Cond.initialized C ∈ TB
  | .aastore => ∃ (T : u_T) (N : Nat), cl[r1]? = some (RD, T, N)
  | _ => True
theorem pm_ix_s {i : Int32} {n j : Nat} (h : pm_ix i n = some j) : vp_in i n ∧ j = i.toNatClampNeg := by
  unfold pm_ix at h; split at h
  · cases h
  · rename_i h0
    split at h
    · cases h
    · rename_i h1
      cases h
      refine ⟨fun q => ?_, rfl⟩
      rcases q with q | q
      · exact h0 q
      · rw [Nat.ble_eq_true_of_le q] at h1; cases h1
theorem pm_psh_s {h h' : pm_H} {r st' : List Value} {v : Option Value} (q : pm_psh h r v = some (st', h')) : ∃ x, v = some x ∧ st' = x :: r ∧ h' = h := by
  unfold pm_psh at q; split at q
  · cases q; exact ⟨_, rfl, rfl, rfl⟩
  · cases q
theorem pm_wrs_s {h h' : pm_H} {a : Nat} {r st' : List Value} {e : Option pm_E} (q : pm_wrs h a r e = some (st', h')) : ∃ x, e = some x ∧ st' = r ∧ h' = pm_wr h a x := by
  unfold pm_wrs at q; split at q
  · cases q; exact ⟨_, rfl, rfl, rfl⟩
  · cases q
theorem pm_wr_s (h : pm_H) (k : Nat) (x : pm_E) : pm_wr h (k + 1) x = h.set k x := pm_put_eq h x k
theorem pm_beq {a b : Nat} (h : Nat.beq a b = true) : a = b := Nat.eq_of_beq_eq_true h
/-- the heap is as long as our cells say -/
theorem pm_size {D : va_G} {cl : List vw_C} {g : pm_E → va_E} {base n0 cells : Nat} {h : pm_H} {H H0 : Heap} {A : Nat → Prop} {locs : List Loc} (hP : va_P D cl (pm_ws g base h) H) (hS : va_S A H0 H locs) (h0 : H0.size = base + n0) (hc : cells + n0 = h.length) (hX : H.size ≤ H0.size + cells) : H.size = base + h.length := by
  have h1 := hS.1
  by_cases e : h.length = 0
  · omega
  · have hlt : h.length - 1 < h.length := by omega
    have hk : (pm_ws g base h)[h.length - 1]? = some (base + (h.length - 1), g h[h.length - 1]) := by rw [pm_ws_get, List.getElem?_eq_getElem hlt]; rfl
    have := (hP _ _ hk).lt
    have h2 : base + (h.length - 1) < H.size := this
    omega
section PM2
variable {p : Program} {l : Launch} {e : Env} {R : Room} {s : State} {m : MethodId} {args : Array Value} {below : List Frame} {meth : Method} {c : Code} {H : Heap} {locs : List Loc} {cells slots : Nat} {Q : State → Prop}
theorem pm_bound {g : JFrame} (k : H.size ≤ s.heap.size + cells → W p l e R s m args below meth c H locs cells slots Q g) : W p l e R s m args below meth c H locs cells slots Q g := fun T hT X => k (by rw [← hT]; exact X.heapSize) T hT X
variable {cc : ByteArray} {pc : Nat} {ls : Array Slot} {b base : Nat} {D : va_G} {cl : List vw_C} {cA : Nat → ClassId} {RD own : String} {TB : List Cond} {cs : Nat → List Value} {h : pm_H} {r : List Value}
theorem pm_gf_s {r1 r2 : Nat} {o : Option pm_E} {v : Value} (q : pm_gf r1 r2 o = some v) : ∃ fs, o = some (.inr (r1, fs)) ∧ fs[r2]? = some v := by
  unfold pm_gf at q; split at q
  · split at q
    · rename_i e1; cases pm_beq e1; rw [pm_nth_eq] at q; exact ⟨_, rfl, q⟩
    · cases q
  · cases q
/-- getfield -/
theorem pm_getfield {r1 r2 x a : Nat} {v : Value} (hx : p.tables.exec = Jvm.exec) (hb : c.code = cc) (hts : ∀ w ∈ TB, w.before args s = true) (hcl : pm_clOk cl TB cs) (hown : s.vm.findClass own = some m.cls) (hK : va_K D cl (pm_tys RD cA) s) (hP : va_P D cl (pm_ws (pm_tr cA b base) base h) H)
    (hok : pm_okm cl TB RD own meth.name (.getfield x) r1 r2 0) (hdg : decode cc pc = .ok (.getfield x, 3)) (q : pm_gf r1 r2 (pm_cell h a) = some v)
    (kk : W p l e R s m args below meth c H locs cells slots Q (F0 m (pc + 3) ls (pm_sh b base v :: r))) : W p l e R s m args below meth c H locs cells slots Q (F0 m pc ls (.ref (pm_ad b base a) :: r)) := by
  obtain ⟨fs, q1, q2⟩ := pm_gf_s q
  obtain ⟨k, rfl, q3⟩ := pm_cell_s q1
  obtain ⟨C, T, N, o1, o2, o3⟩ := hok
  exact va_get hx hb hts (hcl _ _ _ _ o1).1 hown hK hP k (pm_at (D := D) (cl := cl) (H := H) q3) o1 r2 o2 (hts _ o3) (fun _ z => z) (by rw [List.getElem?_map, q2]; rfl) hdg kk
theorem pm_pf_s {r1 r2 : Nat} {ty : Int} {v : Value} {o : Option pm_E} {y : pm_E} (q : pm_pf r1 r2 ty v o = some y) : ∃ fs, o = some (.inr (r1, fs)) ∧ pm_fit ty v = true ∧ r2 < fs.length ∧ y = .inr (r1, fs.set r2 v) := by
  unfold pm_pf at q; split at q
  · split at q
    · rename_i e1 e2 e3; cases pm_beq e1; cases q; exact ⟨_, rfl, e2, Nat.le_of_ble_eq_true e3, by rw [pm_put_eq]⟩
    · cases q
  · cases q
/-- putfield -/
theorem pm_putfield {r1 r2 x a : Nat} {cst : Int} {v : Value} {y : pm_E} (hx : p.tables.exec = Jvm.exec) (hb : c.code = cc) (hts : ∀ w ∈ TB, w.before args s = true) (hcl : pm_clOk cl TB cs) (hown : s.vm.findClass own = some m.cls) (hK : va_K D cl (pm_tys RD cA) s) (hP : va_P D cl (pm_ws (pm_tr cA b base) base h) H) (hS : va_S (fun q => base ≤ q) s.heap H locs)
    (hok : pm_okm cl TB RD own meth.name (.putfield x) r1 r2 cst) (hdg : decode cc pc = .ok (.putfield x, 3)) (q : pm_pf r1 r2 cst v (pm_cell h a) = some y)
    (kk : ∀ (H1 : Heap) (locs1 : List Loc), va_P D cl (pm_ws (pm_tr cA b base) base (pm_wr h a y)) H1 → va_S (fun q => base ≤ q) s.heap H1 locs1 → W p l e R s m args below meth c H1 locs1 cells slots Q (F0 m (pc + 3) ls r)) : W p l e R s m args below meth c H locs cells slots Q (F0 m pc ls (pm_sh b base v :: .ref (pm_ad b base a) :: r)) := by
  obtain ⟨fs, q1, q2, q4, rfl⟩ := pm_pf_s q
  obtain ⟨k, rfl, q3⟩ := pm_cell_s q1
  obtain ⟨C, T, N, ty, o1, o2, o3, o4, rfl, o6⟩ := hok
  obtain ⟨c1, c2, ⟨ty0, c3, -⟩, -⟩ := hcl _ _ _ _ o1
  obtain ⟨f1, f2⟩ := pm_fit_ok (b := b) (base := base) q2
  have hD := pm_ws_D (pm_tr cA b base) base h
  have hk : ∀ (H1 : Heap) (locs1 : List Loc), va_P D cl ((pm_ws (pm_tr cA b base) base h).set k (base + k, .inr (r1, (fs.map (pm_sh b base)).set r2 (pm_sh b base v)))) H1 → va_D (fun q => base ≤ q) ((pm_ws (pm_tr cA b base) base h).set k (base + k, .inr (r1, (fs.map (pm_sh b base)).set r2 (pm_sh b base v)))) → va_S (fun q => base ≤ q) s.heap H1 locs1 → W p l e R s m args below meth c H1 locs1 cells slots Q (F0 m (pc + 3) ls r) := by
    intro H1 locs1 hP1 _ hS1
    refine kk H1 locs1 ?_ hS1
    rw [pm_wr_s, ← pm_ws_set]
    have e9 : pm_tr cA b base (.inr (r1, fs.set r2 v)) = .inr (r1, (fs.map (pm_sh b base)).set r2 (pm_sh b base v)) := by
      show Sum.inr (r1, (fs.set r2 v).map (pm_sh b base)) = _
      rw [List.map_set]
    rw [e9]
    exact hP1
  cases hfin : (T r2).2.2.2 with
  | false => exact va_put hx hb hts c1 ty0 c3 c2 hown hK hP hD hS k (pm_at (D := D) (cl := cl) (H := H) q3) o1 r2 o2 (hts _ o3) (fun _ z => z) hfin o4 f1 f2 (by rw [List.length_map]; exact q4) hdg hk
  | true => exact va_putF hx hb hts c1 ty0 c3 c2 hown hK hP hD hS k (pm_at (D := D) (cl := cl) (H := H) q3) o1 r2 o2 (hts _ o3) (fun _ z => z) hfin (o6 hfin).1 (o6 hfin).2 o4 f1 f2 (by rw [List.length_map]; exact q4) hdg hk
/-- array loads -/
theorem pm_iaload {a : Nat} {i : Int32} {v : Value} (hx : p.tables.exec = Jvm.exec) (hb : c.code = cc) (hK : va_K D cl (pm_tys RD cA) s) (hP : va_P D cl (pm_ws (pm_tr cA b base) base h) H) (hdg : decode cc pc = .ok (.iaload, 1)) (q : pm_rdi i (pm_cell h a) = some v)
    (kk : W p l e R s m args below meth c H locs cells slots Q (F0 m (pc + 1) ls (pm_sh b base v :: r))) : W p l e R s m args below meth c H locs cells slots Q (F0 m pc ls (.int i :: .ref (pm_ad b base a) :: r)) := by
  unfold pm_rdi at q
  split at q
  · rename_i e1
    split at q
    · rename_i e2
      split at q
      · rename_i e3
        cases q
        cases pm_beq e2
        obtain ⟨hin, rfl⟩ := pm_ix_s e3
        obtain ⟨k, rfl, q3⟩ := pm_cell_s e1
        exact va_iald hx hb hK hP k 0 (pm_at (D := D) (cl := cl) (H := H) q3) rfl hin hdg kk
      · cases q
    · cases q
  · cases q
theorem pm_laload {a : Nat} {i : Int32} {v : Value} (hx : p.tables.exec = Jvm.exec) (hb : c.code = cc) (hK : va_K D cl (pm_tys RD cA) s) (hP : va_P D cl (pm_ws (pm_tr cA b base) base h) H) (hdg : decode cc pc = .ok (.laload, 1)) (q : pm_rdl i (pm_cell h a) = some v)
    (kk : W p l e R s m args below meth c H locs cells slots Q (F0 m (pc + 1) ls (pm_sh b base v :: r))) : W p l e R s m args below meth c H locs cells slots Q (F0 m pc ls (.int i :: .ref (pm_ad b base a) :: r)) := by
  unfold pm_rdl at q
  split at q
  · rename_i e1
    split at q
    · rename_i e2
      split at q
      · rename_i e3
        cases q
        cases pm_beq e2
        obtain ⟨hin, rfl⟩ := pm_ix_s e3
        obtain ⟨k, rfl, q3⟩ := pm_cell_s e1
        exact va_lald hx hb hK hP k 1 (pm_at (D := D) (cl := cl) (H := H) q3) rfl hin hdg kk
      · cases q
    · cases q
  · cases q
theorem pm_baload {a : Nat} {i : Int32} {v : Value} (hx : p.tables.exec = Jvm.exec) (hb : c.code = cc) (hK : va_K D cl (pm_tys RD cA) s) (hP : va_P D cl (pm_ws (pm_tr cA b base) base h) H) (hdg : decode cc pc = .ok (.baload, 1)) (q : pm_rdb i (pm_cell h a) = some v)
    (kk : W p l e R s m args below meth c H locs cells slots Q (F0 m (pc + 1) ls (pm_sh b base v :: r))) : W p l e R s m args below meth c H locs cells slots Q (F0 m pc ls (.int i :: .ref (pm_ad b base a) :: r)) := by
  unfold pm_rdb at q
  split at q
  · rename_i kd n f e1
    split at q
    · cases q
    · rename_i e2
      split at q
      · rename_i e3
        cases q
        obtain ⟨hin, rfl⟩ := pm_ix_s e3
        obtain ⟨k, rfl, q3⟩ := pm_cell_s e1
        cases e4 : Nat.beq kd 2 with
        | true =>
          cases pm_beq e4
          exact va_bald hx hb hK hP k 2 (pm_at (D := D) (cl := cl) (H := H) q3) rfl hin hdg kk
        | false =>
          cases e5 : Nat.beq kd 3 with
          | true =>
            cases pm_beq e5
            exact va_zald hx hb hK hP k 3 (pm_at (D := D) (cl := cl) (H := H) q3) rfl hin hdg kk
          | false => exact (e2 e4 e5).elim
      · cases q
  · cases q
theorem pm_rf (o : Option Nat) : pm_sh b base (va_rf o) = va_rf (o.map (pm_ad b base)) := by cases o <;> rfl
theorem pm_aaload {a : Nat} {i : Int32} {v : Value} (hx : p.tables.exec = Jvm.exec) (hb : c.code = cc) (hK : va_K D cl (pm_tys RD cA) s) (hP : va_P D cl (pm_ws (pm_tr cA b base) base h) H) (hdg : decode cc pc = .ok (.aaload, 1)) (q : pm_rda i (pm_cell h a) = some v)
    (kk : W p l e R s m args below meth c H locs cells slots Q (F0 m (pc + 1) ls (pm_sh b base v :: r))) : W p l e R s m args below meth c H locs cells slots Q (F0 m pc ls (.int i :: .ref (pm_ad b base a) :: r)) := by
  unfold pm_rda at q
  split at q
  · rename_i kd n f e1
    split at q
    · cases q
    · rename_i e2
      split at q
      · rename_i e3
        cases q
        obtain ⟨hin, rfl⟩ := pm_ix_s e3
        obtain ⟨k, rfl, q3⟩ := pm_cell_s e1
        rw [pm_rf] at kk
        have hlt : i.toNatClampNeg < n := Nat.not_le.mp fun z => hin (Or.inr z)
        have key : ∀ (t0 : Nat) (ty : FieldType), (pm_tys RD cA)[t0]? = some (cA kd, ty) → ty.isReference = true → W p l e R s m args below meth c H locs cells slots Q (F0 m pc ls (.int i :: .ref (base + k) :: r)) := fun t0 ty ht hr =>
          W.aald (v := va_rf ((f i.toNatClampNeg).map (pm_ad b base))) (ty := ty) hx hb (hP k _ (pm_at (D := D) (cl := cl) (H := H) q3)) ((hK.2 t0 _ ht).1 n (fun j => va_rf ((f j).map (pm_ad b base)))) hr (fun z => by cases z) (by show ¬ (i < 0 ∨ (arrV _ _ _).slots.size ≤ _); rw [arrV_size]; exact hin) (by show (arrV _ _ _).slots[_]? = _; rw [arrV_read _ _ hlt]) rfl rfl hdg kk
        cases e4 : Nat.beq kd 4 with
        | true => cases pm_beq e4; exact key 4 _ rfl rfl
        | false =>
          cases e5 : Nat.beq kd 5 with
          | true => cases pm_beq e5; exact key 5 _ rfl rfl
          | false =>
            cases e6 : Nat.beq kd 6 with
            | true => cases pm_beq e6; exact key 6 _ rfl rfl
            | false => exact (e2 e4 e5 e6).elim
      · cases q
  · cases q
end PM2

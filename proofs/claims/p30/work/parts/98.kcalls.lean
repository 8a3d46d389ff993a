/-! each call of both, as a run of calls needs it: printed by wip/tools/law2.py -/
theorem cl_feed {z w : mZ} {p : mP} (y1 : Int32) (y2 : Int32) (y3 : Int32) (y4 : Int32) (y5 : Int32) (h : kqC z w p) : wc 9 102 [.ref 1, .int y1, .int y2, .int y3, .int y4, .int y5] (mk z w p) (kqQ kqfF kqgF (kqDf y1.toInt y2.toInt y3.toInt y4.toInt y5.toInt) z w p) := by
  obtain ⟨t, u, tx, it, mt, tt, ct, ht, hu, htu, rfl, hz, hw, hcv, hg⟩ := h
  obtain ⟨a1, i1, rfl⟩ := hv_i y1
  unfold inI at i1
  obtain ⟨a2, i2, rfl⟩ := hv_i y2
  unfold inI at i2
  obtain ⟨a3, i3, rfl⟩ := hv_i y3
  unfold inI at i3
  obtain ⟨a4, i4, rfl⟩ := hv_i y4
  unfold inI at i4
  obtain ⟨a5, i5, rfl⟩ := hv_i y5
  unfold inI at i5
  rw [ofI_toInt (e := a1) ⟨by omega, by omega⟩, ofI_toInt (e := a2) ⟨by omega, by omega⟩, ofI_toInt (e := a3) ⟨by omega, by omega⟩, ofI_toInt (e := a4) ⟨by omega, by omega⟩, ofI_toInt (e := a5) ⟨by omega, by omega⟩]
  refine wc_mono (m_102w (d := 7) t a1 a2 a3 a4 a5 hz hw (by omega) (by omega) (by omega) (by omega) (by omega) ht hcv) ?_
  rintro R ⟨v, z', w', p', rfl, hv, hs, rfl, -, -, hc, hga, hx⟩
  refine ⟨_, z', w', _, _, rfl, ?_, kqC_m ht hu htu hs hc (hg.imp id fun q => ⟨q.1, hga q.2⟩), ?_, hs, rfl, ⟨⟨hs.2.2.1 _ _ (dF_n (i := 16) (j := 17) rfl (by omega) (by omega)), hs.2.2.1 _ _ (dF_n (i := 16) (j := 17) rfl (by omega) (by omega))⟩, kqt_T hs rfl (⟨pp_1_13.trans pp_1_13.symm, pp_10_2.trans pp_10_2.symm⟩)⟩, ?_, kqn_N hs rfl⟩
  · unfold kqgF; rcases hx with ⟨c1, c2, c3, c4⟩ | ⟨c1, c2, c3, c4, c5⟩; (rw [if_neg (by omega), c2]); (rw [if_pos (by omega), c2])
  · unfold kqfF; rcases hx with ⟨c1, c2, c3, c4⟩ | ⟨c1, c2, c3, c4, c5⟩; (rw [if_neg (by omega), c3]); (rw [if_pos (by omega), c3, c2])
  · rcases hx with ⟨c1, c2, c3, c4⟩ | ⟨c1, c2, c3, c4, c5⟩; (exact ⟨fun q => absurd q (by omega), fun i hi => by dsimp only; rw [c4 i hi]⟩); (exact ⟨fun _ j hj => c4 j hj, fun i hi => by dsimp only; rw [c5 i hi]⟩)
theorem cl_end {z w : mZ} {p : mP} (a1 : Int) (i1 : inI a1) (h : kqC z w p) : wc 9 104 [.ref 1, .int (Int32.ofInt a1)] (mk z w p) (kqQ (kqfE a1) (kqgE a1) kqDK z w p) := by
  obtain ⟨t, u, tx, it, mt, tt, ct, ht, hu, htu, rfl, hz, hw, hcv, hg⟩ := h
  unfold inI at i1
  exact qc_g (f := kqfE a1) (h := fun n => if 0 ≤ a1 ∧ a1 ≤ n then a1 else -1) rfl rfl rfl (m_104v (d := 8) t a1 hz hw (by omega) ht hcv) (by rintro v z' w' p' hs ⟨rfl, -, -, hc, hga, hx⟩; refine ⟨kqC_m ht hu htu hs hc (hg.imp id fun q => ⟨q.1, hga q.2⟩), ?_, ⟨pp_1_13.trans pp_1_13.symm, pp_10_2.trans pp_10_2.symm⟩⟩; unfold kqfE; rcases hx with ⟨c1, c2, c3⟩ | ⟨c0, c1, c2, c3⟩; (rw [if_neg (by omega), if_neg (by omega)]; exact ⟨c3, c2⟩); (rw [if_pos ⟨c0, c1⟩, if_pos ⟨c0, c1⟩]; exact ⟨c3, c2⟩))
theorem cl_ground {z w : mZ} {p : mP} (h : kqC z w p) : wc 9 105 [.ref 1] (mk z w p) (kqQ kqf0 kqgI kqDg z w p) := by
  obtain ⟨t, u, tx, it, mt, tt, ct, ht, hu, htu, rfl, hz, hw, hcv, hg⟩ := h
  refine wc_mono (m_105j (d := 2) t u hz hw ht hu hcv htu) ?_
  rintro R ⟨v, z', w', p', rfl, hv, hs, x_e, y_e, tx_e, it_e, mt_e, tt_e, rfl, -, -, h15, hx, hgr, hty, hfr, hcl⟩
  have hn : t ≠ u := by omega
  have hub : 159 ≤ u := by have := hu; unfold isT at this; omega
  rcases hx with ⟨rfl, rfl, rfl, hc, hga⟩ | ⟨rfl, rfl, rfl, hc, hga⟩
  · refine ⟨_, z', w', _, _, rfl, ⟨_, rfl⟩, kqC_m ht hu htu hs hc (hg.imp id fun q => ⟨q.1, hga q.2⟩), h15, hs, by rcases hu with rfl | rfl <;> rfl, ⟨v, hv, rfl, hgr⟩, ?_⟩
    rcases hty with ⟨q1, -⟩ | ⟨q1, e, -⟩
    · exact Or.inl ⟨q1, ⟨⟨⟨(hfr q1 39 (by omega) (Or.inl (by omega)) 0).1, (hfr q1 39 (by omega) (Or.inl (by omega)) 1).1, (hfr q1 39 (by omega) (Or.inl (by omega)) 2).1⟩, fun a h1 h2 => funext fun i => (hfr q1 a (by omega) (Or.inl (by omega)) i).2⟩, fun b hb => ⟨(hfr q1 147 (by omega) (Or.inl (by omega)) b).1, funext fun i => (hfr q1 (144 + b) (by omega) (Or.inl (by omega)) i).2⟩⟩, ⟨pp_1_13.trans pp_1_13.symm, pp_10_2.trans pp_10_2.symm⟩, fun t0 e => by rw [pp_1_13] at e; cases e; exact ⟨ht, fun a h1 h2 i => hfr q1 a (by have := ht; unfold isT at this; omega) (by omega) i, fun a h1 h2 i => (hfr q1 a (by omega) (Or.inl (by have := hu; unfold isT at this; omega)) i).1⟩⟩
    · injection e with e; exact absurd e hn
  · refine ⟨_, z', w', _, _, rfl, ⟨_, rfl⟩, kqC_m hu ht htu.symm hs hc (Or.inr ⟨rfl, hga⟩), h15, hs, by rcases hu with rfl | rfl <;> rfl, ⟨v, hv, rfl, hgr⟩, ?_⟩
    rcases hty with ⟨q1, e⟩ | ⟨q1, -, ty⟩
    · injection e with e; exact absurd e.symm hn
    · exact Or.inr ⟨q1, u, hu, pp_1_13, pp_10_2, ty, hcl q1⟩
theorem cl_fault {z w : mZ} {p : mP} (y1 : Int32) (h : kqC z w p) : wc 9 106 [.ref 1, .int y1] (mk z w p) (kqQ kqfI kqgI (kqDq y1.toInt) z w p) := by
  obtain ⟨t, u, tx, it, mt, tt, ct, ht, hu, htu, rfl, hz, hw, hcv, hg⟩ := h
  obtain ⟨a1, i1, rfl⟩ := hv_i y1
  unfold inI at i1
  rw [ofI_toInt (e := a1) ⟨by omega, by omega⟩]
  refine wc_mono (m_106w (d := 8) t a1 hz hw (by omega) ht hcv) ?_
  rintro R ⟨v, z', w', p', rfl, hv, hs, rfl, rfl, rfl, -, -, hc, hga, h15, q0, q1, q2⟩
  exact ⟨_, _, _, _, _, rfl, ⟨_, rfl⟩, kqC_m ht hu htu hs hc (hg.imp id fun q => ⟨q.1, hga q.2⟩), h15, hs, rfl, by rw [fq_i q0 q1 q2], kqk_K hs rfl ⟨rfl, rfl⟩, kqn_N hs rfl⟩
theorem cl_point {z w : mZ} {p : mP} (y1 : Int32) (y2 : Int32) (h : kqC z w p) : wc 9 107 [.ref 1, .int y1, .int y2] (mk z w p) (kqQ kqfI kqgI kqDK z w p) := by
  obtain ⟨t, u, tx, it, mt, tt, ct, ht, hu, htu, rfl, hz, hw, hcv, hg⟩ := h
  obtain ⟨a1, i1, rfl⟩ := hv_i y1
  unfold inI at i1
  obtain ⟨a2, i2, rfl⟩ := hv_i y2
  unfold inI at i2
  exact qc_I (f := kqfI) rfl rfl rfl (m_107x (d := 8) t u a1 a2 hz hw (by omega) (by omega) ht hu hcv) (by rintro v z' w' p' hs ⟨rfl, rfl, rfl, -, -, hc, hga, h15, -, -⟩; exact ⟨⟨kqC_m ht hu htu hs hc (hg.imp id fun q => ⟨q.1, hga q.2⟩), h15⟩, ⟨pp_1_13.trans pp_1_13.symm, pp_10_2.trans pp_10_2.symm⟩⟩)
theorem cl_number {z w : mZ} {p : mP} (y1 : Int32) (y2 : Int32) (h : kqC z w p) : wc 9 108 [.ref 1, .int y1, .int y2] (mk z w p) (kqQ kqfI kqgL kqDK z w p) := by
  obtain ⟨t, u, tx, it, mt, tt, ct, ht, hu, htu, rfl, hz, hw, hcv, hg⟩ := h
  obtain ⟨a1, i1, rfl⟩ := hv_i y1
  unfold inI at i1
  obtain ⟨a2, i2, rfl⟩ := hv_i y2
  unfold inI at i2
  exact qc_L (f := kqfI) rfl rfl rfl (m_108v (d := 6) t u a1 a2 hz hw (by omega) (by omega) ht hu hcv) (by rintro v z' w' p' hs ⟨rfl, rfl, rfl, -, -, hc, hga, h15⟩; exact ⟨⟨kqC_m ht hu htu hs hc (hg.imp id fun q => ⟨q.1, hga q.2⟩), h15⟩, ⟨pp_1_13.trans pp_1_13.symm, pp_10_2.trans pp_10_2.symm⟩⟩)
theorem cl_loops {z w : mZ} {p : mP} (y1 : Int32) (y2 : Int32) (h : kqC z w p) : wc 9 109 [.ref 1, .int y1, .int y2] (mk z w p) (kqQ kqfI kqgI kqDK z w p) := by
  obtain ⟨t, u, tx, it, mt, tt, ct, ht, hu, htu, rfl, hz, hw, hcv, hg⟩ := h
  obtain ⟨a1, i1, rfl⟩ := hv_i y1
  unfold inI at i1
  obtain ⟨a2, i2, rfl⟩ := hv_i y2
  unfold inI at i2
  exact qc_I (f := kqfI) rfl rfl rfl (m_109v (d := 4) t u a1 a2 hz hw (by omega) (by omega) ht hu hcv) (by rintro v z' w' p' hs ⟨tt_e, rfl, -, -, hc, hga, h15⟩; exact ⟨⟨kqC_m ht hu htu hs hc (hg.imp id fun q => ⟨q.1, hga q.2⟩), h15⟩, ⟨pp_1_13.trans pp_1_13.symm, pp_10_2.trans pp_10_2.symm⟩⟩)
theorem cl_traced {z w : mZ} {p : mP} (y1 : Int32) (y2 : Int32) (h : kqC z w p) : wc 9 110 [.ref 1, .int y1, .int y2] (mk z w p) (kqQ kqfI kqgI kqDK z w p) := by
  obtain ⟨t, u, tx, it, mt, tt, ct, ht, hu, htu, rfl, hz, hw, hcv, hg⟩ := h
  obtain ⟨a1, i1, rfl⟩ := hv_i y1
  unfold inI at i1
  obtain ⟨a2, i2, rfl⟩ := hv_i y2
  unfold inI at i2
  exact qc_I (f := kqfI) rfl rfl rfl (m_110v (d := 5) t u a1 a2 hz hw (by omega) (by omega) ht hu hcv) (by rintro v z' w' p' hs ⟨tt_e, rfl, -, -, hc, hga, h15⟩; exact ⟨⟨kqC_m ht hu htu hs hc (hg.imp id fun q => ⟨q.1, hga q.2⟩), h15⟩, ⟨pp_1_13.trans pp_1_13.symm, pp_10_2.trans pp_10_2.symm⟩⟩)
theorem cl_flips {z w : mZ} {p : mP} (y1 : Int32) (h : kqC z w p) : wc 9 111 [.ref 1, .int y1] (mk z w p) (kqQ kqfI kqgI kqDK z w p) := by
  obtain ⟨t, u, tx, it, mt, tt, ct, ht, hu, htu, rfl, hz, hw, hcv, hg⟩ := h
  obtain ⟨a1, i1, rfl⟩ := hv_i y1
  unfold inI at i1
  rcases hg with rfl | ⟨rfl, hG⟩
  · exact qc_I (f := kqfI) rfl rfl rfl (m_111z (d := 7) t u a1 hz hw (by omega) ht hu hcv) (by rintro v z' w' p' hs ⟨rfl, rfl, rfl, -, -, hc, hga, h15⟩; exact ⟨⟨kqC_m ht hu htu hs hc (Or.inl rfl), h15⟩, ⟨pp_1_13.trans pp_1_13.symm, pp_10_2.trans pp_10_2.symm⟩⟩)
  · exact qc_I (f := kqfI) rfl rfl rfl (m_111s (d := 7) t u a1 hz hw (by omega) ht hu hcv) (by rintro v z' w' p' hs ⟨rfl, rfl, rfl, -, -, hc, hga, h15⟩; exact ⟨⟨kqC_m ht hu htu hs hc (Or.inr ⟨rfl, hga hG⟩), h15⟩, ⟨pp_1_13.trans pp_1_13.symm, pp_10_2.trans pp_10_2.symm⟩⟩)
theorem cl_flip {z w : mZ} {p : mP} (y1 : Int32) (y2 : Int32) (h : kqC z w p) : wc 9 112 [.ref 1, .int y1, .int y2] (mk z w p) (kqQ kqfI kqgI kqDK z w p) := by
  obtain ⟨t, u, tx, it, mt, tt, ct, ht, hu, htu, rfl, hz, hw, hcv, hg⟩ := h
  obtain ⟨a1, i1, rfl⟩ := hv_i y1
  unfold inI at i1
  obtain ⟨a2, i2, rfl⟩ := hv_i y2
  unfold inI at i2
  rcases hg with rfl | ⟨rfl, hG⟩
  · exact qc_I (f := kqfI) rfl rfl rfl (m_112z (d := 7) t u a1 a2 hz hw (by omega) (by omega) ht hu hcv) (by rintro v z' w' p' hs ⟨rfl, rfl, rfl, -, -, hc, hga, h15⟩; exact ⟨⟨kqC_m ht hu htu hs hc (Or.inl rfl), h15⟩, ⟨pp_1_13.trans pp_1_13.symm, pp_10_2.trans pp_10_2.symm⟩⟩)
  · exact qc_I (f := kqfI) rfl rfl rfl (m_112s (d := 7) t u a1 a2 hz hw (by omega) (by omega) ht hu hcv) (by rintro v z' w' p' hs ⟨rfl, rfl, rfl, -, -, hc, hga, h15⟩; exact ⟨⟨kqC_m ht hu htu hs hc (Or.inr ⟨rfl, hga hG⟩), h15⟩, ⟨pp_1_13.trans pp_1_13.symm, pp_10_2.trans pp_10_2.symm⟩⟩)
theorem cl_cross {z w : mZ} {p : mP} (y1 : Int32) (y2 : Int32) (h : kqC z w p) : wc 9 113 [.ref 1, .int y1, .int y2] (mk z w p) (kqQ kqfI kqgL kqDK z w p) := by
  obtain ⟨t, u, tx, it, mt, tt, ct, ht, hu, htu, rfl, hz, hw, hcv, hg⟩ := h
  obtain ⟨a1, i1, rfl⟩ := hv_i y1
  unfold inI at i1
  obtain ⟨a2, i2, rfl⟩ := hv_i y2
  unfold inI at i2
  rcases hg with rfl | ⟨rfl, hG⟩
  · exact qc_L (f := kqfI) rfl rfl rfl (m_113z (d := 4) t u a1 a2 hz hw (by omega) (by omega) ht hu hcv) (by rintro v z' w' p' hs ⟨rfl, rfl, rfl, -, -, hc, hga, h15⟩; exact ⟨⟨kqC_m ht hu htu hs hc (Or.inl rfl), h15⟩, ⟨pp_1_13.trans pp_1_13.symm, pp_10_2.trans pp_10_2.symm⟩⟩)
  · exact qc_L (f := kqfI) rfl rfl rfl (m_113s (d := 4) t u a1 a2 hz hw (by omega) (by omega) ht hu hcv hG) (by rintro v z' w' p' hs ⟨rfl, -, -, hc, hga, h15⟩; exact ⟨⟨kqC_m ht hu htu hs hc (Or.inr ⟨rfl, hga hG⟩), h15⟩, ⟨pp_1_13.trans pp_1_13.symm, pp_10_2.trans pp_10_2.symm⟩⟩)
theorem cl_across {z w : mZ} {p : mP} (y1 : Int32) (y2 : Int32) (h : kqC z w p) : wc 9 114 [.ref 1, .int y1, .int y2] (mk z w p) (kqQ kqfI kqgI kqDK z w p) := by
  obtain ⟨t, u, tx, it, mt, tt, ct, ht, hu, htu, rfl, hz, hw, hcv, hg⟩ := h
  obtain ⟨a1, i1, rfl⟩ := hv_i y1
  unfold inI at i1
  obtain ⟨a2, i2, rfl⟩ := hv_i y2
  unfold inI at i2
  rcases hg with rfl | ⟨rfl, hG⟩
  · exact qc_I (f := kqfI) rfl rfl rfl (m_114z (d := 4) t u a1 a2 hz hw (by omega) (by omega) ht hu hcv) (by rintro v z' w' p' hs ⟨rfl, rfl, rfl, -, -, hc, hga, h15⟩; exact ⟨⟨kqC_m ht hu htu hs hc (Or.inl rfl), h15⟩, ⟨pp_1_13.trans pp_1_13.symm, pp_10_2.trans pp_10_2.symm⟩⟩)
  · exact qc_I (f := kqfI) rfl rfl rfl (m_114s (d := 4) t u a1 a2 hz hw (by omega) (by omega) ht hu hcv hG) (by rintro v z' w' p' hs ⟨tt_e, rfl, -, -, hc, hga, h15⟩; exact ⟨⟨kqC_m ht hu htu hs hc (Or.inr ⟨rfl, hga hG⟩), h15⟩, ⟨pp_1_13.trans pp_1_13.symm, pp_10_2.trans pp_10_2.symm⟩⟩)
theorem cl_kept {z w : mZ} {p : mP} (y1 : Int32) (h : kqC z w p) : wc 9 115 [.ref 1, .int y1] (mk z w p) (kqQ kqfI kqgI kqDK z w p) := by
  obtain ⟨t, u, tx, it, mt, tt, ct, ht, hu, htu, rfl, hz, hw, hcv, hg⟩ := h
  obtain ⟨a1, i1, rfl⟩ := hv_i y1
  unfold inI at i1
  rcases hg with rfl | ⟨rfl, hG⟩
  · exact qc_I (f := kqfI) rfl rfl rfl (m_115z (d := 2) t u a1 hz hw (by omega) ht hu hcv) (by rintro v z' w' p' hs ⟨rfl, rfl, rfl, -, -, hc, hga, h15⟩; exact ⟨⟨kqC_m ht hu htu hs hc (Or.inl rfl), h15⟩, ⟨pp_1_13.trans pp_1_13.symm, pp_10_2.trans pp_10_2.symm⟩⟩)
  · exact qc_I (f := kqfI) rfl rfl rfl (m_115s (d := 2) t u a1 hz hw (by omega) ht hu hcv hG) (by rintro v z' w' p' hs ⟨rfl, -, -, hc, hga, h15⟩; exact ⟨⟨kqC_m ht hu htu hs hc (Or.inr ⟨rfl, hga hG⟩), h15⟩, ⟨pp_1_13.trans pp_1_13.symm, pp_10_2.trans pp_10_2.symm⟩⟩)
theorem cl_alike {z w : mZ} {p : mP} (y1 : Int32) (y2 : Int32) (h : kqC z w p) : wc 9 116 [.ref 1, .int y1, .int y2] (mk z w p) (kqQ kqfI kqgI kqDK z w p) := by
  obtain ⟨t, u, tx, it, mt, tt, ct, ht, hu, htu, rfl, hz, hw, hcv, hg⟩ := h
  obtain ⟨a1, i1, rfl⟩ := hv_i y1
  unfold inI at i1
  obtain ⟨a2, i2, rfl⟩ := hv_i y2
  unfold inI at i2
  rcases hg with rfl | ⟨rfl, hG⟩
  · exact qc_I (f := kqfI) rfl rfl rfl (m_116z (d := 3) t u a1 a2 hz hw (by omega) (by omega) ht hu hcv) (by rintro v z' w' p' hs ⟨rfl, rfl, rfl, -, -, hc, hga, h15⟩; exact ⟨⟨kqC_m ht hu htu hs hc (Or.inl rfl), h15⟩, ⟨pp_1_13.trans pp_1_13.symm, pp_10_2.trans pp_10_2.symm⟩⟩)
  · exact qc_I (f := kqfI) rfl rfl rfl (m_116s (d := 3) t u a1 a2 hz hw (by omega) (by omega) ht hu hcv hG) (by rintro v z' w' p' hs ⟨rfl, -, -, hc, hga, h15⟩; exact ⟨⟨kqC_m ht hu htu hs hc (Or.inr ⟨rfl, hga hG⟩), h15⟩, ⟨pp_1_13.trans pp_1_13.symm, pp_10_2.trans pp_10_2.symm⟩⟩)
theorem cl_order {z w : mZ} {p : mP} (y1 : Int32) (h : kqC z w p) : wc 9 117 [.ref 1, .int y1] (mk z w p) (kqQ kqfI kqgI kqDK z w p) := by
  obtain ⟨t, u, tx, it, mt, tt, ct, ht, hu, htu, rfl, hz, hw, hcv, hg⟩ := h
  obtain ⟨a1, i1, rfl⟩ := hv_i y1
  unfold inI at i1
  rcases hg with rfl | ⟨rfl, hG⟩
  · exact qc_I (f := kqfI) rfl rfl rfl (m_117z (d := 3) t u a1 hz hw (by omega) ht hu hcv) (by rintro v z' w' p' hs ⟨rfl, rfl, rfl, -, -, hc, hga, h15⟩; exact ⟨⟨kqC_m ht hu htu hs hc (Or.inl rfl), h15⟩, ⟨pp_1_13.trans pp_1_13.symm, pp_10_2.trans pp_10_2.symm⟩⟩)
  · exact qc_I (f := kqfI) rfl rfl rfl (m_117s (d := 3) t u a1 hz hw (by omega) ht hu hcv hG) (by rintro v z' w' p' hs ⟨rfl, -, -, hc, hga, h15⟩; exact ⟨⟨kqC_m ht hu htu hs hc (Or.inr ⟨rfl, hga hG⟩), h15⟩, ⟨pp_1_13.trans pp_1_13.symm, pp_10_2.trans pp_10_2.symm⟩⟩)
theorem cl_stretch {z w : mZ} {p : mP} (y1 : Int32) (y2 : Int32) (y3 : Int32) (h : kqC z w p) : wc 9 118 [.ref 1, .int y1, .int y2, .int y3] (mk z w p) (kqQ kqfI kqgL kqDK z w p) := by
  obtain ⟨t, u, tx, it, mt, tt, ct, ht, hu, htu, rfl, hz, hw, hcv, hg⟩ := h
  obtain ⟨a1, i1, rfl⟩ := hv_i y1
  unfold inI at i1
  obtain ⟨a2, i2, rfl⟩ := hv_i y2
  unfold inI at i2
  obtain ⟨a3, i3, rfl⟩ := hv_i y3
  unfold inI at i3
  rcases hg with rfl | ⟨rfl, hG⟩
  · exact qc_L (f := kqfI) rfl rfl rfl (m_118z (d := 3) t u a1 a2 a3 hz hw (by omega) (by omega) (by omega) ht hu hcv) (by rintro v z' w' p' hs ⟨rfl, rfl, rfl, -, -, hc, hga, h15⟩; exact ⟨⟨kqC_m ht hu htu hs hc (Or.inl rfl), h15⟩, ⟨pp_1_13.trans pp_1_13.symm, pp_10_2.trans pp_10_2.symm⟩⟩)
  · exact qc_L (f := kqfI) rfl rfl rfl (m_118s (d := 3) t u a1 a2 a3 hz hw (by omega) (by omega) (by omega) ht hu hcv hG) (by rintro v z' w' p' hs ⟨rfl, -, -, hc, hga, h15⟩; exact ⟨⟨kqC_m ht hu htu hs hc (Or.inr ⟨rfl, hga hG⟩), h15⟩, ⟨pp_1_13.trans pp_1_13.symm, pp_10_2.trans pp_10_2.symm⟩⟩)
theorem cl_table {z w : mZ} {p : mP} (y1 : Int32) (y2 : Int32) (y3 : Int32) (y4 : Int32) (h : kqC z w p) : wc 9 119 [.ref 1, .int y1, .int y2, .int y3, .int y4] (mk z w p) (kqQ kqfI kqgI kqDK z w p) := by
  obtain ⟨t, u, tx, it, mt, tt, ct, ht, hu, htu, rfl, hz, hw, hcv, hg⟩ := h
  obtain ⟨a1, i1, rfl⟩ := hv_i y1
  unfold inI at i1
  obtain ⟨a2, i2, rfl⟩ := hv_i y2
  unfold inI at i2
  obtain ⟨a3, i3, rfl⟩ := hv_i y3
  unfold inI at i3
  obtain ⟨a4, i4, rfl⟩ := hv_i y4
  unfold inI at i4
  rcases hg with rfl | ⟨rfl, hG⟩
  · exact qc_I (f := kqfI) rfl rfl rfl (m_119z (d := 2) t u a1 a2 a3 a4 hz hw (by omega) (by omega) (by omega) (by omega) ht hu hcv) (by rintro v z' w' p' hs ⟨rfl, rfl, rfl, -, -, hc, hga, h15⟩; exact ⟨⟨kqC_m ht hu htu hs hc (Or.inl rfl), h15⟩, ⟨pp_1_13.trans pp_1_13.symm, pp_10_2.trans pp_10_2.symm⟩⟩)
  · exact qc_I (f := kqfI) rfl rfl rfl (m_119s (d := 2) t u a1 a2 a3 a4 hz hw (by omega) (by omega) (by omega) (by omega) ht hu hcv hG) (by rintro v z' w' p' hs ⟨rfl, -, -, hc, hga, h15⟩; exact ⟨⟨kqC_m ht hu htu hs hc (Or.inr ⟨rfl, hga hG⟩), h15⟩, ⟨pp_1_13.trans pp_1_13.symm, pp_10_2.trans pp_10_2.symm⟩⟩)
theorem cl_polynomial {z w : mZ} {p : mP} (y1 : Int32) (y2 : Int32) (y3 : Int32) (h : kqC z w p) : wc 9 120 [.ref 1, .int y1, .int y2, .int y3] (mk z w p) (kqQ kqfI kqgI kqDK z w p) := by
  obtain ⟨t, u, tx, it, mt, tt, ct, ht, hu, htu, rfl, hz, hw, hcv, hg⟩ := h
  obtain ⟨a1, i1, rfl⟩ := hv_i y1
  unfold inI at i1
  obtain ⟨a2, i2, rfl⟩ := hv_i y2
  unfold inI at i2
  obtain ⟨a3, i3, rfl⟩ := hv_i y3
  unfold inI at i3
  rcases hg with rfl | ⟨rfl, hG⟩
  · exact qc_I (f := kqfI) rfl rfl rfl (m_120z (d := 2) t u a1 a2 a3 hz hw (by omega) (by omega) (by omega) ht hu hcv) (by rintro v z' w' p' hs ⟨rfl, rfl, rfl, -, -, hc, hga, h15⟩; exact ⟨⟨kqC_m ht hu htu hs hc (Or.inl rfl), h15⟩, ⟨pp_1_13.trans pp_1_13.symm, pp_10_2.trans pp_10_2.symm⟩⟩)
  · exact qc_I (f := kqfI) rfl rfl rfl (m_120s (d := 2) t u a1 a2 a3 hz hw (by omega) (by omega) (by omega) ht hu hcv hG) (by rintro v z' w' p' hs ⟨rfl, -, -, hc, hga, h15⟩; exact ⟨⟨kqC_m ht hu htu hs hc (Or.inr ⟨rfl, hga hG⟩), h15⟩, ⟨pp_1_13.trans pp_1_13.symm, pp_10_2.trans pp_10_2.symm⟩⟩)
theorem cl_least {z w : mZ} {p : mP} (y1 : Int32) (y2 : Int32) (h : kqC z w p) : wc 9 121 [.ref 1, .int y1, .int y2] (mk z w p) (kqQ kqfI kqgI kqDK z w p) := by
  obtain ⟨t, u, tx, it, mt, tt, ct, ht, hu, htu, rfl, hz, hw, hcv, hg⟩ := h
  obtain ⟨a1, i1, rfl⟩ := hv_i y1
  unfold inI at i1
  obtain ⟨a2, i2, rfl⟩ := hv_i y2
  unfold inI at i2
  rcases hg with rfl | ⟨rfl, hG⟩
  · exact qc_I (f := kqfI) rfl rfl rfl (m_121z (d := 2) t u a1 a2 hz hw (by omega) (by omega) ht hu hcv) (by rintro v z' w' p' hs ⟨rfl, -, -, hc, hga, h15⟩; exact ⟨⟨kqC_m ht hu htu hs hc (Or.inl rfl), h15⟩, ⟨pp_1_13.trans pp_1_13.symm, pp_10_2.trans pp_10_2.symm⟩⟩)
  · exact qc_I (f := kqfI) rfl rfl rfl (m_121s (d := 2) t u a1 a2 hz hw (by omega) (by omega) ht hu hcv hG) (by rintro v z' w' p' hs ⟨tt_e, ct_e, rfl, -, -, hc, hga, h15⟩; exact ⟨⟨kqC_m ht hu htu hs hc (Or.inr ⟨rfl, hga hG⟩), h15⟩, ⟨pp_1_13.trans pp_1_13.symm, pp_10_2.trans pp_10_2.symm⟩⟩)
theorem cl_lies {z w : mZ} {p : mP} (y1 : Int32) (h : kqC z w p) : wc 9 122 [.ref 1, .int y1] (mk z w p) (kqQ kqfI kqgI kqDK z w p) := by
  obtain ⟨t, u, tx, it, mt, tt, ct, ht, hu, htu, rfl, hz, hw, hcv, hg⟩ := h
  obtain ⟨a1, i1, rfl⟩ := hv_i y1
  unfold inI at i1
  exact qc_I (f := kqfI) rfl rfl rfl (m_122v (d := 7) t u a1 hz hw (by omega) ht hu hcv) (by rintro v z' w' p' hs ⟨rfl, rfl, rfl, -, -, hc, hga, h15⟩; exact ⟨⟨kqC_m ht hu htu hs hc (hg.imp id fun q => ⟨q.1, hga q.2⟩), h15⟩, ⟨pp_1_13.trans pp_1_13.symm, pp_10_2.trans pp_10_2.symm⟩⟩)
theorem cl_lay {z w : mZ} {p : mP} (y1 : Int32) (h : kqC z w p) : wc 9 123 [.ref 1, .int y1] (mk z w p) (kqQ kqfI kqgL (kqDA (kqLc y1.toInt)) z w p) := by
  obtain ⟨t, u, tx, it, mt, tt, ct, ht, hu, htu, rfl, hz, hw, hcv, hg⟩ := h
  obtain ⟨a1, i1, rfl⟩ := hv_i y1
  unfold inI at i1
  rw [ofI_toInt (e := a1) ⟨by omega, by omega⟩]
  exact qb_L (f := kqfI) (A := (kqLc a1)) rfl rfl (m_123u (d := 6) t u a1 hz hw (by omega) ht hu hcv) (by rintro v z' w' p' hs ⟨rfl, -, -, ⟨hc, hga, h15⟩, hx⟩; exact ⟨⟨⟨kqC_m ht hu htu hs hc (hg.imp id fun q => ⟨q.1, hga q.2⟩), h15⟩, ⟨pp_1_13.trans pp_1_13.symm, pp_10_2.trans pp_10_2.symm⟩⟩, fun t0 e => by rw [pp_1_13] at e; cases e; exact ⟨kqb_N hs rfl, _, rfl, hx⟩⟩)
theorem cl_twist {z w : mZ} {p : mP} (y1 : Int32) (y2 : Int32) (h : kqC z w p) : wc 9 124 [.ref 1, .int y1, .int y2] (mk z w p) (kqQ kqfI kqgL (kqDA (kqTc y1.toInt y2.toInt)) z w p) := by
  obtain ⟨t, u, tx, it, mt, tt, ct, ht, hu, htu, rfl, hz, hw, hcv, hg⟩ := h
  obtain ⟨a1, i1, rfl⟩ := hv_i y1
  unfold inI at i1
  obtain ⟨a2, i2, rfl⟩ := hv_i y2
  unfold inI at i2
  rw [ofI_toInt (e := a1) ⟨by omega, by omega⟩, ofI_toInt (e := a2) ⟨by omega, by omega⟩]
  rcases hg with rfl | ⟨rfl, hG⟩
  · exact qb_L (f := kqfI) (A := (kqTc a1 a2)) rfl rfl (m_124z (d := 4) t u a1 a2 hz hw (by omega) (by omega) ht hu hcv) (by rintro v z' w' p' hs ⟨rfl, rfl, rfl, v1, v2, hc, hga, h15⟩; exact ⟨⟨⟨kqC_m ht hu htu hs hc (Or.inl rfl), h15⟩, ⟨pp_1_13.trans pp_1_13.symm, pp_10_2.trans pp_10_2.symm⟩⟩, fun t0 e => by rw [pp_1_13] at e; cases e; exact ⟨kqb_N hs rfl, _, rfl, Or.inl ⟨pp_10_2, by omega, (kqn_N hs rfl).1⟩⟩⟩)
  · exact qb_L (f := kqfI) (A := (kqTc a1 a2)) rfl rfl (m_124x (d := 4) t u a1 a2 hz hw (by omega) (by omega) ht hu hcv hG) (by rintro v z' w' p' hs ⟨rfl, -, -, ⟨hc, hga, h15⟩, hx⟩; exact ⟨⟨⟨kqC_m ht hu htu hs hc (Or.inr ⟨rfl, hga hG⟩), h15⟩, ⟨pp_1_13.trans pp_1_13.symm, pp_10_2.trans pp_10_2.symm⟩⟩, fun t0 e => by rw [pp_1_13] at e; cases e; exact ⟨kqb_N hs rfl, _, rfl, Or.inr hx⟩⟩)
theorem cl_go {z w : mZ} {p : mP} (y1 : Int32) (h : kqC z w p) : wc 9 125 [.ref 1, .int y1] (mk z w p) (kqQ kqfI kqgL (kqDA (kqGc y1.toInt)) z w p) := by
  obtain ⟨t, u, tx, it, mt, tt, ct, ht, hu, htu, rfl, hz, hw, hcv, hg⟩ := h
  obtain ⟨a1, i1, rfl⟩ := hv_i y1
  unfold inI at i1
  rw [ofI_toInt (e := a1) ⟨by omega, by omega⟩]
  rcases hg with rfl | ⟨rfl, hG⟩
  · exact qb_L (f := kqfI) (A := (kqGc a1)) rfl rfl (m_125z (d := 3) t u a1 hz hw (by omega) ht hu hcv) (by rintro v z' w' p' hs ⟨rfl, rfl, rfl, v1, v2, hc, hga, h15⟩; exact ⟨⟨⟨kqC_m ht hu htu hs hc (Or.inl rfl), h15⟩, ⟨pp_1_13.trans pp_1_13.symm, pp_10_2.trans pp_10_2.symm⟩⟩, fun t0 e => by rw [pp_1_13] at e; cases e; exact ⟨kqb_N hs rfl, _, rfl, Or.inl ⟨pp_10_2, by omega, (kqn_N hs rfl).1⟩⟩⟩)
  · exact qb_L (f := kqfI) (A := (kqGc a1)) rfl rfl (m_125x (d := 3) t u a1 hz hw (by omega) ht hu hcv hG) (by rintro v z' w' p' hs ⟨rfl, -, -, ⟨hc, hga, h15⟩, hx⟩; exact ⟨⟨⟨kqC_m ht hu htu hs hc (Or.inr ⟨rfl, hga hG⟩), h15⟩, ⟨pp_1_13.trans pp_1_13.symm, pp_10_2.trans pp_10_2.symm⟩⟩, fun t0 e => by rw [pp_1_13] at e; cases e; exact ⟨kqb_N hs rfl, _, rfl, Or.inr hx⟩⟩)
theorem cl_undo {z w : mZ} {p : mP} (h : kqC z w p) : wc 9 127 [.ref 1] (mk z w p) (kqQ kqfI kqgI (kqDA kqUc) z w p) := by
  obtain ⟨t, u, tx, it, mt, tt, ct, ht, hu, htu, rfl, hz, hw, hcv, hg⟩ := h
  exact qb_I (f := kqfI) (A := kqUc) rfl rfl (m_127x (d := 7) t hz hw ht hcv) (by rintro v z' w' p' hs ⟨rfl, -, -, ⟨hc, hga, h15⟩, hx⟩; exact ⟨⟨⟨kqC_m ht hu htu hs hc (hg.imp id fun q => ⟨q.1, hga q.2⟩), h15⟩, ⟨pp_1_13.trans pp_1_13.symm, pp_10_2.trans pp_10_2.symm⟩⟩, fun t0 e => by rw [pp_1_13] at e; cases e; exact ⟨kqb_N hs rfl, _, rfl, hx⟩⟩)
theorem cl_redo {z w : mZ} {p : mP} (h : kqC z w p) : wc 9 128 [.ref 1] (mk z w p) (kqQ kqfI kqgI (kqDA kqRc) z w p) := by
  obtain ⟨t, u, tx, it, mt, tt, ct, ht, hu, htu, rfl, hz, hw, hcv, hg⟩ := h
  exact qb_I (f := kqfI) (A := kqRc) rfl rfl (m_128x (d := 7) t hz hw ht hcv) (by rintro v z' w' p' hs ⟨rfl, -, -, ⟨hc, hga, h15⟩, hx⟩; exact ⟨⟨⟨kqC_m ht hu htu hs hc (hg.imp id fun q => ⟨q.1, hga q.2⟩), h15⟩, ⟨pp_1_13.trans pp_1_13.symm, pp_10_2.trans pp_10_2.symm⟩⟩, fun t0 e => by rw [pp_1_13] at e; cases e; exact ⟨kqb_N hs rfl, _, rfl, hx⟩⟩)
theorem cl_sketch {z w : mZ} {p : mP} (h : kqC z w p) : wc 9 129 [.ref 1] (mk z w p) (kqQ kqf0 kqgI kqDK z w p) := by
  obtain ⟨t, u, tx, it, mt, tt, ct, ht, hu, htu, rfl, hz, hw, hcv, hg⟩ := h
  exact qc_I (f := kqf0) rfl rfl rfl (m_129v (d := 3) t u hz hw ht hu hcv) (by rintro v z' w' p' hs ⟨tt_e, rfl, -, -, hc, hga, h15⟩; exact ⟨⟨kqC_m ht hu htu hs hc (hg.imp id fun q => ⟨q.1, hga q.2⟩), h15⟩, ⟨pp_1_13.trans pp_1_13.symm, pp_10_2.trans pp_10_2.symm⟩⟩)
theorem cl_image {z w : mZ} {p : mP} (y1 : Int32) (h : kqC z w p) : wc 9 130 [.ref 1, .int y1] (mk z w p) (kqQ kqfI kqgL (kqDA (kqIc y1.toInt)) z w p) := by
  obtain ⟨t, u, tx, it, mt, tt, ct, ht, hu, htu, rfl, hz, hw, hcv, hg⟩ := h
  obtain ⟨a1, i1, rfl⟩ := hv_i y1
  unfold inI at i1
  rw [ofI_toInt (e := a1) ⟨by omega, by omega⟩]
  exact qb_L (f := kqfI) (A := (kqIc a1)) rfl rfl (m_130x (d := 7) t a1 hz hw (by omega) ht hcv) (by rintro v z' w' p' hs ⟨rfl, -, -, ⟨hc, hga, h15⟩, hx⟩; exact ⟨⟨⟨kqC_m ht hu htu hs hc (hg.imp id fun q => ⟨q.1, hga q.2⟩), h15⟩, ⟨pp_1_13.trans pp_1_13.symm, pp_10_2.trans pp_10_2.symm⟩⟩, fun t0 e => by rw [pp_1_13] at e; cases e; exact ⟨_, rfl, hx⟩⟩)
theorem cl_back {z w : mZ} {p : mP} (y1 : Int32) (h : kqC z w p) : wc 9 131 [.ref 1, .int y1] (mk z w p) (kqQ kqfI kqgL (kqDA (kqBc y1.toInt)) z w p) := by
  obtain ⟨t, u, tx, it, mt, tt, ct, ht, hu, htu, rfl, hz, hw, hcv, hg⟩ := h
  obtain ⟨a1, i1, rfl⟩ := hv_i y1
  unfold inI at i1
  rw [ofI_toInt (e := a1) ⟨by omega, by omega⟩]
  exact qb_L (f := kqfI) (A := (kqBc a1)) rfl rfl (m_131x (d := 6) t a1 hz hw (by omega) ht hcv) (by rintro v z' w' p' hs ⟨rfl, -, -, ⟨hc, hga, h15⟩, hx⟩; exact ⟨⟨⟨kqC_m ht hu htu hs hc (hg.imp id fun q => ⟨q.1, hga q.2⟩), h15⟩, ⟨pp_1_13.trans pp_1_13.symm, pp_10_2.trans pp_10_2.symm⟩⟩, fun t0 e => by rw [pp_1_13] at e; cases e; exact ⟨kqb_N hs rfl, _, rfl, hx⟩⟩)
theorem cl_about {z w : mZ} {p : mP} (y1 : Int32) (h : kqC z w p) : wc 9 132 [.ref 1, .int y1] (mk z w p) (kqQ kqfI kqgI (kqDN (kqAc y1.toInt)) z w p) := by
  obtain ⟨t, u, tx, it, mt, tt, ct, ht, hu, htu, rfl, hz, hw, hcv, hg⟩ := h
  obtain ⟨a1, i1, rfl⟩ := hv_i y1
  unfold inI at i1
  rw [ofI_toInt (e := a1) ⟨by omega, by omega⟩]
  exact qa_I (f := kqfI) (A := (kqAc a1)) rfl rfl rfl (m_132x (d := 8) t u a1 hz hw (by omega) ht hu hcv) (by rintro v z' w' p' hs ⟨rfl, rfl, rfl, -, -, ⟨hc, hga, h15⟩, hx⟩; exact ⟨⟨⟨kqC_m ht hu htu hs hc (hg.imp id fun q => ⟨q.1, hga q.2⟩), h15⟩, ⟨pp_1_13.trans pp_1_13.symm, pp_10_2.trans pp_10_2.symm⟩⟩, fun t0 e => by rw [pp_1_13] at e; cases e; exact ⟨_, rfl, hx⟩⟩)
theorem rl_feed {z w : mZ} {x y tx it mt tt ct : Option Nat} (y1 : Int32) (y2 : Int32) (y3 : Int32) (y4 : Int32) (y5 : Int32) (h : kqR z w) : wc 9 146 [.ref 225, .int y1, .int y2, .int y3, .int y4, .int y5] (mk z w (pq x y tx it mt tt ct)) (kqP kqfF kqgF (kqDf' y1.toInt y2.toInt y3.toInt y4.toInt y5.toInt) z w (pq x y tx it mt tt ct)) := by
  have hz := h.1
  have hw := h.2.1
  have hrv := h.2.2
  obtain ⟨a1, i1, rfl⟩ := hv_i y1
  unfold inI at i1
  obtain ⟨a2, i2, rfl⟩ := hv_i y2
  unfold inI at i2
  obtain ⟨a3, i3, rfl⟩ := hv_i y3
  unfold inI at i3
  obtain ⟨a4, i4, rfl⟩ := hv_i y4
  unfold inI at i4
  obtain ⟨a5, i5, rfl⟩ := hv_i y5
  unfold inI at i5
  rw [ofI_toInt (e := a1) ⟨by omega, by omega⟩, ofI_toInt (e := a2) ⟨by omega, by omega⟩, ofI_toInt (e := a3) ⟨by omega, by omega⟩, ofI_toInt (e := a4) ⟨by omega, by omega⟩, ofI_toInt (e := a5) ⟨by omega, by omega⟩]
  refine wc_mono (m_146x (d := 7) a1 a2 a3 a4 a5 hz hw (by omega) (by omega) (by omega) (by omega) (by omega)) ?_
  rintro R ⟨v, z', w', p', rfl, hv, hs, rfl, -, -, hx⟩
  refine ⟨_, z', w', _, rfl, ?_, ⟨hs.1, hs.2.1, RV_B hz hs rfl hrv⟩, ?_, hs, rfl, ⟨⟨hs.2.2.1 _ _ (dF_n (i := 2) (j := 3) rfl (by omega) (by omega)), hs.2.2.1 _ _ (dF_n (i := 2) (j := 3) rfl (by omega) (by omega))⟩, kqr_T hs rfl⟩, ?_, kqm_M hs rfl⟩
  · unfold kqgF; rcases hx with ⟨c1, c2, c3, c4⟩ | ⟨c1, c2, c3, c4, c5⟩; (rw [if_neg (by omega), c2]); (rw [if_pos (by omega), c2])
  · unfold kqfF; rcases hx with ⟨c1, c2, c3, c4⟩ | ⟨c1, c2, c3, c4, c5⟩; (rw [if_neg (by omega), c3]); (rw [if_pos (by omega), c3, c2])
  · rcases hx with ⟨c1, c2, c3, c4⟩ | ⟨c1, c2, c3, c4, c5⟩; (exact ⟨fun q => absurd q (by omega), c4⟩); (exact ⟨fun _ j hj => c4 j hj, c5⟩)
theorem rl_end {z w : mZ} {x y tx it mt tt ct : Option Nat} (a1 : Int) (i1 : inI a1) (h : kqR z w) : wc 9 148 [.ref 225, .int (Int32.ofInt a1)] (mk z w (pq x y tx it mt tt ct)) (kqP (kqfE a1) (kqgE a1) kqDH z w (pq x y tx it mt tt ct)) := by
  have hz := h.1
  have hw := h.2.1
  have hrv := h.2.2
  unfold inI at i1
  exact qr_g (f := (kqfE a1)) (h := (fun n => if 0 ≤ a1 ∧ a1 ≤ n then a1 else -1)) h rfl rfl rfl rfl (m_148 (d := 8) a1 hz hw (by omega)) (by rintro v z' w' p' ⟨rfl, -, -, hx⟩; refine ⟨rfl, ?_⟩; unfold kqfE; rcases hx with ⟨c1, c2, c3⟩ | ⟨c0, c1, c2, c3⟩; (rw [if_neg (by omega), if_neg (by omega)]; exact ⟨c3, c2⟩); (rw [if_pos ⟨c0, c1⟩, if_pos ⟨c0, c1⟩]; exact ⟨c3, c2⟩))
theorem rl_ground {z w : mZ} {x y tx it mt tt ct : Option Nat} (h : kqR z w) : wc 9 171 [.ref 225] (mk z w (pq x y tx it mt tt ct)) (kqP kqf0 kqgI kqDg' z w (pq x y tx it mt tt ct)) := by
  have hz := h.1
  have hw := h.2.1
  have hrv := h.2.2
  refine wc_mono (m_171j (d := 1) hz hw hrv) ?_
  rintro R ⟨v, z', w', p', rfl, hv, hs, rfl, -, -, h1, h2, hgr, hok, hfl, hrl⟩
  exact ⟨_, z', w', _, rfl, ⟨_, rfl⟩, ⟨hs.1, hs.2.1, h2⟩, h1, hs, rfl, ⟨v, hv, rfl, hgr⟩, fun q => ⟨hok q, hrl q⟩, hfl⟩
theorem rl_fault {z w : mZ} {x y tx it mt tt ct : Option Nat} (y1 : Int32) (h : kqR z w) : wc 9 172 [.ref 225, .int y1] (mk z w (pq x y tx it mt tt ct)) (kqP kqfI kqgI (kqDq' y1.toInt) z w (pq x y tx it mt tt ct)) := by
  have hz := h.1
  have hw := h.2.1
  have hrv := h.2.2
  obtain ⟨a1, i1, rfl⟩ := hv_i y1
  unfold inI at i1
  rw [ofI_toInt (e := a1) ⟨by omega, by omega⟩]
  refine wc_mono (m_172x (d := 8) a1 hz hw (by omega)) ?_
  rintro R ⟨v, z', w', p', rfl, hv, hs, rfl, rfl, rfl, -, -, q0, q1, q2⟩
  exact ⟨_, _, _, _, rfl, ⟨_, rfl⟩, h, rfl, hs, rfl, by rw [fq_i q0 q1 q2], kqh_H hs rfl, kqm_M hs rfl⟩
theorem rl_point {z w : mZ} {x y tx it mt tt ct : Option Nat} (y1 : Int32) (y2 : Int32) (h : kqR z w) : wc 9 179 [.ref 225, .int y1, .int y2] (mk z w (pq x y tx it mt tt ct)) (kqP kqfI kqgI kqDH z w (pq x y tx it mt tt ct)) := by
  have hz := h.1
  have hw := h.2.1
  have hrv := h.2.2
  obtain ⟨a1, i1, rfl⟩ := hv_i y1
  unfold inI at i1
  obtain ⟨a2, i2, rfl⟩ := hv_i y2
  unfold inI at i2
  exact qr_I h rfl rfl rfl rfl rfl (m_179x (d := 8) a1 a2 hz hw (by omega) (by omega)) (fun v z' w' p' hE => hE.1)
theorem rl_number {z w : mZ} {x y tx it mt tt ct : Option Nat} (y1 : Int32) (y2 : Int32) (h : kqR z w) : wc 9 191 [.ref 225, .int y1, .int y2] (mk z w (pq x y tx it mt tt ct)) (kqP kqfI kqgL kqDH z w (pq x y tx it mt tt ct)) := by
  have hz := h.1
  have hw := h.2.1
  have hrv := h.2.2
  obtain ⟨a1, i1, rfl⟩ := hv_i y1
  unfold inI at i1
  obtain ⟨a2, i2, rfl⟩ := hv_i y2
  unfold inI at i2
  exact qr_L h rfl rfl rfl rfl rfl (m_191 (d := 6) a1 a2 hz hw (by omega) (by omega)) (fun v z' w' p' hE => hE.1)
theorem rl_loops {z w : mZ} {x y tx it mt tt ct : Option Nat} (y1 : Int32) (y2 : Int32) (h : kqR z w) : wc 9 192 [.ref 225, .int y1, .int y2] (mk z w (pq x y tx it mt tt ct)) (kqP kqfI kqgI kqDH z w (pq x y tx it mt tt ct)) := by
  have hz := h.1
  have hw := h.2.1
  have hrv := h.2.2
  obtain ⟨a1, i1, rfl⟩ := hv_i y1
  unfold inI at i1
  obtain ⟨a2, i2, rfl⟩ := hv_i y2
  unfold inI at i2
  by_cases hne : a1 = -1
  · exact qr_I h rfl rfl rfl rfl rfl (m_192n (d := 3) a1 a2 hz hw (by omega) (by omega) hrv) (fun v z' w' p' hE => hE.1)
  · exact qr_I h rfl rfl rfl rfl rfl (m_192t (d := 3) a1 a2 hz hw (by omega) (by omega) hrv hne) (fun v z' w' p' hE => hE.1)
theorem rl_traced {z w : mZ} {x y tx it mt tt ct : Option Nat} (y1 : Int32) (y2 : Int32) (h : kqR z w) : wc 9 194 [.ref 225, .int y1, .int y2] (mk z w (pq x y tx it mt tt ct)) (kqP kqfI kqgI kqDH z w (pq x y tx it mt tt ct)) := by
  have hz := h.1
  have hw := h.2.1
  have hrv := h.2.2
  obtain ⟨a1, i1, rfl⟩ := hv_i y1
  unfold inI at i1
  obtain ⟨a2, i2, rfl⟩ := hv_i y2
  unfold inI at i2
  by_cases hne : a1 = -1
  · exact qr_I h rfl rfl rfl rfl rfl (m_194n (d := 4) a1 a2 hz hw (by omega) (by omega) hrv) (fun v z' w' p' hE => hE.1)
  · exact qr_I h rfl rfl rfl rfl rfl (m_194t (d := 4) a1 a2 hz hw (by omega) (by omega) hrv hne) (fun v z' w' p' hE => hE.1)
theorem rl_flips {z w : mZ} {x y tx it mt tt ct : Option Nat} (y1 : Int32) (h : kqR z w) : wc 9 202 [.ref 225, .int y1] (mk z w (pq x y tx it mt tt ct)) (kqP kqfI kqgI kqDH z w (pq x y tx it mt tt ct)) := by
  have hz := h.1
  have hw := h.2.1
  have hrv := h.2.2
  obtain ⟨a1, i1, rfl⟩ := hv_i y1
  unfold inI at i1
  exact qr_I h rfl rfl rfl rfl rfl (m_202 (d := 7) a1 hz hw (by omega)) (fun v z' w' p' hE => hE.1)
theorem rl_flip {z w : mZ} {x y tx it mt tt ct : Option Nat} (y1 : Int32) (y2 : Int32) (h : kqR z w) : wc 9 203 [.ref 225, .int y1, .int y2] (mk z w (pq x y tx it mt tt ct)) (kqP kqfI kqgI kqDH z w (pq x y tx it mt tt ct)) := by
  have hz := h.1
  have hw := h.2.1
  have hrv := h.2.2
  obtain ⟨a1, i1, rfl⟩ := hv_i y1
  unfold inI at i1
  obtain ⟨a2, i2, rfl⟩ := hv_i y2
  unfold inI at i2
  exact qr_I h rfl rfl rfl rfl rfl (m_203 (d := 7) a1 a2 hz hw (by omega) (by omega)) (fun v z' w' p' hE => hE.1)
theorem rl_cross {z w : mZ} {x y tx it mt tt ct : Option Nat} (y1 : Int32) (y2 : Int32) (h : kqR z w) : wc 9 215 [.ref 225, .int y1, .int y2] (mk z w (pq x y tx it mt tt ct)) (kqP kqfI kqgL kqDH z w (pq x y tx it mt tt ct)) := by
  have hz := h.1
  have hw := h.2.1
  have hrv := h.2.2
  obtain ⟨a1, i1, rfl⟩ := hv_i y1
  unfold inI at i1
  obtain ⟨a2, i2, rfl⟩ := hv_i y2
  unfold inI at i2
  exact qr_L h rfl rfl rfl rfl rfl (m_215 (d := 4) a1 a2 hz hw (by omega) (by omega)) (fun v z' w' p' hE => hE.1)
theorem rl_across {z w : mZ} {x y tx it mt tt ct : Option Nat} (y1 : Int32) (y2 : Int32) (h : kqR z w) : wc 9 217 [.ref 225, .int y1, .int y2] (mk z w (pq x y tx it mt tt ct)) (kqP kqfI kqgI kqDH z w (pq x y tx it mt tt ct)) := by
  have hz := h.1
  have hw := h.2.1
  have hrv := h.2.2
  obtain ⟨a1, i1, rfl⟩ := hv_i y1
  unfold inI at i1
  obtain ⟨a2, i2, rfl⟩ := hv_i y2
  unfold inI at i2
  exact qr_I h rfl rfl rfl rfl rfl (m_217v (d := 3) a1 a2 hz hw (by omega) (by omega) hrv) (fun v z' w' p' hE => hE.1)
theorem rl_kept {z w : mZ} {x y tx it mt tt ct : Option Nat} (y1 : Int32) (h : kqR z w) : wc 9 220 [.ref 225, .int y1] (mk z w (pq x y tx it mt tt ct)) (kqP kqfI kqgI kqDH z w (pq x y tx it mt tt ct)) := by
  have hz := h.1
  have hw := h.2.1
  have hrv := h.2.2
  obtain ⟨a1, i1, rfl⟩ := hv_i y1
  unfold inI at i1
  exact qr_I h rfl rfl rfl rfl rfl (m_220 (d := 2) a1 hz hw (by omega)) (fun v z' w' p' hE => hE.1)
theorem rl_alike {z w : mZ} {x y tx it mt tt ct : Option Nat} (y1 : Int32) (y2 : Int32) (h : kqR z w) : wc 9 221 [.ref 225, .int y1, .int y2] (mk z w (pq x y tx it mt tt ct)) (kqP kqfI kqgI kqDH z w (pq x y tx it mt tt ct)) := by
  have hz := h.1
  have hw := h.2.1
  have hrv := h.2.2
  obtain ⟨a1, i1, rfl⟩ := hv_i y1
  unfold inI at i1
  obtain ⟨a2, i2, rfl⟩ := hv_i y2
  unfold inI at i2
  exact qr_I h rfl rfl rfl rfl rfl (m_221 (d := 2) a1 a2 hz hw (by omega) (by omega)) (fun v z' w' p' hE => hE.1)
theorem rl_order {z w : mZ} {x y tx it mt tt ct : Option Nat} (y1 : Int32) (h : kqR z w) : wc 9 223 [.ref 225, .int y1] (mk z w (pq x y tx it mt tt ct)) (kqP kqfI kqgI kqDH z w (pq x y tx it mt tt ct)) := by
  have hz := h.1
  have hw := h.2.1
  have hrv := h.2.2
  obtain ⟨a1, i1, rfl⟩ := hv_i y1
  unfold inI at i1
  exact qr_I h rfl rfl rfl rfl rfl (m_223 (d := 1) a1 hz hw (by omega)) (fun v z' w' p' hE => hE.1)
theorem rl_stretch {z w : mZ} {x y tx it mt tt ct : Option Nat} (y1 : Int32) (y2 : Int32) (y3 : Int32) (h : kqR z w) : wc 9 224 [.ref 225, .int y1, .int y2, .int y3] (mk z w (pq x y tx it mt tt ct)) (kqP kqfI kqgL kqDH z w (pq x y tx it mt tt ct)) := by
  have hz := h.1
  have hw := h.2.1
  have hrv := h.2.2
  obtain ⟨a1, i1, rfl⟩ := hv_i y1
  unfold inI at i1
  obtain ⟨a2, i2, rfl⟩ := hv_i y2
  unfold inI at i2
  obtain ⟨a3, i3, rfl⟩ := hv_i y3
  unfold inI at i3
  exact qr_Lv rfl rfl rfl rfl (m_224v (d := 2) a1 a2 a3 hz hw (by omega) (by omega) (by omega) hrv) (fun v z' w' p' hE => ⟨hE.1, hE.2.2.2⟩)
theorem rl_table {z w : mZ} {x y tx it mt tt ct : Option Nat} (y1 : Int32) (y2 : Int32) (y3 : Int32) (y4 : Int32) (h : kqR z w) : wc 9 226 [.ref 225, .int y1, .int y2, .int y3, .int y4] (mk z w (pq x y tx it mt tt ct)) (kqP kqfI kqgI kqDH z w (pq x y tx it mt tt ct)) := by
  have hz := h.1
  have hw := h.2.1
  have hrv := h.2.2
  obtain ⟨a1, i1, rfl⟩ := hv_i y1
  unfold inI at i1
  obtain ⟨a2, i2, rfl⟩ := hv_i y2
  unfold inI at i2
  obtain ⟨a3, i3, rfl⟩ := hv_i y3
  unfold inI at i3
  obtain ⟨a4, i4, rfl⟩ := hv_i y4
  unfold inI at i4
  exact qr_I h rfl rfl rfl rfl rfl (m_226 (d := 1) a1 a2 a3 a4 hz hw (by omega) (by omega) (by omega) (by omega)) (fun v z' w' p' hE => hE.1)
theorem rl_polynomial {z w : mZ} {x y tx it mt tt ct : Option Nat} (y1 : Int32) (y2 : Int32) (y3 : Int32) (h : kqR z w) : wc 9 230 [.ref 225, .int y1, .int y2, .int y3] (mk z w (pq x y tx it mt tt ct)) (kqP kqfI kqgI kqDH z w (pq x y tx it mt tt ct)) := by
  have hz := h.1
  have hw := h.2.1
  have hrv := h.2.2
  obtain ⟨a1, i1, rfl⟩ := hv_i y1
  unfold inI at i1
  obtain ⟨a2, i2, rfl⟩ := hv_i y2
  unfold inI at i2
  obtain ⟨a3, i3, rfl⟩ := hv_i y3
  unfold inI at i3
  exact qr_I h rfl rfl rfl rfl rfl (m_230 (d := 1) a1 a2 a3 hz hw (by omega) (by omega) (by omega)) (fun v z' w' p' hE => hE.1)
theorem rl_least {z w : mZ} {x y tx it mt tt ct : Option Nat} (y1 : Int32) (y2 : Int32) (h : kqR z w) : wc 9 235 [.ref 225, .int y1, .int y2] (mk z w (pq x y tx it mt tt ct)) (kqP kqfI kqgI kqDH z w (pq x y tx it mt tt ct)) := by
  have hz := h.1
  have hw := h.2.1
  have hrv := h.2.2
  obtain ⟨a1, i1, rfl⟩ := hv_i y1
  unfold inI at i1
  obtain ⟨a2, i2, rfl⟩ := hv_i y2
  unfold inI at i2
  exact qr_Iv rfl rfl rfl rfl (m_235v (d := 1) a1 a2 hz hw (by omega) (by omega) hrv) (fun v z' w' p' hE => ⟨hE.1, hE.2.2.2⟩)
theorem rl_lies {z w : mZ} {x y tx it mt tt ct : Option Nat} (y1 : Int32) (h : kqR z w) : wc 9 238 [.ref 225, .int y1] (mk z w (pq x y tx it mt tt ct)) (kqP kqfI kqgI kqDH z w (pq x y tx it mt tt ct)) := by
  have hz := h.1
  have hw := h.2.1
  have hrv := h.2.2
  obtain ⟨a1, i1, rfl⟩ := hv_i y1
  unfold inI at i1
  exact qr_I h rfl rfl rfl rfl rfl (m_238 (d := 6) a1 hz hw (by omega)) (fun v z' w' p' hE => hE.1)
theorem rl_lay {z w : mZ} {x y tx it mt tt ct : Option Nat} (y1 : Int32) (h : kqR z w) : wc 9 242 [.ref 225, .int y1] (mk z w (pq x y tx it mt tt ct)) (kqP kqfI kqgL (kqDB (kqLr y1.toInt)) z w (pq x y tx it mt tt ct)) := by
  have hz := h.1
  have hw := h.2.1
  have hrv := h.2.2
  obtain ⟨a1, i1, rfl⟩ := hv_i y1
  unfold inI at i1
  rw [ofI_toInt (e := a1) ⟨by omega, by omega⟩]
  exact rb_Lv (A := (kqLr a1)) rfl rfl rfl (m_242u (d := 4) a1 hz hw (by omega) hrv) (by rintro v z' w' p' hs ⟨rfl, -, -, h2, hx⟩; exact ⟨rfl, h2, kqb_M hs rfl, _, rfl, hx⟩)
theorem rl_twist {z w : mZ} {x y tx it mt tt ct : Option Nat} (y1 : Int32) (y2 : Int32) (h : kqR z w) : wc 9 243 [.ref 225, .int y1, .int y2] (mk z w (pq x y tx it mt tt ct)) (kqP kqfI kqgL (kqDB (kqTr y1.toInt y2.toInt)) z w (pq x y tx it mt tt ct)) := by
  have hz := h.1
  have hw := h.2.1
  have hrv := h.2.2
  obtain ⟨a1, i1, rfl⟩ := hv_i y1
  unfold inI at i1
  obtain ⟨a2, i2, rfl⟩ := hv_i y2
  unfold inI at i2
  rw [ofI_toInt (e := a1) ⟨by omega, by omega⟩, ofI_toInt (e := a2) ⟨by omega, by omega⟩]
  exact rb_Lv (A := (kqTr a1 a2)) rfl rfl rfl (m_243x (d := 3) a1 a2 hz hw (by omega) (by omega) hrv) (by rintro v z' w' p' hs ⟨rfl, -, -, h2, hx⟩; exact ⟨rfl, h2, kqb_M hs rfl, _, rfl, hx⟩)
theorem rl_go {z w : mZ} {x y tx it mt tt ct : Option Nat} (y1 : Int32) (h : kqR z w) : wc 9 244 [.ref 225, .int y1] (mk z w (pq x y tx it mt tt ct)) (kqP kqfI kqgL (kqDB (kqGr y1.toInt)) z w (pq x y tx it mt tt ct)) := by
  have hz := h.1
  have hw := h.2.1
  have hrv := h.2.2
  obtain ⟨a1, i1, rfl⟩ := hv_i y1
  unfold inI at i1
  rw [ofI_toInt (e := a1) ⟨by omega, by omega⟩]
  exact rb_Lv (A := (kqGr a1)) rfl rfl rfl (m_244x (d := 2) a1 hz hw (by omega) hrv) (by rintro v z' w' p' hs ⟨rfl, -, -, h2, hx⟩; exact ⟨rfl, h2, kqb_M hs rfl, _, rfl, hx⟩)
theorem rl_undo {z w : mZ} {x y tx it mt tt ct : Option Nat} (h : kqR z w) : wc 9 246 [.ref 225] (mk z w (pq x y tx it mt tt ct)) (kqP kqfI kqgI (kqDB kqUr) z w (pq x y tx it mt tt ct)) := by
  have hz := h.1
  have hw := h.2.1
  have hrv := h.2.2
  exact rb_Iv (A := kqUr) rfl rfl rfl (m_246x (d := 7) hz hw hrv) (by rintro v z' w' p' hs ⟨rfl, -, -, h2, hx⟩; exact ⟨rfl, h2, kqb_M hs rfl, _, rfl, hx⟩)
theorem rl_redo {z w : mZ} {x y tx it mt tt ct : Option Nat} (h : kqR z w) : wc 9 247 [.ref 225] (mk z w (pq x y tx it mt tt ct)) (kqP kqfI kqgI (kqDB kqRr) z w (pq x y tx it mt tt ct)) := by
  have hz := h.1
  have hw := h.2.1
  have hrv := h.2.2
  exact rb_Iv (A := kqRr) rfl rfl rfl (m_247x (d := 7) hz hw hrv) (by rintro v z' w' p' hs ⟨rfl, -, -, h2, hx⟩; exact ⟨rfl, h2, kqb_M hs rfl, _, rfl, hx⟩)
theorem rl_sketch {z w : mZ} {x y tx it mt tt ct : Option Nat} (h : kqR z w) : wc 9 253 [.ref 225] (mk z w (pq x y tx it mt tt ct)) (kqP kqf0 kqgI kqDH z w (pq x y tx it mt tt ct)) := by
  have hz := h.1
  have hw := h.2.1
  have hrv := h.2.2
  exact qr_0 rfl rfl rfl rfl rfl (m_253x (d := 1) hz hw hrv) (fun v z' w' p' hE => ⟨hE.1, hE.2.2.2.1.1, hE.2.2.2.1.2, hE.2.2.2.2⟩)
theorem rl_image {z w : mZ} {x y tx it mt tt ct : Option Nat} (y1 : Int32) (h : kqR z w) : wc 9 255 [.ref 225, .int y1] (mk z w (pq x y tx it mt tt ct)) (kqP kqfI kqgL (kqDB (kqIr y1.toInt)) z w (pq x y tx it mt tt ct)) := by
  have hz := h.1
  have hw := h.2.1
  have hrv := h.2.2
  obtain ⟨a1, i1, rfl⟩ := hv_i y1
  unfold inI at i1
  rw [ofI_toInt (e := a1) ⟨by omega, by omega⟩]
  exact rb_Lv (A := (kqIr a1)) rfl rfl rfl (m_255x (d := 5) a1 hz hw (by omega) hrv) (by rintro v z' w' p' hs ⟨rfl, -, -, h2, hx⟩; exact ⟨rfl, h2, _, rfl, hx⟩)
theorem rl_back {z w : mZ} {x y tx it mt tt ct : Option Nat} (y1 : Int32) (h : kqR z w) : wc 9 256 [.ref 225, .int y1] (mk z w (pq x y tx it mt tt ct)) (kqP kqfI kqgL (kqDB (kqBr y1.toInt)) z w (pq x y tx it mt tt ct)) := by
  have hz := h.1
  have hw := h.2.1
  have hrv := h.2.2
  obtain ⟨a1, i1, rfl⟩ := hv_i y1
  unfold inI at i1
  rw [ofI_toInt (e := a1) ⟨by omega, by omega⟩]
  exact rb_Lv (A := (kqBr a1)) rfl rfl rfl (m_256x (d := 5) a1 hz hw (by omega) hrv) (by rintro v z' w' p' hs ⟨rfl, -, -, h2, hx⟩; exact ⟨rfl, h2, kqb_M hs rfl, _, rfl, hx⟩)
theorem rl_about {z w : mZ} {x y tx it mt tt ct : Option Nat} (y1 : Int32) (h : kqR z w) : wc 9 257 [.ref 225, .int y1] (mk z w (pq x y tx it mt tt ct)) (kqP kqfI kqgI (kqDM (kqAr y1.toInt)) z w (pq x y tx it mt tt ct)) := by
  have hz := h.1
  have hw := h.2.1
  have hrv := h.2.2
  obtain ⟨a1, i1, rfl⟩ := hv_i y1
  unfold inI at i1
  rw [ofI_toInt (e := a1) ⟨by omega, by omega⟩]
  exact ra_I (A := (kqAr a1)) h rfl rfl rfl rfl rfl (m_257x (d := 7) a1 hz hw (by omega)) (by rintro v z' w' p' ⟨rfl, rfl, rfl, -, -, hx⟩; exact ⟨rfl, ⟨_, rfl, hx⟩⟩)

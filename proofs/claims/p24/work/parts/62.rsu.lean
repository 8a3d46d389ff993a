/-! how many strands were not gone through yet: a number of which only this is known -/
theorem ngv_ex : ∃ g : mZ → Int, (∀ z, 0 ≤ g z ∧ g z ≤ 18000) ∧ (∀ (z z' : mZ) (i : Nat), z' = mu z 245 i 1 → z 245 i = 0 → i < 18000 → g z' = g z - 1) ∧ ∀ z z' : mZ, z' 245 = z 245 → g z' = g z :=
  ⟨ngw, ngw_b, fun _ _ _ h h1 hi => ngw_w h h1 hi, fun _ _ h => ngw_c h⟩
noncomputable def ngv : mZ → Int := Classical.choose ngv_ex
theorem ngv_b (z : mZ) : 0 ≤ ngv z ∧ ngv z ≤ 18000 := (Classical.choose_spec ngv_ex).1 z
theorem ngv_w {z z' : mZ} {i : Nat} (h : z' = mu z 245 i 1) (h1 : z 245 i = 0) (hi : i < 18000) : ngv z' = ngv z - 1 := (Classical.choose_spec ngv_ex).2.1 z z' i h h1 hi
theorem ngv_c {z z' : mZ} (h : z' 245 = z 245) : ngv z' = ngv z := (Classical.choose_spec ngv_ex).2.2 z z' h

/-! methods, printed by wip/tools/vcg.py -/
/-- LoopGroundModel layOver -/
abbrev S_176v  : mS := [(241, 241, 0, 17), (240, 240, 0, 35)]
abbrev E_176v  (z0 w0 : mZ) (x y tx it mt tt ct : Option Nat) : mZ → mZ → mP → Prop := fun z w p => p = (pq x y tx it mt tt ct) ∧ (RW z)
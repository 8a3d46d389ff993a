theorem LO_lt {E x : Int} {T o fs : Nat → Int} (h : LO E T o fs x) {e : Nat} (he : (e : Int) < E) (h1 : 0 ≤ fs e) : fs e < x := by
  rcases h e he with ⟨a1, _⟩ | ⟨_, a2, _⟩ | ⟨b, a1, a2, a3, _⟩ <;> omega

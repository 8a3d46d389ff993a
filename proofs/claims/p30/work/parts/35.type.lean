/-! ranges of all places, pointers, shapes: printed by wip/tools/mktype.py -/
def inL (e : Int) : Prop := -9223372036854775808 ≤ e ∧ e < 9223372036854775808
/-- an array (length, sort, least, most), or an object's fields -/
abbrev zk : Type := (Nat × Nat × Int × Int) ⊕ List (Int × Int)
/-- a flip as one number: five EDGES -/
def ok_f (v : Int) : Prop := 0 ≤ v ∧ v < 33554432 ∧ v % 32 ≤ 17 ∧ v / 32 % 32 ≤ 17 ∧ v / 1024 % 32 ≤ 17 ∧ v / 32768 % 32 ≤ 17 ∧ v / 1048576 ≤ 17
def ok_c (c : Nat) (lo hi v : Int) : Prop := match c with
  | 0 => lo ≤ v ∧ v ≤ hi
  | _ => ok_f v
def ok_t (k : zk) (i : Nat) (v : Int) : Prop := match k with
  | .inl (n, c, lo, hi) => i < n → ok_c c lo hi v
  | .inr l => ∀ q, l[i]? = some q → q.1 ≤ v ∧ v ≤ q.2
def zkl_0 : List zk := [.inr [], .inr [(0, 0), (0, 0), (0, 0), (0, 0), (0, 0), (0, 0), (0, 0), (0, 0), (0, 0), (0, 0), (0, 0), (0, 0), (0, 0), (0, 0), (0, 0), (0, 1600), (-2147483648, 2147483647), (-2147483648, 2147483647), (0, 1)], .inl (1600, 0, -128, 127), .inr [(-2147483648, 2147483647), (-2147483648, 2147483647), (0, 0), (0, 1600), (0, 0), (0, 1), (0, 1600), (0, 10), (0, 1600), (-2147483648, 2147483647), (0, 0)], .inr [(-2147483648, 2147483647), (-2147483648, 2147483647), (0, 0), (0, 0), (0, 0), (0, 0), (0, 0), (0, 0), (0, 18000), (0, 35), (-2147483648, 2147483647), (0, 35), (-2147483648, 2147483647), (0, 1)], .inr [], .inl (18, 0, 0, 18000), .inl (18, 0, 0, 18000), .inl (36, 0, -2147483648, 2147483647), .inl (36, 0, -2147483648, 2147483647), .inr [(0, 0), (0, 0), (0, 0)], .inr [(0, 0), (0, 0), (0, 0), (0, 0), (0, 36), (0, 18), (0, 17), (0, 17), (0, 17), (0, 17), (0, 0)], .inl (36, 0, 0, 17), .inl (18, 0, -1, 35), .inl (18, 0, 0, 35), .inr [], .inr [], .inr [(0, 2), (0, 1782), (0, 17), (0, 17), (0, 17), (0, 17), (0, 0)], .inl (1782, 1, 0, 0), .inr [(0, 2), (0, 1782), (0, 17), (0, 17), (0, 17), (0, 17), (0, 0)], .inl (1782, 1, 0, 0), .inr [(0, 2), (0, 1782), (0, 17), (0, 17), (0, 17), (0, 17), (0, 0)], .inl (1782, 1, 0, 0), .inr [(0, 2), (0, 1782), (0, 17), (0, 17), (0, 17), (0, 17), (0, 0)], .inl (1782, 1, 0, 0), .inr [(0, 2), (0, 1782), (0, 17), (0, 17), (0, 17), (0, 17), (0, 0)], .inl (1782, 1, 0, 0), .inr [(0, 2), (0, 1782), (0, 17), (0, 17), (0, 17), (0, 17), (0, 0)], .inl (1782, 1, 0, 0), .inr [(0, 2), (0, 1782), (0, 17), (0, 17), (0, 17), (0, 17), (0, 0)], .inl (1782, 1, 0, 0), .inr [(0, 2), (0, 1782), (0, 17), (0, 17), (0, 17), (0, 17), (0, 0)], .inl (1782, 1, 0, 0), .inr [(0, 0), (0, 0), (0, 3)], .inr [], .inr [(0, 0), (0, 0), (0, 0), (0, 1600), (0, 1600)], .inr [], .inl (1600, 0, 0, 35), .inl (1600, 0, -2147483648, 2147483647), .inr [(0, 60), (0, 60), (0, 60), (0, 0)]]
def zkl_1 : List zk := [.inr [], .inr [], .inr [], .inr [], .inr [], .inr [], .inr [], .inr [], .inr [], .inr [], .inr [], .inr [], .inr [], .inr [], .inr [], .inr [], .inr [], .inr [], .inr [], .inr [], .inr [], .inr [], .inr [], .inr [], .inr [], .inr [], .inr [], .inr [], .inr [], .inr [], .inr [], .inr [], .inr [], .inr [], .inr [], .inr [], .inr [], .inr [], .inr [], .inr []]
def zkl_2 : List zk := [.inr [], .inr [], .inr [], .inr [], .inr [], .inr [], .inr [], .inr [], .inr [], .inr [], .inr [], .inr [], .inr [], .inr [], .inr [], .inr [], .inr [], .inr [], .inr [], .inr [], .inr [], .inr [], .inr [(0, 1), (0, 18), (-2147483648, 2147483647), (-2147483648, 2147483647), (0, 1), (0, 0), (0, 0), (0, 0), (0, 0)], .inr [], .inr [], .inr [], .inr [], .inr [], .inr [], .inr [], .inr [], .inr [], .inr [], .inr [], .inr [], .inr [], .inr [], .inr [], .inr [], .inr []]
def zkl_3 : List zk := [.inr [], .inr [], .inr [], .inr [], .inr [], .inr [], .inr [], .inr [], .inr [], .inr [], .inr [], .inr [], .inr [], .inr [], .inr [], .inr [], .inr [], .inr [], .inr [], .inr [], .inr [], .inr [], .inr [], .inr [], .inr [], .inr [], .inr [], .inl (3, 0, 0, 1), .inr [], .inr [], .inr [], .inr [], .inr [], .inr [], .inr [], .inr [], .inr [], .inr [], .inr [], .inr [(0, 12), (0, 18), (-2147483648, 2147483647), (0, 8), (0, 6), (0, 0), (0, 0), (0, 0), (0, 0), (0, 0), (0, 0), (0, 0), (0, 0), (0, 0), (0, 0), (0, 0), (0, 0)]]
def zkl_4 : List zk := [.inl (36, 0, 0, 17), .inl (36, 0, 0, 35), .inl (36, 0, -2147483648, 2147483647), .inl (18, 0, 0, 2), .inl (18, 0, 0, 35), .inl (18, 0, 0, 35), .inr [], .inr [], .inr [], .inr [], .inr [], .inr [], .inr [], .inr [], .inr [], .inr [], .inr [], .inl (6, 0, 0, 8), .inr [], .inl (8, 0, 0, 7), .inl (8, 0, 0, 7), .inl (8, 0, 0, 7), .inl (8, 0, 0, 7), .inl (8, 0, 0, 7), .inl (8, 0, 0, 7), .inr [], .inl (8, 0, -9, 9), .inl (8, 0, -9, 9), .inl (8, 0, -9, 9), .inl (8, 0, -9, 9), .inl (8, 0, -9, 9), .inl (8, 0, -9, 9), .inr [(0, 12), (0, 18), (-2147483648, 2147483647), (0, 8), (0, 6), (0, 0), (0, 0), (0, 0), (0, 0), (0, 0), (0, 0), (0, 0), (0, 0), (0, 0), (0, 0), (0, 0), (0, 0)], .inl (36, 0, 0, 17), .inl (36, 0, 0, 35), .inl (36, 0, -2147483648, 2147483647), .inl (18, 0, 0, 2), .inl (18, 0, 0, 35), .inl (18, 0, 0, 35), .inr []]
def zkl_5 : List zk := [.inr [], .inr [], .inr [], .inr [], .inr [], .inr [], .inr [], .inr [], .inr [], .inr [], .inl (6, 0, 0, 8), .inr [], .inl (8, 0, 0, 7), .inl (8, 0, 0, 7), .inl (8, 0, 0, 7), .inl (8, 0, 0, 7), .inl (8, 0, 0, 7), .inl (8, 0, 0, 7), .inr [], .inl (8, 0, -9, 9), .inl (8, 0, -9, 9), .inl (8, 0, -9, 9), .inl (8, 0, -9, 9), .inl (8, 0, -9, 9), .inl (8, 0, -9, 9), .inr [(0, 0), (0, 1600), (0, 6), (-2147483648, 2147483647), (0, 1600), (0, 1600), (0, 59), (0, 1600), (0, 9999), (0, 0), (0, 0), (0, 0), (0, 0), (0, 0), (0, 0), (0, 0), (0, 0), (0, 0), (0, 0), (0, 0), (0, 0), (0, 0), (0, 0), (0, 12), (0, 8), (0, 6), (0, 12), (0, 8), (0, 6), (0, 0), (0, 0), (0, 0), (0, 36), (0, 0), (0, 0), (0, 0), (-2147483648, 2147483647), (-2147483648, 2147483647), (0, 35), (-2147483648, 2147483647), (0, 1), (0, 0), (0, 18000), (0, 0), (0, 0), (0, 0), (0, 0), (0, 0), (0, 0), (0, 0), (0, 0), (0, 0), (0, 0), (-1, 35), (-1, 35), (0, 0), (0, 0), (0, 0), (0, 1), (0, 1), (0, 0), (0, 0), (0, 0), (0, 0), (0, 0), (0, 0), (0, 0), (0, 0), (0, 0), (0, 0), (0, 1), (0, 0), (0, 0), (0, 60), (0, 60), (0, 0), (0, 1600), (0, 1600), (0, 0), (0, 0), (0, 0)], .inl (1600, 0, 0, 255), .inr [], .inr [], .inl (36, 0, 0, 17), .inl (18, 0, 0, 2), .inl (144, 0, 0, 9999), .inl (48, 0, 0, 7), .inl (48, 0, -9, 9), .inl (6, 0, 0, 8), .inl (36, 0, 0, 17), .inl (144, 0, 0, 9999), .inl (48, 0, 0, 7), .inl (48, 0, -9, 9), .inl (6, 0, 0, 8)]
def zkl_6 : List zk := [.inl (36, 0, 0, 35), .inl (18, 0, -1, 35), .inl (36, 0, -1, 35), .inl (18, 0, 0, 18000), .inl (19, 0, 0, 18000), .inl (18000, 0, 0, 1), .inl (18000, 0, 0, 35), .inl (71280, 0, 0, 17), .inl (8, 0, 0, 1782), .inl (8, 0, 0, 17), .inl (8, 0, 0, 17), .inl (8, 0, 0, 17), .inl (8, 0, 0, 17), .inl (8, 0, 0, 1), .inl (8, 0, 0, 1), .inl (36, 0, 0, 17), .inl (18, 0, 0, 9999), .inr [], .inr [], .inr [], .inr [], .inl (72, 0, -2147483648, 2147483647), .inr [], .inr [], .inl (8, 0, 0, 1), .inr [], .inr [], .inr [], .inl (18, 0, -2147483648, 2147483647), .inl (18, 0, 0, 1600), .inr [], .inr [], .inl (1600, 0, 0, 35), .inr [], .inl (3, 0, 0, 1), .inr []]
def zkl : List zk := zkl_0 ++ (zkl_1 ++ (zkl_2 ++ (zkl_3 ++ (zkl_4 ++ (zkl_5 ++ (zkl_6))))))
def wkl_0 : List zk := [.inr [], .inr [(0, 0), (0, 0), (0, 0), (0, 0), (0, 0), (0, 0), (0, 0), (0, 0), (0, 0), (0, 0), (0, 0), (0, 0), (0, 0), (0, 0), (0, 0), (0, 0), (0, 0), (0, 0), (0, 0)], .inr [], .inr [(0, 0), (0, 0), (0, 0), (0, 0), (0, 0), (0, 0), (0, 0), (0, 0), (0, 0), (0, 0), (-9223372036854775808, 9223372036854775807)], .inr [(0, 0), (0, 0), (0, 0), (0, 0), (0, 0), (0, 0), (0, 0), (0, 0), (0, 0), (0, 0), (0, 0), (0, 0), (0, 0), (0, 0)], .inl (282, 0, -9223372036854775808, 9223372036854775807), .inr [], .inr [], .inr [], .inr [], .inr [(0, 0), (0, 0), (0, 0)], .inr [(0, 0), (0, 0), (0, 0), (0, 0), (0, 0), (0, 0), (0, 0), (0, 0), (0, 0), (0, 0), (-9223372036854775808, 9223372036854775807)], .inr [], .inr [], .inr [], .inl (18, 0, -9223372036854775808, 9223372036854775807), .inr [], .inr [(0, 0), (0, 0), (0, 0), (0, 0), (0, 0), (0, 0), (0, 0)], .inr [], .inr [(0, 0), (0, 0), (0, 0), (0, 0), (0, 0), (0, 0), (0, 0)], .inr [], .inr [(0, 0), (0, 0), (0, 0), (0, 0), (0, 0), (0, 0), (0, 0)], .inr [], .inr [(0, 0), (0, 0), (0, 0), (0, 0), (0, 0), (0, 0), (0, 0)], .inr [], .inr [(0, 0), (0, 0), (0, 0), (0, 0), (0, 0), (0, 0), (0, 0)], .inr [], .inr [(0, 0), (0, 0), (0, 0), (0, 0), (0, 0), (0, 0), (0, 0)], .inr [], .inr [(0, 0), (0, 0), (0, 0), (0, 0), (0, 0), (0, 0), (0, 0)], .inr [], .inr [(0, 0), (0, 0), (0, 0), (0, 0), (0, 0), (0, 0), (0, 0)], .inr [], .inr [(0, 0), (0, 0), (0, 0)], .inl (18, 0, 0, 3), .inr [(0, 0), (0, 0), (0, 0), (0, 0), (0, 0)], .inl (18, 0, -9223372036854775808, 9223372036854775807), .inr [], .inr [], .inr [(0, 0), (0, 0), (0, 0), (0, 0)]]
def wkl_1 : List zk := [.inr [], .inl (18, 0, 0, 100000000000000), .inl (18, 0, 0, 100000000000000), .inl (18, 0, 0, 100000000000000), .inl (18, 0, 0, 100000000000000), .inl (18, 0, 0, 100000000000000), .inl (18, 0, 0, 100000000000000), .inl (18, 0, 0, 100000000000000), .inl (18, 0, 0, 100000000000000), .inl (18, 0, 0, 100000000000000), .inl (18, 0, 0, 100000000000000), .inl (18, 0, 0, 100000000000000), .inl (18, 0, 0, 100000000000000), .inl (18, 0, 0, 100000000000000), .inl (18, 0, 0, 100000000000000), .inl (18, 0, 0, 100000000000000), .inl (18, 0, 0, 100000000000000), .inl (18, 0, 0, 100000000000000), .inl (18, 0, 0, 100000000000000), .inl (18, 0, 0, 100000000000000), .inl (18, 0, 0, 100000000000000), .inl (18, 0, 0, 100000000000000), .inl (18, 0, 0, 100000000000000), .inl (18, 0, 0, 100000000000000), .inl (18, 0, 0, 100000000000000), .inl (18, 0, 0, 100000000000000), .inl (18, 0, 0, 100000000000000), .inl (18, 0, 0, 100000000000000), .inl (18, 0, 0, 100000000000000), .inl (18, 0, 0, 100000000000000), .inl (18, 0, 0, 100000000000000), .inl (18, 0, 0, 100000000000000), .inl (18, 0, 0, 100000000000000), .inl (18, 0, 0, 100000000000000), .inl (18, 0, 0, 100000000000000), .inl (18, 0, 0, 100000000000000), .inl (18, 0, 0, 100000000000000), .inl (18, 0, 0, 100000000000000), .inl (18, 0, 0, 100000000000000), .inl (18, 0, 0, 100000000000000)]
def wkl_2 : List zk := [.inl (18, 0, 0, 100000000000000), .inl (18, 0, 0, 100000000000000), .inl (18, 0, 0, 100000000000000), .inl (18, 0, 0, 100000000000000), .inl (18, 0, 0, 100000000000000), .inl (18, 0, 0, 100000000000000), .inl (18, 0, 0, 100000000000000), .inl (18, 0, 0, 100000000000000), .inl (18, 0, 0, 100000000000000), .inl (18, 0, 0, 100000000000000), .inl (18, 0, 0, 100000000000000), .inl (18, 0, 0, 100000000000000), .inl (18, 0, 0, 100000000000000), .inl (18, 0, 0, 100000000000000), .inl (18, 0, 0, 100000000000000), .inl (18, 0, 0, 100000000000000), .inl (18, 0, 0, 100000000000000), .inl (18, 0, 0, 100000000000000), .inl (18, 0, 0, 100000000000000), .inl (18, 0, 0, 100000000000000), .inl (18, 0, 0, 100000000000000), .inl (18, 0, 0, 100000000000000), .inr [(0, 0), (0, 0), (0, 0), (0, 0), (0, 0), (0, 0), (0, 0), (0, 0), (0, 0)], .inr [], .inl (18, 0, -9223372036854775808, 9223372036854775807), .inl (18, 0, -9223372036854775808, 9223372036854775807), .inl (18, 0, -9223372036854775808, 9223372036854775807), .inl (18, 0, -9223372036854775808, 9223372036854775807), .inl (18, 0, -9223372036854775808, 9223372036854775807), .inl (18, 0, -9223372036854775808, 9223372036854775807), .inl (18, 0, -9223372036854775808, 9223372036854775807), .inl (18, 0, -9223372036854775808, 9223372036854775807), .inl (18, 0, -9223372036854775808, 9223372036854775807), .inl (18, 0, -9223372036854775808, 9223372036854775807), .inl (18, 0, -9223372036854775808, 9223372036854775807), .inl (18, 0, -9223372036854775808, 9223372036854775807), .inl (18, 0, -9223372036854775808, 9223372036854775807), .inl (18, 0, -9223372036854775808, 9223372036854775807), .inl (18, 0, -9223372036854775808, 9223372036854775807), .inl (18, 0, -9223372036854775808, 9223372036854775807)]
def wkl_3 : List zk := [.inl (18, 0, -9223372036854775808, 9223372036854775807), .inl (18, 0, -9223372036854775808, 9223372036854775807), .inr [], .inl (18, 0, -9223372036854775808, 9223372036854775807), .inl (18, 0, -9223372036854775808, 9223372036854775807), .inl (18, 0, -9223372036854775808, 9223372036854775807), .inl (18, 0, -9223372036854775808, 9223372036854775807), .inl (18, 0, -9223372036854775808, 9223372036854775807), .inl (18, 0, -9223372036854775808, 9223372036854775807), .inl (18, 0, -9223372036854775808, 9223372036854775807), .inl (18, 0, -9223372036854775808, 9223372036854775807), .inl (18, 0, -9223372036854775808, 9223372036854775807), .inl (18, 0, -9223372036854775808, 9223372036854775807), .inl (18, 0, -9223372036854775808, 9223372036854775807), .inl (18, 0, -9223372036854775808, 9223372036854775807), .inl (18, 0, -9223372036854775808, 9223372036854775807), .inl (18, 0, -9223372036854775808, 9223372036854775807), .inl (18, 0, -9223372036854775808, 9223372036854775807), .inl (18, 0, -9223372036854775808, 9223372036854775807), .inl (18, 0, -9223372036854775808, 9223372036854775807), .inl (18, 0, -9223372036854775808, 9223372036854775807), .inl (18, 0, -9223372036854775808, 9223372036854775807), .inl (19, 0, -9223372036854775808, 9223372036854775807), .inr [], .inl (18, 0, 0, 100000000000000), .inl (18, 0, 0, 100000000000000), .inl (18, 0, 0, 100000000000000), .inr [], .inr [], .inl (18, 0, -9223372036854775808, 9223372036854775807), .inl (18, 0, -9223372036854775808, 9223372036854775807), .inl (18, 0, -9223372036854775808, 9223372036854775807), .inl (18, 0, -9223372036854775808, 9223372036854775807), .inl (18, 0, -9223372036854775808, 9223372036854775807), .inl (18, 0, -9223372036854775808, 9223372036854775807), .inl (18, 0, -9223372036854775808, 9223372036854775807), .inl (18, 0, -9223372036854775808, 9223372036854775807), .inl (18, 0, -9223372036854775808, 9223372036854775807), .inl (18, 0, -9223372036854775808, 9223372036854775807), .inr [(0, 0), (0, 0), (0, 0), (0, 0), (0, 0), (0, 0), (0, 0), (0, 0), (0, 0), (0, 0), (0, 0), (0, 0), (0, 0), (0, 0), (0, 0), (0, 0), (0, 0)]]
def wkl_4 : List zk := [.inr [], .inr [], .inr [], .inr [], .inr [], .inr [], .inr [], .inl (18, 0, 0, 99), .inl (18, 0, 0, 99), .inl (18, 0, 0, 99), .inl (18, 0, 0, 99), .inl (18, 0, 0, 99), .inl (18, 0, 0, 99), .inl (18, 0, 0, 99), .inl (18, 0, 0, 99), .inl (8, 0, -9223372036854775808, 9223372036854775807), .inl (6, 0, -9223372036854775808, 9223372036854775807), .inr [], .inr [], .inr [], .inr [], .inr [], .inr [], .inr [], .inr [], .inr [], .inr [], .inr [], .inr [], .inr [], .inr [], .inr [], .inr [(0, 0), (0, 0), (0, 0), (0, 0), (0, 0), (0, 0), (0, 0), (0, 0), (0, 0), (0, 0), (0, 0), (0, 0), (0, 0), (0, 0), (0, 0), (0, 0), (0, 0)], .inr [], .inr [], .inr [], .inr [], .inr [], .inr [], .inr []]
def wkl_5 : List zk := [.inl (18, 0, 0, 99), .inl (18, 0, 0, 99), .inl (18, 0, 0, 99), .inl (18, 0, 0, 99), .inl (18, 0, 0, 99), .inl (18, 0, 0, 99), .inl (18, 0, 0, 99), .inl (18, 0, 0, 99), .inl (8, 0, -9223372036854775808, 9223372036854775807), .inl (6, 0, -9223372036854775808, 9223372036854775807), .inr [], .inr [], .inr [], .inr [], .inr [], .inr [], .inr [], .inr [], .inr [], .inr [], .inr [], .inr [], .inr [], .inr [], .inr [], .inr [(0, 0), (0, 0), (0, 0), (0, 0), (0, 0), (0, 0), (0, 0), (0, 0), (0, 0), (-9223372036854775808, 9223372036854775807), (0, 0), (0, 0), (0, 0), (0, 0), (0, 0), (0, 0), (0, 0), (0, 0), (0, 0), (0, 0), (0, 0), (0, 0), (0, 0), (0, 0), (0, 0), (0, 0), (0, 0), (0, 0), (0, 0), (0, 0), (0, 0), (0, 0), (0, 0), (0, 0), (0, 0), (0, 0), (0, 0), (0, 0), (0, 0), (0, 0), (0, 0), (0, 0), (0, 0), (0, 0), (0, 0), (0, 0), (0, 0), (0, 0), (0, 0), (0, 0), (0, 0), (0, 0), (0, 0), (0, 0), (0, 0), (0, 0), (0, 0), (0, 0), (0, 0), (0, 0), (0, 0), (0, 0), (0, 0), (0, 0), (0, 0), (0, 0), (0, 0), (0, 0), (0, 0), (0, 0), (0, 0), (0, 0), (0, 0), (0, 0), (0, 0), (0, 0), (0, 0), (0, 0), (0, 0), (0, 0), (0, 0)], .inr [], .inl (8, 0, -9223372036854775808, 9223372036854775807), .inl (6, 0, -9223372036854775808, 9223372036854775807), .inr [], .inr [], .inr [], .inr [], .inr [], .inr [], .inr [], .inr [], .inr [], .inr [], .inr []]
def wkl_6 : List zk := [.inr [], .inr [], .inr [], .inr [], .inr [], .inr [], .inr [], .inr [], .inr [], .inr [], .inr [], .inr [], .inr [], .inr [], .inr [], .inr [], .inr [], .inl (18, 0, -9223372036854775808, 9223372036854775807), .inl (324, 0, -9223372036854775808, 9223372036854775807), .inl (18, 0, -9223372036854775808, 9223372036854775807), .inl (18, 0, -9223372036854775808, 9223372036854775807), .inr [], .inl (18, 0, -9223372036854775808, 9223372036854775807), .inl (144, 0, -9223372036854775808, 9223372036854775807), .inr [], .inl (324, 0, -9223372036854775808, 9223372036854775807), .inl (324, 0, -9223372036854775808, 9223372036854775807), .inl (19, 0, -9223372036854775808, 9223372036854775807), .inr [], .inr [], .inl (18, 0, 0, 100000000000000), .inl (1098, 0, 0, 100000000000000), .inr [], .inl (18, 0, 0, 100000000000000), .inr [], .inl (54, 0, 0, 100000000000000)]
def wkl : List zk := wkl_0 ++ (wkl_1 ++ (wkl_2 ++ (wkl_3 ++ (wkl_4 ++ (wkl_5 ++ (wkl_6))))))
def rz (z : Nat → Nat → Int) : Prop := ∀ a i, ok_t ((zkl[a]?).getD (.inr [])) i (z a i)
def rw_ (w : Nat → Nat → Int) : Prop := ∀ a i, ok_t ((wkl[a]?).getD (.inr [])) i (w a i)
/-- which places may have changed: addresses from .. to, places from .. to -/
def inS : List (Nat × Nat × Nat × Nat) → Nat → Nat → Prop
  | [], _, _ => False
  | q :: r, a, i => (q.1 ≤ a ∧ a ≤ q.2.1 ∧ q.2.2.1 ≤ i ∧ i ≤ q.2.2.2) ∨ inS r a i
def st_ (S : List (Nat × Nat × Nat × Nat)) (z0 w0 z w : Nat → Nat → Int) : Prop := rz z ∧ rw_ w ∧ (∀ a i, ¬ inS S a i → z a i = z0 a i) ∧ (∀ a i, ¬ inS S a i → w a i = w0 a i)
theorem st_rf {S : List (Nat × Nat × Nat × Nat)} {z w : Nat → Nat → Int} (h1 : rz z) (h2 : rw_ w) : st_ S z w z w := ⟨h1, h2, fun _ _ _ => rfl, fun _ _ _ => rfl⟩
theorem st_z {S : List (Nat × Nat × Nat × Nat)} {z0 w0 z w : Nat → Nat → Int} {a i : Nat} {v : Int} (h : st_ S z0 w0 z w) (hs : inS S a i) (hv : ok_t ((zkl[a]?).getD (.inr [])) i v) : st_ S z0 w0 (mu z a i v) w := by
  obtain ⟨h1, h2, h3, h4⟩ := h
  refine ⟨fun b j => ?_, h2, fun b j hb => ?_, h4⟩
  · unfold mu
    by_cases e : b = a ∧ j = i
    · rw [if_pos e]; obtain ⟨rfl, rfl⟩ := e; exact hv
    · rw [if_neg e]; exact h1 b j
  · rw [mu_ne (fun e => hb (by obtain ⟨rfl, rfl⟩ := e; exact hs)), h3 b j hb]
theorem st_w {S : List (Nat × Nat × Nat × Nat)} {z0 w0 z w : Nat → Nat → Int} {a i : Nat} {v : Int} (h : st_ S z0 w0 z w) (hs : inS S a i) (hv : ok_t ((wkl[a]?).getD (.inr [])) i v) : st_ S z0 w0 z (mu w a i v) := by
  obtain ⟨h1, h2, h3, h4⟩ := h
  refine ⟨h1, fun b j => ?_, h3, fun b j hb => ?_⟩
  · unfold mu
    by_cases e : b = a ∧ j = i
    · rw [if_pos e]; obtain ⟨rfl, rfl⟩ := e; exact hv
    · rw [if_neg e]; exact h2 b j
  · rw [mu_ne (fun e => hb (by obtain ⟨rfl, rfl⟩ := e; exact hs)), h4 b j hb]
theorem st_tr {S S' : List (Nat × Nat × Nat × Nat)} {z0 w0 z1 w1 z w : Nat → Nat → Int} (h : st_ S z0 w0 z1 w1) (h' : st_ S' z1 w1 z w) (hs : ∀ a i, inS S' a i → inS S a i) : st_ S z0 w0 z w := ⟨h'.1, h'.2.1, fun a i q => (h'.2.2.1 a i (fun e => q (hs a i e))).trans (h.2.2.1 a i q), fun a i q => (h'.2.2.2 a i (fun e => q (hs a i e))).trans (h.2.2.2 a i q)⟩
abbrev isT (t : Nat) : Prop := t = 159 ∨ t = 192
/-- pointers: all are as at first, but for seven -/
def pqg (f : Nat → Nat → Option Nat) (x y tx it mt tt ct : Option Nat) : Nat → Nat → Option Nat := fun a i => if a = 1 ∧ i = 13 then x else if a = 1 ∧ i = 14 then y else if a = 3 ∧ i = 2 then tx else if a = 3 ∧ i = 4 then it else if a = 10 ∧ i = 2 then mt else if a = 4 ∧ i = 7 then tt else if a = 33 ∧ i = 1 then ct else f a i
noncomputable def pq (x y tx it mt tt ct : Option Nat) : Nat → Nat → Option Nat := pqg (xp ph_3) x y tx it mt tt ct
def pvr (a i : Nat) : Bool := Nat.beq a 1 && (Nat.beq i 13 || Nat.beq i 14) || Nat.beq a 3 && (Nat.beq i 2 || Nat.beq i 4) || Nat.beq a 10 && Nat.beq i 2 || Nat.beq a 4 && Nat.beq i 7 || Nat.beq a 33 && Nat.beq i 1
theorem pqg_ne {f : Nat → Nat → Option Nat} {x y tx it mt tt ct : Option Nat} {a i : Nat} (h : pvr a i = false) : pqg f x y tx it mt tt ct a i = f a i := by
  unfold pqg
  rw [if_neg (by rintro ⟨rfl, rfl⟩; cases h), if_neg (by rintro ⟨rfl, rfl⟩; cases h), if_neg (by rintro ⟨rfl, rfl⟩; cases h), if_neg (by rintro ⟨rfl, rfl⟩; cases h), if_neg (by rintro ⟨rfl, rfl⟩; cases h), if_neg (by rintro ⟨rfl, rfl⟩; cases h), if_neg (by rintro ⟨rfl, rfl⟩; cases h)]
theorem pq_ne {x y tx it mt tt ct : Option Nat} {a i : Nat} (h : pvr a i = false) : pq x y tx it mt tt ct a i = xp ph_3 a i := pqg_ne h
theorem pqg_u0 {f : Nat → Nat → Option Nat} {x y tx it mt tt ct v : Option Nat} : mu (pqg f x y tx it mt tt ct) 1 13 v = pqg f v y tx it mt tt ct := by
  funext a i
  by_cases h : a = 1 ∧ i = 13
  · obtain ⟨rfl, rfl⟩ := h; rfl
  · rw [mu_ne h]
    unfold pqg
    simp only [if_neg h]
theorem pq_u0 {x y tx it mt tt ct v : Option Nat} : mu (pq x y tx it mt tt ct) 1 13 v = pq v y tx it mt tt ct := pqg_u0
theorem pqg_v0 {f : Nat → Nat → Option Nat} {x y tx it mt tt ct : Option Nat} : pqg f x y tx it mt tt ct 1 13 = x := rfl
theorem pp_1_13 {x y tx it mt tt ct : Option Nat} : pq x y tx it mt tt ct 1 13 = x := pqg_v0
theorem pqg_u1 {f : Nat → Nat → Option Nat} {x y tx it mt tt ct v : Option Nat} : mu (pqg f x y tx it mt tt ct) 1 14 v = pqg f x v tx it mt tt ct := by
  funext a i
  by_cases h : a = 1 ∧ i = 14
  · obtain ⟨rfl, rfl⟩ := h; rfl
  · rw [mu_ne h]
    unfold pqg
    simp only [if_neg h]
theorem pq_u1 {x y tx it mt tt ct v : Option Nat} : mu (pq x y tx it mt tt ct) 1 14 v = pq x v tx it mt tt ct := pqg_u1
theorem pqg_v1 {f : Nat → Nat → Option Nat} {x y tx it mt tt ct : Option Nat} : pqg f x y tx it mt tt ct 1 14 = y := rfl
theorem pp_1_14 {x y tx it mt tt ct : Option Nat} : pq x y tx it mt tt ct 1 14 = y := pqg_v1
theorem pqg_u2 {f : Nat → Nat → Option Nat} {x y tx it mt tt ct v : Option Nat} : mu (pqg f x y tx it mt tt ct) 3 2 v = pqg f x y v it mt tt ct := by
  funext a i
  by_cases h : a = 3 ∧ i = 2
  · obtain ⟨rfl, rfl⟩ := h; rfl
  · rw [mu_ne h]
    unfold pqg
    simp only [if_neg h]
theorem pq_u2 {x y tx it mt tt ct v : Option Nat} : mu (pq x y tx it mt tt ct) 3 2 v = pq x y v it mt tt ct := pqg_u2
theorem pqg_v2 {f : Nat → Nat → Option Nat} {x y tx it mt tt ct : Option Nat} : pqg f x y tx it mt tt ct 3 2 = tx := rfl
theorem pp_3_2 {x y tx it mt tt ct : Option Nat} : pq x y tx it mt tt ct 3 2 = tx := pqg_v2
theorem pqg_u3 {f : Nat → Nat → Option Nat} {x y tx it mt tt ct v : Option Nat} : mu (pqg f x y tx it mt tt ct) 3 4 v = pqg f x y tx v mt tt ct := by
  funext a i
  by_cases h : a = 3 ∧ i = 4
  · obtain ⟨rfl, rfl⟩ := h; rfl
  · rw [mu_ne h]
    unfold pqg
    simp only [if_neg h]
theorem pq_u3 {x y tx it mt tt ct v : Option Nat} : mu (pq x y tx it mt tt ct) 3 4 v = pq x y tx v mt tt ct := pqg_u3
theorem pqg_v3 {f : Nat → Nat → Option Nat} {x y tx it mt tt ct : Option Nat} : pqg f x y tx it mt tt ct 3 4 = it := rfl
theorem pp_3_4 {x y tx it mt tt ct : Option Nat} : pq x y tx it mt tt ct 3 4 = it := pqg_v3
theorem pqg_u4 {f : Nat → Nat → Option Nat} {x y tx it mt tt ct v : Option Nat} : mu (pqg f x y tx it mt tt ct) 10 2 v = pqg f x y tx it v tt ct := by
  funext a i
  by_cases h : a = 10 ∧ i = 2
  · obtain ⟨rfl, rfl⟩ := h; rfl
  · rw [mu_ne h]
    unfold pqg
    simp only [if_neg h]
theorem pq_u4 {x y tx it mt tt ct v : Option Nat} : mu (pq x y tx it mt tt ct) 10 2 v = pq x y tx it v tt ct := pqg_u4
theorem pqg_v4 {f : Nat → Nat → Option Nat} {x y tx it mt tt ct : Option Nat} : pqg f x y tx it mt tt ct 10 2 = mt := rfl
theorem pp_10_2 {x y tx it mt tt ct : Option Nat} : pq x y tx it mt tt ct 10 2 = mt := pqg_v4
theorem pqg_u5 {f : Nat → Nat → Option Nat} {x y tx it mt tt ct v : Option Nat} : mu (pqg f x y tx it mt tt ct) 4 7 v = pqg f x y tx it mt v ct := by
  funext a i
  by_cases h : a = 4 ∧ i = 7
  · obtain ⟨rfl, rfl⟩ := h; rfl
  · rw [mu_ne h]
    unfold pqg
    simp only [if_neg h]
theorem pq_u5 {x y tx it mt tt ct v : Option Nat} : mu (pq x y tx it mt tt ct) 4 7 v = pq x y tx it mt v ct := pqg_u5
theorem pqg_v5 {f : Nat → Nat → Option Nat} {x y tx it mt tt ct : Option Nat} : pqg f x y tx it mt tt ct 4 7 = tt := rfl
theorem pp_4_7 {x y tx it mt tt ct : Option Nat} : pq x y tx it mt tt ct 4 7 = tt := pqg_v5
theorem pqg_u6 {f : Nat → Nat → Option Nat} {x y tx it mt tt ct v : Option Nat} : mu (pqg f x y tx it mt tt ct) 33 1 v = pqg f x y tx it mt tt v := by
  funext a i
  by_cases h : a = 33 ∧ i = 1
  · obtain ⟨rfl, rfl⟩ := h; rfl
  · rw [mu_ne h]
    unfold pqg
    simp only [if_neg h]
theorem pq_u6 {x y tx it mt tt ct v : Option Nat} : mu (pq x y tx it mt tt ct) 33 1 v = pq x y tx it mt tt v := pqg_u6
theorem pqg_v6 {f : Nat → Nat → Option Nat} {x y tx it mt tt ct : Option Nat} : pqg f x y tx it mt tt ct 33 1 = ct := rfl
theorem pp_33_1 {x y tx it mt tt ct : Option Nat} : pq x y tx it mt tt ct 33 1 = ct := pqg_v6
def pfl : List (Nat × Nat × Nat) := [(1, 0, 2), (1, 1, 3), (1, 2, 4), (1, 3, 10), (1, 4, 33), (1, 5, 35), (1, 6, 39), (1, 7, 102), (1, 8, 143), (1, 9, 147), (1, 10, 148), (1, 11, 157), (1, 12, 158), (4, 2, 5), (4, 3, 6), (4, 4, 7), (4, 5, 8), (4, 6, 9), (10, 0, 11), (10, 1, 16), (11, 0, 12), (11, 1, 13), (11, 2, 14), (11, 3, 15), (17, 6, 18), (19, 6, 20), (21, 6, 22), (23, 6, 24), (25, 6, 26), (27, 6, 28), (29, 6, 30), (31, 6, 32), (33, 0, 34), (35, 0, 36), (35, 1, 37), (35, 2, 38), (39, 3, 40), (102, 5, 103), (102, 6, 122), (102, 7, 141), (102, 8, 142), (159, 5, 160), (159, 6, 161), (159, 7, 162), (159, 8, 163), (159, 9, 164), (159, 10, 165), (159, 11, 166), (159, 12, 175), (159, 13, 176), (159, 14, 177), (159, 15, 178), (159, 16, 185), (192, 5, 193), (192, 6, 194), (192, 7, 195), (192, 8, 196), (192, 9, 197), (192, 10, 198), (192, 11, 199), (192, 12, 208), (192, 13, 209), (192, 14, 210), (192, 15, 211), (192, 16, 218), (225, 0, 226), (225, 10, 227), (225, 11, 228), (225, 12, 229), (225, 13, 230), (225, 14, 231), (225, 15, 232), (225, 16, 233), (225, 17, 234), (225, 18, 235), (225, 19, 236), (225, 20, 237), (225, 21, 238), (225, 22, 239), (225, 29, 240), (225, 30, 241), (225, 31, 242), (225, 33, 243), (225, 34, 244), (225, 35, 245), (225, 41, 246), (225, 43, 247), (225, 44, 248), (225, 45, 249), (225, 46, 250), (225, 47, 251), (225, 48, 252), (225, 49, 253), (225, 50, 254), (225, 51, 255), (225, 52, 256), (225, 55, 257), (225, 56, 258), (225, 57, 259), (225, 60, 260), (225, 61, 261), (225, 62, 262), (225, 63, 263), (225, 64, 264), (225, 65, 265), (225, 66, 266), (225, 67, 267), (225, 68, 268), (225, 69, 269), (225, 71, 270), (225, 72, 271), (225, 75, 272), (225, 78, 273), (225, 79, 274), (225, 80, 275)]
set_option maxRecDepth 100000 in
theorem px_all : (pfl.all (fun q => decide (xp ph_3 q.1 q.2.1 = some q.2.2)) = true) ∧ (∀ i, i < 8 → xp ph_3 16 i = some (17 + 2 * i)) ∧ (∀ i, i < 61 → xp ph_3 40 i = some (41 + i)) ∧ (∀ i, i < 18 → xp ph_3 103 i = some (104 + i)) ∧ (∀ i, i < 18 → xp ph_3 122 i = some (123 + i)) ∧ (∀ i, i < 3 → xp ph_3 143 i = some (144 + i)) ∧ (∀ i, i < 8 → xp ph_3 148 i = some (149 + i)) ∧ (∀ i, i < 8 → xp ph_3 166 i = some (167 + i)) ∧ (∀ i, i < 6 → xp ph_3 178 i = some (179 + i)) ∧ (∀ i, i < 6 → xp ph_3 185 i = some (186 + i)) ∧ (∀ i, i < 8 → xp ph_3 199 i = some (200 + i)) ∧ (∀ i, i < 6 → xp ph_3 211 i = some (212 + i)) ∧ (∀ i, i < 6 → xp ph_3 218 i = some (219 + i)) := by decide +kernel
theorem px_f {a i c : Nat} (h : (a, i, c) ∈ pfl) : xp ph_3 a i = some c := of_decide_eq_true (List.all_eq_true.mp px_all.1 (a, i, c) h)
theorem rg_a {l : List zk} {z : Nat → Nat → Int} {a i n c : Nat} {lo hi : Int} (hk : (l[a]?).getD (.inr []) = .inl (n, c, lo, hi)) (R : ∀ a i, ok_t ((l[a]?).getD (.inr [])) i (z a i)) (h : i < n) : ok_c c lo hi (z a i) := by
  have e := R a i
  rw [hk] at e
  exact e h
theorem rg_i {l : List zk} {z : Nat → Nat → Int} {a i n : Nat} {lo hi : Int} (hk : (l[a]?).getD (.inr []) = .inl (n, 0, lo, hi)) (R : ∀ a i, ok_t ((l[a]?).getD (.inr [])) i (z a i)) (h : i < n) : lo ≤ z a i ∧ z a i ≤ hi := rg_a hk R h
theorem rg_f {l : List zk} {z : Nat → Nat → Int} {a i n : Nat} {lo hi : Int} (hk : (l[a]?).getD (.inr []) = .inl (n, 1, lo, hi)) (R : ∀ a i, ok_t ((l[a]?).getD (.inr [])) i (z a i)) (h : i < n) : ok_f (z a i) := rg_a hk R h
theorem rg_o {l : List zk} {z : Nat → Nat → Int} {a i : Nat} {f : List (Int × Int)} {lo hi : Int} (hk : (l[a]?).getD (.inr []) = .inr f) (R : ∀ a i, ok_t ((l[a]?).getD (.inr [])) i (z a i)) (h : f[i]? = some (lo, hi)) : lo ≤ z a i ∧ z a i ≤ hi := by
  have e := R a i
  rw [hk] at e
  exact e _ h
theorem wg_a {l : List zk} {a i n c : Nat} {lo hi v : Int} (hk : (l[a]?).getD (.inr []) = .inl (n, c, lo, hi)) (h : ok_c c lo hi v) : ok_t ((l[a]?).getD (.inr [])) i v := by
  rw [hk]; exact fun _ => h
theorem wg_i {l : List zk} {a i n : Nat} {lo hi v : Int} (hk : (l[a]?).getD (.inr []) = .inl (n, 0, lo, hi)) (h : lo ≤ v ∧ v ≤ hi) : ok_t ((l[a]?).getD (.inr [])) i v := wg_a hk h
theorem wg_f {l : List zk} {a i n : Nat} {lo hi v : Int} (hk : (l[a]?).getD (.inr []) = .inl (n, 1, lo, hi)) (h : ok_f v) : ok_t ((l[a]?).getD (.inr [])) i v := wg_a hk h
theorem wg_o {l : List zk} {a i : Nat} {f : List (Int × Int)} {lo hi v : Int} (hk : (l[a]?).getD (.inr []) = .inr f) (hf : f[i]? = some (lo, hi)) (h : lo ≤ v ∧ v ≤ hi) : ok_t ((l[a]?).getD (.inr [])) i v := by
  rw [hk]; exact fun q e => by rw [hf] at e; cases e; exact h
/-- a list in chunks, looked up by chunk and place -/
noncomputable def ch_at {α : Type} (n : Nat) (Ls : List (List α)) (a : Nat) : Option α := match pm_nth Ls (a / n) with
  | some l => pm_nth l (a % n)
  | none => none
def ch_all {α : Type} (last : List α) : List (List α) → List α
  | [] => last
  | l :: r => l ++ ch_all last r
theorem ch_get {α : Type} {n : Nat} (hn : 0 < n) {last : List α} (hl : last.length ≤ n) : ∀ (Ls : List (List α)), (∀ l ∈ Ls, l.length = n) → ∀ a, (ch_all last Ls)[a]? = ch_at n (Ls ++ [last]) a := by
  intro Ls
  induction Ls with
  | nil =>
    intro _ a
    show last[a]? = ch_at n [last] a
    unfold ch_at
    rcases Nat.lt_or_ge a n with q | q
    · rw [Nat.div_eq_of_lt q, Nat.mod_eq_of_lt q]
      exact (pm_nth_eq last a).symm
    · have e : 0 < a / n := Nat.div_pos q hn
      have e1 : last[a]? = none := List.getElem?_eq_none (by omega)
      have e2 : pm_nth [last] (a / n) = none := (pm_nth_eq _ _).trans (List.getElem?_eq_none (show [last].length ≤ a / n from e))
      simp only [e1, e2]
  | cons l r ih =>
    intro h a
    show (l ++ ch_all last r)[a]? = ch_at n (l :: (r ++ [last])) a
    have hl2 : l.length = n := h l List.mem_cons_self
    rcases Nat.lt_or_ge a n with q | q
    · rw [List.getElem?_append_left (by omega)]
      unfold ch_at
      rw [Nat.div_eq_of_lt q, Nat.mod_eq_of_lt q]
      exact (pm_nth_eq l a).symm
    · obtain ⟨b, rfl⟩ : ∃ b, a = b + n := ⟨a - n, by omega⟩
      rw [List.getElem?_append_right (by omega), show b + n - l.length = b by omega, ih (fun x hx => h x (List.mem_cons_of_mem _ hx)) b]
      unfold ch_at
      rw [Nat.add_div_right b hn, Nat.add_mod_right]
      rfl
noncomputable def zkg (a : Nat) : Option zk := ch_at 40 ([zkl_0, zkl_1, zkl_2, zkl_3, zkl_4, zkl_5] ++ [zkl_6]) a
noncomputable def wkg (a : Nat) : Option zk := ch_at 40 ([wkl_0, wkl_1, wkl_2, wkl_3, wkl_4, wkl_5] ++ [wkl_6]) a
theorem ch_6 {α : Type} {n : Nat} {P : List α → Prop} {a b c d e f : List α} (h1 : P a) (h2 : P b) (h3 : P c) (h4 : P d) (h5 : P e) (h6 : P f) : ∀ l ∈ [a, b, c, d, e, f], P l := List.forall_mem_cons.mpr ⟨h1, List.forall_mem_cons.mpr ⟨h2, List.forall_mem_cons.mpr ⟨h3, List.forall_mem_cons.mpr ⟨h4, List.forall_mem_cons.mpr ⟨h5, List.forall_mem_cons.mpr ⟨h6, fun _ h => absurd h List.not_mem_nil⟩⟩⟩⟩⟩⟩
theorem zk_eq (a : Nat) : zkl[a]? = zkg a := ch_get (n := 40) (by decide) (last := zkl_6) (Nat.le_of_ble_eq_true rfl) [zkl_0, zkl_1, zkl_2, zkl_3, zkl_4, zkl_5] (ch_6 (n := 0) rfl rfl rfl rfl rfl rfl) a
theorem wk_eq (a : Nat) : wkl[a]? = wkg a := ch_get (n := 40) (by decide) (last := wkl_6) (Nat.le_of_ble_eq_true rfl) [wkl_0, wkl_1, wkl_2, wkl_3, wkl_4, wkl_5] (ch_6 (n := 0) rfl rfl rfl rfl rfl rfl) a
noncomputable def mshg (a : Nat) : Option mt := match a with
  | 0 => none
  | a + 1 => ch_at 50 ([mshl_0, mshl_1, mshl_2, mshl_3, mshl_4] ++ [mshl_5]) a
theorem msh_eq (a : Nat) : msh mshl a = mshg a := by
  cases a with
  | zero => rfl
  | succ a => exact ch_get (n := 50) (by decide) (last := mshl_5) (Nat.le_of_ble_eq_true rfl) [mshl_0, mshl_1, mshl_2, mshl_3, mshl_4] (List.forall_mem_cons.mpr ⟨rfl, List.forall_mem_cons.mpr ⟨rfl, List.forall_mem_cons.mpr ⟨rfl, List.forall_mem_cons.mpr ⟨rfl, List.forall_mem_cons.mpr ⟨rfl, fun _ h => absurd h List.not_mem_nil⟩⟩⟩⟩⟩) a
theorem msh_q {a : Nat} {s : mt} (h : mshg a = some s) : msh mshl a = some s := (msh_eq a).trans h
section
variable {z : Nat → Nat → Int} {a i n : Nat} {f : List (Int × Int)} {lo hi v : Int}
theorem zg_e {k : zk} (h : zkg a = some k) : (zkl[a]?).getD (.inr []) = k := by rw [zk_eq, h]; rfl
theorem wg_e {k : zk} (h : wkg a = some k) : (wkl[a]?).getD (.inr []) = k := by rw [wk_eq, h]; rfl
theorem rgz_o (hk : zkg a = some (.inr f)) (R : rz z) (h : f[i]? = some (lo, hi)) : lo ≤ z a i ∧ z a i ≤ hi := rg_o (zg_e hk) R h
theorem rgw_o (hk : wkg a = some (.inr f)) (R : rw_ z) (h : f[i]? = some (lo, hi)) : lo ≤ z a i ∧ z a i ≤ hi := rg_o (wg_e hk) R h
theorem rgz_i (hk : zkg a = some (.inl (n, 0, lo, hi))) (R : rz z) (h : i < n) : lo ≤ z a i ∧ z a i ≤ hi := rg_i (zg_e hk) R h
theorem rgw_i (hk : wkg a = some (.inl (n, 0, lo, hi))) (R : rw_ z) (h : i < n) : lo ≤ z a i ∧ z a i ≤ hi := rg_i (wg_e hk) R h
theorem rgz_f (hk : zkg a = some (.inl (n, 1, lo, hi))) (R : rz z) (h : i < n) : ok_f (z a i) := rg_f (zg_e hk) R h
theorem wgz_o (hk : zkg a = some (.inr f)) (hf : f[i]? = some (lo, hi)) (h : lo ≤ v ∧ v ≤ hi) : ok_t ((zkl[a]?).getD (.inr [])) i v := wg_o (zg_e hk) hf h
theorem wgw_o (hk : wkg a = some (.inr f)) (hf : f[i]? = some (lo, hi)) (h : lo ≤ v ∧ v ≤ hi) : ok_t ((wkl[a]?).getD (.inr [])) i v := wg_o (wg_e hk) hf h
theorem wgz_i (hk : zkg a = some (.inl (n, 0, lo, hi))) (h : lo ≤ v ∧ v ≤ hi) : ok_t ((zkl[a]?).getD (.inr [])) i v := wg_i (zg_e hk) h
theorem wgw_i (hk : wkg a = some (.inl (n, 0, lo, hi))) (h : lo ≤ v ∧ v ≤ hi) : ok_t ((wkl[a]?).getD (.inr [])) i v := wg_i (wg_e hk) h
theorem wgz_f (hk : zkg a = some (.inl (n, 1, lo, hi))) (h : ok_f v) : ok_t ((zkl[a]?).getD (.inr [])) i v := wg_f (zg_e hk) h
end
section PP
variable {x y tx it mt tt ct : Option Nat}
theorem pp_1_0 : pq x y tx it mt tt ct 1 0 = some 2 := (pq_ne rfl).trans (px_f (by decide))
theorem pp_1_1 : pq x y tx it mt tt ct 1 1 = some 3 := (pq_ne rfl).trans (px_f (by decide))
theorem pp_1_2 : pq x y tx it mt tt ct 1 2 = some 4 := (pq_ne rfl).trans (px_f (by decide))
theorem pp_1_3 : pq x y tx it mt tt ct 1 3 = some 10 := (pq_ne rfl).trans (px_f (by decide))
theorem pp_1_4 : pq x y tx it mt tt ct 1 4 = some 33 := (pq_ne rfl).trans (px_f (by decide))
theorem pp_1_5 : pq x y tx it mt tt ct 1 5 = some 35 := (pq_ne rfl).trans (px_f (by decide))
theorem pp_1_6 : pq x y tx it mt tt ct 1 6 = some 39 := (pq_ne rfl).trans (px_f (by decide))
theorem pp_1_7 : pq x y tx it mt tt ct 1 7 = some 102 := (pq_ne rfl).trans (px_f (by decide))
theorem pp_1_8 : pq x y tx it mt tt ct 1 8 = some 143 := (pq_ne rfl).trans (px_f (by decide))
theorem pp_1_9 : pq x y tx it mt tt ct 1 9 = some 147 := (pq_ne rfl).trans (px_f (by decide))
theorem pp_1_10 : pq x y tx it mt tt ct 1 10 = some 148 := (pq_ne rfl).trans (px_f (by decide))
theorem pp_1_11 : pq x y tx it mt tt ct 1 11 = some 157 := (pq_ne rfl).trans (px_f (by decide))
theorem pp_1_12 : pq x y tx it mt tt ct 1 12 = some 158 := (pq_ne rfl).trans (px_f (by decide))
theorem pp_4_2 : pq x y tx it mt tt ct 4 2 = some 5 := (pq_ne rfl).trans (px_f (by decide))
theorem pp_4_3 : pq x y tx it mt tt ct 4 3 = some 6 := (pq_ne rfl).trans (px_f (by decide))
theorem pp_4_4 : pq x y tx it mt tt ct 4 4 = some 7 := (pq_ne rfl).trans (px_f (by decide))
theorem pp_4_5 : pq x y tx it mt tt ct 4 5 = some 8 := (pq_ne rfl).trans (px_f (by decide))
theorem pp_4_6 : pq x y tx it mt tt ct 4 6 = some 9 := (pq_ne rfl).trans (px_f (by decide))
theorem pp_10_0 : pq x y tx it mt tt ct 10 0 = some 11 := (pq_ne rfl).trans (px_f (by decide))
theorem pp_10_1 : pq x y tx it mt tt ct 10 1 = some 16 := (pq_ne rfl).trans (px_f (by decide))
theorem pp_11_0 : pq x y tx it mt tt ct 11 0 = some 12 := (pq_ne rfl).trans (px_f (by decide))
theorem pp_11_1 : pq x y tx it mt tt ct 11 1 = some 13 := (pq_ne rfl).trans (px_f (by decide))
theorem pp_11_2 : pq x y tx it mt tt ct 11 2 = some 14 := (pq_ne rfl).trans (px_f (by decide))
theorem pp_11_3 : pq x y tx it mt tt ct 11 3 = some 15 := (pq_ne rfl).trans (px_f (by decide))
theorem pp_33_0 : pq x y tx it mt tt ct 33 0 = some 34 := (pq_ne rfl).trans (px_f (by decide))
theorem pp_35_0 : pq x y tx it mt tt ct 35 0 = some 36 := (pq_ne rfl).trans (px_f (by decide))
theorem pp_35_1 : pq x y tx it mt tt ct 35 1 = some 37 := (pq_ne rfl).trans (px_f (by decide))
theorem pp_35_2 : pq x y tx it mt tt ct 35 2 = some 38 := (pq_ne rfl).trans (px_f (by decide))
theorem pp_39_3 : pq x y tx it mt tt ct 39 3 = some 40 := (pq_ne rfl).trans (px_f (by decide))
theorem pp_102_5 : pq x y tx it mt tt ct 102 5 = some 103 := (pq_ne rfl).trans (px_f (by decide))
theorem pp_102_6 : pq x y tx it mt tt ct 102 6 = some 122 := (pq_ne rfl).trans (px_f (by decide))
theorem pp_102_7 : pq x y tx it mt tt ct 102 7 = some 141 := (pq_ne rfl).trans (px_f (by decide))
theorem pp_102_8 : pq x y tx it mt tt ct 102 8 = some 142 := (pq_ne rfl).trans (px_f (by decide))
theorem pp_225_0 : pq x y tx it mt tt ct 225 0 = some 226 := (pq_ne rfl).trans (px_f (by decide))
theorem pp_225_10 : pq x y tx it mt tt ct 225 10 = some 227 := (pq_ne rfl).trans (px_f (by decide))
theorem pp_225_11 : pq x y tx it mt tt ct 225 11 = some 228 := (pq_ne rfl).trans (px_f (by decide))
theorem pp_225_12 : pq x y tx it mt tt ct 225 12 = some 229 := (pq_ne rfl).trans (px_f (by decide))
theorem pp_225_13 : pq x y tx it mt tt ct 225 13 = some 230 := (pq_ne rfl).trans (px_f (by decide))
theorem pp_225_14 : pq x y tx it mt tt ct 225 14 = some 231 := (pq_ne rfl).trans (px_f (by decide))
theorem pp_225_15 : pq x y tx it mt tt ct 225 15 = some 232 := (pq_ne rfl).trans (px_f (by decide))
theorem pp_225_16 : pq x y tx it mt tt ct 225 16 = some 233 := (pq_ne rfl).trans (px_f (by decide))
theorem pp_225_17 : pq x y tx it mt tt ct 225 17 = some 234 := (pq_ne rfl).trans (px_f (by decide))
theorem pp_225_18 : pq x y tx it mt tt ct 225 18 = some 235 := (pq_ne rfl).trans (px_f (by decide))
theorem pp_225_19 : pq x y tx it mt tt ct 225 19 = some 236 := (pq_ne rfl).trans (px_f (by decide))
theorem pp_225_20 : pq x y tx it mt tt ct 225 20 = some 237 := (pq_ne rfl).trans (px_f (by decide))
theorem pp_225_21 : pq x y tx it mt tt ct 225 21 = some 238 := (pq_ne rfl).trans (px_f (by decide))
theorem pp_225_22 : pq x y tx it mt tt ct 225 22 = some 239 := (pq_ne rfl).trans (px_f (by decide))
theorem pp_225_29 : pq x y tx it mt tt ct 225 29 = some 240 := (pq_ne rfl).trans (px_f (by decide))
theorem pp_225_30 : pq x y tx it mt tt ct 225 30 = some 241 := (pq_ne rfl).trans (px_f (by decide))
theorem pp_225_31 : pq x y tx it mt tt ct 225 31 = some 242 := (pq_ne rfl).trans (px_f (by decide))
theorem pp_225_33 : pq x y tx it mt tt ct 225 33 = some 243 := (pq_ne rfl).trans (px_f (by decide))
theorem pp_225_34 : pq x y tx it mt tt ct 225 34 = some 244 := (pq_ne rfl).trans (px_f (by decide))
theorem pp_225_35 : pq x y tx it mt tt ct 225 35 = some 245 := (pq_ne rfl).trans (px_f (by decide))
theorem pp_225_41 : pq x y tx it mt tt ct 225 41 = some 246 := (pq_ne rfl).trans (px_f (by decide))
theorem pp_225_43 : pq x y tx it mt tt ct 225 43 = some 247 := (pq_ne rfl).trans (px_f (by decide))
theorem pp_225_44 : pq x y tx it mt tt ct 225 44 = some 248 := (pq_ne rfl).trans (px_f (by decide))
theorem pp_225_45 : pq x y tx it mt tt ct 225 45 = some 249 := (pq_ne rfl).trans (px_f (by decide))
theorem pp_225_46 : pq x y tx it mt tt ct 225 46 = some 250 := (pq_ne rfl).trans (px_f (by decide))
theorem pp_225_47 : pq x y tx it mt tt ct 225 47 = some 251 := (pq_ne rfl).trans (px_f (by decide))
theorem pp_225_48 : pq x y tx it mt tt ct 225 48 = some 252 := (pq_ne rfl).trans (px_f (by decide))
theorem pp_225_49 : pq x y tx it mt tt ct 225 49 = some 253 := (pq_ne rfl).trans (px_f (by decide))
theorem pp_225_50 : pq x y tx it mt tt ct 225 50 = some 254 := (pq_ne rfl).trans (px_f (by decide))
theorem pp_225_51 : pq x y tx it mt tt ct 225 51 = some 255 := (pq_ne rfl).trans (px_f (by decide))
theorem pp_225_52 : pq x y tx it mt tt ct 225 52 = some 256 := (pq_ne rfl).trans (px_f (by decide))
theorem pp_225_55 : pq x y tx it mt tt ct 225 55 = some 257 := (pq_ne rfl).trans (px_f (by decide))
theorem pp_225_56 : pq x y tx it mt tt ct 225 56 = some 258 := (pq_ne rfl).trans (px_f (by decide))
theorem pp_225_57 : pq x y tx it mt tt ct 225 57 = some 259 := (pq_ne rfl).trans (px_f (by decide))
theorem pp_225_60 : pq x y tx it mt tt ct 225 60 = some 260 := (pq_ne rfl).trans (px_f (by decide))
theorem pp_225_61 : pq x y tx it mt tt ct 225 61 = some 261 := (pq_ne rfl).trans (px_f (by decide))
theorem pp_225_62 : pq x y tx it mt tt ct 225 62 = some 262 := (pq_ne rfl).trans (px_f (by decide))
theorem pp_225_63 : pq x y tx it mt tt ct 225 63 = some 263 := (pq_ne rfl).trans (px_f (by decide))
theorem pp_225_64 : pq x y tx it mt tt ct 225 64 = some 264 := (pq_ne rfl).trans (px_f (by decide))
theorem pp_225_65 : pq x y tx it mt tt ct 225 65 = some 265 := (pq_ne rfl).trans (px_f (by decide))
theorem pp_225_66 : pq x y tx it mt tt ct 225 66 = some 266 := (pq_ne rfl).trans (px_f (by decide))
theorem pp_225_67 : pq x y tx it mt tt ct 225 67 = some 267 := (pq_ne rfl).trans (px_f (by decide))
theorem pp_225_68 : pq x y tx it mt tt ct 225 68 = some 268 := (pq_ne rfl).trans (px_f (by decide))
theorem pp_225_69 : pq x y tx it mt tt ct 225 69 = some 269 := (pq_ne rfl).trans (px_f (by decide))
theorem pp_225_71 : pq x y tx it mt tt ct 225 71 = some 270 := (pq_ne rfl).trans (px_f (by decide))
theorem pp_225_72 : pq x y tx it mt tt ct 225 72 = some 271 := (pq_ne rfl).trans (px_f (by decide))
theorem pp_225_75 : pq x y tx it mt tt ct 225 75 = some 272 := (pq_ne rfl).trans (px_f (by decide))
theorem pp_225_78 : pq x y tx it mt tt ct 225 78 = some 273 := (pq_ne rfl).trans (px_f (by decide))
theorem pp_225_79 : pq x y tx it mt tt ct 225 79 = some 274 := (pq_ne rfl).trans (px_f (by decide))
theorem pp_225_80 : pq x y tx it mt tt ct 225 80 = some 275 := (pq_ne rfl).trans (px_f (by decide))
theorem pp_T_5 {t : Nat} (h : isT t) : pq x y tx it mt tt ct t 5 = some (t + 1) := by
  rcases h with rfl | rfl
  · exact (pq_ne rfl).trans (px_f (by decide))
  · exact (pq_ne rfl).trans (px_f (by decide))
theorem pp_T_6 {t : Nat} (h : isT t) : pq x y tx it mt tt ct t 6 = some (t + 2) := by
  rcases h with rfl | rfl
  · exact (pq_ne rfl).trans (px_f (by decide))
  · exact (pq_ne rfl).trans (px_f (by decide))
theorem pp_T_7 {t : Nat} (h : isT t) : pq x y tx it mt tt ct t 7 = some (t + 3) := by
  rcases h with rfl | rfl
  · exact (pq_ne rfl).trans (px_f (by decide))
  · exact (pq_ne rfl).trans (px_f (by decide))
theorem pp_T_8 {t : Nat} (h : isT t) : pq x y tx it mt tt ct t 8 = some (t + 4) := by
  rcases h with rfl | rfl
  · exact (pq_ne rfl).trans (px_f (by decide))
  · exact (pq_ne rfl).trans (px_f (by decide))
theorem pp_T_9 {t : Nat} (h : isT t) : pq x y tx it mt tt ct t 9 = some (t + 5) := by
  rcases h with rfl | rfl
  · exact (pq_ne rfl).trans (px_f (by decide))
  · exact (pq_ne rfl).trans (px_f (by decide))
theorem pp_T_10 {t : Nat} (h : isT t) : pq x y tx it mt tt ct t 10 = some (t + 6) := by
  rcases h with rfl | rfl
  · exact (pq_ne rfl).trans (px_f (by decide))
  · exact (pq_ne rfl).trans (px_f (by decide))
theorem pp_T_11 {t : Nat} (h : isT t) : pq x y tx it mt tt ct t 11 = some (t + 7) := by
  rcases h with rfl | rfl
  · exact (pq_ne rfl).trans (px_f (by decide))
  · exact (pq_ne rfl).trans (px_f (by decide))
theorem pp_T_12 {t : Nat} (h : isT t) : pq x y tx it mt tt ct t 12 = some (t + 16) := by
  rcases h with rfl | rfl
  · exact (pq_ne rfl).trans (px_f (by decide))
  · exact (pq_ne rfl).trans (px_f (by decide))
theorem pp_T_13 {t : Nat} (h : isT t) : pq x y tx it mt tt ct t 13 = some (t + 17) := by
  rcases h with rfl | rfl
  · exact (pq_ne rfl).trans (px_f (by decide))
  · exact (pq_ne rfl).trans (px_f (by decide))
theorem pp_T_14 {t : Nat} (h : isT t) : pq x y tx it mt tt ct t 14 = some (t + 18) := by
  rcases h with rfl | rfl
  · exact (pq_ne rfl).trans (px_f (by decide))
  · exact (pq_ne rfl).trans (px_f (by decide))
theorem pp_T_15 {t : Nat} (h : isT t) : pq x y tx it mt tt ct t 15 = some (t + 19) := by
  rcases h with rfl | rfl
  · exact (pq_ne rfl).trans (px_f (by decide))
  · exact (pq_ne rfl).trans (px_f (by decide))
theorem pp_T_16 {t : Nat} (h : isT t) : pq x y tx it mt tt ct t 16 = some (t + 26) := by
  rcases h with rfl | rfl
  · exact (pq_ne rfl).trans (px_f (by decide))
  · exact (pq_ne rfl).trans (px_f (by decide))
theorem pa_16 {i : Nat} (h : i < 8) : pq x y tx it mt tt ct 16 i = some (17 + 2 * i) := by
  exact (pq_ne rfl).trans (px_all.2.1 i h)
theorem pa_40 {i : Nat} (h : i < 61) : pq x y tx it mt tt ct 40 i = some (41 + i) := by
  exact (pq_ne rfl).trans (px_all.2.2.1 i h)
theorem pa_103 {i : Nat} (h : i < 18) : pq x y tx it mt tt ct 103 i = some (104 + i) := by
  exact (pq_ne rfl).trans (px_all.2.2.2.1 i h)
theorem pa_122 {i : Nat} (h : i < 18) : pq x y tx it mt tt ct 122 i = some (123 + i) := by
  exact (pq_ne rfl).trans (px_all.2.2.2.2.1 i h)
theorem pa_143 {i : Nat} (h : i < 3) : pq x y tx it mt tt ct 143 i = some (144 + i) := by
  exact (pq_ne rfl).trans (px_all.2.2.2.2.2.1 i h)
theorem pa_148 {i : Nat} (h : i < 8) : pq x y tx it mt tt ct 148 i = some (149 + i) := by
  exact (pq_ne rfl).trans (px_all.2.2.2.2.2.2.1 i h)
theorem pa_166 {i : Nat} (h : i < 8) : pq x y tx it mt tt ct 166 i = some (167 + i) := by
  exact (pq_ne rfl).trans (px_all.2.2.2.2.2.2.2.1 i h)
theorem pa_178 {i : Nat} (h : i < 6) : pq x y tx it mt tt ct 178 i = some (179 + i) := by
  exact (pq_ne rfl).trans (px_all.2.2.2.2.2.2.2.2.1 i h)
theorem pa_185 {i : Nat} (h : i < 6) : pq x y tx it mt tt ct 185 i = some (186 + i) := by
  exact (pq_ne rfl).trans (px_all.2.2.2.2.2.2.2.2.2.1 i h)
theorem pa_199 {i : Nat} (h : i < 8) : pq x y tx it mt tt ct 199 i = some (200 + i) := by
  exact (pq_ne rfl).trans (px_all.2.2.2.2.2.2.2.2.2.2.1 i h)
theorem pa_211 {i : Nat} (h : i < 6) : pq x y tx it mt tt ct 211 i = some (212 + i) := by
  exact (pq_ne rfl).trans (px_all.2.2.2.2.2.2.2.2.2.2.2.1 i h)
theorem pa_218 {i : Nat} (h : i < 6) : pq x y tx it mt tt ct 218 i = some (219 + i) := by
  exact (pq_ne rfl).trans (px_all.2.2.2.2.2.2.2.2.2.2.2.2 i h)
theorem pa_T7 {t i : Nat} (ht : isT t) (h : i < 8) : pq x y tx it mt tt ct (t + 7) i = some (t + 8 + i) := by
  rcases ht with rfl | rfl
  · exact pa_166 h
  · exact pa_199 h
theorem pa_T19 {t i : Nat} (ht : isT t) (h : i < 6) : pq x y tx it mt tt ct (t + 19) i = some (t + 20 + i) := by
  rcases ht with rfl | rfl
  · exact pa_178 h
  · exact pa_211 h
theorem pa_T26 {t i : Nat} (ht : isT t) (h : i < 6) : pq x y tx it mt tt ct (t + 26) i = some (t + 27 + i) := by
  rcases ht with rfl | rfl
  · exact pa_185 h
  · exact pa_218 h
theorem pp_R {k : Nat} (h : k < 8) : pq x y tx it mt tt ct (17 + 2 * k) 6 = some (18 + 2 * k) := by
  rcases (show k = 0 ∨ k = 1 ∨ k = 2 ∨ k = 3 ∨ k = 4 ∨ k = 5 ∨ k = 6 ∨ k = 7 by omega) with rfl | rfl | rfl | rfl | rfl | rfl | rfl | rfl
  · exact (pq_ne rfl).trans (px_f (by decide))
  · exact (pq_ne rfl).trans (px_f (by decide))
  · exact (pq_ne rfl).trans (px_f (by decide))
  · exact (pq_ne rfl).trans (px_f (by decide))
  · exact (pq_ne rfl).trans (px_f (by decide))
  · exact (pq_ne rfl).trans (px_f (by decide))
  · exact (pq_ne rfl).trans (px_f (by decide))
  · exact (pq_ne rfl).trans (px_f (by decide))
end PP
theorem sh_1 : msh mshl 1 = some (0, 10, 0) := msh_q rfl
theorem rd_1_15 {z : Nat → Nat → Int} (R : rz z) : 0 ≤ z 1 15 ∧ z 1 15 ≤ 1600 := by exact rgz_o rfl R rfl
theorem wr_1_15 {v : Int} (h : 0 ≤ v ∧ v ≤ 1600) : ok_t ((zkl[(1 : Nat)]?).getD (.inr [])) 15 v := by exact wgz_o rfl rfl h
theorem rd_1_16 {z : Nat → Nat → Int} (R : rz z) : (-2147483648) ≤ z 1 16 ∧ z 1 16 ≤ 2147483647 := by exact rgz_o rfl R rfl
theorem wr_1_16 {v : Int} (h : (-2147483648) ≤ v ∧ v ≤ 2147483647) : ok_t ((zkl[(1 : Nat)]?).getD (.inr [])) 16 v := by exact wgz_o rfl rfl h
theorem rd_1_17 {z : Nat → Nat → Int} (R : rz z) : (-2147483648) ≤ z 1 17 ∧ z 1 17 ≤ 2147483647 := by exact rgz_o rfl R rfl
theorem wr_1_17 {v : Int} (h : (-2147483648) ≤ v ∧ v ≤ 2147483647) : ok_t ((zkl[(1 : Nat)]?).getD (.inr [])) 17 v := by exact wgz_o rfl rfl h
theorem rd_1_18 {z : Nat → Nat → Int} (R : rz z) : 0 ≤ z 1 18 ∧ z 1 18 ≤ 1 := by exact rgz_o rfl R rfl
theorem wr_1_18 {v : Int} (h : 0 ≤ v ∧ v ≤ 1) : ok_t ((zkl[(1 : Nat)]?).getD (.inr [])) 18 v := by exact wgz_o rfl rfl h
theorem sh_2 : msh mshl 2 = some (1, 2, 1600) := msh_q rfl
theorem rd_2 {z : Nat → Nat → Int} (R : rz z) {i : Nat} (h : i < 1600) : (-128) ≤ z 2 i ∧ z 2 i ≤ 127 := by exact rgz_i rfl R h
theorem wr_2 {i : Nat} {v : Int} (h : (-128) ≤ v ∧ v ≤ 127) : ok_t ((zkl[(2 : Nat)]?).getD (.inr [])) i v := by exact wgz_i rfl h
theorem sh_3 : msh mshl 3 = some (0, 4, 0) := msh_q rfl
theorem rd_3_0 {z : Nat → Nat → Int} (R : rz z) : (-2147483648) ≤ z 3 0 ∧ z 3 0 ≤ 2147483647 := by exact rgz_o rfl R rfl
theorem wr_3_0 {v : Int} (h : (-2147483648) ≤ v ∧ v ≤ 2147483647) : ok_t ((zkl[(3 : Nat)]?).getD (.inr [])) 0 v := by exact wgz_o rfl rfl h
theorem rd_3_1 {z : Nat → Nat → Int} (R : rz z) : (-2147483648) ≤ z 3 1 ∧ z 3 1 ≤ 2147483647 := by exact rgz_o rfl R rfl
theorem wr_3_1 {v : Int} (h : (-2147483648) ≤ v ∧ v ≤ 2147483647) : ok_t ((zkl[(3 : Nat)]?).getD (.inr [])) 1 v := by exact wgz_o rfl rfl h
theorem rd_3_3 {z : Nat → Nat → Int} (R : rz z) : 0 ≤ z 3 3 ∧ z 3 3 ≤ 1600 := by exact rgz_o rfl R rfl
theorem wr_3_3 {v : Int} (h : 0 ≤ v ∧ v ≤ 1600) : ok_t ((zkl[(3 : Nat)]?).getD (.inr [])) 3 v := by exact wgz_o rfl rfl h
theorem rd_3_5 {z : Nat → Nat → Int} (R : rz z) : 0 ≤ z 3 5 ∧ z 3 5 ≤ 1 := by exact rgz_o rfl R rfl
theorem wr_3_5 {v : Int} (h : 0 ≤ v ∧ v ≤ 1) : ok_t ((zkl[(3 : Nat)]?).getD (.inr [])) 5 v := by exact wgz_o rfl rfl h
theorem rd_3_6 {z : Nat → Nat → Int} (R : rz z) : 0 ≤ z 3 6 ∧ z 3 6 ≤ 1600 := by exact rgz_o rfl R rfl
theorem wr_3_6 {v : Int} (h : 0 ≤ v ∧ v ≤ 1600) : ok_t ((zkl[(3 : Nat)]?).getD (.inr [])) 6 v := by exact wgz_o rfl rfl h
theorem rd_3_7 {z : Nat → Nat → Int} (R : rz z) : 0 ≤ z 3 7 ∧ z 3 7 ≤ 10 := by exact rgz_o rfl R rfl
theorem wr_3_7 {v : Int} (h : 0 ≤ v ∧ v ≤ 10) : ok_t ((zkl[(3 : Nat)]?).getD (.inr [])) 7 v := by exact wgz_o rfl rfl h
theorem rd_3_8 {z : Nat → Nat → Int} (R : rz z) : 0 ≤ z 3 8 ∧ z 3 8 ≤ 1600 := by exact rgz_o rfl R rfl
theorem wr_3_8 {v : Int} (h : 0 ≤ v ∧ v ≤ 1600) : ok_t ((zkl[(3 : Nat)]?).getD (.inr [])) 8 v := by exact wgz_o rfl rfl h
theorem rd_3_9 {z : Nat → Nat → Int} (R : rz z) : (-2147483648) ≤ z 3 9 ∧ z 3 9 ≤ 2147483647 := by exact rgz_o rfl R rfl
theorem wr_3_9 {v : Int} (h : (-2147483648) ≤ v ∧ v ≤ 2147483647) : ok_t ((zkl[(3 : Nat)]?).getD (.inr [])) 9 v := by exact wgz_o rfl rfl h
theorem rd_3_10 {w : Nat → Nat → Int} (R : rw_ w) : (-9223372036854775808) ≤ w 3 10 ∧ w 3 10 ≤ 9223372036854775807 := by exact rgw_o rfl R rfl
theorem wr_3_10 {v : Int} (h : (-9223372036854775808) ≤ v ∧ v ≤ 9223372036854775807) : ok_t ((wkl[(3 : Nat)]?).getD (.inr [])) 10 v := by exact wgw_o rfl rfl h
theorem sh_4 : msh mshl 4 = some (0, 9, 0) := msh_q rfl
theorem rd_4_0 {z : Nat → Nat → Int} (R : rz z) : (-2147483648) ≤ z 4 0 ∧ z 4 0 ≤ 2147483647 := by exact rgz_o rfl R rfl
theorem wr_4_0 {v : Int} (h : (-2147483648) ≤ v ∧ v ≤ 2147483647) : ok_t ((zkl[(4 : Nat)]?).getD (.inr [])) 0 v := by exact wgz_o rfl rfl h
theorem rd_4_1 {z : Nat → Nat → Int} (R : rz z) : (-2147483648) ≤ z 4 1 ∧ z 4 1 ≤ 2147483647 := by exact rgz_o rfl R rfl
theorem wr_4_1 {v : Int} (h : (-2147483648) ≤ v ∧ v ≤ 2147483647) : ok_t ((zkl[(4 : Nat)]?).getD (.inr [])) 1 v := by exact wgz_o rfl rfl h
theorem rd_4_8 {z : Nat → Nat → Int} (R : rz z) : 0 ≤ z 4 8 ∧ z 4 8 ≤ 18000 := by exact rgz_o rfl R rfl
theorem wr_4_8 {v : Int} (h : 0 ≤ v ∧ v ≤ 18000) : ok_t ((zkl[(4 : Nat)]?).getD (.inr [])) 8 v := by exact wgz_o rfl rfl h
theorem rd_4_9 {z : Nat → Nat → Int} (R : rz z) : 0 ≤ z 4 9 ∧ z 4 9 ≤ 35 := by exact rgz_o rfl R rfl
theorem wr_4_9 {v : Int} (h : 0 ≤ v ∧ v ≤ 35) : ok_t ((zkl[(4 : Nat)]?).getD (.inr [])) 9 v := by exact wgz_o rfl rfl h
theorem rd_4_10 {z : Nat → Nat → Int} (R : rz z) : (-2147483648) ≤ z 4 10 ∧ z 4 10 ≤ 2147483647 := by exact rgz_o rfl R rfl
theorem wr_4_10 {v : Int} (h : (-2147483648) ≤ v ∧ v ≤ 2147483647) : ok_t ((zkl[(4 : Nat)]?).getD (.inr [])) 10 v := by exact wgz_o rfl rfl h
theorem rd_4_11 {z : Nat → Nat → Int} (R : rz z) : 0 ≤ z 4 11 ∧ z 4 11 ≤ 35 := by exact rgz_o rfl R rfl
theorem wr_4_11 {v : Int} (h : 0 ≤ v ∧ v ≤ 35) : ok_t ((zkl[(4 : Nat)]?).getD (.inr [])) 11 v := by exact wgz_o rfl rfl h
theorem rd_4_12 {z : Nat → Nat → Int} (R : rz z) : (-2147483648) ≤ z 4 12 ∧ z 4 12 ≤ 2147483647 := by exact rgz_o rfl R rfl
theorem wr_4_12 {v : Int} (h : (-2147483648) ≤ v ∧ v ≤ 2147483647) : ok_t ((zkl[(4 : Nat)]?).getD (.inr [])) 12 v := by exact wgz_o rfl rfl h
theorem rd_4_13 {z : Nat → Nat → Int} (R : rz z) : 0 ≤ z 4 13 ∧ z 4 13 ≤ 1 := by exact rgz_o rfl R rfl
theorem wr_4_13 {v : Int} (h : 0 ≤ v ∧ v ≤ 1) : ok_t ((zkl[(4 : Nat)]?).getD (.inr [])) 13 v := by exact wgz_o rfl rfl h
theorem sh_5 : msh mshl 5 = some (1, 1, 282) := msh_q rfl
theorem rd_5 {w : Nat → Nat → Int} (R : rw_ w) {i : Nat} (h : i < 282) : (-9223372036854775808) ≤ w 5 i ∧ w 5 i ≤ 9223372036854775807 := by exact rgw_i rfl R h
theorem wr_5 {i : Nat} {v : Int} (h : (-9223372036854775808) ≤ v ∧ v ≤ 9223372036854775807) : ok_t ((wkl[(5 : Nat)]?).getD (.inr [])) i v := by exact wgw_i rfl h
theorem sh_6 : msh mshl 6 = some (1, 0, 18) := msh_q rfl
theorem rd_6 {z : Nat → Nat → Int} (R : rz z) {i : Nat} (h : i < 18) : 0 ≤ z 6 i ∧ z 6 i ≤ 18000 := by exact rgz_i rfl R h
theorem wr_6 {i : Nat} {v : Int} (h : 0 ≤ v ∧ v ≤ 18000) : ok_t ((zkl[(6 : Nat)]?).getD (.inr [])) i v := by exact wgz_i rfl h
theorem sh_7 : msh mshl 7 = some (1, 0, 18) := msh_q rfl
theorem rd_7 {z : Nat → Nat → Int} (R : rz z) {i : Nat} (h : i < 18) : 0 ≤ z 7 i ∧ z 7 i ≤ 18000 := by exact rgz_i rfl R h
theorem wr_7 {i : Nat} {v : Int} (h : 0 ≤ v ∧ v ≤ 18000) : ok_t ((zkl[(7 : Nat)]?).getD (.inr [])) i v := by exact wgz_i rfl h
theorem sh_8 : msh mshl 8 = some (1, 0, 36) := msh_q rfl
theorem rd_8 {z : Nat → Nat → Int} (R : rz z) {i : Nat} (h : i < 36) : (-2147483648) ≤ z 8 i ∧ z 8 i ≤ 2147483647 := by exact rgz_i rfl R h
theorem wr_8 {i : Nat} {v : Int} (h : (-2147483648) ≤ v ∧ v ≤ 2147483647) : ok_t ((zkl[(8 : Nat)]?).getD (.inr [])) i v := by exact wgz_i rfl h
theorem sh_9 : msh mshl 9 = some (1, 0, 36) := msh_q rfl
theorem rd_9 {z : Nat → Nat → Int} (R : rz z) {i : Nat} (h : i < 36) : (-2147483648) ≤ z 9 i ∧ z 9 i ≤ 2147483647 := by exact rgz_i rfl R h
theorem wr_9 {i : Nat} {v : Int} (h : (-2147483648) ≤ v ∧ v ≤ 2147483647) : ok_t ((zkl[(9 : Nat)]?).getD (.inr [])) i v := by exact wgz_i rfl h
theorem sh_10 : msh mshl 10 = some (0, 3, 0) := msh_q rfl
theorem sh_11 : msh mshl 11 = some (0, 6, 0) := msh_q rfl
theorem rd_11_4 {z : Nat → Nat → Int} (R : rz z) : 0 ≤ z 11 4 ∧ z 11 4 ≤ 36 := by exact rgz_o rfl R rfl
theorem wr_11_4 {v : Int} (h : 0 ≤ v ∧ v ≤ 36) : ok_t ((zkl[(11 : Nat)]?).getD (.inr [])) 4 v := by exact wgz_o rfl rfl h
theorem rd_11_5 {z : Nat → Nat → Int} (R : rz z) : 0 ≤ z 11 5 ∧ z 11 5 ≤ 18 := by exact rgz_o rfl R rfl
theorem wr_11_5 {v : Int} (h : 0 ≤ v ∧ v ≤ 18) : ok_t ((zkl[(11 : Nat)]?).getD (.inr [])) 5 v := by exact wgz_o rfl rfl h
theorem rd_11_6 {z : Nat → Nat → Int} (R : rz z) : 0 ≤ z 11 6 ∧ z 11 6 ≤ 17 := by exact rgz_o rfl R rfl
theorem wr_11_6 {v : Int} (h : 0 ≤ v ∧ v ≤ 17) : ok_t ((zkl[(11 : Nat)]?).getD (.inr [])) 6 v := by exact wgz_o rfl rfl h
theorem rd_11_7 {z : Nat → Nat → Int} (R : rz z) : 0 ≤ z 11 7 ∧ z 11 7 ≤ 17 := by exact rgz_o rfl R rfl
theorem wr_11_7 {v : Int} (h : 0 ≤ v ∧ v ≤ 17) : ok_t ((zkl[(11 : Nat)]?).getD (.inr [])) 7 v := by exact wgz_o rfl rfl h
theorem rd_11_8 {z : Nat → Nat → Int} (R : rz z) : 0 ≤ z 11 8 ∧ z 11 8 ≤ 17 := by exact rgz_o rfl R rfl
theorem wr_11_8 {v : Int} (h : 0 ≤ v ∧ v ≤ 17) : ok_t ((zkl[(11 : Nat)]?).getD (.inr [])) 8 v := by exact wgz_o rfl rfl h
theorem rd_11_9 {z : Nat → Nat → Int} (R : rz z) : 0 ≤ z 11 9 ∧ z 11 9 ≤ 17 := by exact rgz_o rfl R rfl
theorem wr_11_9 {v : Int} (h : 0 ≤ v ∧ v ≤ 17) : ok_t ((zkl[(11 : Nat)]?).getD (.inr [])) 9 v := by exact wgz_o rfl rfl h
theorem rd_11_10 {w : Nat → Nat → Int} (R : rw_ w) : (-9223372036854775808) ≤ w 11 10 ∧ w 11 10 ≤ 9223372036854775807 := by exact rgw_o rfl R rfl
theorem wr_11_10 {v : Int} (h : (-9223372036854775808) ≤ v ∧ v ≤ 9223372036854775807) : ok_t ((wkl[(11 : Nat)]?).getD (.inr [])) 10 v := by exact wgw_o rfl rfl h
theorem sh_12 : msh mshl 12 = some (1, 0, 36) := msh_q rfl
theorem rd_12 {z : Nat → Nat → Int} (R : rz z) {i : Nat} (h : i < 36) : 0 ≤ z 12 i ∧ z 12 i ≤ 17 := by exact rgz_i rfl R h
theorem wr_12 {i : Nat} {v : Int} (h : 0 ≤ v ∧ v ≤ 17) : ok_t ((zkl[(12 : Nat)]?).getD (.inr [])) i v := by exact wgz_i rfl h
theorem sh_13 : msh mshl 13 = some (1, 0, 18) := msh_q rfl
theorem rd_13 {z : Nat → Nat → Int} (R : rz z) {i : Nat} (h : i < 18) : (-1) ≤ z 13 i ∧ z 13 i ≤ 35 := by exact rgz_i rfl R h
theorem wr_13 {i : Nat} {v : Int} (h : (-1) ≤ v ∧ v ≤ 35) : ok_t ((zkl[(13 : Nat)]?).getD (.inr [])) i v := by exact wgz_i rfl h
theorem sh_14 : msh mshl 14 = some (1, 0, 18) := msh_q rfl
theorem rd_14 {z : Nat → Nat → Int} (R : rz z) {i : Nat} (h : i < 18) : 0 ≤ z 14 i ∧ z 14 i ≤ 35 := by exact rgz_i rfl R h
theorem wr_14 {i : Nat} {v : Int} (h : 0 ≤ v ∧ v ≤ 35) : ok_t ((zkl[(14 : Nat)]?).getD (.inr [])) i v := by exact wgz_i rfl h
theorem sh_15 : msh mshl 15 = some (1, 1, 18) := msh_q rfl
theorem rd_15 {w : Nat → Nat → Int} (R : rw_ w) {i : Nat} (h : i < 18) : (-9223372036854775808) ≤ w 15 i ∧ w 15 i ≤ 9223372036854775807 := by exact rgw_i rfl R h
theorem wr_15 {i : Nat} {v : Int} (h : (-9223372036854775808) ≤ v ∧ v ≤ 9223372036854775807) : ok_t ((wkl[(15 : Nat)]?).getD (.inr [])) i v := by exact wgw_i rfl h
theorem sh_16 : msh mshl 16 = some (1, 6, 8) := msh_q rfl
theorem sh_R {k : Nat} (hk : k < 8) : msh mshl (17 + 2 * k) = some (0, 5, 0) := by rcases (show k = 0 ∨ k = 1 ∨ k = 2 ∨ k = 3 ∨ k = 4 ∨ k = 5 ∨ k = 6 ∨ k = 7 by omega) with rfl | rfl | rfl | rfl | rfl | rfl | rfl | rfl <;> exact msh_q rfl
theorem rd_R_0 {k : Nat} (hk : k < 8) {z : Nat → Nat → Int} (R : rz z) : 0 ≤ z (17 + 2 * k) 0 ∧ z (17 + 2 * k) 0 ≤ 2 := by rcases (show k = 0 ∨ k = 1 ∨ k = 2 ∨ k = 3 ∨ k = 4 ∨ k = 5 ∨ k = 6 ∨ k = 7 by omega) with rfl | rfl | rfl | rfl | rfl | rfl | rfl | rfl <;> exact rgz_o rfl R rfl
theorem wr_R_0 {k : Nat} (hk : k < 8) {v : Int} (h : 0 ≤ v ∧ v ≤ 2) : ok_t ((zkl[((17 + 2 * k) : Nat)]?).getD (.inr [])) 0 v := by rcases (show k = 0 ∨ k = 1 ∨ k = 2 ∨ k = 3 ∨ k = 4 ∨ k = 5 ∨ k = 6 ∨ k = 7 by omega) with rfl | rfl | rfl | rfl | rfl | rfl | rfl | rfl <;> exact wgz_o rfl rfl h
theorem rd_R_1 {k : Nat} (hk : k < 8) {z : Nat → Nat → Int} (R : rz z) : 0 ≤ z (17 + 2 * k) 1 ∧ z (17 + 2 * k) 1 ≤ 1782 := by rcases (show k = 0 ∨ k = 1 ∨ k = 2 ∨ k = 3 ∨ k = 4 ∨ k = 5 ∨ k = 6 ∨ k = 7 by omega) with rfl | rfl | rfl | rfl | rfl | rfl | rfl | rfl <;> exact rgz_o rfl R rfl
theorem wr_R_1 {k : Nat} (hk : k < 8) {v : Int} (h : 0 ≤ v ∧ v ≤ 1782) : ok_t ((zkl[((17 + 2 * k) : Nat)]?).getD (.inr [])) 1 v := by rcases (show k = 0 ∨ k = 1 ∨ k = 2 ∨ k = 3 ∨ k = 4 ∨ k = 5 ∨ k = 6 ∨ k = 7 by omega) with rfl | rfl | rfl | rfl | rfl | rfl | rfl | rfl <;> exact wgz_o rfl rfl h
theorem rd_R_2 {k : Nat} (hk : k < 8) {z : Nat → Nat → Int} (R : rz z) : 0 ≤ z (17 + 2 * k) 2 ∧ z (17 + 2 * k) 2 ≤ 17 := by rcases (show k = 0 ∨ k = 1 ∨ k = 2 ∨ k = 3 ∨ k = 4 ∨ k = 5 ∨ k = 6 ∨ k = 7 by omega) with rfl | rfl | rfl | rfl | rfl | rfl | rfl | rfl <;> exact rgz_o rfl R rfl
theorem wr_R_2 {k : Nat} (hk : k < 8) {v : Int} (h : 0 ≤ v ∧ v ≤ 17) : ok_t ((zkl[((17 + 2 * k) : Nat)]?).getD (.inr [])) 2 v := by rcases (show k = 0 ∨ k = 1 ∨ k = 2 ∨ k = 3 ∨ k = 4 ∨ k = 5 ∨ k = 6 ∨ k = 7 by omega) with rfl | rfl | rfl | rfl | rfl | rfl | rfl | rfl <;> exact wgz_o rfl rfl h
theorem rd_R_3 {k : Nat} (hk : k < 8) {z : Nat → Nat → Int} (R : rz z) : 0 ≤ z (17 + 2 * k) 3 ∧ z (17 + 2 * k) 3 ≤ 17 := by rcases (show k = 0 ∨ k = 1 ∨ k = 2 ∨ k = 3 ∨ k = 4 ∨ k = 5 ∨ k = 6 ∨ k = 7 by omega) with rfl | rfl | rfl | rfl | rfl | rfl | rfl | rfl <;> exact rgz_o rfl R rfl
theorem wr_R_3 {k : Nat} (hk : k < 8) {v : Int} (h : 0 ≤ v ∧ v ≤ 17) : ok_t ((zkl[((17 + 2 * k) : Nat)]?).getD (.inr [])) 3 v := by rcases (show k = 0 ∨ k = 1 ∨ k = 2 ∨ k = 3 ∨ k = 4 ∨ k = 5 ∨ k = 6 ∨ k = 7 by omega) with rfl | rfl | rfl | rfl | rfl | rfl | rfl | rfl <;> exact wgz_o rfl rfl h
theorem rd_R_4 {k : Nat} (hk : k < 8) {z : Nat → Nat → Int} (R : rz z) : 0 ≤ z (17 + 2 * k) 4 ∧ z (17 + 2 * k) 4 ≤ 17 := by rcases (show k = 0 ∨ k = 1 ∨ k = 2 ∨ k = 3 ∨ k = 4 ∨ k = 5 ∨ k = 6 ∨ k = 7 by omega) with rfl | rfl | rfl | rfl | rfl | rfl | rfl | rfl <;> exact rgz_o rfl R rfl
theorem wr_R_4 {k : Nat} (hk : k < 8) {v : Int} (h : 0 ≤ v ∧ v ≤ 17) : ok_t ((zkl[((17 + 2 * k) : Nat)]?).getD (.inr [])) 4 v := by rcases (show k = 0 ∨ k = 1 ∨ k = 2 ∨ k = 3 ∨ k = 4 ∨ k = 5 ∨ k = 6 ∨ k = 7 by omega) with rfl | rfl | rfl | rfl | rfl | rfl | rfl | rfl <;> exact wgz_o rfl rfl h
theorem rd_R_5 {k : Nat} (hk : k < 8) {z : Nat → Nat → Int} (R : rz z) : 0 ≤ z (17 + 2 * k) 5 ∧ z (17 + 2 * k) 5 ≤ 17 := by rcases (show k = 0 ∨ k = 1 ∨ k = 2 ∨ k = 3 ∨ k = 4 ∨ k = 5 ∨ k = 6 ∨ k = 7 by omega) with rfl | rfl | rfl | rfl | rfl | rfl | rfl | rfl <;> exact rgz_o rfl R rfl
theorem wr_R_5 {k : Nat} (hk : k < 8) {v : Int} (h : 0 ≤ v ∧ v ≤ 17) : ok_t ((zkl[((17 + 2 * k) : Nat)]?).getD (.inr [])) 5 v := by rcases (show k = 0 ∨ k = 1 ∨ k = 2 ∨ k = 3 ∨ k = 4 ∨ k = 5 ∨ k = 6 ∨ k = 7 by omega) with rfl | rfl | rfl | rfl | rfl | rfl | rfl | rfl <;> exact wgz_o rfl rfl h
theorem sh_RF {k : Nat} (hk : k < 8) : msh mshl (18 + 2 * k) = some (1, 0, 1782) := by rcases (show k = 0 ∨ k = 1 ∨ k = 2 ∨ k = 3 ∨ k = 4 ∨ k = 5 ∨ k = 6 ∨ k = 7 by omega) with rfl | rfl | rfl | rfl | rfl | rfl | rfl | rfl <;> exact msh_q rfl
theorem rd_RF {k : Nat} (hk : k < 8) {z : Nat → Nat → Int} (R : rz z) {i : Nat} (h : i < 1782) : ok_f (z (18 + 2 * k) i) := by rcases (show k = 0 ∨ k = 1 ∨ k = 2 ∨ k = 3 ∨ k = 4 ∨ k = 5 ∨ k = 6 ∨ k = 7 by omega) with rfl | rfl | rfl | rfl | rfl | rfl | rfl | rfl <;> exact rgz_f rfl R h
theorem wr_RF {k : Nat} (hk : k < 8) {i : Nat} {v : Int} (h : ok_f v) : ok_t ((zkl[((18 + 2 * k) : Nat)]?).getD (.inr [])) i v := by rcases (show k = 0 ∨ k = 1 ∨ k = 2 ∨ k = 3 ∨ k = 4 ∨ k = 5 ∨ k = 6 ∨ k = 7 by omega) with rfl | rfl | rfl | rfl | rfl | rfl | rfl | rfl <;> exact wgz_f rfl h
theorem sh_33 : msh mshl 33 = some (0, 1, 0) := msh_q rfl
theorem rd_33_2 {z : Nat → Nat → Int} (R : rz z) : 0 ≤ z 33 2 ∧ z 33 2 ≤ 3 := by exact rgz_o rfl R rfl
theorem wr_33_2 {v : Int} (h : 0 ≤ v ∧ v ≤ 3) : ok_t ((zkl[(33 : Nat)]?).getD (.inr [])) 2 v := by exact wgz_o rfl rfl h
theorem sh_34 : msh mshl 34 = some (1, 1, 18) := msh_q rfl
theorem rd_34 {w : Nat → Nat → Int} (R : rw_ w) {i : Nat} (h : i < 18) : 0 ≤ w 34 i ∧ w 34 i ≤ 3 := by exact rgw_i rfl R h
theorem wr_34 {i : Nat} {v : Int} (h : 0 ≤ v ∧ v ≤ 3) : ok_t ((wkl[(34 : Nat)]?).getD (.inr [])) i v := by exact wgw_i rfl h
theorem sh_35 : msh mshl 35 = some (0, 2, 0) := msh_q rfl
theorem rd_35_3 {z : Nat → Nat → Int} (R : rz z) : 0 ≤ z 35 3 ∧ z 35 3 ≤ 1600 := by exact rgz_o rfl R rfl
theorem wr_35_3 {v : Int} (h : 0 ≤ v ∧ v ≤ 1600) : ok_t ((zkl[(35 : Nat)]?).getD (.inr [])) 3 v := by exact wgz_o rfl rfl h
theorem rd_35_4 {z : Nat → Nat → Int} (R : rz z) : 0 ≤ z 35 4 ∧ z 35 4 ≤ 1600 := by exact rgz_o rfl R rfl
theorem wr_35_4 {v : Int} (h : 0 ≤ v ∧ v ≤ 1600) : ok_t ((zkl[(35 : Nat)]?).getD (.inr [])) 4 v := by exact wgz_o rfl rfl h
theorem sh_36 : msh mshl 36 = some (1, 1, 18) := msh_q rfl
theorem rd_36 {w : Nat → Nat → Int} (R : rw_ w) {i : Nat} (h : i < 18) : (-9223372036854775808) ≤ w 36 i ∧ w 36 i ≤ 9223372036854775807 := by exact rgw_i rfl R h
theorem wr_36 {i : Nat} {v : Int} (h : (-9223372036854775808) ≤ v ∧ v ≤ 9223372036854775807) : ok_t ((wkl[(36 : Nat)]?).getD (.inr [])) i v := by exact wgw_i rfl h
theorem sh_37 : msh mshl 37 = some (1, 0, 1600) := msh_q rfl
theorem rd_37 {z : Nat → Nat → Int} (R : rz z) {i : Nat} (h : i < 1600) : 0 ≤ z 37 i ∧ z 37 i ≤ 35 := by exact rgz_i rfl R h
theorem wr_37 {i : Nat} {v : Int} (h : 0 ≤ v ∧ v ≤ 35) : ok_t ((zkl[(37 : Nat)]?).getD (.inr [])) i v := by exact wgz_i rfl h
theorem sh_38 : msh mshl 38 = some (1, 0, 1600) := msh_q rfl
theorem rd_38 {z : Nat → Nat → Int} (R : rz z) {i : Nat} (h : i < 1600) : (-2147483648) ≤ z 38 i ∧ z 38 i ≤ 2147483647 := by exact rgz_i rfl R h
theorem wr_38 {i : Nat} {v : Int} (h : (-2147483648) ≤ v ∧ v ≤ 2147483647) : ok_t ((zkl[(38 : Nat)]?).getD (.inr [])) i v := by exact wgz_i rfl h
theorem sh_39 : msh mshl 39 = some (0, 0, 0) := msh_q rfl
theorem rd_39_0 {z : Nat → Nat → Int} (R : rz z) : 0 ≤ z 39 0 ∧ z 39 0 ≤ 60 := by exact rgz_o rfl R rfl
theorem wr_39_0 {v : Int} (h : 0 ≤ v ∧ v ≤ 60) : ok_t ((zkl[(39 : Nat)]?).getD (.inr [])) 0 v := by exact wgz_o rfl rfl h
theorem rd_39_1 {z : Nat → Nat → Int} (R : rz z) : 0 ≤ z 39 1 ∧ z 39 1 ≤ 60 := by exact rgz_o rfl R rfl
theorem wr_39_1 {v : Int} (h : 0 ≤ v ∧ v ≤ 60) : ok_t ((zkl[(39 : Nat)]?).getD (.inr [])) 1 v := by exact wgz_o rfl rfl h
theorem rd_39_2 {z : Nat → Nat → Int} (R : rz z) : 0 ≤ z 39 2 ∧ z 39 2 ≤ 60 := by exact rgz_o rfl R rfl
theorem wr_39_2 {v : Int} (h : 0 ≤ v ∧ v ≤ 60) : ok_t ((zkl[(39 : Nat)]?).getD (.inr [])) 2 v := by exact wgz_o rfl rfl h
theorem sh_40 : msh mshl 40 = some (1, 4, 61) := msh_q rfl
theorem sh_41 {k : Nat} (hk : k < 61) : msh mshl (41 + k) = some (1, 1, 18) := by rcases (show k = 0 ∨ k = 1 ∨ k = 2 ∨ k = 3 ∨ k = 4 ∨ k = 5 ∨ k = 6 ∨ k = 7 ∨ k = 8 ∨ k = 9 ∨ k = 10 ∨ k = 11 ∨ k = 12 ∨ k = 13 ∨ k = 14 ∨ k = 15 ∨ k = 16 ∨ k = 17 ∨ k = 18 ∨ k = 19 ∨ k = 20 ∨ k = 21 ∨ k = 22 ∨ k = 23 ∨ k = 24 ∨ k = 25 ∨ k = 26 ∨ k = 27 ∨ k = 28 ∨ k = 29 ∨ k = 30 ∨ k = 31 ∨ k = 32 ∨ k = 33 ∨ k = 34 ∨ k = 35 ∨ k = 36 ∨ k = 37 ∨ k = 38 ∨ k = 39 ∨ k = 40 ∨ k = 41 ∨ k = 42 ∨ k = 43 ∨ k = 44 ∨ k = 45 ∨ k = 46 ∨ k = 47 ∨ k = 48 ∨ k = 49 ∨ k = 50 ∨ k = 51 ∨ k = 52 ∨ k = 53 ∨ k = 54 ∨ k = 55 ∨ k = 56 ∨ k = 57 ∨ k = 58 ∨ k = 59 ∨ k = 60 by omega) with rfl | rfl | rfl | rfl | rfl | rfl | rfl | rfl | rfl | rfl | rfl | rfl | rfl | rfl | rfl | rfl | rfl | rfl | rfl | rfl | rfl | rfl | rfl | rfl | rfl | rfl | rfl | rfl | rfl | rfl | rfl | rfl | rfl | rfl | rfl | rfl | rfl | rfl | rfl | rfl | rfl | rfl | rfl | rfl | rfl | rfl | rfl | rfl | rfl | rfl | rfl | rfl | rfl | rfl | rfl | rfl | rfl | rfl | rfl | rfl | rfl <;> exact msh_q rfl
theorem rd_41 {k : Nat} (hk : k < 61) {w : Nat → Nat → Int} (R : rw_ w) {i : Nat} (h : i < 18) : 0 ≤ w (41 + k) i ∧ w (41 + k) i ≤ 100000000000000 := by rcases (show k = 0 ∨ k = 1 ∨ k = 2 ∨ k = 3 ∨ k = 4 ∨ k = 5 ∨ k = 6 ∨ k = 7 ∨ k = 8 ∨ k = 9 ∨ k = 10 ∨ k = 11 ∨ k = 12 ∨ k = 13 ∨ k = 14 ∨ k = 15 ∨ k = 16 ∨ k = 17 ∨ k = 18 ∨ k = 19 ∨ k = 20 ∨ k = 21 ∨ k = 22 ∨ k = 23 ∨ k = 24 ∨ k = 25 ∨ k = 26 ∨ k = 27 ∨ k = 28 ∨ k = 29 ∨ k = 30 ∨ k = 31 ∨ k = 32 ∨ k = 33 ∨ k = 34 ∨ k = 35 ∨ k = 36 ∨ k = 37 ∨ k = 38 ∨ k = 39 ∨ k = 40 ∨ k = 41 ∨ k = 42 ∨ k = 43 ∨ k = 44 ∨ k = 45 ∨ k = 46 ∨ k = 47 ∨ k = 48 ∨ k = 49 ∨ k = 50 ∨ k = 51 ∨ k = 52 ∨ k = 53 ∨ k = 54 ∨ k = 55 ∨ k = 56 ∨ k = 57 ∨ k = 58 ∨ k = 59 ∨ k = 60 by omega) with rfl | rfl | rfl | rfl | rfl | rfl | rfl | rfl | rfl | rfl | rfl | rfl | rfl | rfl | rfl | rfl | rfl | rfl | rfl | rfl | rfl | rfl | rfl | rfl | rfl | rfl | rfl | rfl | rfl | rfl | rfl | rfl | rfl | rfl | rfl | rfl | rfl | rfl | rfl | rfl | rfl | rfl | rfl | rfl | rfl | rfl | rfl | rfl | rfl | rfl | rfl | rfl | rfl | rfl | rfl | rfl | rfl | rfl | rfl | rfl | rfl <;> exact rgw_i rfl R h
theorem wr_41 {k : Nat} (hk : k < 61) {i : Nat} {v : Int} (h : 0 ≤ v ∧ v ≤ 100000000000000) : ok_t ((wkl[((41 + k) : Nat)]?).getD (.inr [])) i v := by rcases (show k = 0 ∨ k = 1 ∨ k = 2 ∨ k = 3 ∨ k = 4 ∨ k = 5 ∨ k = 6 ∨ k = 7 ∨ k = 8 ∨ k = 9 ∨ k = 10 ∨ k = 11 ∨ k = 12 ∨ k = 13 ∨ k = 14 ∨ k = 15 ∨ k = 16 ∨ k = 17 ∨ k = 18 ∨ k = 19 ∨ k = 20 ∨ k = 21 ∨ k = 22 ∨ k = 23 ∨ k = 24 ∨ k = 25 ∨ k = 26 ∨ k = 27 ∨ k = 28 ∨ k = 29 ∨ k = 30 ∨ k = 31 ∨ k = 32 ∨ k = 33 ∨ k = 34 ∨ k = 35 ∨ k = 36 ∨ k = 37 ∨ k = 38 ∨ k = 39 ∨ k = 40 ∨ k = 41 ∨ k = 42 ∨ k = 43 ∨ k = 44 ∨ k = 45 ∨ k = 46 ∨ k = 47 ∨ k = 48 ∨ k = 49 ∨ k = 50 ∨ k = 51 ∨ k = 52 ∨ k = 53 ∨ k = 54 ∨ k = 55 ∨ k = 56 ∨ k = 57 ∨ k = 58 ∨ k = 59 ∨ k = 60 by omega) with rfl | rfl | rfl | rfl | rfl | rfl | rfl | rfl | rfl | rfl | rfl | rfl | rfl | rfl | rfl | rfl | rfl | rfl | rfl | rfl | rfl | rfl | rfl | rfl | rfl | rfl | rfl | rfl | rfl | rfl | rfl | rfl | rfl | rfl | rfl | rfl | rfl | rfl | rfl | rfl | rfl | rfl | rfl | rfl | rfl | rfl | rfl | rfl | rfl | rfl | rfl | rfl | rfl | rfl | rfl | rfl | rfl | rfl | rfl | rfl | rfl <;> exact wgw_i rfl h
theorem sh_102 : msh mshl 102 = some (0, 7, 0) := msh_q rfl
theorem rd_102_0 {z : Nat → Nat → Int} (R : rz z) : 0 ≤ z 102 0 ∧ z 102 0 ≤ 1 := by exact rgz_o rfl R rfl
theorem wr_102_0 {v : Int} (h : 0 ≤ v ∧ v ≤ 1) : ok_t ((zkl[(102 : Nat)]?).getD (.inr [])) 0 v := by exact wgz_o rfl rfl h
theorem rd_102_1 {z : Nat → Nat → Int} (R : rz z) : 0 ≤ z 102 1 ∧ z 102 1 ≤ 18 := by exact rgz_o rfl R rfl
theorem wr_102_1 {v : Int} (h : 0 ≤ v ∧ v ≤ 18) : ok_t ((zkl[(102 : Nat)]?).getD (.inr [])) 1 v := by exact wgz_o rfl rfl h
theorem rd_102_2 {z : Nat → Nat → Int} (R : rz z) : (-2147483648) ≤ z 102 2 ∧ z 102 2 ≤ 2147483647 := by exact rgz_o rfl R rfl
theorem wr_102_2 {v : Int} (h : (-2147483648) ≤ v ∧ v ≤ 2147483647) : ok_t ((zkl[(102 : Nat)]?).getD (.inr [])) 2 v := by exact wgz_o rfl rfl h
theorem rd_102_3 {z : Nat → Nat → Int} (R : rz z) : (-2147483648) ≤ z 102 3 ∧ z 102 3 ≤ 2147483647 := by exact rgz_o rfl R rfl
theorem wr_102_3 {v : Int} (h : (-2147483648) ≤ v ∧ v ≤ 2147483647) : ok_t ((zkl[(102 : Nat)]?).getD (.inr [])) 3 v := by exact wgz_o rfl rfl h
theorem rd_102_4 {z : Nat → Nat → Int} (R : rz z) : 0 ≤ z 102 4 ∧ z 102 4 ≤ 1 := by exact rgz_o rfl R rfl
theorem wr_102_4 {v : Int} (h : 0 ≤ v ∧ v ≤ 1) : ok_t ((zkl[(102 : Nat)]?).getD (.inr [])) 4 v := by exact wgz_o rfl rfl h
theorem sh_103 : msh mshl 103 = some (1, 4, 18) := msh_q rfl
theorem sh_104 {k : Nat} (hk : k < 18) : msh mshl (104 + k) = some (1, 1, 18) := by rcases (show k = 0 ∨ k = 1 ∨ k = 2 ∨ k = 3 ∨ k = 4 ∨ k = 5 ∨ k = 6 ∨ k = 7 ∨ k = 8 ∨ k = 9 ∨ k = 10 ∨ k = 11 ∨ k = 12 ∨ k = 13 ∨ k = 14 ∨ k = 15 ∨ k = 16 ∨ k = 17 by omega) with rfl | rfl | rfl | rfl | rfl | rfl | rfl | rfl | rfl | rfl | rfl | rfl | rfl | rfl | rfl | rfl | rfl | rfl <;> exact msh_q rfl
theorem rd_104 {k : Nat} (hk : k < 18) {w : Nat → Nat → Int} (R : rw_ w) {i : Nat} (h : i < 18) : (-9223372036854775808) ≤ w (104 + k) i ∧ w (104 + k) i ≤ 9223372036854775807 := by rcases (show k = 0 ∨ k = 1 ∨ k = 2 ∨ k = 3 ∨ k = 4 ∨ k = 5 ∨ k = 6 ∨ k = 7 ∨ k = 8 ∨ k = 9 ∨ k = 10 ∨ k = 11 ∨ k = 12 ∨ k = 13 ∨ k = 14 ∨ k = 15 ∨ k = 16 ∨ k = 17 by omega) with rfl | rfl | rfl | rfl | rfl | rfl | rfl | rfl | rfl | rfl | rfl | rfl | rfl | rfl | rfl | rfl | rfl | rfl <;> exact rgw_i rfl R h
theorem wr_104 {k : Nat} (hk : k < 18) {i : Nat} {v : Int} (h : (-9223372036854775808) ≤ v ∧ v ≤ 9223372036854775807) : ok_t ((wkl[((104 + k) : Nat)]?).getD (.inr [])) i v := by rcases (show k = 0 ∨ k = 1 ∨ k = 2 ∨ k = 3 ∨ k = 4 ∨ k = 5 ∨ k = 6 ∨ k = 7 ∨ k = 8 ∨ k = 9 ∨ k = 10 ∨ k = 11 ∨ k = 12 ∨ k = 13 ∨ k = 14 ∨ k = 15 ∨ k = 16 ∨ k = 17 by omega) with rfl | rfl | rfl | rfl | rfl | rfl | rfl | rfl | rfl | rfl | rfl | rfl | rfl | rfl | rfl | rfl | rfl | rfl <;> exact wgw_i rfl h
theorem sh_122 : msh mshl 122 = some (1, 4, 18) := msh_q rfl
theorem sh_123 {k : Nat} (hk : k < 18) : msh mshl (123 + k) = some (1, 1, 18) := by rcases (show k = 0 ∨ k = 1 ∨ k = 2 ∨ k = 3 ∨ k = 4 ∨ k = 5 ∨ k = 6 ∨ k = 7 ∨ k = 8 ∨ k = 9 ∨ k = 10 ∨ k = 11 ∨ k = 12 ∨ k = 13 ∨ k = 14 ∨ k = 15 ∨ k = 16 ∨ k = 17 by omega) with rfl | rfl | rfl | rfl | rfl | rfl | rfl | rfl | rfl | rfl | rfl | rfl | rfl | rfl | rfl | rfl | rfl | rfl <;> exact msh_q rfl
theorem rd_123 {k : Nat} (hk : k < 18) {w : Nat → Nat → Int} (R : rw_ w) {i : Nat} (h : i < 18) : (-9223372036854775808) ≤ w (123 + k) i ∧ w (123 + k) i ≤ 9223372036854775807 := by rcases (show k = 0 ∨ k = 1 ∨ k = 2 ∨ k = 3 ∨ k = 4 ∨ k = 5 ∨ k = 6 ∨ k = 7 ∨ k = 8 ∨ k = 9 ∨ k = 10 ∨ k = 11 ∨ k = 12 ∨ k = 13 ∨ k = 14 ∨ k = 15 ∨ k = 16 ∨ k = 17 by omega) with rfl | rfl | rfl | rfl | rfl | rfl | rfl | rfl | rfl | rfl | rfl | rfl | rfl | rfl | rfl | rfl | rfl | rfl <;> exact rgw_i rfl R h
theorem wr_123 {k : Nat} (hk : k < 18) {i : Nat} {v : Int} (h : (-9223372036854775808) ≤ v ∧ v ≤ 9223372036854775807) : ok_t ((wkl[((123 + k) : Nat)]?).getD (.inr [])) i v := by rcases (show k = 0 ∨ k = 1 ∨ k = 2 ∨ k = 3 ∨ k = 4 ∨ k = 5 ∨ k = 6 ∨ k = 7 ∨ k = 8 ∨ k = 9 ∨ k = 10 ∨ k = 11 ∨ k = 12 ∨ k = 13 ∨ k = 14 ∨ k = 15 ∨ k = 16 ∨ k = 17 by omega) with rfl | rfl | rfl | rfl | rfl | rfl | rfl | rfl | rfl | rfl | rfl | rfl | rfl | rfl | rfl | rfl | rfl | rfl <;> exact wgw_i rfl h
theorem sh_141 : msh mshl 141 = some (1, 1, 18) := msh_q rfl
theorem rd_141 {w : Nat → Nat → Int} (R : rw_ w) {i : Nat} (h : i < 18) : (-9223372036854775808) ≤ w 141 i ∧ w 141 i ≤ 9223372036854775807 := by exact rgw_i rfl R h
theorem wr_141 {i : Nat} {v : Int} (h : (-9223372036854775808) ≤ v ∧ v ≤ 9223372036854775807) : ok_t ((wkl[(141 : Nat)]?).getD (.inr [])) i v := by exact wgw_i rfl h
theorem sh_142 : msh mshl 142 = some (1, 1, 19) := msh_q rfl
theorem rd_142 {w : Nat → Nat → Int} (R : rw_ w) {i : Nat} (h : i < 19) : (-9223372036854775808) ≤ w 142 i ∧ w 142 i ≤ 9223372036854775807 := by exact rgw_i rfl R h
theorem wr_142 {i : Nat} {v : Int} (h : (-9223372036854775808) ≤ v ∧ v ≤ 9223372036854775807) : ok_t ((wkl[(142 : Nat)]?).getD (.inr [])) i v := by exact wgw_i rfl h
theorem sh_143 : msh mshl 143 = some (1, 4, 3) := msh_q rfl
theorem sh_144 {k : Nat} (hk : k < 3) : msh mshl (144 + k) = some (1, 1, 18) := by rcases (show k = 0 ∨ k = 1 ∨ k = 2 by omega) with rfl | rfl | rfl <;> exact msh_q rfl
theorem rd_144 {k : Nat} (hk : k < 3) {w : Nat → Nat → Int} (R : rw_ w) {i : Nat} (h : i < 18) : 0 ≤ w (144 + k) i ∧ w (144 + k) i ≤ 100000000000000 := by rcases (show k = 0 ∨ k = 1 ∨ k = 2 by omega) with rfl | rfl | rfl <;> exact rgw_i rfl R h
theorem wr_144 {k : Nat} (hk : k < 3) {i : Nat} {v : Int} (h : 0 ≤ v ∧ v ≤ 100000000000000) : ok_t ((wkl[((144 + k) : Nat)]?).getD (.inr [])) i v := by rcases (show k = 0 ∨ k = 1 ∨ k = 2 by omega) with rfl | rfl | rfl <;> exact wgw_i rfl h
theorem sh_147 : msh mshl 147 = some (1, 3, 3) := msh_q rfl
theorem rd_147 {z : Nat → Nat → Int} (R : rz z) {i : Nat} (h : i < 3) : 0 ≤ z 147 i ∧ z 147 i ≤ 1 := by exact rgz_i rfl R h
theorem wr_147 {i : Nat} {v : Int} (h : 0 ≤ v ∧ v ≤ 1) : ok_t ((zkl[(147 : Nat)]?).getD (.inr [])) i v := by exact wgz_i rfl h
theorem sh_148 : msh mshl 148 = some (1, 4, 8) := msh_q rfl
theorem sh_149 {k : Nat} (hk : k < 8) : msh mshl (149 + k) = some (1, 1, 18) := by rcases (show k = 0 ∨ k = 1 ∨ k = 2 ∨ k = 3 ∨ k = 4 ∨ k = 5 ∨ k = 6 ∨ k = 7 by omega) with rfl | rfl | rfl | rfl | rfl | rfl | rfl | rfl <;> exact msh_q rfl
theorem rd_149 {k : Nat} (hk : k < 8) {w : Nat → Nat → Int} (R : rw_ w) {i : Nat} (h : i < 18) : (-9223372036854775808) ≤ w (149 + k) i ∧ w (149 + k) i ≤ 9223372036854775807 := by rcases (show k = 0 ∨ k = 1 ∨ k = 2 ∨ k = 3 ∨ k = 4 ∨ k = 5 ∨ k = 6 ∨ k = 7 by omega) with rfl | rfl | rfl | rfl | rfl | rfl | rfl | rfl <;> exact rgw_i rfl R h
theorem wr_149 {k : Nat} (hk : k < 8) {i : Nat} {v : Int} (h : (-9223372036854775808) ≤ v ∧ v ≤ 9223372036854775807) : ok_t ((wkl[((149 + k) : Nat)]?).getD (.inr [])) i v := by rcases (show k = 0 ∨ k = 1 ∨ k = 2 ∨ k = 3 ∨ k = 4 ∨ k = 5 ∨ k = 6 ∨ k = 7 by omega) with rfl | rfl | rfl | rfl | rfl | rfl | rfl | rfl <;> exact wgw_i rfl h
theorem sh_157 : msh mshl 157 = some (1, 1, 18) := msh_q rfl
theorem rd_157 {w : Nat → Nat → Int} (R : rw_ w) {i : Nat} (h : i < 18) : (-9223372036854775808) ≤ w 157 i ∧ w 157 i ≤ 9223372036854775807 := by exact rgw_i rfl R h
theorem wr_157 {i : Nat} {v : Int} (h : (-9223372036854775808) ≤ v ∧ v ≤ 9223372036854775807) : ok_t ((wkl[(157 : Nat)]?).getD (.inr [])) i v := by exact wgw_i rfl h
theorem sh_158 : msh mshl 158 = some (1, 1, 18) := msh_q rfl
theorem rd_158 {w : Nat → Nat → Int} (R : rw_ w) {i : Nat} (h : i < 18) : (-9223372036854775808) ≤ w 158 i ∧ w 158 i ≤ 9223372036854775807 := by exact rgw_i rfl R h
theorem wr_158 {i : Nat} {v : Int} (h : (-9223372036854775808) ≤ v ∧ v ≤ 9223372036854775807) : ok_t ((wkl[(158 : Nat)]?).getD (.inr [])) i v := by exact wgw_i rfl h
theorem sh_T {t : Nat} (ht : isT t) : msh mshl t = some (0, 8, 0) := by rcases ht with rfl | rfl <;> exact msh_q rfl
theorem rd_T_0 {t : Nat} (ht : isT t) {z : Nat → Nat → Int} (R : rz z) : 0 ≤ z t 0 ∧ z t 0 ≤ 12 := by rcases ht with rfl | rfl <;> exact rgz_o rfl R rfl
theorem wr_T_0 {t : Nat} (ht : isT t) {v : Int} (h : 0 ≤ v ∧ v ≤ 12) : ok_t ((zkl[(t : Nat)]?).getD (.inr [])) 0 v := by rcases ht with rfl | rfl <;> exact wgz_o rfl rfl h
theorem rd_T_1 {t : Nat} (ht : isT t) {z : Nat → Nat → Int} (R : rz z) : 0 ≤ z t 1 ∧ z t 1 ≤ 18 := by rcases ht with rfl | rfl <;> exact rgz_o rfl R rfl
theorem wr_T_1 {t : Nat} (ht : isT t) {v : Int} (h : 0 ≤ v ∧ v ≤ 18) : ok_t ((zkl[(t : Nat)]?).getD (.inr [])) 1 v := by rcases ht with rfl | rfl <;> exact wgz_o rfl rfl h
theorem rd_T_2 {t : Nat} (ht : isT t) {z : Nat → Nat → Int} (R : rz z) : (-2147483648) ≤ z t 2 ∧ z t 2 ≤ 2147483647 := by rcases ht with rfl | rfl <;> exact rgz_o rfl R rfl
theorem wr_T_2 {t : Nat} (ht : isT t) {v : Int} (h : (-2147483648) ≤ v ∧ v ≤ 2147483647) : ok_t ((zkl[(t : Nat)]?).getD (.inr [])) 2 v := by rcases ht with rfl | rfl <;> exact wgz_o rfl rfl h
theorem rd_T_3 {t : Nat} (ht : isT t) {z : Nat → Nat → Int} (R : rz z) : 0 ≤ z t 3 ∧ z t 3 ≤ 8 := by rcases ht with rfl | rfl <;> exact rgz_o rfl R rfl
theorem wr_T_3 {t : Nat} (ht : isT t) {v : Int} (h : 0 ≤ v ∧ v ≤ 8) : ok_t ((zkl[(t : Nat)]?).getD (.inr [])) 3 v := by rcases ht with rfl | rfl <;> exact wgz_o rfl rfl h
theorem rd_T_4 {t : Nat} (ht : isT t) {z : Nat → Nat → Int} (R : rz z) : 0 ≤ z t 4 ∧ z t 4 ≤ 6 := by rcases ht with rfl | rfl <;> exact rgz_o rfl R rfl
theorem wr_T_4 {t : Nat} (ht : isT t) {v : Int} (h : 0 ≤ v ∧ v ≤ 6) : ok_t ((zkl[(t : Nat)]?).getD (.inr [])) 4 v := by rcases ht with rfl | rfl <;> exact wgz_o rfl rfl h
theorem sh_T1 {t : Nat} (ht : isT t) : msh mshl (t + 1) = some (1, 0, 36) := by rcases ht with rfl | rfl <;> exact msh_q rfl
theorem rd_T1 {t : Nat} (ht : isT t) {z : Nat → Nat → Int} (R : rz z) {i : Nat} (h : i < 36) : 0 ≤ z (t + 1) i ∧ z (t + 1) i ≤ 17 := by rcases ht with rfl | rfl <;> exact rgz_i rfl R h
theorem wr_T1 {t : Nat} (ht : isT t) {i : Nat} {v : Int} (h : 0 ≤ v ∧ v ≤ 17) : ok_t ((zkl[((t + 1) : Nat)]?).getD (.inr [])) i v := by rcases ht with rfl | rfl <;> exact wgz_i rfl h
theorem sh_T2 {t : Nat} (ht : isT t) : msh mshl (t + 2) = some (1, 0, 36) := by rcases ht with rfl | rfl <;> exact msh_q rfl
theorem rd_T2 {t : Nat} (ht : isT t) {z : Nat → Nat → Int} (R : rz z) {i : Nat} (h : i < 36) : 0 ≤ z (t + 2) i ∧ z (t + 2) i ≤ 35 := by rcases ht with rfl | rfl <;> exact rgz_i rfl R h
theorem wr_T2 {t : Nat} (ht : isT t) {i : Nat} {v : Int} (h : 0 ≤ v ∧ v ≤ 35) : ok_t ((zkl[((t + 2) : Nat)]?).getD (.inr [])) i v := by rcases ht with rfl | rfl <;> exact wgz_i rfl h
theorem sh_T3 {t : Nat} (ht : isT t) : msh mshl (t + 3) = some (1, 0, 36) := by rcases ht with rfl | rfl <;> exact msh_q rfl
theorem rd_T3 {t : Nat} (ht : isT t) {z : Nat → Nat → Int} (R : rz z) {i : Nat} (h : i < 36) : (-2147483648) ≤ z (t + 3) i ∧ z (t + 3) i ≤ 2147483647 := by rcases ht with rfl | rfl <;> exact rgz_i rfl R h
theorem wr_T3 {t : Nat} (ht : isT t) {i : Nat} {v : Int} (h : (-2147483648) ≤ v ∧ v ≤ 2147483647) : ok_t ((zkl[((t + 3) : Nat)]?).getD (.inr [])) i v := by rcases ht with rfl | rfl <;> exact wgz_i rfl h
theorem sh_T4 {t : Nat} (ht : isT t) : msh mshl (t + 4) = some (1, 0, 18) := by rcases ht with rfl | rfl <;> exact msh_q rfl
theorem rd_T4 {t : Nat} (ht : isT t) {z : Nat → Nat → Int} (R : rz z) {i : Nat} (h : i < 18) : 0 ≤ z (t + 4) i ∧ z (t + 4) i ≤ 2 := by rcases ht with rfl | rfl <;> exact rgz_i rfl R h
theorem wr_T4 {t : Nat} (ht : isT t) {i : Nat} {v : Int} (h : 0 ≤ v ∧ v ≤ 2) : ok_t ((zkl[((t + 4) : Nat)]?).getD (.inr [])) i v := by rcases ht with rfl | rfl <;> exact wgz_i rfl h
theorem sh_T5 {t : Nat} (ht : isT t) : msh mshl (t + 5) = some (1, 0, 18) := by rcases ht with rfl | rfl <;> exact msh_q rfl
theorem rd_T5 {t : Nat} (ht : isT t) {z : Nat → Nat → Int} (R : rz z) {i : Nat} (h : i < 18) : 0 ≤ z (t + 5) i ∧ z (t + 5) i ≤ 35 := by rcases ht with rfl | rfl <;> exact rgz_i rfl R h
theorem wr_T5 {t : Nat} (ht : isT t) {i : Nat} {v : Int} (h : 0 ≤ v ∧ v ≤ 35) : ok_t ((zkl[((t + 5) : Nat)]?).getD (.inr [])) i v := by rcases ht with rfl | rfl <;> exact wgz_i rfl h
theorem sh_T6 {t : Nat} (ht : isT t) : msh mshl (t + 6) = some (1, 0, 18) := by rcases ht with rfl | rfl <;> exact msh_q rfl
theorem rd_T6 {t : Nat} (ht : isT t) {z : Nat → Nat → Int} (R : rz z) {i : Nat} (h : i < 18) : 0 ≤ z (t + 6) i ∧ z (t + 6) i ≤ 35 := by rcases ht with rfl | rfl <;> exact rgz_i rfl R h
theorem wr_T6 {t : Nat} (ht : isT t) {i : Nat} {v : Int} (h : 0 ≤ v ∧ v ≤ 35) : ok_t ((zkl[((t + 6) : Nat)]?).getD (.inr [])) i v := by rcases ht with rfl | rfl <;> exact wgz_i rfl h
theorem sh_T7 {t : Nat} (ht : isT t) : msh mshl (t + 7) = some (1, 4, 8) := by rcases ht with rfl | rfl <;> exact msh_q rfl
theorem sh_T8 {t k : Nat} (ht : isT t) (hk : k < 8) : msh mshl (t + 8 + k) = some (1, 1, 18) := by rcases ht with rfl | rfl <;> rcases (show k = 0 ∨ k = 1 ∨ k = 2 ∨ k = 3 ∨ k = 4 ∨ k = 5 ∨ k = 6 ∨ k = 7 by omega) with rfl | rfl | rfl | rfl | rfl | rfl | rfl | rfl <;> exact msh_q rfl
theorem rd_T8 {t k : Nat} (ht : isT t) (hk : k < 8) {w : Nat → Nat → Int} (R : rw_ w) {i : Nat} (h : i < 18) : 0 ≤ w (t + 8 + k) i ∧ w (t + 8 + k) i ≤ 99 := by rcases ht with rfl | rfl <;> rcases (show k = 0 ∨ k = 1 ∨ k = 2 ∨ k = 3 ∨ k = 4 ∨ k = 5 ∨ k = 6 ∨ k = 7 by omega) with rfl | rfl | rfl | rfl | rfl | rfl | rfl | rfl <;> exact rgw_i rfl R h
theorem wr_T8 {t k : Nat} (ht : isT t) (hk : k < 8) {i : Nat} {v : Int} (h : 0 ≤ v ∧ v ≤ 99) : ok_t ((wkl[((t + 8 + k) : Nat)]?).getD (.inr [])) i v := by rcases ht with rfl | rfl <;> rcases (show k = 0 ∨ k = 1 ∨ k = 2 ∨ k = 3 ∨ k = 4 ∨ k = 5 ∨ k = 6 ∨ k = 7 by omega) with rfl | rfl | rfl | rfl | rfl | rfl | rfl | rfl <;> exact wgw_i rfl h
theorem sh_T16 {t : Nat} (ht : isT t) : msh mshl (t + 16) = some (1, 1, 8) := by rcases ht with rfl | rfl <;> exact msh_q rfl
theorem rd_T16 {t : Nat} (ht : isT t) {w : Nat → Nat → Int} (R : rw_ w) {i : Nat} (h : i < 8) : (-9223372036854775808) ≤ w (t + 16) i ∧ w (t + 16) i ≤ 9223372036854775807 := by rcases ht with rfl | rfl <;> exact rgw_i rfl R h
theorem wr_T16 {t : Nat} (ht : isT t) {i : Nat} {v : Int} (h : (-9223372036854775808) ≤ v ∧ v ≤ 9223372036854775807) : ok_t ((wkl[((t + 16) : Nat)]?).getD (.inr [])) i v := by rcases ht with rfl | rfl <;> exact wgw_i rfl h
theorem sh_T17 {t : Nat} (ht : isT t) : msh mshl (t + 17) = some (1, 1, 6) := by rcases ht with rfl | rfl <;> exact msh_q rfl
theorem rd_T17 {t : Nat} (ht : isT t) {w : Nat → Nat → Int} (R : rw_ w) {i : Nat} (h : i < 6) : (-9223372036854775808) ≤ w (t + 17) i ∧ w (t + 17) i ≤ 9223372036854775807 := by rcases ht with rfl | rfl <;> exact rgw_i rfl R h
theorem wr_T17 {t : Nat} (ht : isT t) {i : Nat} {v : Int} (h : (-9223372036854775808) ≤ v ∧ v ≤ 9223372036854775807) : ok_t ((wkl[((t + 17) : Nat)]?).getD (.inr [])) i v := by rcases ht with rfl | rfl <;> exact wgw_i rfl h
theorem sh_T18 {t : Nat} (ht : isT t) : msh mshl (t + 18) = some (1, 0, 6) := by rcases ht with rfl | rfl <;> exact msh_q rfl
theorem rd_T18 {t : Nat} (ht : isT t) {z : Nat → Nat → Int} (R : rz z) {i : Nat} (h : i < 6) : 0 ≤ z (t + 18) i ∧ z (t + 18) i ≤ 8 := by rcases ht with rfl | rfl <;> exact rgz_i rfl R h
theorem wr_T18 {t : Nat} (ht : isT t) {i : Nat} {v : Int} (h : 0 ≤ v ∧ v ≤ 8) : ok_t ((zkl[((t + 18) : Nat)]?).getD (.inr [])) i v := by rcases ht with rfl | rfl <;> exact wgz_i rfl h
theorem sh_T19 {t : Nat} (ht : isT t) : msh mshl (t + 19) = some (1, 5, 6) := by rcases ht with rfl | rfl <;> exact msh_q rfl
theorem sh_T20 {t k : Nat} (ht : isT t) (hk : k < 6) : msh mshl (t + 20 + k) = some (1, 0, 8) := by rcases ht with rfl | rfl <;> rcases (show k = 0 ∨ k = 1 ∨ k = 2 ∨ k = 3 ∨ k = 4 ∨ k = 5 by omega) with rfl | rfl | rfl | rfl | rfl | rfl <;> exact msh_q rfl
theorem rd_T20 {t k : Nat} (ht : isT t) (hk : k < 6) {z : Nat → Nat → Int} (R : rz z) {i : Nat} (h : i < 8) : 0 ≤ z (t + 20 + k) i ∧ z (t + 20 + k) i ≤ 7 := by rcases ht with rfl | rfl <;> rcases (show k = 0 ∨ k = 1 ∨ k = 2 ∨ k = 3 ∨ k = 4 ∨ k = 5 by omega) with rfl | rfl | rfl | rfl | rfl | rfl <;> exact rgz_i rfl R h
theorem wr_T20 {t k : Nat} (ht : isT t) (hk : k < 6) {i : Nat} {v : Int} (h : 0 ≤ v ∧ v ≤ 7) : ok_t ((zkl[((t + 20 + k) : Nat)]?).getD (.inr [])) i v := by rcases ht with rfl | rfl <;> rcases (show k = 0 ∨ k = 1 ∨ k = 2 ∨ k = 3 ∨ k = 4 ∨ k = 5 by omega) with rfl | rfl | rfl | rfl | rfl | rfl <;> exact wgz_i rfl h
theorem sh_T26 {t : Nat} (ht : isT t) : msh mshl (t + 26) = some (1, 5, 6) := by rcases ht with rfl | rfl <;> exact msh_q rfl
theorem sh_T27 {t k : Nat} (ht : isT t) (hk : k < 6) : msh mshl (t + 27 + k) = some (1, 0, 8) := by rcases ht with rfl | rfl <;> rcases (show k = 0 ∨ k = 1 ∨ k = 2 ∨ k = 3 ∨ k = 4 ∨ k = 5 by omega) with rfl | rfl | rfl | rfl | rfl | rfl <;> exact msh_q rfl
theorem rd_T27 {t k : Nat} (ht : isT t) (hk : k < 6) {z : Nat → Nat → Int} (R : rz z) {i : Nat} (h : i < 8) : (-9) ≤ z (t + 27 + k) i ∧ z (t + 27 + k) i ≤ 9 := by rcases ht with rfl | rfl <;> rcases (show k = 0 ∨ k = 1 ∨ k = 2 ∨ k = 3 ∨ k = 4 ∨ k = 5 by omega) with rfl | rfl | rfl | rfl | rfl | rfl <;> exact rgz_i rfl R h
theorem wr_T27 {t k : Nat} (ht : isT t) (hk : k < 6) {i : Nat} {v : Int} (h : (-9) ≤ v ∧ v ≤ 9) : ok_t ((zkl[((t + 27 + k) : Nat)]?).getD (.inr [])) i v := by rcases ht with rfl | rfl <;> rcases (show k = 0 ∨ k = 1 ∨ k = 2 ∨ k = 3 ∨ k = 4 ∨ k = 5 by omega) with rfl | rfl | rfl | rfl | rfl | rfl <;> exact wgz_i rfl h
theorem sh_225 : msh mshl 225 = some (0, 11, 0) := msh_q rfl
theorem rd_225_1 {z : Nat → Nat → Int} (R : rz z) : 0 ≤ z 225 1 ∧ z 225 1 ≤ 1600 := by exact rgz_o rfl R rfl
theorem wr_225_1 {v : Int} (h : 0 ≤ v ∧ v ≤ 1600) : ok_t ((zkl[(225 : Nat)]?).getD (.inr [])) 1 v := by exact wgz_o rfl rfl h
theorem rd_225_2 {z : Nat → Nat → Int} (R : rz z) : 0 ≤ z 225 2 ∧ z 225 2 ≤ 6 := by exact rgz_o rfl R rfl
theorem wr_225_2 {v : Int} (h : 0 ≤ v ∧ v ≤ 6) : ok_t ((zkl[(225 : Nat)]?).getD (.inr [])) 2 v := by exact wgz_o rfl rfl h
theorem rd_225_3 {z : Nat → Nat → Int} (R : rz z) : (-2147483648) ≤ z 225 3 ∧ z 225 3 ≤ 2147483647 := by exact rgz_o rfl R rfl
theorem wr_225_3 {v : Int} (h : (-2147483648) ≤ v ∧ v ≤ 2147483647) : ok_t ((zkl[(225 : Nat)]?).getD (.inr [])) 3 v := by exact wgz_o rfl rfl h
theorem rd_225_4 {z : Nat → Nat → Int} (R : rz z) : 0 ≤ z 225 4 ∧ z 225 4 ≤ 1600 := by exact rgz_o rfl R rfl
theorem wr_225_4 {v : Int} (h : 0 ≤ v ∧ v ≤ 1600) : ok_t ((zkl[(225 : Nat)]?).getD (.inr [])) 4 v := by exact wgz_o rfl rfl h
theorem rd_225_5 {z : Nat → Nat → Int} (R : rz z) : 0 ≤ z 225 5 ∧ z 225 5 ≤ 1600 := by exact rgz_o rfl R rfl
theorem wr_225_5 {v : Int} (h : 0 ≤ v ∧ v ≤ 1600) : ok_t ((zkl[(225 : Nat)]?).getD (.inr [])) 5 v := by exact wgz_o rfl rfl h
theorem rd_225_6 {z : Nat → Nat → Int} (R : rz z) : 0 ≤ z 225 6 ∧ z 225 6 ≤ 59 := by exact rgz_o rfl R rfl
theorem wr_225_6 {v : Int} (h : 0 ≤ v ∧ v ≤ 59) : ok_t ((zkl[(225 : Nat)]?).getD (.inr [])) 6 v := by exact wgz_o rfl rfl h
theorem rd_225_7 {z : Nat → Nat → Int} (R : rz z) : 0 ≤ z 225 7 ∧ z 225 7 ≤ 1600 := by exact rgz_o rfl R rfl
theorem wr_225_7 {v : Int} (h : 0 ≤ v ∧ v ≤ 1600) : ok_t ((zkl[(225 : Nat)]?).getD (.inr [])) 7 v := by exact wgz_o rfl rfl h
theorem rd_225_8 {z : Nat → Nat → Int} (R : rz z) : 0 ≤ z 225 8 ∧ z 225 8 ≤ 9999 := by exact rgz_o rfl R rfl
theorem wr_225_8 {v : Int} (h : 0 ≤ v ∧ v ≤ 9999) : ok_t ((zkl[(225 : Nat)]?).getD (.inr [])) 8 v := by exact wgz_o rfl rfl h
theorem rd_225_9 {w : Nat → Nat → Int} (R : rw_ w) : (-9223372036854775808) ≤ w 225 9 ∧ w 225 9 ≤ 9223372036854775807 := by exact rgw_o rfl R rfl
theorem wr_225_9 {v : Int} (h : (-9223372036854775808) ≤ v ∧ v ≤ 9223372036854775807) : ok_t ((wkl[(225 : Nat)]?).getD (.inr [])) 9 v := by exact wgw_o rfl rfl h
theorem rd_225_23 {z : Nat → Nat → Int} (R : rz z) : 0 ≤ z 225 23 ∧ z 225 23 ≤ 12 := by exact rgz_o rfl R rfl
theorem wr_225_23 {v : Int} (h : 0 ≤ v ∧ v ≤ 12) : ok_t ((zkl[(225 : Nat)]?).getD (.inr [])) 23 v := by exact wgz_o rfl rfl h
theorem rd_225_24 {z : Nat → Nat → Int} (R : rz z) : 0 ≤ z 225 24 ∧ z 225 24 ≤ 8 := by exact rgz_o rfl R rfl
theorem wr_225_24 {v : Int} (h : 0 ≤ v ∧ v ≤ 8) : ok_t ((zkl[(225 : Nat)]?).getD (.inr [])) 24 v := by exact wgz_o rfl rfl h
theorem rd_225_25 {z : Nat → Nat → Int} (R : rz z) : 0 ≤ z 225 25 ∧ z 225 25 ≤ 6 := by exact rgz_o rfl R rfl
theorem wr_225_25 {v : Int} (h : 0 ≤ v ∧ v ≤ 6) : ok_t ((zkl[(225 : Nat)]?).getD (.inr [])) 25 v := by exact wgz_o rfl rfl h
theorem rd_225_26 {z : Nat → Nat → Int} (R : rz z) : 0 ≤ z 225 26 ∧ z 225 26 ≤ 12 := by exact rgz_o rfl R rfl
theorem wr_225_26 {v : Int} (h : 0 ≤ v ∧ v ≤ 12) : ok_t ((zkl[(225 : Nat)]?).getD (.inr [])) 26 v := by exact wgz_o rfl rfl h
theorem rd_225_27 {z : Nat → Nat → Int} (R : rz z) : 0 ≤ z 225 27 ∧ z 225 27 ≤ 8 := by exact rgz_o rfl R rfl
theorem wr_225_27 {v : Int} (h : 0 ≤ v ∧ v ≤ 8) : ok_t ((zkl[(225 : Nat)]?).getD (.inr [])) 27 v := by exact wgz_o rfl rfl h
theorem rd_225_28 {z : Nat → Nat → Int} (R : rz z) : 0 ≤ z 225 28 ∧ z 225 28 ≤ 6 := by exact rgz_o rfl R rfl
theorem wr_225_28 {v : Int} (h : 0 ≤ v ∧ v ≤ 6) : ok_t ((zkl[(225 : Nat)]?).getD (.inr [])) 28 v := by exact wgz_o rfl rfl h
theorem rd_225_32 {z : Nat → Nat → Int} (R : rz z) : 0 ≤ z 225 32 ∧ z 225 32 ≤ 36 := by exact rgz_o rfl R rfl
theorem wr_225_32 {v : Int} (h : 0 ≤ v ∧ v ≤ 36) : ok_t ((zkl[(225 : Nat)]?).getD (.inr [])) 32 v := by exact wgz_o rfl rfl h
theorem rd_225_36 {z : Nat → Nat → Int} (R : rz z) : (-2147483648) ≤ z 225 36 ∧ z 225 36 ≤ 2147483647 := by exact rgz_o rfl R rfl
theorem wr_225_36 {v : Int} (h : (-2147483648) ≤ v ∧ v ≤ 2147483647) : ok_t ((zkl[(225 : Nat)]?).getD (.inr [])) 36 v := by exact wgz_o rfl rfl h
theorem rd_225_37 {z : Nat → Nat → Int} (R : rz z) : (-2147483648) ≤ z 225 37 ∧ z 225 37 ≤ 2147483647 := by exact rgz_o rfl R rfl
theorem wr_225_37 {v : Int} (h : (-2147483648) ≤ v ∧ v ≤ 2147483647) : ok_t ((zkl[(225 : Nat)]?).getD (.inr [])) 37 v := by exact wgz_o rfl rfl h
theorem rd_225_38 {z : Nat → Nat → Int} (R : rz z) : 0 ≤ z 225 38 ∧ z 225 38 ≤ 35 := by exact rgz_o rfl R rfl
theorem wr_225_38 {v : Int} (h : 0 ≤ v ∧ v ≤ 35) : ok_t ((zkl[(225 : Nat)]?).getD (.inr [])) 38 v := by exact wgz_o rfl rfl h
theorem rd_225_39 {z : Nat → Nat → Int} (R : rz z) : (-2147483648) ≤ z 225 39 ∧ z 225 39 ≤ 2147483647 := by exact rgz_o rfl R rfl
theorem wr_225_39 {v : Int} (h : (-2147483648) ≤ v ∧ v ≤ 2147483647) : ok_t ((zkl[(225 : Nat)]?).getD (.inr [])) 39 v := by exact wgz_o rfl rfl h
theorem rd_225_40 {z : Nat → Nat → Int} (R : rz z) : 0 ≤ z 225 40 ∧ z 225 40 ≤ 1 := by exact rgz_o rfl R rfl
theorem wr_225_40 {v : Int} (h : 0 ≤ v ∧ v ≤ 1) : ok_t ((zkl[(225 : Nat)]?).getD (.inr [])) 40 v := by exact wgz_o rfl rfl h
theorem rd_225_42 {z : Nat → Nat → Int} (R : rz z) : 0 ≤ z 225 42 ∧ z 225 42 ≤ 18000 := by exact rgz_o rfl R rfl
theorem wr_225_42 {v : Int} (h : 0 ≤ v ∧ v ≤ 18000) : ok_t ((zkl[(225 : Nat)]?).getD (.inr [])) 42 v := by exact wgz_o rfl rfl h
theorem rd_225_53 {z : Nat → Nat → Int} (R : rz z) : (-1) ≤ z 225 53 ∧ z 225 53 ≤ 35 := by exact rgz_o rfl R rfl
theorem wr_225_53 {v : Int} (h : (-1) ≤ v ∧ v ≤ 35) : ok_t ((zkl[(225 : Nat)]?).getD (.inr [])) 53 v := by exact wgz_o rfl rfl h
theorem rd_225_54 {z : Nat → Nat → Int} (R : rz z) : (-1) ≤ z 225 54 ∧ z 225 54 ≤ 35 := by exact rgz_o rfl R rfl
theorem wr_225_54 {v : Int} (h : (-1) ≤ v ∧ v ≤ 35) : ok_t ((zkl[(225 : Nat)]?).getD (.inr [])) 54 v := by exact wgz_o rfl rfl h
theorem rd_225_58 {z : Nat → Nat → Int} (R : rz z) : 0 ≤ z 225 58 ∧ z 225 58 ≤ 1 := by exact rgz_o rfl R rfl
theorem wr_225_58 {v : Int} (h : 0 ≤ v ∧ v ≤ 1) : ok_t ((zkl[(225 : Nat)]?).getD (.inr [])) 58 v := by exact wgz_o rfl rfl h
theorem rd_225_59 {z : Nat → Nat → Int} (R : rz z) : 0 ≤ z 225 59 ∧ z 225 59 ≤ 1 := by exact rgz_o rfl R rfl
theorem wr_225_59 {v : Int} (h : 0 ≤ v ∧ v ≤ 1) : ok_t ((zkl[(225 : Nat)]?).getD (.inr [])) 59 v := by exact wgz_o rfl rfl h
theorem rd_225_70 {z : Nat → Nat → Int} (R : rz z) : 0 ≤ z 225 70 ∧ z 225 70 ≤ 1 := by exact rgz_o rfl R rfl
theorem wr_225_70 {v : Int} (h : 0 ≤ v ∧ v ≤ 1) : ok_t ((zkl[(225 : Nat)]?).getD (.inr [])) 70 v := by exact wgz_o rfl rfl h
theorem rd_225_73 {z : Nat → Nat → Int} (R : rz z) : 0 ≤ z 225 73 ∧ z 225 73 ≤ 60 := by exact rgz_o rfl R rfl
theorem wr_225_73 {v : Int} (h : 0 ≤ v ∧ v ≤ 60) : ok_t ((zkl[(225 : Nat)]?).getD (.inr [])) 73 v := by exact wgz_o rfl rfl h
theorem rd_225_74 {z : Nat → Nat → Int} (R : rz z) : 0 ≤ z 225 74 ∧ z 225 74 ≤ 60 := by exact rgz_o rfl R rfl
theorem wr_225_74 {v : Int} (h : 0 ≤ v ∧ v ≤ 60) : ok_t ((zkl[(225 : Nat)]?).getD (.inr [])) 74 v := by exact wgz_o rfl rfl h
theorem rd_225_76 {z : Nat → Nat → Int} (R : rz z) : 0 ≤ z 225 76 ∧ z 225 76 ≤ 1600 := by exact rgz_o rfl R rfl
theorem wr_225_76 {v : Int} (h : 0 ≤ v ∧ v ≤ 1600) : ok_t ((zkl[(225 : Nat)]?).getD (.inr [])) 76 v := by exact wgz_o rfl rfl h
theorem rd_225_77 {z : Nat → Nat → Int} (R : rz z) : 0 ≤ z 225 77 ∧ z 225 77 ≤ 1600 := by exact rgz_o rfl R rfl
theorem wr_225_77 {v : Int} (h : 0 ≤ v ∧ v ≤ 1600) : ok_t ((zkl[(225 : Nat)]?).getD (.inr [])) 77 v := by exact wgz_o rfl rfl h
theorem sh_226 : msh mshl 226 = some (1, 0, 1600) := msh_q rfl
theorem rd_226 {z : Nat → Nat → Int} (R : rz z) {i : Nat} (h : i < 1600) : 0 ≤ z 226 i ∧ z 226 i ≤ 255 := by exact rgz_i rfl R h
theorem wr_226 {i : Nat} {v : Int} (h : 0 ≤ v ∧ v ≤ 255) : ok_t ((zkl[(226 : Nat)]?).getD (.inr [])) i v := by exact wgz_i rfl h
theorem sh_227 : msh mshl 227 = some (1, 1, 8) := msh_q rfl
theorem rd_227 {w : Nat → Nat → Int} (R : rw_ w) {i : Nat} (h : i < 8) : (-9223372036854775808) ≤ w 227 i ∧ w 227 i ≤ 9223372036854775807 := by exact rgw_i rfl R h
theorem wr_227 {i : Nat} {v : Int} (h : (-9223372036854775808) ≤ v ∧ v ≤ 9223372036854775807) : ok_t ((wkl[(227 : Nat)]?).getD (.inr [])) i v := by exact wgw_i rfl h
theorem sh_228 : msh mshl 228 = some (1, 1, 6) := msh_q rfl
theorem rd_228 {w : Nat → Nat → Int} (R : rw_ w) {i : Nat} (h : i < 6) : (-9223372036854775808) ≤ w 228 i ∧ w 228 i ≤ 9223372036854775807 := by exact rgw_i rfl R h
theorem wr_228 {i : Nat} {v : Int} (h : (-9223372036854775808) ≤ v ∧ v ≤ 9223372036854775807) : ok_t ((wkl[(228 : Nat)]?).getD (.inr [])) i v := by exact wgw_i rfl h
theorem sh_229 : msh mshl 229 = some (1, 0, 36) := msh_q rfl
theorem rd_229 {z : Nat → Nat → Int} (R : rz z) {i : Nat} (h : i < 36) : 0 ≤ z 229 i ∧ z 229 i ≤ 17 := by exact rgz_i rfl R h
theorem wr_229 {i : Nat} {v : Int} (h : 0 ≤ v ∧ v ≤ 17) : ok_t ((zkl[(229 : Nat)]?).getD (.inr [])) i v := by exact wgz_i rfl h
theorem sh_230 : msh mshl 230 = some (1, 0, 18) := msh_q rfl
theorem rd_230 {z : Nat → Nat → Int} (R : rz z) {i : Nat} (h : i < 18) : 0 ≤ z 230 i ∧ z 230 i ≤ 2 := by exact rgz_i rfl R h
theorem wr_230 {i : Nat} {v : Int} (h : 0 ≤ v ∧ v ≤ 2) : ok_t ((zkl[(230 : Nat)]?).getD (.inr [])) i v := by exact wgz_i rfl h
theorem sh_231 : msh mshl 231 = some (1, 0, 144) := msh_q rfl
theorem rd_231 {z : Nat → Nat → Int} (R : rz z) {i : Nat} (h : i < 144) : 0 ≤ z 231 i ∧ z 231 i ≤ 9999 := by exact rgz_i rfl R h
theorem wr_231 {i : Nat} {v : Int} (h : 0 ≤ v ∧ v ≤ 9999) : ok_t ((zkl[(231 : Nat)]?).getD (.inr [])) i v := by exact wgz_i rfl h
theorem sh_232 : msh mshl 232 = some (1, 0, 48) := msh_q rfl
theorem rd_232 {z : Nat → Nat → Int} (R : rz z) {i : Nat} (h : i < 48) : 0 ≤ z 232 i ∧ z 232 i ≤ 7 := by exact rgz_i rfl R h
theorem wr_232 {i : Nat} {v : Int} (h : 0 ≤ v ∧ v ≤ 7) : ok_t ((zkl[(232 : Nat)]?).getD (.inr [])) i v := by exact wgz_i rfl h
theorem sh_233 : msh mshl 233 = some (1, 0, 48) := msh_q rfl
theorem rd_233 {z : Nat → Nat → Int} (R : rz z) {i : Nat} (h : i < 48) : (-9) ≤ z 233 i ∧ z 233 i ≤ 9 := by exact rgz_i rfl R h
theorem wr_233 {i : Nat} {v : Int} (h : (-9) ≤ v ∧ v ≤ 9) : ok_t ((zkl[(233 : Nat)]?).getD (.inr [])) i v := by exact wgz_i rfl h
theorem sh_234 : msh mshl 234 = some (1, 0, 6) := msh_q rfl
theorem rd_234 {z : Nat → Nat → Int} (R : rz z) {i : Nat} (h : i < 6) : 0 ≤ z 234 i ∧ z 234 i ≤ 8 := by exact rgz_i rfl R h
theorem wr_234 {i : Nat} {v : Int} (h : 0 ≤ v ∧ v ≤ 8) : ok_t ((zkl[(234 : Nat)]?).getD (.inr [])) i v := by exact wgz_i rfl h
theorem sh_235 : msh mshl 235 = some (1, 0, 36) := msh_q rfl
theorem rd_235 {z : Nat → Nat → Int} (R : rz z) {i : Nat} (h : i < 36) : 0 ≤ z 235 i ∧ z 235 i ≤ 17 := by exact rgz_i rfl R h
theorem wr_235 {i : Nat} {v : Int} (h : 0 ≤ v ∧ v ≤ 17) : ok_t ((zkl[(235 : Nat)]?).getD (.inr [])) i v := by exact wgz_i rfl h
theorem sh_236 : msh mshl 236 = some (1, 0, 144) := msh_q rfl
theorem rd_236 {z : Nat → Nat → Int} (R : rz z) {i : Nat} (h : i < 144) : 0 ≤ z 236 i ∧ z 236 i ≤ 9999 := by exact rgz_i rfl R h
theorem wr_236 {i : Nat} {v : Int} (h : 0 ≤ v ∧ v ≤ 9999) : ok_t ((zkl[(236 : Nat)]?).getD (.inr [])) i v := by exact wgz_i rfl h
theorem sh_237 : msh mshl 237 = some (1, 0, 48) := msh_q rfl
theorem rd_237 {z : Nat → Nat → Int} (R : rz z) {i : Nat} (h : i < 48) : 0 ≤ z 237 i ∧ z 237 i ≤ 7 := by exact rgz_i rfl R h
theorem wr_237 {i : Nat} {v : Int} (h : 0 ≤ v ∧ v ≤ 7) : ok_t ((zkl[(237 : Nat)]?).getD (.inr [])) i v := by exact wgz_i rfl h
theorem sh_238 : msh mshl 238 = some (1, 0, 48) := msh_q rfl
theorem rd_238 {z : Nat → Nat → Int} (R : rz z) {i : Nat} (h : i < 48) : (-9) ≤ z 238 i ∧ z 238 i ≤ 9 := by exact rgz_i rfl R h
theorem wr_238 {i : Nat} {v : Int} (h : (-9) ≤ v ∧ v ≤ 9) : ok_t ((zkl[(238 : Nat)]?).getD (.inr [])) i v := by exact wgz_i rfl h
theorem sh_239 : msh mshl 239 = some (1, 0, 6) := msh_q rfl
theorem rd_239 {z : Nat → Nat → Int} (R : rz z) {i : Nat} (h : i < 6) : 0 ≤ z 239 i ∧ z 239 i ≤ 8 := by exact rgz_i rfl R h
theorem wr_239 {i : Nat} {v : Int} (h : 0 ≤ v ∧ v ≤ 8) : ok_t ((zkl[(239 : Nat)]?).getD (.inr [])) i v := by exact wgz_i rfl h
theorem sh_240 : msh mshl 240 = some (1, 0, 36) := msh_q rfl
theorem rd_240 {z : Nat → Nat → Int} (R : rz z) {i : Nat} (h : i < 36) : 0 ≤ z 240 i ∧ z 240 i ≤ 35 := by exact rgz_i rfl R h
theorem wr_240 {i : Nat} {v : Int} (h : 0 ≤ v ∧ v ≤ 35) : ok_t ((zkl[(240 : Nat)]?).getD (.inr [])) i v := by exact wgz_i rfl h
theorem sh_241 : msh mshl 241 = some (1, 0, 18) := msh_q rfl
theorem rd_241 {z : Nat → Nat → Int} (R : rz z) {i : Nat} (h : i < 18) : (-1) ≤ z 241 i ∧ z 241 i ≤ 35 := by exact rgz_i rfl R h
theorem wr_241 {i : Nat} {v : Int} (h : (-1) ≤ v ∧ v ≤ 35) : ok_t ((zkl[(241 : Nat)]?).getD (.inr [])) i v := by exact wgz_i rfl h
theorem sh_242 : msh mshl 242 = some (1, 0, 36) := msh_q rfl
theorem rd_242 {z : Nat → Nat → Int} (R : rz z) {i : Nat} (h : i < 36) : (-1) ≤ z 242 i ∧ z 242 i ≤ 35 := by exact rgz_i rfl R h
theorem wr_242 {i : Nat} {v : Int} (h : (-1) ≤ v ∧ v ≤ 35) : ok_t ((zkl[(242 : Nat)]?).getD (.inr [])) i v := by exact wgz_i rfl h
theorem sh_243 : msh mshl 243 = some (1, 0, 18) := msh_q rfl
theorem rd_243 {z : Nat → Nat → Int} (R : rz z) {i : Nat} (h : i < 18) : 0 ≤ z 243 i ∧ z 243 i ≤ 18000 := by exact rgz_i rfl R h
theorem wr_243 {i : Nat} {v : Int} (h : 0 ≤ v ∧ v ≤ 18000) : ok_t ((zkl[(243 : Nat)]?).getD (.inr [])) i v := by exact wgz_i rfl h
theorem sh_244 : msh mshl 244 = some (1, 0, 19) := msh_q rfl
theorem rd_244 {z : Nat → Nat → Int} (R : rz z) {i : Nat} (h : i < 19) : 0 ≤ z 244 i ∧ z 244 i ≤ 18000 := by exact rgz_i rfl R h
theorem wr_244 {i : Nat} {v : Int} (h : 0 ≤ v ∧ v ≤ 18000) : ok_t ((zkl[(244 : Nat)]?).getD (.inr [])) i v := by exact wgz_i rfl h
theorem sh_245 : msh mshl 245 = some (1, 3, 18000) := msh_q rfl
theorem rd_245 {z : Nat → Nat → Int} (R : rz z) {i : Nat} (h : i < 18000) : 0 ≤ z 245 i ∧ z 245 i ≤ 1 := by exact rgz_i rfl R h
theorem wr_245 {i : Nat} {v : Int} (h : 0 ≤ v ∧ v ≤ 1) : ok_t ((zkl[(245 : Nat)]?).getD (.inr [])) i v := by exact wgz_i rfl h
theorem sh_246 : msh mshl 246 = some (1, 0, 18000) := msh_q rfl
theorem rd_246 {z : Nat → Nat → Int} (R : rz z) {i : Nat} (h : i < 18000) : 0 ≤ z 246 i ∧ z 246 i ≤ 35 := by exact rgz_i rfl R h
theorem wr_246 {i : Nat} {v : Int} (h : 0 ≤ v ∧ v ≤ 35) : ok_t ((zkl[(246 : Nat)]?).getD (.inr [])) i v := by exact wgz_i rfl h
theorem sh_247 : msh mshl 247 = some (1, 0, 71280) := msh_q rfl
theorem rd_247 {z : Nat → Nat → Int} (R : rz z) {i : Nat} (h : i < 71280) : 0 ≤ z 247 i ∧ z 247 i ≤ 17 := by exact rgz_i rfl R h
theorem wr_247 {i : Nat} {v : Int} (h : 0 ≤ v ∧ v ≤ 17) : ok_t ((zkl[(247 : Nat)]?).getD (.inr [])) i v := by exact wgz_i rfl h
theorem sh_248 : msh mshl 248 = some (1, 0, 8) := msh_q rfl
theorem rd_248 {z : Nat → Nat → Int} (R : rz z) {i : Nat} (h : i < 8) : 0 ≤ z 248 i ∧ z 248 i ≤ 1782 := by exact rgz_i rfl R h
theorem wr_248 {i : Nat} {v : Int} (h : 0 ≤ v ∧ v ≤ 1782) : ok_t ((zkl[(248 : Nat)]?).getD (.inr [])) i v := by exact wgz_i rfl h
theorem sh_249 : msh mshl 249 = some (1, 0, 8) := msh_q rfl
theorem rd_249 {z : Nat → Nat → Int} (R : rz z) {i : Nat} (h : i < 8) : 0 ≤ z 249 i ∧ z 249 i ≤ 17 := by exact rgz_i rfl R h
theorem wr_249 {i : Nat} {v : Int} (h : 0 ≤ v ∧ v ≤ 17) : ok_t ((zkl[(249 : Nat)]?).getD (.inr [])) i v := by exact wgz_i rfl h
theorem sh_250 : msh mshl 250 = some (1, 0, 8) := msh_q rfl
theorem rd_250 {z : Nat → Nat → Int} (R : rz z) {i : Nat} (h : i < 8) : 0 ≤ z 250 i ∧ z 250 i ≤ 17 := by exact rgz_i rfl R h
theorem wr_250 {i : Nat} {v : Int} (h : 0 ≤ v ∧ v ≤ 17) : ok_t ((zkl[(250 : Nat)]?).getD (.inr [])) i v := by exact wgz_i rfl h
theorem sh_251 : msh mshl 251 = some (1, 0, 8) := msh_q rfl
theorem rd_251 {z : Nat → Nat → Int} (R : rz z) {i : Nat} (h : i < 8) : 0 ≤ z 251 i ∧ z 251 i ≤ 17 := by exact rgz_i rfl R h
theorem wr_251 {i : Nat} {v : Int} (h : 0 ≤ v ∧ v ≤ 17) : ok_t ((zkl[(251 : Nat)]?).getD (.inr [])) i v := by exact wgz_i rfl h
theorem sh_252 : msh mshl 252 = some (1, 0, 8) := msh_q rfl
theorem rd_252 {z : Nat → Nat → Int} (R : rz z) {i : Nat} (h : i < 8) : 0 ≤ z 252 i ∧ z 252 i ≤ 17 := by exact rgz_i rfl R h
theorem wr_252 {i : Nat} {v : Int} (h : 0 ≤ v ∧ v ≤ 17) : ok_t ((zkl[(252 : Nat)]?).getD (.inr [])) i v := by exact wgz_i rfl h
theorem sh_253 : msh mshl 253 = some (1, 3, 8) := msh_q rfl
theorem rd_253 {z : Nat → Nat → Int} (R : rz z) {i : Nat} (h : i < 8) : 0 ≤ z 253 i ∧ z 253 i ≤ 1 := by exact rgz_i rfl R h
theorem wr_253 {i : Nat} {v : Int} (h : 0 ≤ v ∧ v ≤ 1) : ok_t ((zkl[(253 : Nat)]?).getD (.inr [])) i v := by exact wgz_i rfl h
theorem sh_254 : msh mshl 254 = some (1, 3, 8) := msh_q rfl
theorem rd_254 {z : Nat → Nat → Int} (R : rz z) {i : Nat} (h : i < 8) : 0 ≤ z 254 i ∧ z 254 i ≤ 1 := by exact rgz_i rfl R h
theorem wr_254 {i : Nat} {v : Int} (h : 0 ≤ v ∧ v ≤ 1) : ok_t ((zkl[(254 : Nat)]?).getD (.inr [])) i v := by exact wgz_i rfl h
theorem sh_255 : msh mshl 255 = some (1, 0, 36) := msh_q rfl
theorem rd_255 {z : Nat → Nat → Int} (R : rz z) {i : Nat} (h : i < 36) : 0 ≤ z 255 i ∧ z 255 i ≤ 17 := by exact rgz_i rfl R h
theorem wr_255 {i : Nat} {v : Int} (h : 0 ≤ v ∧ v ≤ 17) : ok_t ((zkl[(255 : Nat)]?).getD (.inr [])) i v := by exact wgz_i rfl h
theorem sh_256 : msh mshl 256 = some (1, 0, 18) := msh_q rfl
theorem rd_256 {z : Nat → Nat → Int} (R : rz z) {i : Nat} (h : i < 18) : 0 ≤ z 256 i ∧ z 256 i ≤ 9999 := by exact rgz_i rfl R h
theorem wr_256 {i : Nat} {v : Int} (h : 0 ≤ v ∧ v ≤ 9999) : ok_t ((zkl[(256 : Nat)]?).getD (.inr [])) i v := by exact wgz_i rfl h
theorem sh_257 : msh mshl 257 = some (1, 1, 18) := msh_q rfl
theorem rd_257 {w : Nat → Nat → Int} (R : rw_ w) {i : Nat} (h : i < 18) : (-9223372036854775808) ≤ w 257 i ∧ w 257 i ≤ 9223372036854775807 := by exact rgw_i rfl R h
theorem wr_257 {i : Nat} {v : Int} (h : (-9223372036854775808) ≤ v ∧ v ≤ 9223372036854775807) : ok_t ((wkl[(257 : Nat)]?).getD (.inr [])) i v := by exact wgw_i rfl h
theorem sh_258 : msh mshl 258 = some (1, 1, 324) := msh_q rfl
theorem rd_258 {w : Nat → Nat → Int} (R : rw_ w) {i : Nat} (h : i < 324) : (-9223372036854775808) ≤ w 258 i ∧ w 258 i ≤ 9223372036854775807 := by exact rgw_i rfl R h
theorem wr_258 {i : Nat} {v : Int} (h : (-9223372036854775808) ≤ v ∧ v ≤ 9223372036854775807) : ok_t ((wkl[(258 : Nat)]?).getD (.inr [])) i v := by exact wgw_i rfl h
theorem sh_259 : msh mshl 259 = some (1, 1, 18) := msh_q rfl
theorem rd_259 {w : Nat → Nat → Int} (R : rw_ w) {i : Nat} (h : i < 18) : (-9223372036854775808) ≤ w 259 i ∧ w 259 i ≤ 9223372036854775807 := by exact rgw_i rfl R h
theorem wr_259 {i : Nat} {v : Int} (h : (-9223372036854775808) ≤ v ∧ v ≤ 9223372036854775807) : ok_t ((wkl[(259 : Nat)]?).getD (.inr [])) i v := by exact wgw_i rfl h
theorem sh_260 : msh mshl 260 = some (1, 1, 18) := msh_q rfl
theorem rd_260 {w : Nat → Nat → Int} (R : rw_ w) {i : Nat} (h : i < 18) : (-9223372036854775808) ≤ w 260 i ∧ w 260 i ≤ 9223372036854775807 := by exact rgw_i rfl R h
theorem wr_260 {i : Nat} {v : Int} (h : (-9223372036854775808) ≤ v ∧ v ≤ 9223372036854775807) : ok_t ((wkl[(260 : Nat)]?).getD (.inr [])) i v := by exact wgw_i rfl h
theorem sh_261 : msh mshl 261 = some (1, 0, 72) := msh_q rfl
theorem rd_261 {z : Nat → Nat → Int} (R : rz z) {i : Nat} (h : i < 72) : (-2147483648) ≤ z 261 i ∧ z 261 i ≤ 2147483647 := by exact rgz_i rfl R h
theorem wr_261 {i : Nat} {v : Int} (h : (-2147483648) ≤ v ∧ v ≤ 2147483647) : ok_t ((zkl[(261 : Nat)]?).getD (.inr [])) i v := by exact wgz_i rfl h
theorem sh_262 : msh mshl 262 = some (1, 1, 18) := msh_q rfl
theorem rd_262 {w : Nat → Nat → Int} (R : rw_ w) {i : Nat} (h : i < 18) : (-9223372036854775808) ≤ w 262 i ∧ w 262 i ≤ 9223372036854775807 := by exact rgw_i rfl R h
theorem wr_262 {i : Nat} {v : Int} (h : (-9223372036854775808) ≤ v ∧ v ≤ 9223372036854775807) : ok_t ((wkl[(262 : Nat)]?).getD (.inr [])) i v := by exact wgw_i rfl h
theorem sh_263 : msh mshl 263 = some (1, 1, 144) := msh_q rfl
theorem rd_263 {w : Nat → Nat → Int} (R : rw_ w) {i : Nat} (h : i < 144) : (-9223372036854775808) ≤ w 263 i ∧ w 263 i ≤ 9223372036854775807 := by exact rgw_i rfl R h
theorem wr_263 {i : Nat} {v : Int} (h : (-9223372036854775808) ≤ v ∧ v ≤ 9223372036854775807) : ok_t ((wkl[(263 : Nat)]?).getD (.inr [])) i v := by exact wgw_i rfl h
theorem sh_264 : msh mshl 264 = some (1, 3, 8) := msh_q rfl
theorem rd_264 {z : Nat → Nat → Int} (R : rz z) {i : Nat} (h : i < 8) : 0 ≤ z 264 i ∧ z 264 i ≤ 1 := by exact rgz_i rfl R h
theorem wr_264 {i : Nat} {v : Int} (h : 0 ≤ v ∧ v ≤ 1) : ok_t ((zkl[(264 : Nat)]?).getD (.inr [])) i v := by exact wgz_i rfl h
theorem sh_265 : msh mshl 265 = some (1, 1, 324) := msh_q rfl
theorem rd_265 {w : Nat → Nat → Int} (R : rw_ w) {i : Nat} (h : i < 324) : (-9223372036854775808) ≤ w 265 i ∧ w 265 i ≤ 9223372036854775807 := by exact rgw_i rfl R h
theorem wr_265 {i : Nat} {v : Int} (h : (-9223372036854775808) ≤ v ∧ v ≤ 9223372036854775807) : ok_t ((wkl[(265 : Nat)]?).getD (.inr [])) i v := by exact wgw_i rfl h
theorem sh_266 : msh mshl 266 = some (1, 1, 324) := msh_q rfl
theorem rd_266 {w : Nat → Nat → Int} (R : rw_ w) {i : Nat} (h : i < 324) : (-9223372036854775808) ≤ w 266 i ∧ w 266 i ≤ 9223372036854775807 := by exact rgw_i rfl R h
theorem wr_266 {i : Nat} {v : Int} (h : (-9223372036854775808) ≤ v ∧ v ≤ 9223372036854775807) : ok_t ((wkl[(266 : Nat)]?).getD (.inr [])) i v := by exact wgw_i rfl h
theorem sh_267 : msh mshl 267 = some (1, 1, 19) := msh_q rfl
theorem rd_267 {w : Nat → Nat → Int} (R : rw_ w) {i : Nat} (h : i < 19) : (-9223372036854775808) ≤ w 267 i ∧ w 267 i ≤ 9223372036854775807 := by exact rgw_i rfl R h
theorem wr_267 {i : Nat} {v : Int} (h : (-9223372036854775808) ≤ v ∧ v ≤ 9223372036854775807) : ok_t ((wkl[(267 : Nat)]?).getD (.inr [])) i v := by exact wgw_i rfl h
theorem sh_268 : msh mshl 268 = some (1, 0, 18) := msh_q rfl
theorem rd_268 {z : Nat → Nat → Int} (R : rz z) {i : Nat} (h : i < 18) : (-2147483648) ≤ z 268 i ∧ z 268 i ≤ 2147483647 := by exact rgz_i rfl R h
theorem wr_268 {i : Nat} {v : Int} (h : (-2147483648) ≤ v ∧ v ≤ 2147483647) : ok_t ((zkl[(268 : Nat)]?).getD (.inr [])) i v := by exact wgz_i rfl h
theorem sh_269 : msh mshl 269 = some (1, 0, 18) := msh_q rfl
theorem rd_269 {z : Nat → Nat → Int} (R : rz z) {i : Nat} (h : i < 18) : 0 ≤ z 269 i ∧ z 269 i ≤ 1600 := by exact rgz_i rfl R h
theorem wr_269 {i : Nat} {v : Int} (h : 0 ≤ v ∧ v ≤ 1600) : ok_t ((zkl[(269 : Nat)]?).getD (.inr [])) i v := by exact wgz_i rfl h
theorem sh_270 : msh mshl 270 = some (1, 1, 18) := msh_q rfl
theorem rd_270 {w : Nat → Nat → Int} (R : rw_ w) {i : Nat} (h : i < 18) : 0 ≤ w 270 i ∧ w 270 i ≤ 100000000000000 := by exact rgw_i rfl R h
theorem wr_270 {i : Nat} {v : Int} (h : 0 ≤ v ∧ v ≤ 100000000000000) : ok_t ((wkl[(270 : Nat)]?).getD (.inr [])) i v := by exact wgw_i rfl h
theorem sh_271 : msh mshl 271 = some (1, 1, 1098) := msh_q rfl
theorem rd_271 {w : Nat → Nat → Int} (R : rw_ w) {i : Nat} (h : i < 1098) : 0 ≤ w 271 i ∧ w 271 i ≤ 100000000000000 := by exact rgw_i rfl R h
theorem wr_271 {i : Nat} {v : Int} (h : 0 ≤ v ∧ v ≤ 100000000000000) : ok_t ((wkl[(271 : Nat)]?).getD (.inr [])) i v := by exact wgw_i rfl h
theorem sh_272 : msh mshl 272 = some (1, 0, 1600) := msh_q rfl
theorem rd_272 {z : Nat → Nat → Int} (R : rz z) {i : Nat} (h : i < 1600) : 0 ≤ z 272 i ∧ z 272 i ≤ 35 := by exact rgz_i rfl R h
theorem wr_272 {i : Nat} {v : Int} (h : 0 ≤ v ∧ v ≤ 35) : ok_t ((zkl[(272 : Nat)]?).getD (.inr [])) i v := by exact wgz_i rfl h
theorem sh_273 : msh mshl 273 = some (1, 1, 18) := msh_q rfl
theorem rd_273 {w : Nat → Nat → Int} (R : rw_ w) {i : Nat} (h : i < 18) : 0 ≤ w 273 i ∧ w 273 i ≤ 100000000000000 := by exact rgw_i rfl R h
theorem wr_273 {i : Nat} {v : Int} (h : 0 ≤ v ∧ v ≤ 100000000000000) : ok_t ((wkl[(273 : Nat)]?).getD (.inr [])) i v := by exact wgw_i rfl h
theorem sh_274 : msh mshl 274 = some (1, 3, 3) := msh_q rfl
theorem rd_274 {z : Nat → Nat → Int} (R : rz z) {i : Nat} (h : i < 3) : 0 ≤ z 274 i ∧ z 274 i ≤ 1 := by exact rgz_i rfl R h
theorem wr_274 {i : Nat} {v : Int} (h : 0 ≤ v ∧ v ≤ 1) : ok_t ((zkl[(274 : Nat)]?).getD (.inr [])) i v := by exact wgz_i rfl h
theorem sh_275 : msh mshl 275 = some (1, 1, 54) := msh_q rfl
theorem rd_275 {w : Nat → Nat → Int} (R : rw_ w) {i : Nat} (h : i < 54) : 0 ≤ w 275 i ∧ w 275 i ≤ 100000000000000 := by exact rgw_i rfl R h
theorem wr_275 {i : Nat} {v : Int} (h : 0 ≤ v ∧ v ≤ 100000000000000) : ok_t ((wkl[(275 : Nat)]?).getD (.inr [])) i v := by exact wgw_i rfl h

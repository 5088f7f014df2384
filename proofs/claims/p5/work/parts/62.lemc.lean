theorem tp_cpy28 {g h : Nat → Int32} (hg : ∀ j : Nat, -1000 ≤ (g j).toInt ∧ (g j).toInt ≤ 100001) (hh : ∀ j : Nat, -1000 ≤ (h j).toInt ∧ (h j).toInt ≤ 100001) (a b n : Nat) : ∀ j : Nat, -1000 ≤ (va_cpy g h a b n j).toInt ∧ (va_cpy g h a b n j).toInt ≤ 100001 := by
  intro j; unfold va_cpy; split
  · exact hg _
  · exact hh _

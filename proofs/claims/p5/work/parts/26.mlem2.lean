def mo_CP (P Q R : Int → Int) (a m : Int) : Prop := ∀ j, 0 ≤ j → R j = if a ≤ j ∧ j < a + m then Q (j - a) else P j
theorem mo_CP.rf {P Q : Int → Int} {a m : Int} (h : m ≤ 0) : mo_CP P Q P a m := fun j _ => by rw [if_neg (by omega)]
theorem mo_CP.out {P Q R : Int → Int} {a m j : Int} (h : mo_CP P Q R a m) (h0 : 0 ≤ j) (hn : j < a ∨ a + m ≤ j) : R j = P j := by rw [h j h0, if_neg (by omega)]
theorem mo_CP.inn {P Q R : Int → Int} {a m j : Int} (h : mo_CP P Q R a m) (h0 : 0 ≤ j) (h1 : a ≤ j) (h2 : j < a + m) : R j = Q (j - a) := by rw [h j h0, if_pos ⟨h1, h2⟩]
theorem mo_CP.up {P Q R R' : Int → Int} {a m i v : Int} (h : mo_CP P Q R a m) (hU : mo_U R R' i v) (hi : i = a + m) (hv : v = Q m) (hm : 0 ≤ m) (n : Int) (hn : n = m + 1) : mo_CP P Q R' a n := by
  intro j hj
  rcases hU.at j hj with ⟨z, e⟩ | ⟨z, e⟩
  · rw [e, if_pos (by omega), hv, z, hi, show a + m - a = m by omega]
  · rw [e, h j hj]
    by_cases q : a ≤ j ∧ j < a + m
    · rw [if_pos q, if_pos (by omega)]
    · rw [if_neg q, if_neg (by omega)]
/-- both images of the row -/
def mo_IM (I : Int → Int) : Prop := ∀ k, 0 ≤ k → k < 2 → mo_RI (-1) 0 (fun j => I (12967 * k + j))
theorem mo_IM.put {I I' R : Int → Int} {v m : Int} (h : mo_IM I) (hR : mo_RI (-1) 0 R) (hC : mo_CP I R I' (12967 * v) m) (hm : m = 12967) : mo_IM I' := by
  intro k h0 h1
  rcases (show k = v ∨ k ≠ v by omega) with rfl | hk
  · exact hR.same (fun j j0 j1 => (hC.inn (j := 12967 * k + j) (by omega) (by omega) (by omega)).trans (by rw [show 12967 * k + j - 12967 * k = j by omega]))
  · exact (h k h0 h1).same (fun j j0 j1 => hC.out (j := 12967 * k + j) (by omega) (by omega))
theorem mo_IM.get {I R R' : Int → Int} {v m : Int} (h : mo_IM I) (h0 : 0 ≤ v) (h1 : v < 2) (hC : mo_CP R (fun j => I (12967 * v + j)) R' 0 m) (hm : m = 12967) : mo_RI (-1) 0 R' :=
  (h v h0 h1).same (fun j j0 j1 => (hC.inn (j := j) j0 (by omega) (by omega)).trans (by rw [show j - 0 = j by omega]))

theorem mo_RI0 {R : Int → Int} (h : ∀ j, 0 ≤ j → j ≠ 12 → j ≠ 13 → R j = 0) (h12 : 0 ≤ R 12 ∧ R 12 ≤ 100) (h13 : 0 ≤ R 13 ∧ R 13 ≤ 1000) : mo_RI (-1) 0 R := by
  have q0 := h 0 (by decide) (by decide) (by decide)
  have q1 := h 1 (by decide) (by decide) (by decide)
  have q2 := h 2 (by decide) (by decide) (by decide)
  have q3 := h 3 (by decide) (by decide) (by decide)
  have q5 := h 5 (by decide) (by decide) (by decide)
  have q6 := h 6 (by decide) (by decide) (by decide)
  have q7 := h 7 (by decide) (by decide) (by decide)
  have q8 := h 8 (by decide) (by decide) (by decide)
  have q9 := h 9 (by decide) (by decide) (by decide)
  have q10 := h 10 (by decide) (by decide) (by decide)
  have q11 := h 11 (by decide) (by decide) (by decide)
  refine ⟨⟨(by omega), (by omega), (by omega), (by omega), (by omega), (by omega), (by omega), (by omega), (by omega), (by omega), (by omega), (by omega), (by omega)⟩, ?_, ?_, ?_, ?_, ?_, ?_, ?_, ?_, ?_, ?_, ?_, ?_, ?_, ?_, ?_, ?_, ?_⟩
  · intro t p0 p1
    exfalso; omega
  · intro d p0 p1
    have := h (147 + d) (by omega) (by omega) (by omega); omega
  · intro s p0 p1
    exfalso; omega
  · intro s p0 p1
    exfalso; omega
  · intro s p0 p1
    exfalso; omega
  · intro s p0 p1
    exfalso; omega
  · intro s k p0 p1 p2 p3
    exfalso; omega
  · intro s p0 p1
    exfalso; omega
  · intro s p0 p1
    exfalso; omega
  · intro s p0 p1
    exfalso; omega
  · intro s o p0 p1 p2 p3
    exfalso; omega
  · intro l p0 p1
    exfalso; omega
  · intro l p0 p1
    exfalso; omega
  · intro l p0 p1
    exfalso; omega
  · intro k p0 p1
    exfalso; omega
  · intro k p0 p1
    exfalso; omega
  · intro c p0 p1
    exfalso; omega
theorem mo_IM0 : mo_IM (mo_R (fun _ => 0)) := fun k _ _ => mo_RI0 (fun j _ _ _ => rfl) ⟨Int.le_refl 0, by show (0 : Int) ≤ 100; decide⟩ ⟨Int.le_refl 0, by show (0 : Int) ≤ 1000; decide⟩
theorem mo_RI00 : mo_RI (-1) 0 (mo_R (upd (upd (fun _ => 0) (12 : Int32).toNatClampNeg (10 : Int32)) (13 : Int32).toNatClampNeg (700 : Int32))) := by
  have u1 : mo_U (mo_R (fun _ => 0)) (mo_R (upd (fun _ => 0) (12 : Int32).toNatClampNeg (10 : Int32))) 12 10 := mo_up (show (12 : Int32).toInt = 12 from rfl) (show (10 : Int32).toInt = 10 from rfl) (by decide)
  have u2 : mo_U (mo_R (upd (fun _ => 0) (12 : Int32).toNatClampNeg (10 : Int32))) (mo_R (upd (upd (fun _ => 0) (12 : Int32).toNatClampNeg (10 : Int32)) (13 : Int32).toNatClampNeg (700 : Int32))) 13 700 := mo_up (show (13 : Int32).toInt = 13 from rfl) (show (700 : Int32).toInt = 700 from rfl) (by decide)
  have e12 := (u2.ne (j := 12) (by decide) (by decide)).trans (u1.eq (by decide))
  have e13 := u2.eq (by decide)
  exact mo_RI0 (fun j j0 j1 j2 => (u2.ne j0 j2).trans ((u1.ne j0 j1).trans rfl)) (by omega) (by omega)

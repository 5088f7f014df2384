section
section MOW
variable {x b : Int} {R R' : Int → Int} {i v : Int}
set_option maxHeartbeats 4000000 in
theorem mo_w_flat (h : mo_RI x b R) (hU : mo_U R R' i v) (hi : (i = 4) ∨ (14 ≤ i ∧ i < 20) ∨ (50 ≤ i ∧ i < 147) ∨ (247 ≤ i ∧ i < 547) ∨ (2011 ≤ i ∧ i < 2251) ∨ (12619 ≤ i ∧ i < 12919)) : mo_RI x b R' := by
  obtain ⟨hK, hT, hE, hSA, hSF, hSO, hSL, hSB, hGC, hGG, hV, hP, hLS, hLL, hLT, hA0, hA1, hC⟩ := h
  obtain ⟨k0, k1, k2, k3, k5, k6, k7, k8, k9, k10, k11, k12, k13⟩ := hK
  refine ⟨⟨by rw [hU.ne (j := 0) (by decide) (by omega)]; exact k0, by rw [hU.ne (j := 1) (by decide) (by omega)]; exact k1, by rw [hU.ne (j := 2) (by decide) (by omega)]; exact k2, by rw [hU.ne (j := 3) (by decide) (by omega)]; exact k3, by rw [hU.ne (j := 5) (by decide) (by omega)]; exact k5, by rw [hU.ne (j := 6) (by decide) (by omega)]; exact k6, by rw [hU.ne (j := 7) (by decide) (by omega)]; exact k7, by rw [hU.ne (j := 8) (by decide) (by omega)]; exact k8, by rw [hU.ne (j := 9) (by decide) (by omega)]; exact k9, by rw [hU.ne (j := 10) (by decide) (by omega)]; exact k10, by rw [hU.ne (j := 11) (by decide) (by omega)]; exact k11, by rw [hU.ne (j := 12) (by decide) (by omega)]; exact k12, by rw [hU.ne (j := 13) (by decide) (by omega)]; exact k13⟩, ?_, ?_, ?_, ?_, ?_, ?_, ?_, ?_, ?_, ?_, ?_, ?_, ?_, ?_, ?_, ?_, ?_⟩
  · intro t p0 p1
    have a0 := hU.ne (j := 0) (by omega) (by omega); have a1 := hU.ne (j := 20 + 5 * t + 2) (by omega) (by omega); (have g0 := hT t; omega)
  · intro d p0 p1
    have a0 := hU.ne (j := 147 + d) (by omega) (by omega); (have g0 := hE d; constructor <;> omega)
  · intro s p0 p1
    have a0 := hU.ne (j := 1) (by omega) (by omega); have a1 := hU.ne (j := 547 + 84 * s + 0) (by omega) (by omega); (have g0 := hSA s; constructor <;> omega)
  · intro s p0 p1
    have a0 := hU.ne (j := 1) (by omega) (by omega); have a1 := hU.ne (j := 547 + 84 * s + 8) (by omega) (by omega); (have g0 := hSF s; constructor <;> omega)
  · intro s p0 p1
    have a0 := hU.ne (j := 1) (by omega) (by omega); have a1 := hU.ne (j := 547 + 84 * s + 10) (by omega) (by omega); (have g0 := hSO s; constructor <;> omega)
  · intro s p0 p1
    have a0 := hU.ne (j := 1) (by omega) (by omega); have a1 := hU.ne (j := 547 + 84 * s + 24) (by omega) (by omega); (have g0 := hSL s; omega)
  · intro s k p0 p1 p2 p3
    have a0 := hU.ne (j := 1) (by omega) (by omega); have a1 := hU.ne (j := 547 + 84 * s + 33 + 3 * k) (by omega) (by omega); (have g0 := hSB s k; constructor <;> omega)
  · intro s p0 p1
    have a0 := hU.ne (j := 1) (by omega) (by omega); have a1 := hU.ne (j := 547 + 84 * s + 7) (by omega) (by omega); (have g0 := hGC s; constructor <;> omega)
  · intro s p0 p1
    have a0 := hU.ne (j := 1) (by omega) (by omega); have a1 := hU.ne (j := 547 + 84 * s + 4) (by omega) (by omega); have a2 := hU.ne (j := 547 + 84 * s + 7) (by omega) (by omega); (have g0 := hGG s; constructor <;> omega)
  · intro s p0 p1
    have a0 := hU.ne (j := 1) (by omega) (by omega); have a1 := hU.ne (j := 547 + 84 * s + 5) (by omega) (by omega); (have g0 := hV s; refine ⟨?_, ?_, ?_⟩ <;> omega)
  · intro s o p0 p1 p2 p3
    intro hw
    have q11 := hSO s
    have a0 := hU.ne (j := 1) (by omega) (by omega); have a1 := hU.ne (j := 547 + 84 * s + 10) (by omega) (by omega); have a2 := hU.ne (j := 547 + 84 * s + 44 + 2 * o) (by omega) (by omega); have a3 := hU.ne (j := 547 + 84 * s + 45 + 2 * o) (by omega) (by omega); (have g0 := hP s o; constructor <;> omega)
  · intro l p0 p1
    have a0 := hU.ne (j := 1) (by omega) (by omega); have a1 := hU.ne (j := 5) (by omega) (by omega); have a2 := hU.ne (j := 1051 + 16 * l + 0) (by omega) (by omega); (have g0 := hLS l; constructor <;> omega)
  · intro l p0 p1
    have a0 := hU.ne (j := 5) (by omega) (by omega); have a1 := hU.ne (j := 1051 + 16 * l + 3) (by omega) (by omega); (have g0 := hLL l; omega)
  · intro l p0 p1
    have a0 := hU.ne (j := 5) (by omega) (by omega); have a1 := hU.ne (j := 1051 + 16 * l + 4) (by omega) (by omega); (have g0 := hLT l; omega)
  · intro k p0 p1
    have a0 := hU.ne (j := 0) (by omega) (by omega); have a1 := hU.ne (j := 10) (by omega) (by omega); have a2 := hU.ne (j := 12919 + 8 * k + 0) (by omega) (by omega); (have g0 := hA0 k; constructor <;> omega)
  · intro k p0 p1
    have a0 := hU.ne (j := 0) (by omega) (by omega); have a1 := hU.ne (j := 10) (by omega) (by omega); have a2 := hU.ne (j := 12919 + 8 * k + 1) (by omega) (by omega); (have g0 := hA1 k; constructor <;> omega)
  · intro c p0 p1
    have a0 := hU.ne (j := 8) (by omega) (by omega)
    exact mo_CO.congr (fun j _ _ => (hU.ne (by omega) (by omega)).symm) (hC _ p0 (by omega))
set_option maxHeartbeats 4000000 in
theorem mo_w_cnt (h : mo_RI x b R) (hU : mo_U R R' i v) (hi : (i = 2 ∧ v ≤ 60) ∨ (i = 3 ∧ v ≤ 20) ∨ (i = 6 ∧ v ≤ 60) ∨ (i = 7 ∧ v ≤ 20) ∨ (i = 9 ∧ v ≤ 60) ∨ (i = 11 ∧ v ≤ 2399) ∨ (i = 12 ∧ v ≤ 100) ∨ (i = 13 ∧ v ≤ 1000)) (hv : 0 ≤ v) : mo_RI x b R' := by
  obtain ⟨hK, hT, hE, hSA, hSF, hSO, hSL, hSB, hGC, hGG, hV, hP, hLS, hLL, hLT, hA0, hA1, hC⟩ := h
  obtain ⟨k0, k1, k2, k3, k5, k6, k7, k8, k9, k10, k11, k12, k13⟩ := hK
  refine ⟨⟨by rw [hU.ne (j := 0) (by decide) (by omega)]; exact k0, by rw [hU.ne (j := 1) (by decide) (by omega)]; exact k1, ?_, ?_, by rw [hU.ne (j := 5) (by decide) (by omega)]; exact k5, ?_, ?_, by rw [hU.ne (j := 8) (by decide) (by omega)]; exact k8, ?_, by rw [hU.ne (j := 10) (by decide) (by omega)]; exact k10, ?_, ?_, ?_⟩, ?_, ?_, ?_, ?_, ?_, ?_, ?_, ?_, ?_, ?_, ?_, ?_, ?_, ?_, ?_, ?_, ?_⟩
  · rcases hU.at 2 (by omega) with ⟨z0, a0⟩ | ⟨z0, a0⟩ <;> (constructor <;> omega)
  · rcases hU.at 3 (by omega) with ⟨z0, a0⟩ | ⟨z0, a0⟩ <;> (constructor <;> omega)
  · rcases hU.at 6 (by omega) with ⟨z0, a0⟩ | ⟨z0, a0⟩ <;> (constructor <;> omega)
  · rcases hU.at 7 (by omega) with ⟨z0, a0⟩ | ⟨z0, a0⟩ <;> (constructor <;> omega)
  · rcases hU.at 9 (by omega) with ⟨z0, a0⟩ | ⟨z0, a0⟩ <;> (constructor <;> omega)
  · rcases hU.at 11 (by omega) with ⟨z0, a0⟩ | ⟨z0, a0⟩ <;> (constructor <;> omega)
  · rcases hU.at 12 (by omega) with ⟨z0, a0⟩ | ⟨z0, a0⟩ <;> (constructor <;> omega)
  · rcases hU.at 13 (by omega) with ⟨z0, a0⟩ | ⟨z0, a0⟩ <;> (constructor <;> omega)
  · intro t p0 p1
    have a0 := hU.ne (j := 0) (by omega) (by omega); have a1 := hU.ne (j := 20 + 5 * t + 2) (by omega) (by omega); (have g0 := hT t; omega)
  · intro d p0 p1
    have a0 := hU.ne (j := 147 + d) (by omega) (by omega); (have g0 := hE d; constructor <;> omega)
  · intro s p0 p1
    have a0 := hU.ne (j := 1) (by omega) (by omega); have a1 := hU.ne (j := 547 + 84 * s + 0) (by omega) (by omega); (have g0 := hSA s; constructor <;> omega)
  · intro s p0 p1
    have a0 := hU.ne (j := 1) (by omega) (by omega); have a1 := hU.ne (j := 547 + 84 * s + 8) (by omega) (by omega); (have g0 := hSF s; constructor <;> omega)
  · intro s p0 p1
    have a0 := hU.ne (j := 1) (by omega) (by omega); have a1 := hU.ne (j := 547 + 84 * s + 10) (by omega) (by omega); (have g0 := hSO s; constructor <;> omega)
  · intro s p0 p1
    have a0 := hU.ne (j := 1) (by omega) (by omega); have a1 := hU.ne (j := 547 + 84 * s + 24) (by omega) (by omega); (have g0 := hSL s; omega)
  · intro s k p0 p1 p2 p3
    have a0 := hU.ne (j := 1) (by omega) (by omega); have a1 := hU.ne (j := 547 + 84 * s + 33 + 3 * k) (by omega) (by omega); (have g0 := hSB s k; constructor <;> omega)
  · intro s p0 p1
    have a0 := hU.ne (j := 1) (by omega) (by omega); have a1 := hU.ne (j := 547 + 84 * s + 7) (by omega) (by omega); (have g0 := hGC s; constructor <;> omega)
  · intro s p0 p1
    have a0 := hU.ne (j := 1) (by omega) (by omega); have a1 := hU.ne (j := 547 + 84 * s + 4) (by omega) (by omega); have a2 := hU.ne (j := 547 + 84 * s + 7) (by omega) (by omega); (have g0 := hGG s; constructor <;> omega)
  · intro s p0 p1
    have a0 := hU.ne (j := 1) (by omega) (by omega); have a1 := hU.ne (j := 547 + 84 * s + 5) (by omega) (by omega); (have g0 := hV s; refine ⟨?_, ?_, ?_⟩ <;> omega)
  · intro s o p0 p1 p2 p3
    intro hw
    have q11 := hSO s
    have a0 := hU.ne (j := 1) (by omega) (by omega); have a1 := hU.ne (j := 547 + 84 * s + 10) (by omega) (by omega); have a2 := hU.ne (j := 547 + 84 * s + 44 + 2 * o) (by omega) (by omega); have a3 := hU.ne (j := 547 + 84 * s + 45 + 2 * o) (by omega) (by omega); (have g0 := hP s o; constructor <;> omega)
  · intro l p0 p1
    have a0 := hU.ne (j := 1) (by omega) (by omega); have a1 := hU.ne (j := 5) (by omega) (by omega); have a2 := hU.ne (j := 1051 + 16 * l + 0) (by omega) (by omega); (have g0 := hLS l; constructor <;> omega)
  · intro l p0 p1
    have a0 := hU.ne (j := 5) (by omega) (by omega); have a1 := hU.ne (j := 1051 + 16 * l + 3) (by omega) (by omega); (have g0 := hLL l; omega)
  · intro l p0 p1
    have a0 := hU.ne (j := 5) (by omega) (by omega); have a1 := hU.ne (j := 1051 + 16 * l + 4) (by omega) (by omega); (have g0 := hLT l; omega)
  · intro k p0 p1
    have a0 := hU.ne (j := 0) (by omega) (by omega); have a1 := hU.ne (j := 10) (by omega) (by omega); have a2 := hU.ne (j := 12919 + 8 * k + 0) (by omega) (by omega); (have g0 := hA0 k; constructor <;> omega)
  · intro k p0 p1
    have a0 := hU.ne (j := 0) (by omega) (by omega); have a1 := hU.ne (j := 10) (by omega) (by omega); have a2 := hU.ne (j := 12919 + 8 * k + 1) (by omega) (by omega); (have g0 := hA1 k; constructor <;> omega)
  · intro c p0 p1
    have a0 := hU.ne (j := 8) (by omega) (by omega)
    exact mo_CO.congr (fun j _ _ => (hU.ne (by omega) (by omega)).symm) (hC _ p0 (by omega))
set_option maxHeartbeats 4000000 in
theorem mo_w_nT (h : mo_RI x b R) (hU : mo_U R R' i v) (n : Int) (hi : i = 0) (hn : R 0 = n) (hv : v = n + 1 ∧ v ≤ 6) (h1 : 1 ≤ R (20 + 5 * n + 2)) : mo_RI x b R' := by
  obtain ⟨hK, hT, hE, hSA, hSF, hSO, hSL, hSB, hGC, hGG, hV, hP, hLS, hLL, hLT, hA0, hA1, hC⟩ := h
  obtain ⟨k0, k1, k2, k3, k5, k6, k7, k8, k9, k10, k11, k12, k13⟩ := hK
  refine ⟨⟨?_, by rw [hU.ne (j := 1) (by decide) (by omega)]; exact k1, by rw [hU.ne (j := 2) (by decide) (by omega)]; exact k2, by rw [hU.ne (j := 3) (by decide) (by omega)]; exact k3, by rw [hU.ne (j := 5) (by decide) (by omega)]; exact k5, by rw [hU.ne (j := 6) (by decide) (by omega)]; exact k6, by rw [hU.ne (j := 7) (by decide) (by omega)]; exact k7, by rw [hU.ne (j := 8) (by decide) (by omega)]; exact k8, by rw [hU.ne (j := 9) (by decide) (by omega)]; exact k9, by rw [hU.ne (j := 10) (by decide) (by omega)]; exact k10, by rw [hU.ne (j := 11) (by decide) (by omega)]; exact k11, by rw [hU.ne (j := 12) (by decide) (by omega)]; exact k12, by rw [hU.ne (j := 13) (by decide) (by omega)]; exact k13⟩, ?_, ?_, ?_, ?_, ?_, ?_, ?_, ?_, ?_, ?_, ?_, ?_, ?_, ?_, ?_, ?_, ?_⟩
  · rcases hU.at 0 (by omega) with ⟨z0, a0⟩ | ⟨z0, a0⟩ <;> (constructor <;> omega)
  · intro t p0 p1
    rcases (show t = n ∨ t ≠ n by omega) with rfl | hsq
    all_goals (rcases hU.at (0) (by omega) with ⟨z0, a0⟩ | ⟨z0, a0⟩ <;> have a1 := hU.ne (j := 20 + 5 * t + 2) (by omega) (by omega) <;> (have g0 := hT t; omega))
  · intro d p0 p1
    have a0 := hU.ne (j := 147 + d) (by omega) (by omega); (have g0 := hE d; constructor <;> omega)
  · intro s p0 p1
    have a0 := hU.ne (j := 1) (by omega) (by omega); have a1 := hU.ne (j := 547 + 84 * s + 0) (by omega) (by omega); (have g0 := hSA s; constructor <;> omega)
  · intro s p0 p1
    have a0 := hU.ne (j := 1) (by omega) (by omega); have a1 := hU.ne (j := 547 + 84 * s + 8) (by omega) (by omega); (have g0 := hSF s; constructor <;> omega)
  · intro s p0 p1
    have a0 := hU.ne (j := 1) (by omega) (by omega); have a1 := hU.ne (j := 547 + 84 * s + 10) (by omega) (by omega); (have g0 := hSO s; constructor <;> omega)
  · intro s p0 p1
    have a0 := hU.ne (j := 1) (by omega) (by omega); have a1 := hU.ne (j := 547 + 84 * s + 24) (by omega) (by omega); (have g0 := hSL s; omega)
  · intro s k p0 p1 p2 p3
    have a0 := hU.ne (j := 1) (by omega) (by omega); have a1 := hU.ne (j := 547 + 84 * s + 33 + 3 * k) (by omega) (by omega); (have g0 := hSB s k; constructor <;> omega)
  · intro s p0 p1
    have a0 := hU.ne (j := 1) (by omega) (by omega); have a1 := hU.ne (j := 547 + 84 * s + 7) (by omega) (by omega); (have g0 := hGC s; constructor <;> omega)
  · intro s p0 p1
    have a0 := hU.ne (j := 1) (by omega) (by omega); have a1 := hU.ne (j := 547 + 84 * s + 4) (by omega) (by omega); have a2 := hU.ne (j := 547 + 84 * s + 7) (by omega) (by omega); (have g0 := hGG s; constructor <;> omega)
  · intro s p0 p1
    have a0 := hU.ne (j := 1) (by omega) (by omega); have a1 := hU.ne (j := 547 + 84 * s + 5) (by omega) (by omega); (have g0 := hV s; refine ⟨?_, ?_, ?_⟩ <;> omega)
  · intro s o p0 p1 p2 p3
    intro hw
    have q11 := hSO s
    have a0 := hU.ne (j := 1) (by omega) (by omega); have a1 := hU.ne (j := 547 + 84 * s + 10) (by omega) (by omega); have a2 := hU.ne (j := 547 + 84 * s + 44 + 2 * o) (by omega) (by omega); have a3 := hU.ne (j := 547 + 84 * s + 45 + 2 * o) (by omega) (by omega); (have g0 := hP s o; constructor <;> omega)
  · intro l p0 p1
    have a0 := hU.ne (j := 1) (by omega) (by omega); have a1 := hU.ne (j := 5) (by omega) (by omega); have a2 := hU.ne (j := 1051 + 16 * l + 0) (by omega) (by omega); (have g0 := hLS l; constructor <;> omega)
  · intro l p0 p1
    have a0 := hU.ne (j := 5) (by omega) (by omega); have a1 := hU.ne (j := 1051 + 16 * l + 3) (by omega) (by omega); (have g0 := hLL l; omega)
  · intro l p0 p1
    have a0 := hU.ne (j := 5) (by omega) (by omega); have a1 := hU.ne (j := 1051 + 16 * l + 4) (by omega) (by omega); (have g0 := hLT l; omega)
  · intro k p0 p1
    rcases hU.at (0) (by omega) with ⟨z0, a0⟩ | ⟨z0, a0⟩ <;> have a1 := hU.ne (j := 10) (by omega) (by omega) <;> have a2 := hU.ne (j := 12919 + 8 * k + 0) (by omega) (by omega) <;> (have g0 := hA0 k; constructor <;> omega)
  · intro k p0 p1
    rcases hU.at (0) (by omega) with ⟨z0, a0⟩ | ⟨z0, a0⟩ <;> have a1 := hU.ne (j := 10) (by omega) (by omega) <;> have a2 := hU.ne (j := 12919 + 8 * k + 1) (by omega) (by omega) <;> (have g0 := hA1 k; constructor <;> omega)
  · intro c p0 p1
    have a0 := hU.ne (j := 8) (by omega) (by omega)
    exact mo_CO.congr (fun j _ _ => (hU.ne (by omega) (by omega)).symm) (hC _ p0 (by omega))
set_option maxHeartbeats 4000000 in
theorem mo_w_nS (h : mo_RI x b R) (hU : mo_U R R' i v) (n : Int) (hi : i = 1) (hn : R 1 = n) (hv : v = n + 1 ∧ v ≤ 6) (h0 : 0 ≤ R (547 + 84 * n + 0) ∧ R (547 + 84 * n + 0) ≤ 5) (h1 : 1000 ≤ R (547 + 84 * n + 7) ∧ R (547 + 84 * n + 7) ≤ 200000) (h2 : 0 ≤ R (547 + 84 * n + 8) ∧ R (547 + 84 * n + 8) ≤ 50) (hb : 0 ≤ b) (hz : ∀ j, 0 ≤ j → j < 84 → j ≠ 0 → j ≠ 6 → j ≠ 7 → j ≠ 8 → R (547 + 84 * n + j) = 0) : mo_RI x b R' := by
  obtain ⟨hK, hT, hE, hSA, hSF, hSO, hSL, hSB, hGC, hGG, hV, hP, hLS, hLL, hLT, hA0, hA1, hC⟩ := h
  obtain ⟨k0, k1, k2, k3, k5, k6, k7, k8, k9, k10, k11, k12, k13⟩ := hK
  refine ⟨⟨by rw [hU.ne (j := 0) (by decide) (by omega)]; exact k0, ?_, by rw [hU.ne (j := 2) (by decide) (by omega)]; exact k2, by rw [hU.ne (j := 3) (by decide) (by omega)]; exact k3, by rw [hU.ne (j := 5) (by decide) (by omega)]; exact k5, by rw [hU.ne (j := 6) (by decide) (by omega)]; exact k6, by rw [hU.ne (j := 7) (by decide) (by omega)]; exact k7, by rw [hU.ne (j := 8) (by decide) (by omega)]; exact k8, by rw [hU.ne (j := 9) (by decide) (by omega)]; exact k9, by rw [hU.ne (j := 10) (by decide) (by omega)]; exact k10, by rw [hU.ne (j := 11) (by decide) (by omega)]; exact k11, by rw [hU.ne (j := 12) (by decide) (by omega)]; exact k12, by rw [hU.ne (j := 13) (by decide) (by omega)]; exact k13⟩, ?_, ?_, ?_, ?_, ?_, ?_, ?_, ?_, ?_, ?_, ?_, ?_, ?_, ?_, ?_, ?_, ?_⟩
  · rcases hU.at 1 (by omega) with ⟨z0, a0⟩ | ⟨z0, a0⟩ <;> (constructor <;> omega)
  · intro t p0 p1
    have a0 := hU.ne (j := 0) (by omega) (by omega); have a1 := hU.ne (j := 20 + 5 * t + 2) (by omega) (by omega); (have g0 := hT t; omega)
  · intro d p0 p1
    have a0 := hU.ne (j := 147 + d) (by omega) (by omega); (have g0 := hE d; constructor <;> omega)
  · intro s p0 p1
    rcases (show s = n ∨ s ≠ n by omega) with rfl | hsq
    all_goals (rcases hU.at (1) (by omega) with ⟨z0, a0⟩ | ⟨z0, a0⟩ <;> have a1 := hU.ne (j := 547 + 84 * s + 0) (by omega) (by omega) <;> (have g0 := hSA s; constructor <;> omega))
  · intro s p0 p1
    rcases (show s = n ∨ s ≠ n by omega) with rfl | hsq
    all_goals (rcases hU.at (1) (by omega) with ⟨z0, a0⟩ | ⟨z0, a0⟩ <;> have a1 := hU.ne (j := 547 + 84 * s + 8) (by omega) (by omega) <;> (have g0 := hSF s; constructor <;> omega))
  · intro s p0 p1
    have y10 := hz 10 (by omega) (by omega) (by omega) (by omega) (by omega) (by omega)
    rcases (show s = n ∨ s ≠ n by omega) with rfl | hsq
    all_goals (rcases hU.at (1) (by omega) with ⟨z0, a0⟩ | ⟨z0, a0⟩ <;> have a1 := hU.ne (j := 547 + 84 * s + 10) (by omega) (by omega) <;> (have g0 := hSO s; constructor <;> omega))
  · intro s p0 p1
    have y24 := hz 24 (by omega) (by omega) (by omega) (by omega) (by omega) (by omega)
    rcases (show s = n ∨ s ≠ n by omega) with rfl | hsq
    all_goals (rcases hU.at (1) (by omega) with ⟨z0, a0⟩ | ⟨z0, a0⟩ <;> have a1 := hU.ne (j := 547 + 84 * s + 24) (by omega) (by omega) <;> (have g0 := hSL s; omega))
  · intro s k p0 p1 p2 p3
    have y33 := hz (33 + 3 * k) (by omega) (by omega) (by omega) (by omega) (by omega) (by omega)
    rw [show 547 + 84 * n + (33 + 3 * k) = 547 + 84 * n + 33 + 3 * k by omega] at y33
    rcases (show s = n ∨ s ≠ n by omega) with rfl | hsq
    all_goals (rcases hU.at (1) (by omega) with ⟨z0, a0⟩ | ⟨z0, a0⟩ <;> have a1 := hU.ne (j := 547 + 84 * s + 33 + 3 * k) (by omega) (by omega) <;> (have g0 := hSB s k; constructor <;> omega))
  · intro s p0 p1
    rcases (show s = n ∨ s ≠ n by omega) with rfl | hsq
    all_goals (rcases hU.at (1) (by omega) with ⟨z0, a0⟩ | ⟨z0, a0⟩ <;> have a1 := hU.ne (j := 547 + 84 * s + 7) (by omega) (by omega) <;> (have g0 := hGC s; constructor <;> omega))
  · intro s p0 p1
    have y4 := hz 4 (by omega) (by omega) (by omega) (by omega) (by omega) (by omega)
    rcases (show s = n ∨ s ≠ n by omega) with rfl | hsq
    all_goals (rcases hU.at (1) (by omega) with ⟨z0, a0⟩ | ⟨z0, a0⟩ <;> have a1 := hU.ne (j := 547 + 84 * s + 4) (by omega) (by omega) <;> have a2 := hU.ne (j := 547 + 84 * s + 7) (by omega) (by omega) <;> (have g0 := hGG s; constructor <;> omega))
  · intro s p0 p1
    have y5 := hz 5 (by omega) (by omega) (by omega) (by omega) (by omega) (by omega)
    rcases (show s = n ∨ s ≠ n by omega) with rfl | hsq
    all_goals (rcases hU.at (1) (by omega) with ⟨z0, a0⟩ | ⟨z0, a0⟩ <;> have a1 := hU.ne (j := 547 + 84 * s + 5) (by omega) (by omega) <;> (have g0 := hV s; refine ⟨?_, ?_, ?_⟩ <;> omega))
  · intro s o p0 p1 p2 p3
    intro hw
    have q11 := hSO s
    have y10 := hz 10 (by omega) (by omega) (by omega) (by omega) (by omega) (by omega)
    rcases (show s = n ∨ s ≠ n by omega) with rfl | hsq
    all_goals (rcases hU.at (1) (by omega) with ⟨z0, a0⟩ | ⟨z0, a0⟩ <;> have a1 := hU.ne (j := 547 + 84 * s + 10) (by omega) (by omega) <;> have a2 := hU.ne (j := 547 + 84 * s + 44 + 2 * o) (by omega) (by omega) <;> have a3 := hU.ne (j := 547 + 84 * s + 45 + 2 * o) (by omega) (by omega) <;> (have g0 := hP s o; constructor <;> omega))
  · intro l p0 p1
    rcases hU.at (1) (by omega) with ⟨z0, a0⟩ | ⟨z0, a0⟩ <;> have a1 := hU.ne (j := 5) (by omega) (by omega) <;> have a2 := hU.ne (j := 1051 + 16 * l + 0) (by omega) (by omega) <;> (have g0 := hLS l; constructor <;> omega)
  · intro l p0 p1
    have a0 := hU.ne (j := 5) (by omega) (by omega); have a1 := hU.ne (j := 1051 + 16 * l + 3) (by omega) (by omega); (have g0 := hLL l; omega)
  · intro l p0 p1
    have a0 := hU.ne (j := 5) (by omega) (by omega); have a1 := hU.ne (j := 1051 + 16 * l + 4) (by omega) (by omega); (have g0 := hLT l; omega)
  · intro k p0 p1
    have a0 := hU.ne (j := 0) (by omega) (by omega); have a1 := hU.ne (j := 10) (by omega) (by omega); have a2 := hU.ne (j := 12919 + 8 * k + 0) (by omega) (by omega); (have g0 := hA0 k; constructor <;> omega)
  · intro k p0 p1
    have a0 := hU.ne (j := 0) (by omega) (by omega); have a1 := hU.ne (j := 10) (by omega) (by omega); have a2 := hU.ne (j := 12919 + 8 * k + 1) (by omega) (by omega); (have g0 := hA1 k; constructor <;> omega)
  · intro c p0 p1
    have a0 := hU.ne (j := 8) (by omega) (by omega)
    exact mo_CO.congr (fun j _ _ => (hU.ne (by omega) (by omega)).symm) (hC _ p0 (by omega))
set_option maxHeartbeats 4000000 in
theorem mo_w_nL (h : mo_RI x b R) (hU : mo_U R R' i v) (n : Int) (hi : i = 5) (hn : R 5 = n) (hv : v = n + 1 ∧ v ≤ 60) (h1 : 0 ≤ R (1051 + 16 * n + 0) ∧ R (1051 + 16 * n + 0) < R 1) (h2 : R (1051 + 16 * n + 3) ≤ 2399) (h3 : 1 ≤ R (1051 + 16 * n + 4)) : mo_RI x b R' := by
  obtain ⟨hK, hT, hE, hSA, hSF, hSO, hSL, hSB, hGC, hGG, hV, hP, hLS, hLL, hLT, hA0, hA1, hC⟩ := h
  obtain ⟨k0, k1, k2, k3, k5, k6, k7, k8, k9, k10, k11, k12, k13⟩ := hK
  refine ⟨⟨by rw [hU.ne (j := 0) (by decide) (by omega)]; exact k0, by rw [hU.ne (j := 1) (by decide) (by omega)]; exact k1, by rw [hU.ne (j := 2) (by decide) (by omega)]; exact k2, by rw [hU.ne (j := 3) (by decide) (by omega)]; exact k3, ?_, by rw [hU.ne (j := 6) (by decide) (by omega)]; exact k6, by rw [hU.ne (j := 7) (by decide) (by omega)]; exact k7, by rw [hU.ne (j := 8) (by decide) (by omega)]; exact k8, by rw [hU.ne (j := 9) (by decide) (by omega)]; exact k9, by rw [hU.ne (j := 10) (by decide) (by omega)]; exact k10, by rw [hU.ne (j := 11) (by decide) (by omega)]; exact k11, by rw [hU.ne (j := 12) (by decide) (by omega)]; exact k12, by rw [hU.ne (j := 13) (by decide) (by omega)]; exact k13⟩, ?_, ?_, ?_, ?_, ?_, ?_, ?_, ?_, ?_, ?_, ?_, ?_, ?_, ?_, ?_, ?_, ?_⟩
  · rcases hU.at 5 (by omega) with ⟨z0, a0⟩ | ⟨z0, a0⟩ <;> (constructor <;> omega)
  · intro t p0 p1
    have a0 := hU.ne (j := 0) (by omega) (by omega); have a1 := hU.ne (j := 20 + 5 * t + 2) (by omega) (by omega); (have g0 := hT t; omega)
  · intro d p0 p1
    have a0 := hU.ne (j := 147 + d) (by omega) (by omega); (have g0 := hE d; constructor <;> omega)
  · intro s p0 p1
    have a0 := hU.ne (j := 1) (by omega) (by omega); have a1 := hU.ne (j := 547 + 84 * s + 0) (by omega) (by omega); (have g0 := hSA s; constructor <;> omega)
  · intro s p0 p1
    have a0 := hU.ne (j := 1) (by omega) (by omega); have a1 := hU.ne (j := 547 + 84 * s + 8) (by omega) (by omega); (have g0 := hSF s; constructor <;> omega)
  · intro s p0 p1
    have a0 := hU.ne (j := 1) (by omega) (by omega); have a1 := hU.ne (j := 547 + 84 * s + 10) (by omega) (by omega); (have g0 := hSO s; constructor <;> omega)
  · intro s p0 p1
    have a0 := hU.ne (j := 1) (by omega) (by omega); have a1 := hU.ne (j := 547 + 84 * s + 24) (by omega) (by omega); (have g0 := hSL s; omega)
  · intro s k p0 p1 p2 p3
    have a0 := hU.ne (j := 1) (by omega) (by omega); have a1 := hU.ne (j := 547 + 84 * s + 33 + 3 * k) (by omega) (by omega); (have g0 := hSB s k; constructor <;> omega)
  · intro s p0 p1
    have a0 := hU.ne (j := 1) (by omega) (by omega); have a1 := hU.ne (j := 547 + 84 * s + 7) (by omega) (by omega); (have g0 := hGC s; constructor <;> omega)
  · intro s p0 p1
    have a0 := hU.ne (j := 1) (by omega) (by omega); have a1 := hU.ne (j := 547 + 84 * s + 4) (by omega) (by omega); have a2 := hU.ne (j := 547 + 84 * s + 7) (by omega) (by omega); (have g0 := hGG s; constructor <;> omega)
  · intro s p0 p1
    have a0 := hU.ne (j := 1) (by omega) (by omega); have a1 := hU.ne (j := 547 + 84 * s + 5) (by omega) (by omega); (have g0 := hV s; refine ⟨?_, ?_, ?_⟩ <;> omega)
  · intro s o p0 p1 p2 p3
    intro hw
    have q11 := hSO s
    have a0 := hU.ne (j := 1) (by omega) (by omega); have a1 := hU.ne (j := 547 + 84 * s + 10) (by omega) (by omega); have a2 := hU.ne (j := 547 + 84 * s + 44 + 2 * o) (by omega) (by omega); have a3 := hU.ne (j := 547 + 84 * s + 45 + 2 * o) (by omega) (by omega); (have g0 := hP s o; constructor <;> omega)
  · intro l p0 p1
    rcases (show l = n ∨ l ≠ n by omega) with rfl | hsq
    all_goals (have a0 := hU.ne (j := 1) (by omega) (by omega); rcases hU.at (5) (by omega) with ⟨z1, a1⟩ | ⟨z1, a1⟩ <;> have a2 := hU.ne (j := 1051 + 16 * l + 0) (by omega) (by omega) <;> (have g0 := hLS l; constructor <;> omega))
  · intro l p0 p1
    rcases (show l = n ∨ l ≠ n by omega) with rfl | hsq
    all_goals (rcases hU.at (5) (by omega) with ⟨z0, a0⟩ | ⟨z0, a0⟩ <;> have a1 := hU.ne (j := 1051 + 16 * l + 3) (by omega) (by omega) <;> (have g0 := hLL l; omega))
  · intro l p0 p1
    rcases (show l = n ∨ l ≠ n by omega) with rfl | hsq
    all_goals (rcases hU.at (5) (by omega) with ⟨z0, a0⟩ | ⟨z0, a0⟩ <;> have a1 := hU.ne (j := 1051 + 16 * l + 4) (by omega) (by omega) <;> (have g0 := hLT l; omega))
  · intro k p0 p1
    have a0 := hU.ne (j := 0) (by omega) (by omega); have a1 := hU.ne (j := 10) (by omega) (by omega); have a2 := hU.ne (j := 12919 + 8 * k + 0) (by omega) (by omega); (have g0 := hA0 k; constructor <;> omega)
  · intro k p0 p1
    have a0 := hU.ne (j := 0) (by omega) (by omega); have a1 := hU.ne (j := 10) (by omega) (by omega); have a2 := hU.ne (j := 12919 + 8 * k + 1) (by omega) (by omega); (have g0 := hA1 k; constructor <;> omega)
  · intro c p0 p1
    have a0 := hU.ne (j := 8) (by omega) (by omega)
    exact mo_CO.congr (fun j _ _ => (hU.ne (by omega) (by omega)).symm) (hC _ p0 (by omega))
set_option maxHeartbeats 4000000 in
theorem mo_w_nC (h : mo_RI x b R) (hU : mo_U R R' i v) (n : Int) (hi : i = 8) (hn : R 8 = n) (hv : v = n + 1 ∧ v ≤ 12) (h1 : mo_CO (fun j => R (2251 + 864 * n + j))) : mo_RI x b R' := by
  obtain ⟨hK, hT, hE, hSA, hSF, hSO, hSL, hSB, hGC, hGG, hV, hP, hLS, hLL, hLT, hA0, hA1, hC⟩ := h
  obtain ⟨k0, k1, k2, k3, k5, k6, k7, k8, k9, k10, k11, k12, k13⟩ := hK
  refine ⟨⟨by rw [hU.ne (j := 0) (by decide) (by omega)]; exact k0, by rw [hU.ne (j := 1) (by decide) (by omega)]; exact k1, by rw [hU.ne (j := 2) (by decide) (by omega)]; exact k2, by rw [hU.ne (j := 3) (by decide) (by omega)]; exact k3, by rw [hU.ne (j := 5) (by decide) (by omega)]; exact k5, by rw [hU.ne (j := 6) (by decide) (by omega)]; exact k6, by rw [hU.ne (j := 7) (by decide) (by omega)]; exact k7, ?_, by rw [hU.ne (j := 9) (by decide) (by omega)]; exact k9, by rw [hU.ne (j := 10) (by decide) (by omega)]; exact k10, by rw [hU.ne (j := 11) (by decide) (by omega)]; exact k11, by rw [hU.ne (j := 12) (by decide) (by omega)]; exact k12, by rw [hU.ne (j := 13) (by decide) (by omega)]; exact k13⟩, ?_, ?_, ?_, ?_, ?_, ?_, ?_, ?_, ?_, ?_, ?_, ?_, ?_, ?_, ?_, ?_, ?_⟩
  · rcases hU.at 8 (by omega) with ⟨z0, a0⟩ | ⟨z0, a0⟩ <;> (constructor <;> omega)
  · intro t p0 p1
    have a0 := hU.ne (j := 0) (by omega) (by omega); have a1 := hU.ne (j := 20 + 5 * t + 2) (by omega) (by omega); (have g0 := hT t; omega)
  · intro d p0 p1
    have a0 := hU.ne (j := 147 + d) (by omega) (by omega); (have g0 := hE d; constructor <;> omega)
  · intro s p0 p1
    have a0 := hU.ne (j := 1) (by omega) (by omega); have a1 := hU.ne (j := 547 + 84 * s + 0) (by omega) (by omega); (have g0 := hSA s; constructor <;> omega)
  · intro s p0 p1
    have a0 := hU.ne (j := 1) (by omega) (by omega); have a1 := hU.ne (j := 547 + 84 * s + 8) (by omega) (by omega); (have g0 := hSF s; constructor <;> omega)
  · intro s p0 p1
    have a0 := hU.ne (j := 1) (by omega) (by omega); have a1 := hU.ne (j := 547 + 84 * s + 10) (by omega) (by omega); (have g0 := hSO s; constructor <;> omega)
  · intro s p0 p1
    have a0 := hU.ne (j := 1) (by omega) (by omega); have a1 := hU.ne (j := 547 + 84 * s + 24) (by omega) (by omega); (have g0 := hSL s; omega)
  · intro s k p0 p1 p2 p3
    have a0 := hU.ne (j := 1) (by omega) (by omega); have a1 := hU.ne (j := 547 + 84 * s + 33 + 3 * k) (by omega) (by omega); (have g0 := hSB s k; constructor <;> omega)
  · intro s p0 p1
    have a0 := hU.ne (j := 1) (by omega) (by omega); have a1 := hU.ne (j := 547 + 84 * s + 7) (by omega) (by omega); (have g0 := hGC s; constructor <;> omega)
  · intro s p0 p1
    have a0 := hU.ne (j := 1) (by omega) (by omega); have a1 := hU.ne (j := 547 + 84 * s + 4) (by omega) (by omega); have a2 := hU.ne (j := 547 + 84 * s + 7) (by omega) (by omega); (have g0 := hGG s; constructor <;> omega)
  · intro s p0 p1
    have a0 := hU.ne (j := 1) (by omega) (by omega); have a1 := hU.ne (j := 547 + 84 * s + 5) (by omega) (by omega); (have g0 := hV s; refine ⟨?_, ?_, ?_⟩ <;> omega)
  · intro s o p0 p1 p2 p3
    intro hw
    have q11 := hSO s
    have a0 := hU.ne (j := 1) (by omega) (by omega); have a1 := hU.ne (j := 547 + 84 * s + 10) (by omega) (by omega); have a2 := hU.ne (j := 547 + 84 * s + 44 + 2 * o) (by omega) (by omega); have a3 := hU.ne (j := 547 + 84 * s + 45 + 2 * o) (by omega) (by omega); (have g0 := hP s o; constructor <;> omega)
  · intro l p0 p1
    have a0 := hU.ne (j := 1) (by omega) (by omega); have a1 := hU.ne (j := 5) (by omega) (by omega); have a2 := hU.ne (j := 1051 + 16 * l + 0) (by omega) (by omega); (have g0 := hLS l; constructor <;> omega)
  · intro l p0 p1
    have a0 := hU.ne (j := 5) (by omega) (by omega); have a1 := hU.ne (j := 1051 + 16 * l + 3) (by omega) (by omega); (have g0 := hLL l; omega)
  · intro l p0 p1
    have a0 := hU.ne (j := 5) (by omega) (by omega); have a1 := hU.ne (j := 1051 + 16 * l + 4) (by omega) (by omega); (have g0 := hLT l; omega)
  · intro k p0 p1
    have a0 := hU.ne (j := 0) (by omega) (by omega); have a1 := hU.ne (j := 10) (by omega) (by omega); have a2 := hU.ne (j := 12919 + 8 * k + 0) (by omega) (by omega); (have g0 := hA0 k; constructor <;> omega)
  · intro k p0 p1
    have a0 := hU.ne (j := 0) (by omega) (by omega); have a1 := hU.ne (j := 10) (by omega) (by omega); have a2 := hU.ne (j := 12919 + 8 * k + 1) (by omega) (by omega); (have g0 := hA1 k; constructor <;> omega)
  · intro c p0 p1
    rcases hU.at 8 (by omega) with ⟨z0, a0⟩ | ⟨z0, a0⟩ <;> try omega
    rcases (show c < n ∨ c = n by omega) with z | z
    · exact mo_CO.congr (fun j _ _ => (hU.ne (by omega) (by omega)).symm) (hC c p0 (by omega))
    · subst z; exact mo_CO.congr (fun j _ _ => (hU.ne (by omega) (by omega)).symm) h1
set_option maxHeartbeats 4000000 in
theorem mo_w_nA (h : mo_RI x b R) (hU : mo_U R R' i v) (n : Int) (hi : i = 10) (hn : R 10 = n) (hv : v = n + 1 ∧ v ≤ 6) (h1 : 0 ≤ R (12919 + 8 * n + 0) ∧ R (12919 + 8 * n + 0) < R 0) (h2 : 0 ≤ R (12919 + 8 * n + 1) ∧ R (12919 + 8 * n + 1) < R 0) : mo_RI x b R' := by
  obtain ⟨hK, hT, hE, hSA, hSF, hSO, hSL, hSB, hGC, hGG, hV, hP, hLS, hLL, hLT, hA0, hA1, hC⟩ := h
  obtain ⟨k0, k1, k2, k3, k5, k6, k7, k8, k9, k10, k11, k12, k13⟩ := hK
  refine ⟨⟨by rw [hU.ne (j := 0) (by decide) (by omega)]; exact k0, by rw [hU.ne (j := 1) (by decide) (by omega)]; exact k1, by rw [hU.ne (j := 2) (by decide) (by omega)]; exact k2, by rw [hU.ne (j := 3) (by decide) (by omega)]; exact k3, by rw [hU.ne (j := 5) (by decide) (by omega)]; exact k5, by rw [hU.ne (j := 6) (by decide) (by omega)]; exact k6, by rw [hU.ne (j := 7) (by decide) (by omega)]; exact k7, by rw [hU.ne (j := 8) (by decide) (by omega)]; exact k8, by rw [hU.ne (j := 9) (by decide) (by omega)]; exact k9, ?_, by rw [hU.ne (j := 11) (by decide) (by omega)]; exact k11, by rw [hU.ne (j := 12) (by decide) (by omega)]; exact k12, by rw [hU.ne (j := 13) (by decide) (by omega)]; exact k13⟩, ?_, ?_, ?_, ?_, ?_, ?_, ?_, ?_, ?_, ?_, ?_, ?_, ?_, ?_, ?_, ?_, ?_⟩
  · rcases hU.at 10 (by omega) with ⟨z0, a0⟩ | ⟨z0, a0⟩ <;> (constructor <;> omega)
  · intro t p0 p1
    have a0 := hU.ne (j := 0) (by omega) (by omega); have a1 := hU.ne (j := 20 + 5 * t + 2) (by omega) (by omega); (have g0 := hT t; omega)
  · intro d p0 p1
    have a0 := hU.ne (j := 147 + d) (by omega) (by omega); (have g0 := hE d; constructor <;> omega)
  · intro s p0 p1
    have a0 := hU.ne (j := 1) (by omega) (by omega); have a1 := hU.ne (j := 547 + 84 * s + 0) (by omega) (by omega); (have g0 := hSA s; constructor <;> omega)
  · intro s p0 p1
    have a0 := hU.ne (j := 1) (by omega) (by omega); have a1 := hU.ne (j := 547 + 84 * s + 8) (by omega) (by omega); (have g0 := hSF s; constructor <;> omega)
  · intro s p0 p1
    have a0 := hU.ne (j := 1) (by omega) (by omega); have a1 := hU.ne (j := 547 + 84 * s + 10) (by omega) (by omega); (have g0 := hSO s; constructor <;> omega)
  · intro s p0 p1
    have a0 := hU.ne (j := 1) (by omega) (by omega); have a1 := hU.ne (j := 547 + 84 * s + 24) (by omega) (by omega); (have g0 := hSL s; omega)
  · intro s k p0 p1 p2 p3
    have a0 := hU.ne (j := 1) (by omega) (by omega); have a1 := hU.ne (j := 547 + 84 * s + 33 + 3 * k) (by omega) (by omega); (have g0 := hSB s k; constructor <;> omega)
  · intro s p0 p1
    have a0 := hU.ne (j := 1) (by omega) (by omega); have a1 := hU.ne (j := 547 + 84 * s + 7) (by omega) (by omega); (have g0 := hGC s; constructor <;> omega)
  · intro s p0 p1
    have a0 := hU.ne (j := 1) (by omega) (by omega); have a1 := hU.ne (j := 547 + 84 * s + 4) (by omega) (by omega); have a2 := hU.ne (j := 547 + 84 * s + 7) (by omega) (by omega); (have g0 := hGG s; constructor <;> omega)
  · intro s p0 p1
    have a0 := hU.ne (j := 1) (by omega) (by omega); have a1 := hU.ne (j := 547 + 84 * s + 5) (by omega) (by omega); (have g0 := hV s; refine ⟨?_, ?_, ?_⟩ <;> omega)
  · intro s o p0 p1 p2 p3
    intro hw
    have q11 := hSO s
    have a0 := hU.ne (j := 1) (by omega) (by omega); have a1 := hU.ne (j := 547 + 84 * s + 10) (by omega) (by omega); have a2 := hU.ne (j := 547 + 84 * s + 44 + 2 * o) (by omega) (by omega); have a3 := hU.ne (j := 547 + 84 * s + 45 + 2 * o) (by omega) (by omega); (have g0 := hP s o; constructor <;> omega)
  · intro l p0 p1
    have a0 := hU.ne (j := 1) (by omega) (by omega); have a1 := hU.ne (j := 5) (by omega) (by omega); have a2 := hU.ne (j := 1051 + 16 * l + 0) (by omega) (by omega); (have g0 := hLS l; constructor <;> omega)
  · intro l p0 p1
    have a0 := hU.ne (j := 5) (by omega) (by omega); have a1 := hU.ne (j := 1051 + 16 * l + 3) (by omega) (by omega); (have g0 := hLL l; omega)
  · intro l p0 p1
    have a0 := hU.ne (j := 5) (by omega) (by omega); have a1 := hU.ne (j := 1051 + 16 * l + 4) (by omega) (by omega); (have g0 := hLT l; omega)
  · intro k p0 p1
    rcases (show k = n ∨ k ≠ n by omega) with rfl | hsq
    all_goals (have a0 := hU.ne (j := 0) (by omega) (by omega); rcases hU.at (10) (by omega) with ⟨z1, a1⟩ | ⟨z1, a1⟩ <;> have a2 := hU.ne (j := 12919 + 8 * k + 0) (by omega) (by omega) <;> (have g0 := hA0 k; constructor <;> omega))
  · intro k p0 p1
    rcases (show k = n ∨ k ≠ n by omega) with rfl | hsq
    all_goals (have a0 := hU.ne (j := 0) (by omega) (by omega); rcases hU.at (10) (by omega) with ⟨z1, a1⟩ | ⟨z1, a1⟩ <;> have a2 := hU.ne (j := 12919 + 8 * k + 1) (by omega) (by omega) <;> (have g0 := hA1 k; constructor <;> omega))
  · intro c p0 p1
    have a0 := hU.ne (j := 8) (by omega) (by omega)
    exact mo_CO.congr (fun j _ _ => (hU.ne (by omega) (by omega)).symm) (hC _ p0 (by omega))
set_option maxHeartbeats 4000000 in
theorem mo_w_nA0 (h : mo_RI x b R) (hU : mo_U R R' i v) (hi : i = 10) (hv : v = 0) : mo_RI x b R' := by
  obtain ⟨hK, hT, hE, hSA, hSF, hSO, hSL, hSB, hGC, hGG, hV, hP, hLS, hLL, hLT, hA0, hA1, hC⟩ := h
  obtain ⟨k0, k1, k2, k3, k5, k6, k7, k8, k9, k10, k11, k12, k13⟩ := hK
  refine ⟨⟨by rw [hU.ne (j := 0) (by decide) (by omega)]; exact k0, by rw [hU.ne (j := 1) (by decide) (by omega)]; exact k1, by rw [hU.ne (j := 2) (by decide) (by omega)]; exact k2, by rw [hU.ne (j := 3) (by decide) (by omega)]; exact k3, by rw [hU.ne (j := 5) (by decide) (by omega)]; exact k5, by rw [hU.ne (j := 6) (by decide) (by omega)]; exact k6, by rw [hU.ne (j := 7) (by decide) (by omega)]; exact k7, by rw [hU.ne (j := 8) (by decide) (by omega)]; exact k8, by rw [hU.ne (j := 9) (by decide) (by omega)]; exact k9, ?_, by rw [hU.ne (j := 11) (by decide) (by omega)]; exact k11, by rw [hU.ne (j := 12) (by decide) (by omega)]; exact k12, by rw [hU.ne (j := 13) (by decide) (by omega)]; exact k13⟩, ?_, ?_, ?_, ?_, ?_, ?_, ?_, ?_, ?_, ?_, ?_, ?_, ?_, ?_, ?_, ?_, ?_⟩
  · rcases hU.at 10 (by omega) with ⟨z0, a0⟩ | ⟨z0, a0⟩ <;> (constructor <;> omega)
  · intro t p0 p1
    have a0 := hU.ne (j := 0) (by omega) (by omega); have a1 := hU.ne (j := 20 + 5 * t + 2) (by omega) (by omega); (have g0 := hT t; omega)
  · intro d p0 p1
    have a0 := hU.ne (j := 147 + d) (by omega) (by omega); (have g0 := hE d; constructor <;> omega)
  · intro s p0 p1
    have a0 := hU.ne (j := 1) (by omega) (by omega); have a1 := hU.ne (j := 547 + 84 * s + 0) (by omega) (by omega); (have g0 := hSA s; constructor <;> omega)
  · intro s p0 p1
    have a0 := hU.ne (j := 1) (by omega) (by omega); have a1 := hU.ne (j := 547 + 84 * s + 8) (by omega) (by omega); (have g0 := hSF s; constructor <;> omega)
  · intro s p0 p1
    have a0 := hU.ne (j := 1) (by omega) (by omega); have a1 := hU.ne (j := 547 + 84 * s + 10) (by omega) (by omega); (have g0 := hSO s; constructor <;> omega)
  · intro s p0 p1
    have a0 := hU.ne (j := 1) (by omega) (by omega); have a1 := hU.ne (j := 547 + 84 * s + 24) (by omega) (by omega); (have g0 := hSL s; omega)
  · intro s k p0 p1 p2 p3
    have a0 := hU.ne (j := 1) (by omega) (by omega); have a1 := hU.ne (j := 547 + 84 * s + 33 + 3 * k) (by omega) (by omega); (have g0 := hSB s k; constructor <;> omega)
  · intro s p0 p1
    have a0 := hU.ne (j := 1) (by omega) (by omega); have a1 := hU.ne (j := 547 + 84 * s + 7) (by omega) (by omega); (have g0 := hGC s; constructor <;> omega)
  · intro s p0 p1
    have a0 := hU.ne (j := 1) (by omega) (by omega); have a1 := hU.ne (j := 547 + 84 * s + 4) (by omega) (by omega); have a2 := hU.ne (j := 547 + 84 * s + 7) (by omega) (by omega); (have g0 := hGG s; constructor <;> omega)
  · intro s p0 p1
    have a0 := hU.ne (j := 1) (by omega) (by omega); have a1 := hU.ne (j := 547 + 84 * s + 5) (by omega) (by omega); (have g0 := hV s; refine ⟨?_, ?_, ?_⟩ <;> omega)
  · intro s o p0 p1 p2 p3
    intro hw
    have q11 := hSO s
    have a0 := hU.ne (j := 1) (by omega) (by omega); have a1 := hU.ne (j := 547 + 84 * s + 10) (by omega) (by omega); have a2 := hU.ne (j := 547 + 84 * s + 44 + 2 * o) (by omega) (by omega); have a3 := hU.ne (j := 547 + 84 * s + 45 + 2 * o) (by omega) (by omega); (have g0 := hP s o; constructor <;> omega)
  · intro l p0 p1
    have a0 := hU.ne (j := 1) (by omega) (by omega); have a1 := hU.ne (j := 5) (by omega) (by omega); have a2 := hU.ne (j := 1051 + 16 * l + 0) (by omega) (by omega); (have g0 := hLS l; constructor <;> omega)
  · intro l p0 p1
    have a0 := hU.ne (j := 5) (by omega) (by omega); have a1 := hU.ne (j := 1051 + 16 * l + 3) (by omega) (by omega); (have g0 := hLL l; omega)
  · intro l p0 p1
    have a0 := hU.ne (j := 5) (by omega) (by omega); have a1 := hU.ne (j := 1051 + 16 * l + 4) (by omega) (by omega); (have g0 := hLT l; omega)
  · intro k p0 p1
    have a0 := hU.ne (j := 0) (by omega) (by omega); rcases hU.at (10) (by omega) with ⟨z1, a1⟩ | ⟨z1, a1⟩ <;> have a2 := hU.ne (j := 12919 + 8 * k + 0) (by omega) (by omega) <;> (have g0 := hA0 k; constructor <;> omega)
  · intro k p0 p1
    have a0 := hU.ne (j := 0) (by omega) (by omega); rcases hU.at (10) (by omega) with ⟨z1, a1⟩ | ⟨z1, a1⟩ <;> have a2 := hU.ne (j := 12919 + 8 * k + 1) (by omega) (by omega) <;> (have g0 := hA1 k; constructor <;> omega)
  · intro c p0 p1
    have a0 := hU.ne (j := 8) (by omega) (by omega)
    exact mo_CO.congr (fun j _ _ => (hU.ne (by omega) (by omega)).symm) (hC _ p0 (by omega))
set_option maxHeartbeats 4000000 in
theorem mo_w_term (h : mo_RI x b R) (hU : mo_U R R' i v) (t k : Int) (hi : i = 20 + 5 * t + k) (ht : 0 ≤ t ∧ t < 6) (hk : 0 ≤ k ∧ k < 5 ∧ (k ≠ 2 ∨ R 0 ≤ t ∨ 1 ≤ v)) : mo_RI x b R' := by
  obtain ⟨hK, hT, hE, hSA, hSF, hSO, hSL, hSB, hGC, hGG, hV, hP, hLS, hLL, hLT, hA0, hA1, hC⟩ := h
  obtain ⟨k0, k1, k2, k3, k5, k6, k7, k8, k9, k10, k11, k12, k13⟩ := hK
  refine ⟨⟨by rw [hU.ne (j := 0) (by decide) (by omega)]; exact k0, by rw [hU.ne (j := 1) (by decide) (by omega)]; exact k1, by rw [hU.ne (j := 2) (by decide) (by omega)]; exact k2, by rw [hU.ne (j := 3) (by decide) (by omega)]; exact k3, by rw [hU.ne (j := 5) (by decide) (by omega)]; exact k5, by rw [hU.ne (j := 6) (by decide) (by omega)]; exact k6, by rw [hU.ne (j := 7) (by decide) (by omega)]; exact k7, by rw [hU.ne (j := 8) (by decide) (by omega)]; exact k8, by rw [hU.ne (j := 9) (by decide) (by omega)]; exact k9, by rw [hU.ne (j := 10) (by decide) (by omega)]; exact k10, by rw [hU.ne (j := 11) (by decide) (by omega)]; exact k11, by rw [hU.ne (j := 12) (by decide) (by omega)]; exact k12, by rw [hU.ne (j := 13) (by decide) (by omega)]; exact k13⟩, ?_, ?_, ?_, ?_, ?_, ?_, ?_, ?_, ?_, ?_, ?_, ?_, ?_, ?_, ?_, ?_, ?_⟩
  · intro t p0 p1
    have a0 := hU.ne (j := 0) (by omega) (by omega); rcases hU.at (20 + 5 * t + 2) (by omega) with ⟨z1, a1⟩ | ⟨z1, a1⟩ <;> (have g0 := hT t; omega)
  · intro d p0 p1
    have a0 := hU.ne (j := 147 + d) (by omega) (by omega); (have g0 := hE d; constructor <;> omega)
  · intro s p0 p1
    have a0 := hU.ne (j := 1) (by omega) (by omega); have a1 := hU.ne (j := 547 + 84 * s + 0) (by omega) (by omega); (have g0 := hSA s; constructor <;> omega)
  · intro s p0 p1
    have a0 := hU.ne (j := 1) (by omega) (by omega); have a1 := hU.ne (j := 547 + 84 * s + 8) (by omega) (by omega); (have g0 := hSF s; constructor <;> omega)
  · intro s p0 p1
    have a0 := hU.ne (j := 1) (by omega) (by omega); have a1 := hU.ne (j := 547 + 84 * s + 10) (by omega) (by omega); (have g0 := hSO s; constructor <;> omega)
  · intro s p0 p1
    have a0 := hU.ne (j := 1) (by omega) (by omega); have a1 := hU.ne (j := 547 + 84 * s + 24) (by omega) (by omega); (have g0 := hSL s; omega)
  · intro s k p0 p1 p2 p3
    have a0 := hU.ne (j := 1) (by omega) (by omega); have a1 := hU.ne (j := 547 + 84 * s + 33 + 3 * k) (by omega) (by omega); (have g0 := hSB s k; constructor <;> omega)
  · intro s p0 p1
    have a0 := hU.ne (j := 1) (by omega) (by omega); have a1 := hU.ne (j := 547 + 84 * s + 7) (by omega) (by omega); (have g0 := hGC s; constructor <;> omega)
  · intro s p0 p1
    have a0 := hU.ne (j := 1) (by omega) (by omega); have a1 := hU.ne (j := 547 + 84 * s + 4) (by omega) (by omega); have a2 := hU.ne (j := 547 + 84 * s + 7) (by omega) (by omega); (have g0 := hGG s; constructor <;> omega)
  · intro s p0 p1
    have a0 := hU.ne (j := 1) (by omega) (by omega); have a1 := hU.ne (j := 547 + 84 * s + 5) (by omega) (by omega); (have g0 := hV s; refine ⟨?_, ?_, ?_⟩ <;> omega)
  · intro s o p0 p1 p2 p3
    intro hw
    have q11 := hSO s
    have a0 := hU.ne (j := 1) (by omega) (by omega); have a1 := hU.ne (j := 547 + 84 * s + 10) (by omega) (by omega); have a2 := hU.ne (j := 547 + 84 * s + 44 + 2 * o) (by omega) (by omega); have a3 := hU.ne (j := 547 + 84 * s + 45 + 2 * o) (by omega) (by omega); (have g0 := hP s o; constructor <;> omega)
  · intro l p0 p1
    have a0 := hU.ne (j := 1) (by omega) (by omega); have a1 := hU.ne (j := 5) (by omega) (by omega); have a2 := hU.ne (j := 1051 + 16 * l + 0) (by omega) (by omega); (have g0 := hLS l; constructor <;> omega)
  · intro l p0 p1
    have a0 := hU.ne (j := 5) (by omega) (by omega); have a1 := hU.ne (j := 1051 + 16 * l + 3) (by omega) (by omega); (have g0 := hLL l; omega)
  · intro l p0 p1
    have a0 := hU.ne (j := 5) (by omega) (by omega); have a1 := hU.ne (j := 1051 + 16 * l + 4) (by omega) (by omega); (have g0 := hLT l; omega)
  · intro k p0 p1
    have a0 := hU.ne (j := 0) (by omega) (by omega); have a1 := hU.ne (j := 10) (by omega) (by omega); have a2 := hU.ne (j := 12919 + 8 * k + 0) (by omega) (by omega); (have g0 := hA0 k; constructor <;> omega)
  · intro k p0 p1
    have a0 := hU.ne (j := 0) (by omega) (by omega); have a1 := hU.ne (j := 10) (by omega) (by omega); have a2 := hU.ne (j := 12919 + 8 * k + 1) (by omega) (by omega); (have g0 := hA1 k; constructor <;> omega)
  · intro c p0 p1
    have a0 := hU.ne (j := 8) (by omega) (by omega)
    exact mo_CO.congr (fun j _ _ => (hU.ne (by omega) (by omega)).symm) (hC _ p0 (by omega))
set_option maxHeartbeats 4000000 in
theorem mo_w_sea (h : mo_RI x b R) (hU : mo_U R R' i v) (hi : 147 ≤ i ∧ i < 247) (hv : 0 ≤ v ∧ v ≤ 9) : mo_RI x b R' := by
  obtain ⟨hK, hT, hE, hSA, hSF, hSO, hSL, hSB, hGC, hGG, hV, hP, hLS, hLL, hLT, hA0, hA1, hC⟩ := h
  obtain ⟨k0, k1, k2, k3, k5, k6, k7, k8, k9, k10, k11, k12, k13⟩ := hK
  refine ⟨⟨by rw [hU.ne (j := 0) (by decide) (by omega)]; exact k0, by rw [hU.ne (j := 1) (by decide) (by omega)]; exact k1, by rw [hU.ne (j := 2) (by decide) (by omega)]; exact k2, by rw [hU.ne (j := 3) (by decide) (by omega)]; exact k3, by rw [hU.ne (j := 5) (by decide) (by omega)]; exact k5, by rw [hU.ne (j := 6) (by decide) (by omega)]; exact k6, by rw [hU.ne (j := 7) (by decide) (by omega)]; exact k7, by rw [hU.ne (j := 8) (by decide) (by omega)]; exact k8, by rw [hU.ne (j := 9) (by decide) (by omega)]; exact k9, by rw [hU.ne (j := 10) (by decide) (by omega)]; exact k10, by rw [hU.ne (j := 11) (by decide) (by omega)]; exact k11, by rw [hU.ne (j := 12) (by decide) (by omega)]; exact k12, by rw [hU.ne (j := 13) (by decide) (by omega)]; exact k13⟩, ?_, ?_, ?_, ?_, ?_, ?_, ?_, ?_, ?_, ?_, ?_, ?_, ?_, ?_, ?_, ?_, ?_⟩
  · intro t p0 p1
    have a0 := hU.ne (j := 0) (by omega) (by omega); have a1 := hU.ne (j := 20 + 5 * t + 2) (by omega) (by omega); (have g0 := hT t; omega)
  · intro d p0 p1
    rcases hU.at (147 + d) (by omega) with ⟨z0, a0⟩ | ⟨z0, a0⟩ <;> (have g0 := hE d; constructor <;> omega)
  · intro s p0 p1
    have a0 := hU.ne (j := 1) (by omega) (by omega); have a1 := hU.ne (j := 547 + 84 * s + 0) (by omega) (by omega); (have g0 := hSA s; constructor <;> omega)
  · intro s p0 p1
    have a0 := hU.ne (j := 1) (by omega) (by omega); have a1 := hU.ne (j := 547 + 84 * s + 8) (by omega) (by omega); (have g0 := hSF s; constructor <;> omega)
  · intro s p0 p1
    have a0 := hU.ne (j := 1) (by omega) (by omega); have a1 := hU.ne (j := 547 + 84 * s + 10) (by omega) (by omega); (have g0 := hSO s; constructor <;> omega)
  · intro s p0 p1
    have a0 := hU.ne (j := 1) (by omega) (by omega); have a1 := hU.ne (j := 547 + 84 * s + 24) (by omega) (by omega); (have g0 := hSL s; omega)
  · intro s k p0 p1 p2 p3
    have a0 := hU.ne (j := 1) (by omega) (by omega); have a1 := hU.ne (j := 547 + 84 * s + 33 + 3 * k) (by omega) (by omega); (have g0 := hSB s k; constructor <;> omega)
  · intro s p0 p1
    have a0 := hU.ne (j := 1) (by omega) (by omega); have a1 := hU.ne (j := 547 + 84 * s + 7) (by omega) (by omega); (have g0 := hGC s; constructor <;> omega)
  · intro s p0 p1
    have a0 := hU.ne (j := 1) (by omega) (by omega); have a1 := hU.ne (j := 547 + 84 * s + 4) (by omega) (by omega); have a2 := hU.ne (j := 547 + 84 * s + 7) (by omega) (by omega); (have g0 := hGG s; constructor <;> omega)
  · intro s p0 p1
    have a0 := hU.ne (j := 1) (by omega) (by omega); have a1 := hU.ne (j := 547 + 84 * s + 5) (by omega) (by omega); (have g0 := hV s; refine ⟨?_, ?_, ?_⟩ <;> omega)
  · intro s o p0 p1 p2 p3
    intro hw
    have q11 := hSO s
    have a0 := hU.ne (j := 1) (by omega) (by omega); have a1 := hU.ne (j := 547 + 84 * s + 10) (by omega) (by omega); have a2 := hU.ne (j := 547 + 84 * s + 44 + 2 * o) (by omega) (by omega); have a3 := hU.ne (j := 547 + 84 * s + 45 + 2 * o) (by omega) (by omega); (have g0 := hP s o; constructor <;> omega)
  · intro l p0 p1
    have a0 := hU.ne (j := 1) (by omega) (by omega); have a1 := hU.ne (j := 5) (by omega) (by omega); have a2 := hU.ne (j := 1051 + 16 * l + 0) (by omega) (by omega); (have g0 := hLS l; constructor <;> omega)
  · intro l p0 p1
    have a0 := hU.ne (j := 5) (by omega) (by omega); have a1 := hU.ne (j := 1051 + 16 * l + 3) (by omega) (by omega); (have g0 := hLL l; omega)
  · intro l p0 p1
    have a0 := hU.ne (j := 5) (by omega) (by omega); have a1 := hU.ne (j := 1051 + 16 * l + 4) (by omega) (by omega); (have g0 := hLT l; omega)
  · intro k p0 p1
    have a0 := hU.ne (j := 0) (by omega) (by omega); have a1 := hU.ne (j := 10) (by omega) (by omega); have a2 := hU.ne (j := 12919 + 8 * k + 0) (by omega) (by omega); (have g0 := hA0 k; constructor <;> omega)
  · intro k p0 p1
    have a0 := hU.ne (j := 0) (by omega) (by omega); have a1 := hU.ne (j := 10) (by omega) (by omega); have a2 := hU.ne (j := 12919 + 8 * k + 1) (by omega) (by omega); (have g0 := hA1 k; constructor <;> omega)
  · intro c p0 p1
    have a0 := hU.ne (j := 8) (by omega) (by omega)
    exact mo_CO.congr (fun j _ _ => (hU.ne (by omega) (by omega)).symm) (hC _ p0 (by omega))
set_option maxHeartbeats 4000000 in
theorem mo_w_sfree (h : mo_RI x b R) (hU : mo_U R R' i v) (q k : Int) (hi : i = 547 + 84 * q + k) (hq : 0 ≤ q ∧ q < 6) (hk : (1 ≤ k ∧ k ≤ 3) ∨ k = 6 ∨ k = 9 ∨ (11 ≤ k ∧ k ≤ 23) ∨ (25 ≤ k ∧ k ≤ 32) ∨ (34 ≤ k ∧ k ≤ 35) ∨ (37 ≤ k ∧ k ≤ 38) ∨ (40 ≤ k ∧ k ≤ 41) ∨ k = 43) : mo_RI x b R' := by
  obtain ⟨hK, hT, hE, hSA, hSF, hSO, hSL, hSB, hGC, hGG, hV, hP, hLS, hLL, hLT, hA0, hA1, hC⟩ := h
  obtain ⟨k0, k1, k2, k3, k5, k6, k7, k8, k9, k10, k11, k12, k13⟩ := hK
  refine ⟨⟨by rw [hU.ne (j := 0) (by decide) (by omega)]; exact k0, by rw [hU.ne (j := 1) (by decide) (by omega)]; exact k1, by rw [hU.ne (j := 2) (by decide) (by omega)]; exact k2, by rw [hU.ne (j := 3) (by decide) (by omega)]; exact k3, by rw [hU.ne (j := 5) (by decide) (by omega)]; exact k5, by rw [hU.ne (j := 6) (by decide) (by omega)]; exact k6, by rw [hU.ne (j := 7) (by decide) (by omega)]; exact k7, by rw [hU.ne (j := 8) (by decide) (by omega)]; exact k8, by rw [hU.ne (j := 9) (by decide) (by omega)]; exact k9, by rw [hU.ne (j := 10) (by decide) (by omega)]; exact k10, by rw [hU.ne (j := 11) (by decide) (by omega)]; exact k11, by rw [hU.ne (j := 12) (by decide) (by omega)]; exact k12, by rw [hU.ne (j := 13) (by decide) (by omega)]; exact k13⟩, ?_, ?_, ?_, ?_, ?_, ?_, ?_, ?_, ?_, ?_, ?_, ?_, ?_, ?_, ?_, ?_, ?_⟩
  · intro t p0 p1
    have a0 := hU.ne (j := 0) (by omega) (by omega); have a1 := hU.ne (j := 20 + 5 * t + 2) (by omega) (by omega); (have g0 := hT t; omega)
  · intro d p0 p1
    have a0 := hU.ne (j := 147 + d) (by omega) (by omega); (have g0 := hE d; constructor <;> omega)
  · intro s p0 p1
    have a0 := hU.ne (j := 1) (by omega) (by omega); have a1 := hU.ne (j := 547 + 84 * s + 0) (by omega) (by omega); (have g0 := hSA s; constructor <;> omega)
  · intro s p0 p1
    have a0 := hU.ne (j := 1) (by omega) (by omega); have a1 := hU.ne (j := 547 + 84 * s + 8) (by omega) (by omega); (have g0 := hSF s; constructor <;> omega)
  · intro s p0 p1
    have a0 := hU.ne (j := 1) (by omega) (by omega); have a1 := hU.ne (j := 547 + 84 * s + 10) (by omega) (by omega); (have g0 := hSO s; constructor <;> omega)
  · intro s p0 p1
    have a0 := hU.ne (j := 1) (by omega) (by omega); have a1 := hU.ne (j := 547 + 84 * s + 24) (by omega) (by omega); (have g0 := hSL s; omega)
  · intro s k p0 p1 p2 p3
    have a0 := hU.ne (j := 1) (by omega) (by omega); have a1 := hU.ne (j := 547 + 84 * s + 33 + 3 * k) (by omega) (by omega); (have g0 := hSB s k; constructor <;> omega)
  · intro s p0 p1
    have a0 := hU.ne (j := 1) (by omega) (by omega); have a1 := hU.ne (j := 547 + 84 * s + 7) (by omega) (by omega); (have g0 := hGC s; constructor <;> omega)
  · intro s p0 p1
    have a0 := hU.ne (j := 1) (by omega) (by omega); have a1 := hU.ne (j := 547 + 84 * s + 4) (by omega) (by omega); have a2 := hU.ne (j := 547 + 84 * s + 7) (by omega) (by omega); (have g0 := hGG s; constructor <;> omega)
  · intro s p0 p1
    have a0 := hU.ne (j := 1) (by omega) (by omega); have a1 := hU.ne (j := 547 + 84 * s + 5) (by omega) (by omega); (have g0 := hV s; refine ⟨?_, ?_, ?_⟩ <;> omega)
  · intro s o p0 p1 p2 p3
    intro hw
    have q11 := hSO s
    have a0 := hU.ne (j := 1) (by omega) (by omega); have a1 := hU.ne (j := 547 + 84 * s + 10) (by omega) (by omega); have a2 := hU.ne (j := 547 + 84 * s + 44 + 2 * o) (by omega) (by omega); have a3 := hU.ne (j := 547 + 84 * s + 45 + 2 * o) (by omega) (by omega); (have g0 := hP s o; constructor <;> omega)
  · intro l p0 p1
    have a0 := hU.ne (j := 1) (by omega) (by omega); have a1 := hU.ne (j := 5) (by omega) (by omega); have a2 := hU.ne (j := 1051 + 16 * l + 0) (by omega) (by omega); (have g0 := hLS l; constructor <;> omega)
  · intro l p0 p1
    have a0 := hU.ne (j := 5) (by omega) (by omega); have a1 := hU.ne (j := 1051 + 16 * l + 3) (by omega) (by omega); (have g0 := hLL l; omega)
  · intro l p0 p1
    have a0 := hU.ne (j := 5) (by omega) (by omega); have a1 := hU.ne (j := 1051 + 16 * l + 4) (by omega) (by omega); (have g0 := hLT l; omega)
  · intro k p0 p1
    have a0 := hU.ne (j := 0) (by omega) (by omega); have a1 := hU.ne (j := 10) (by omega) (by omega); have a2 := hU.ne (j := 12919 + 8 * k + 0) (by omega) (by omega); (have g0 := hA0 k; constructor <;> omega)
  · intro k p0 p1
    have a0 := hU.ne (j := 0) (by omega) (by omega); have a1 := hU.ne (j := 10) (by omega) (by omega); have a2 := hU.ne (j := 12919 + 8 * k + 1) (by omega) (by omega); (have g0 := hA1 k; constructor <;> omega)
  · intro c p0 p1
    have a0 := hU.ne (j := 8) (by omega) (by omega)
    exact mo_CO.congr (fun j _ _ => (hU.ne (by omega) (by omega)).symm) (hC _ p0 (by omega))
set_option maxHeartbeats 4000000 in
theorem mo_w_AT (h : mo_RI x b R) (hU : mo_U R R' i v) (q : Int) (hi : i = 547 + 84 * q + 0) (hq : 0 ≤ q ∧ q < 6) (hv : 0 ≤ v ∧ v ≤ 5) : mo_RI x b R' := by
  obtain ⟨hK, hT, hE, hSA, hSF, hSO, hSL, hSB, hGC, hGG, hV, hP, hLS, hLL, hLT, hA0, hA1, hC⟩ := h
  obtain ⟨k0, k1, k2, k3, k5, k6, k7, k8, k9, k10, k11, k12, k13⟩ := hK
  refine ⟨⟨by rw [hU.ne (j := 0) (by decide) (by omega)]; exact k0, by rw [hU.ne (j := 1) (by decide) (by omega)]; exact k1, by rw [hU.ne (j := 2) (by decide) (by omega)]; exact k2, by rw [hU.ne (j := 3) (by decide) (by omega)]; exact k3, by rw [hU.ne (j := 5) (by decide) (by omega)]; exact k5, by rw [hU.ne (j := 6) (by decide) (by omega)]; exact k6, by rw [hU.ne (j := 7) (by decide) (by omega)]; exact k7, by rw [hU.ne (j := 8) (by decide) (by omega)]; exact k8, by rw [hU.ne (j := 9) (by decide) (by omega)]; exact k9, by rw [hU.ne (j := 10) (by decide) (by omega)]; exact k10, by rw [hU.ne (j := 11) (by decide) (by omega)]; exact k11, by rw [hU.ne (j := 12) (by decide) (by omega)]; exact k12, by rw [hU.ne (j := 13) (by decide) (by omega)]; exact k13⟩, ?_, ?_, ?_, ?_, ?_, ?_, ?_, ?_, ?_, ?_, ?_, ?_, ?_, ?_, ?_, ?_, ?_⟩
  · intro t p0 p1
    have a0 := hU.ne (j := 0) (by omega) (by omega); have a1 := hU.ne (j := 20 + 5 * t + 2) (by omega) (by omega); (have g0 := hT t; omega)
  · intro d p0 p1
    have a0 := hU.ne (j := 147 + d) (by omega) (by omega); (have g0 := hE d; constructor <;> omega)
  · intro s p0 p1
    have a0 := hU.ne (j := 1) (by omega) (by omega); rcases hU.at (547 + 84 * s + 0) (by omega) with ⟨z1, a1⟩ | ⟨z1, a1⟩ <;> (have g0 := hSA s; constructor <;> omega)
  · intro s p0 p1
    have a0 := hU.ne (j := 1) (by omega) (by omega); have a1 := hU.ne (j := 547 + 84 * s + 8) (by omega) (by omega); (have g0 := hSF s; constructor <;> omega)
  · intro s p0 p1
    have a0 := hU.ne (j := 1) (by omega) (by omega); have a1 := hU.ne (j := 547 + 84 * s + 10) (by omega) (by omega); (have g0 := hSO s; constructor <;> omega)
  · intro s p0 p1
    have a0 := hU.ne (j := 1) (by omega) (by omega); have a1 := hU.ne (j := 547 + 84 * s + 24) (by omega) (by omega); (have g0 := hSL s; omega)
  · intro s k p0 p1 p2 p3
    have a0 := hU.ne (j := 1) (by omega) (by omega); have a1 := hU.ne (j := 547 + 84 * s + 33 + 3 * k) (by omega) (by omega); (have g0 := hSB s k; constructor <;> omega)
  · intro s p0 p1
    have a0 := hU.ne (j := 1) (by omega) (by omega); have a1 := hU.ne (j := 547 + 84 * s + 7) (by omega) (by omega); (have g0 := hGC s; constructor <;> omega)
  · intro s p0 p1
    have a0 := hU.ne (j := 1) (by omega) (by omega); have a1 := hU.ne (j := 547 + 84 * s + 4) (by omega) (by omega); have a2 := hU.ne (j := 547 + 84 * s + 7) (by omega) (by omega); (have g0 := hGG s; constructor <;> omega)
  · intro s p0 p1
    have a0 := hU.ne (j := 1) (by omega) (by omega); have a1 := hU.ne (j := 547 + 84 * s + 5) (by omega) (by omega); (have g0 := hV s; refine ⟨?_, ?_, ?_⟩ <;> omega)
  · intro s o p0 p1 p2 p3
    intro hw
    have q11 := hSO s
    have a0 := hU.ne (j := 1) (by omega) (by omega); have a1 := hU.ne (j := 547 + 84 * s + 10) (by omega) (by omega); have a2 := hU.ne (j := 547 + 84 * s + 44 + 2 * o) (by omega) (by omega); have a3 := hU.ne (j := 547 + 84 * s + 45 + 2 * o) (by omega) (by omega); (have g0 := hP s o; constructor <;> omega)
  · intro l p0 p1
    have a0 := hU.ne (j := 1) (by omega) (by omega); have a1 := hU.ne (j := 5) (by omega) (by omega); have a2 := hU.ne (j := 1051 + 16 * l + 0) (by omega) (by omega); (have g0 := hLS l; constructor <;> omega)
  · intro l p0 p1
    have a0 := hU.ne (j := 5) (by omega) (by omega); have a1 := hU.ne (j := 1051 + 16 * l + 3) (by omega) (by omega); (have g0 := hLL l; omega)
  · intro l p0 p1
    have a0 := hU.ne (j := 5) (by omega) (by omega); have a1 := hU.ne (j := 1051 + 16 * l + 4) (by omega) (by omega); (have g0 := hLT l; omega)
  · intro k p0 p1
    have a0 := hU.ne (j := 0) (by omega) (by omega); have a1 := hU.ne (j := 10) (by omega) (by omega); have a2 := hU.ne (j := 12919 + 8 * k + 0) (by omega) (by omega); (have g0 := hA0 k; constructor <;> omega)
  · intro k p0 p1
    have a0 := hU.ne (j := 0) (by omega) (by omega); have a1 := hU.ne (j := 10) (by omega) (by omega); have a2 := hU.ne (j := 12919 + 8 * k + 1) (by omega) (by omega); (have g0 := hA1 k; constructor <;> omega)
  · intro c p0 p1
    have a0 := hU.ne (j := 8) (by omega) (by omega)
    exact mo_CO.congr (fun j _ _ => (hU.ne (by omega) (by omega)).symm) (hC _ p0 (by omega))
set_option maxHeartbeats 4000000 in
theorem mo_w_GAS (h : mo_RI x b R) (hU : mo_U R R' i v) (q : Int) (hi : i = 547 + 84 * q + 4) (hq : 0 ≤ q ∧ q < 6) (hv : 0 ≤ v ∧ v ≤ R (547 + 84 * q + 7)) : mo_RI x b R' := by
  obtain ⟨hK, hT, hE, hSA, hSF, hSO, hSL, hSB, hGC, hGG, hV, hP, hLS, hLL, hLT, hA0, hA1, hC⟩ := h
  obtain ⟨k0, k1, k2, k3, k5, k6, k7, k8, k9, k10, k11, k12, k13⟩ := hK
  refine ⟨⟨by rw [hU.ne (j := 0) (by decide) (by omega)]; exact k0, by rw [hU.ne (j := 1) (by decide) (by omega)]; exact k1, by rw [hU.ne (j := 2) (by decide) (by omega)]; exact k2, by rw [hU.ne (j := 3) (by decide) (by omega)]; exact k3, by rw [hU.ne (j := 5) (by decide) (by omega)]; exact k5, by rw [hU.ne (j := 6) (by decide) (by omega)]; exact k6, by rw [hU.ne (j := 7) (by decide) (by omega)]; exact k7, by rw [hU.ne (j := 8) (by decide) (by omega)]; exact k8, by rw [hU.ne (j := 9) (by decide) (by omega)]; exact k9, by rw [hU.ne (j := 10) (by decide) (by omega)]; exact k10, by rw [hU.ne (j := 11) (by decide) (by omega)]; exact k11, by rw [hU.ne (j := 12) (by decide) (by omega)]; exact k12, by rw [hU.ne (j := 13) (by decide) (by omega)]; exact k13⟩, ?_, ?_, ?_, ?_, ?_, ?_, ?_, ?_, ?_, ?_, ?_, ?_, ?_, ?_, ?_, ?_, ?_⟩
  · intro t p0 p1
    have a0 := hU.ne (j := 0) (by omega) (by omega); have a1 := hU.ne (j := 20 + 5 * t + 2) (by omega) (by omega); (have g0 := hT t; omega)
  · intro d p0 p1
    have a0 := hU.ne (j := 147 + d) (by omega) (by omega); (have g0 := hE d; constructor <;> omega)
  · intro s p0 p1
    have a0 := hU.ne (j := 1) (by omega) (by omega); have a1 := hU.ne (j := 547 + 84 * s + 0) (by omega) (by omega); (have g0 := hSA s; constructor <;> omega)
  · intro s p0 p1
    have a0 := hU.ne (j := 1) (by omega) (by omega); have a1 := hU.ne (j := 547 + 84 * s + 8) (by omega) (by omega); (have g0 := hSF s; constructor <;> omega)
  · intro s p0 p1
    have a0 := hU.ne (j := 1) (by omega) (by omega); have a1 := hU.ne (j := 547 + 84 * s + 10) (by omega) (by omega); (have g0 := hSO s; constructor <;> omega)
  · intro s p0 p1
    have a0 := hU.ne (j := 1) (by omega) (by omega); have a1 := hU.ne (j := 547 + 84 * s + 24) (by omega) (by omega); (have g0 := hSL s; omega)
  · intro s k p0 p1 p2 p3
    have a0 := hU.ne (j := 1) (by omega) (by omega); have a1 := hU.ne (j := 547 + 84 * s + 33 + 3 * k) (by omega) (by omega); (have g0 := hSB s k; constructor <;> omega)
  · intro s p0 p1
    have a0 := hU.ne (j := 1) (by omega) (by omega); have a1 := hU.ne (j := 547 + 84 * s + 7) (by omega) (by omega); (have g0 := hGC s; constructor <;> omega)
  · intro s p0 p1
    rcases (show s = q ∨ s ≠ q by omega) with rfl | hsq
    all_goals (have a0 := hU.ne (j := 1) (by omega) (by omega); rcases hU.at (547 + 84 * s + 4) (by omega) with ⟨z1, a1⟩ | ⟨z1, a1⟩ <;> have a2 := hU.ne (j := 547 + 84 * s + 7) (by omega) (by omega) <;> (have g0 := hGG s; constructor <;> omega))
  · intro s p0 p1
    have a0 := hU.ne (j := 1) (by omega) (by omega); have a1 := hU.ne (j := 547 + 84 * s + 5) (by omega) (by omega); (have g0 := hV s; refine ⟨?_, ?_, ?_⟩ <;> omega)
  · intro s o p0 p1 p2 p3
    intro hw
    have q11 := hSO s
    have a0 := hU.ne (j := 1) (by omega) (by omega); have a1 := hU.ne (j := 547 + 84 * s + 10) (by omega) (by omega); have a2 := hU.ne (j := 547 + 84 * s + 44 + 2 * o) (by omega) (by omega); have a3 := hU.ne (j := 547 + 84 * s + 45 + 2 * o) (by omega) (by omega); (have g0 := hP s o; constructor <;> omega)
  · intro l p0 p1
    have a0 := hU.ne (j := 1) (by omega) (by omega); have a1 := hU.ne (j := 5) (by omega) (by omega); have a2 := hU.ne (j := 1051 + 16 * l + 0) (by omega) (by omega); (have g0 := hLS l; constructor <;> omega)
  · intro l p0 p1
    have a0 := hU.ne (j := 5) (by omega) (by omega); have a1 := hU.ne (j := 1051 + 16 * l + 3) (by omega) (by omega); (have g0 := hLL l; omega)
  · intro l p0 p1
    have a0 := hU.ne (j := 5) (by omega) (by omega); have a1 := hU.ne (j := 1051 + 16 * l + 4) (by omega) (by omega); (have g0 := hLT l; omega)
  · intro k p0 p1
    have a0 := hU.ne (j := 0) (by omega) (by omega); have a1 := hU.ne (j := 10) (by omega) (by omega); have a2 := hU.ne (j := 12919 + 8 * k + 0) (by omega) (by omega); (have g0 := hA0 k; constructor <;> omega)
  · intro k p0 p1
    have a0 := hU.ne (j := 0) (by omega) (by omega); have a1 := hU.ne (j := 10) (by omega) (by omega); have a2 := hU.ne (j := 12919 + 8 * k + 1) (by omega) (by omega); (have g0 := hA1 k; constructor <;> omega)
  · intro c p0 p1
    have a0 := hU.ne (j := 8) (by omega) (by omega)
    exact mo_CO.congr (fun j _ _ => (hU.ne (by omega) (by omega)).symm) (hC _ p0 (by omega))
set_option maxHeartbeats 4000000 in
theorem mo_w_VAP (h : mo_RI x b R) (hU : mo_U R R' i v) (q : Int) (hi : i = 547 + 84 * q + 5) (hq : 0 ≤ q ∧ q < 6) (hv : 0 ≤ v ∧ (q ≠ x → v ≤ 202202) ∧ v ≤ 202202 + b) : mo_RI x b R' := by
  obtain ⟨hK, hT, hE, hSA, hSF, hSO, hSL, hSB, hGC, hGG, hV, hP, hLS, hLL, hLT, hA0, hA1, hC⟩ := h
  obtain ⟨k0, k1, k2, k3, k5, k6, k7, k8, k9, k10, k11, k12, k13⟩ := hK
  refine ⟨⟨by rw [hU.ne (j := 0) (by decide) (by omega)]; exact k0, by rw [hU.ne (j := 1) (by decide) (by omega)]; exact k1, by rw [hU.ne (j := 2) (by decide) (by omega)]; exact k2, by rw [hU.ne (j := 3) (by decide) (by omega)]; exact k3, by rw [hU.ne (j := 5) (by decide) (by omega)]; exact k5, by rw [hU.ne (j := 6) (by decide) (by omega)]; exact k6, by rw [hU.ne (j := 7) (by decide) (by omega)]; exact k7, by rw [hU.ne (j := 8) (by decide) (by omega)]; exact k8, by rw [hU.ne (j := 9) (by decide) (by omega)]; exact k9, by rw [hU.ne (j := 10) (by decide) (by omega)]; exact k10, by rw [hU.ne (j := 11) (by decide) (by omega)]; exact k11, by rw [hU.ne (j := 12) (by decide) (by omega)]; exact k12, by rw [hU.ne (j := 13) (by decide) (by omega)]; exact k13⟩, ?_, ?_, ?_, ?_, ?_, ?_, ?_, ?_, ?_, ?_, ?_, ?_, ?_, ?_, ?_, ?_, ?_⟩
  · intro t p0 p1
    have a0 := hU.ne (j := 0) (by omega) (by omega); have a1 := hU.ne (j := 20 + 5 * t + 2) (by omega) (by omega); (have g0 := hT t; omega)
  · intro d p0 p1
    have a0 := hU.ne (j := 147 + d) (by omega) (by omega); (have g0 := hE d; constructor <;> omega)
  · intro s p0 p1
    have a0 := hU.ne (j := 1) (by omega) (by omega); have a1 := hU.ne (j := 547 + 84 * s + 0) (by omega) (by omega); (have g0 := hSA s; constructor <;> omega)
  · intro s p0 p1
    have a0 := hU.ne (j := 1) (by omega) (by omega); have a1 := hU.ne (j := 547 + 84 * s + 8) (by omega) (by omega); (have g0 := hSF s; constructor <;> omega)
  · intro s p0 p1
    have a0 := hU.ne (j := 1) (by omega) (by omega); have a1 := hU.ne (j := 547 + 84 * s + 10) (by omega) (by omega); (have g0 := hSO s; constructor <;> omega)
  · intro s p0 p1
    have a0 := hU.ne (j := 1) (by omega) (by omega); have a1 := hU.ne (j := 547 + 84 * s + 24) (by omega) (by omega); (have g0 := hSL s; omega)
  · intro s k p0 p1 p2 p3
    have a0 := hU.ne (j := 1) (by omega) (by omega); have a1 := hU.ne (j := 547 + 84 * s + 33 + 3 * k) (by omega) (by omega); (have g0 := hSB s k; constructor <;> omega)
  · intro s p0 p1
    have a0 := hU.ne (j := 1) (by omega) (by omega); have a1 := hU.ne (j := 547 + 84 * s + 7) (by omega) (by omega); (have g0 := hGC s; constructor <;> omega)
  · intro s p0 p1
    have a0 := hU.ne (j := 1) (by omega) (by omega); have a1 := hU.ne (j := 547 + 84 * s + 4) (by omega) (by omega); have a2 := hU.ne (j := 547 + 84 * s + 7) (by omega) (by omega); (have g0 := hGG s; constructor <;> omega)
  · intro s p0 p1
    rcases (show s = q ∨ s ≠ q by omega) with rfl | hsq
    all_goals (have a0 := hU.ne (j := 1) (by omega) (by omega); rcases hU.at (547 + 84 * s + 5) (by omega) with ⟨z1, a1⟩ | ⟨z1, a1⟩ <;> (have g0 := hV s; refine ⟨?_, ?_, ?_⟩ <;> omega))
  · intro s o p0 p1 p2 p3
    intro hw
    have q11 := hSO s
    have a0 := hU.ne (j := 1) (by omega) (by omega); have a1 := hU.ne (j := 547 + 84 * s + 10) (by omega) (by omega); have a2 := hU.ne (j := 547 + 84 * s + 44 + 2 * o) (by omega) (by omega); have a3 := hU.ne (j := 547 + 84 * s + 45 + 2 * o) (by omega) (by omega); (have g0 := hP s o; constructor <;> omega)
  · intro l p0 p1
    have a0 := hU.ne (j := 1) (by omega) (by omega); have a1 := hU.ne (j := 5) (by omega) (by omega); have a2 := hU.ne (j := 1051 + 16 * l + 0) (by omega) (by omega); (have g0 := hLS l; constructor <;> omega)
  · intro l p0 p1
    have a0 := hU.ne (j := 5) (by omega) (by omega); have a1 := hU.ne (j := 1051 + 16 * l + 3) (by omega) (by omega); (have g0 := hLL l; omega)
  · intro l p0 p1
    have a0 := hU.ne (j := 5) (by omega) (by omega); have a1 := hU.ne (j := 1051 + 16 * l + 4) (by omega) (by omega); (have g0 := hLT l; omega)
  · intro k p0 p1
    have a0 := hU.ne (j := 0) (by omega) (by omega); have a1 := hU.ne (j := 10) (by omega) (by omega); have a2 := hU.ne (j := 12919 + 8 * k + 0) (by omega) (by omega); (have g0 := hA0 k; constructor <;> omega)
  · intro k p0 p1
    have a0 := hU.ne (j := 0) (by omega) (by omega); have a1 := hU.ne (j := 10) (by omega) (by omega); have a2 := hU.ne (j := 12919 + 8 * k + 1) (by omega) (by omega); (have g0 := hA1 k; constructor <;> omega)
  · intro c p0 p1
    have a0 := hU.ne (j := 8) (by omega) (by omega)
    exact mo_CO.congr (fun j _ _ => (hU.ne (by omega) (by omega)).symm) (hC _ p0 (by omega))
set_option maxHeartbeats 4000000 in
theorem mo_w_snew (h : mo_RI x b R) (hU : mo_U R R' i v) (q k : Int) (hi : i = 547 + 84 * q + k) (hq : R 1 ≤ q ∧ q < 6) (hk : 0 ≤ k ∧ k < 84) : mo_RI x b R' := by
  obtain ⟨hK, hT, hE, hSA, hSF, hSO, hSL, hSB, hGC, hGG, hV, hP, hLS, hLL, hLT, hA0, hA1, hC⟩ := h
  obtain ⟨k0, k1, k2, k3, k5, k6, k7, k8, k9, k10, k11, k12, k13⟩ := hK
  refine ⟨⟨by rw [hU.ne (j := 0) (by decide) (by omega)]; exact k0, by rw [hU.ne (j := 1) (by decide) (by omega)]; exact k1, by rw [hU.ne (j := 2) (by decide) (by omega)]; exact k2, by rw [hU.ne (j := 3) (by decide) (by omega)]; exact k3, by rw [hU.ne (j := 5) (by decide) (by omega)]; exact k5, by rw [hU.ne (j := 6) (by decide) (by omega)]; exact k6, by rw [hU.ne (j := 7) (by decide) (by omega)]; exact k7, by rw [hU.ne (j := 8) (by decide) (by omega)]; exact k8, by rw [hU.ne (j := 9) (by decide) (by omega)]; exact k9, by rw [hU.ne (j := 10) (by decide) (by omega)]; exact k10, by rw [hU.ne (j := 11) (by decide) (by omega)]; exact k11, by rw [hU.ne (j := 12) (by decide) (by omega)]; exact k12, by rw [hU.ne (j := 13) (by decide) (by omega)]; exact k13⟩, ?_, ?_, ?_, ?_, ?_, ?_, ?_, ?_, ?_, ?_, ?_, ?_, ?_, ?_, ?_, ?_, ?_⟩
  · intro t p0 p1
    have a0 := hU.ne (j := 0) (by omega) (by omega); have a1 := hU.ne (j := 20 + 5 * t + 2) (by omega) (by omega); (have g0 := hT t; omega)
  · intro d p0 p1
    have a0 := hU.ne (j := 147 + d) (by omega) (by omega); (have g0 := hE d; constructor <;> omega)
  · intro s p0 p1
    have a0 := hU.ne (j := 1) (by omega) (by omega); have a1 := hU.ne (j := 547 + 84 * s + 0) (by omega) (by omega); (have g0 := hSA s; constructor <;> omega)
  · intro s p0 p1
    have a0 := hU.ne (j := 1) (by omega) (by omega); have a1 := hU.ne (j := 547 + 84 * s + 8) (by omega) (by omega); (have g0 := hSF s; constructor <;> omega)
  · intro s p0 p1
    have a0 := hU.ne (j := 1) (by omega) (by omega); have a1 := hU.ne (j := 547 + 84 * s + 10) (by omega) (by omega); (have g0 := hSO s; constructor <;> omega)
  · intro s p0 p1
    have a0 := hU.ne (j := 1) (by omega) (by omega); have a1 := hU.ne (j := 547 + 84 * s + 24) (by omega) (by omega); (have g0 := hSL s; omega)
  · intro s k p0 p1 p2 p3
    have a0 := hU.ne (j := 1) (by omega) (by omega); have a1 := hU.ne (j := 547 + 84 * s + 33 + 3 * k) (by omega) (by omega); (have g0 := hSB s k; constructor <;> omega)
  · intro s p0 p1
    have a0 := hU.ne (j := 1) (by omega) (by omega); have a1 := hU.ne (j := 547 + 84 * s + 7) (by omega) (by omega); (have g0 := hGC s; constructor <;> omega)
  · intro s p0 p1
    have a0 := hU.ne (j := 1) (by omega) (by omega); have a1 := hU.ne (j := 547 + 84 * s + 4) (by omega) (by omega); have a2 := hU.ne (j := 547 + 84 * s + 7) (by omega) (by omega); (have g0 := hGG s; constructor <;> omega)
  · intro s p0 p1
    have a0 := hU.ne (j := 1) (by omega) (by omega); have a1 := hU.ne (j := 547 + 84 * s + 5) (by omega) (by omega); (have g0 := hV s; refine ⟨?_, ?_, ?_⟩ <;> omega)
  · intro s o p0 p1 p2 p3
    intro hw
    have q11 := hSO s
    have a0 := hU.ne (j := 1) (by omega) (by omega); have a1 := hU.ne (j := 547 + 84 * s + 10) (by omega) (by omega); have a2 := hU.ne (j := 547 + 84 * s + 44 + 2 * o) (by omega) (by omega); have a3 := hU.ne (j := 547 + 84 * s + 45 + 2 * o) (by omega) (by omega); (have g0 := hP s o; constructor <;> omega)
  · intro l p0 p1
    have a0 := hU.ne (j := 1) (by omega) (by omega); have a1 := hU.ne (j := 5) (by omega) (by omega); have a2 := hU.ne (j := 1051 + 16 * l + 0) (by omega) (by omega); (have g0 := hLS l; constructor <;> omega)
  · intro l p0 p1
    have a0 := hU.ne (j := 5) (by omega) (by omega); have a1 := hU.ne (j := 1051 + 16 * l + 3) (by omega) (by omega); (have g0 := hLL l; omega)
  · intro l p0 p1
    have a0 := hU.ne (j := 5) (by omega) (by omega); have a1 := hU.ne (j := 1051 + 16 * l + 4) (by omega) (by omega); (have g0 := hLT l; omega)
  · intro k p0 p1
    have a0 := hU.ne (j := 0) (by omega) (by omega); have a1 := hU.ne (j := 10) (by omega) (by omega); have a2 := hU.ne (j := 12919 + 8 * k + 0) (by omega) (by omega); (have g0 := hA0 k; constructor <;> omega)
  · intro k p0 p1
    have a0 := hU.ne (j := 0) (by omega) (by omega); have a1 := hU.ne (j := 10) (by omega) (by omega); have a2 := hU.ne (j := 12919 + 8 * k + 1) (by omega) (by omega); (have g0 := hA1 k; constructor <;> omega)
  · intro c p0 p1
    have a0 := hU.ne (j := 8) (by omega) (by omega)
    exact mo_CO.congr (fun j _ _ => (hU.ne (by omega) (by omega)).symm) (hC _ p0 (by omega))
set_option maxHeartbeats 4000000 in
theorem mo_w_FUEL (h : mo_RI x b R) (hU : mo_U R R' i v) (q : Int) (hi : i = 547 + 84 * q + 8) (hq : 0 ≤ q ∧ q < 6) (hv : 0 ≤ v ∧ v ≤ 50) : mo_RI x b R' := by
  obtain ⟨hK, hT, hE, hSA, hSF, hSO, hSL, hSB, hGC, hGG, hV, hP, hLS, hLL, hLT, hA0, hA1, hC⟩ := h
  obtain ⟨k0, k1, k2, k3, k5, k6, k7, k8, k9, k10, k11, k12, k13⟩ := hK
  refine ⟨⟨by rw [hU.ne (j := 0) (by decide) (by omega)]; exact k0, by rw [hU.ne (j := 1) (by decide) (by omega)]; exact k1, by rw [hU.ne (j := 2) (by decide) (by omega)]; exact k2, by rw [hU.ne (j := 3) (by decide) (by omega)]; exact k3, by rw [hU.ne (j := 5) (by decide) (by omega)]; exact k5, by rw [hU.ne (j := 6) (by decide) (by omega)]; exact k6, by rw [hU.ne (j := 7) (by decide) (by omega)]; exact k7, by rw [hU.ne (j := 8) (by decide) (by omega)]; exact k8, by rw [hU.ne (j := 9) (by decide) (by omega)]; exact k9, by rw [hU.ne (j := 10) (by decide) (by omega)]; exact k10, by rw [hU.ne (j := 11) (by decide) (by omega)]; exact k11, by rw [hU.ne (j := 12) (by decide) (by omega)]; exact k12, by rw [hU.ne (j := 13) (by decide) (by omega)]; exact k13⟩, ?_, ?_, ?_, ?_, ?_, ?_, ?_, ?_, ?_, ?_, ?_, ?_, ?_, ?_, ?_, ?_, ?_⟩
  · intro t p0 p1
    have a0 := hU.ne (j := 0) (by omega) (by omega); have a1 := hU.ne (j := 20 + 5 * t + 2) (by omega) (by omega); (have g0 := hT t; omega)
  · intro d p0 p1
    have a0 := hU.ne (j := 147 + d) (by omega) (by omega); (have g0 := hE d; constructor <;> omega)
  · intro s p0 p1
    have a0 := hU.ne (j := 1) (by omega) (by omega); have a1 := hU.ne (j := 547 + 84 * s + 0) (by omega) (by omega); (have g0 := hSA s; constructor <;> omega)
  · intro s p0 p1
    have a0 := hU.ne (j := 1) (by omega) (by omega); rcases hU.at (547 + 84 * s + 8) (by omega) with ⟨z1, a1⟩ | ⟨z1, a1⟩ <;> (have g0 := hSF s; constructor <;> omega)
  · intro s p0 p1
    have a0 := hU.ne (j := 1) (by omega) (by omega); have a1 := hU.ne (j := 547 + 84 * s + 10) (by omega) (by omega); (have g0 := hSO s; constructor <;> omega)
  · intro s p0 p1
    have a0 := hU.ne (j := 1) (by omega) (by omega); have a1 := hU.ne (j := 547 + 84 * s + 24) (by omega) (by omega); (have g0 := hSL s; omega)
  · intro s k p0 p1 p2 p3
    have a0 := hU.ne (j := 1) (by omega) (by omega); have a1 := hU.ne (j := 547 + 84 * s + 33 + 3 * k) (by omega) (by omega); (have g0 := hSB s k; constructor <;> omega)
  · intro s p0 p1
    have a0 := hU.ne (j := 1) (by omega) (by omega); have a1 := hU.ne (j := 547 + 84 * s + 7) (by omega) (by omega); (have g0 := hGC s; constructor <;> omega)
  · intro s p0 p1
    have a0 := hU.ne (j := 1) (by omega) (by omega); have a1 := hU.ne (j := 547 + 84 * s + 4) (by omega) (by omega); have a2 := hU.ne (j := 547 + 84 * s + 7) (by omega) (by omega); (have g0 := hGG s; constructor <;> omega)
  · intro s p0 p1
    have a0 := hU.ne (j := 1) (by omega) (by omega); have a1 := hU.ne (j := 547 + 84 * s + 5) (by omega) (by omega); (have g0 := hV s; refine ⟨?_, ?_, ?_⟩ <;> omega)
  · intro s o p0 p1 p2 p3
    intro hw
    have q11 := hSO s
    have a0 := hU.ne (j := 1) (by omega) (by omega); have a1 := hU.ne (j := 547 + 84 * s + 10) (by omega) (by omega); have a2 := hU.ne (j := 547 + 84 * s + 44 + 2 * o) (by omega) (by omega); have a3 := hU.ne (j := 547 + 84 * s + 45 + 2 * o) (by omega) (by omega); (have g0 := hP s o; constructor <;> omega)
  · intro l p0 p1
    have a0 := hU.ne (j := 1) (by omega) (by omega); have a1 := hU.ne (j := 5) (by omega) (by omega); have a2 := hU.ne (j := 1051 + 16 * l + 0) (by omega) (by omega); (have g0 := hLS l; constructor <;> omega)
  · intro l p0 p1
    have a0 := hU.ne (j := 5) (by omega) (by omega); have a1 := hU.ne (j := 1051 + 16 * l + 3) (by omega) (by omega); (have g0 := hLL l; omega)
  · intro l p0 p1
    have a0 := hU.ne (j := 5) (by omega) (by omega); have a1 := hU.ne (j := 1051 + 16 * l + 4) (by omega) (by omega); (have g0 := hLT l; omega)
  · intro k p0 p1
    have a0 := hU.ne (j := 0) (by omega) (by omega); have a1 := hU.ne (j := 10) (by omega) (by omega); have a2 := hU.ne (j := 12919 + 8 * k + 0) (by omega) (by omega); (have g0 := hA0 k; constructor <;> omega)
  · intro k p0 p1
    have a0 := hU.ne (j := 0) (by omega) (by omega); have a1 := hU.ne (j := 10) (by omega) (by omega); have a2 := hU.ne (j := 12919 + 8 * k + 1) (by omega) (by omega); (have g0 := hA1 k; constructor <;> omega)
  · intro c p0 p1
    have a0 := hU.ne (j := 8) (by omega) (by omega)
    exact mo_CO.congr (fun j _ _ => (hU.ne (by omega) (by omega)).symm) (hC _ p0 (by omega))
set_option maxHeartbeats 4000000 in
theorem mo_w_ORDS (h : mo_RI x b R) (hU : mo_U R R' i v) (q n : Int) (hi : i = 547 + 84 * q + 10) (hq : 0 ≤ q ∧ q < 6) (hn : R (547 + 84 * q + 10) = n) (hv : 0 ≤ v ∧ v ≤ 20) (hp : v ≤ n ∨ (v = n + 1 ∧ (R (547 + 84 * q + 44 + 2 * n) = 0 → 0 ≤ R (547 + 84 * q + 45 + 2 * n) ∧ R (547 + 84 * q + 45 + 2 * n) ≤ 5))) : mo_RI x b R' := by
  obtain ⟨hK, hT, hE, hSA, hSF, hSO, hSL, hSB, hGC, hGG, hV, hP, hLS, hLL, hLT, hA0, hA1, hC⟩ := h
  obtain ⟨k0, k1, k2, k3, k5, k6, k7, k8, k9, k10, k11, k12, k13⟩ := hK
  have hp9 : v ≤ n ∨ v = n + 1 := hp.imp id (fun z => z.1)
  refine ⟨⟨by rw [hU.ne (j := 0) (by decide) (by omega)]; exact k0, by rw [hU.ne (j := 1) (by decide) (by omega)]; exact k1, by rw [hU.ne (j := 2) (by decide) (by omega)]; exact k2, by rw [hU.ne (j := 3) (by decide) (by omega)]; exact k3, by rw [hU.ne (j := 5) (by decide) (by omega)]; exact k5, by rw [hU.ne (j := 6) (by decide) (by omega)]; exact k6, by rw [hU.ne (j := 7) (by decide) (by omega)]; exact k7, by rw [hU.ne (j := 8) (by decide) (by omega)]; exact k8, by rw [hU.ne (j := 9) (by decide) (by omega)]; exact k9, by rw [hU.ne (j := 10) (by decide) (by omega)]; exact k10, by rw [hU.ne (j := 11) (by decide) (by omega)]; exact k11, by rw [hU.ne (j := 12) (by decide) (by omega)]; exact k12, by rw [hU.ne (j := 13) (by decide) (by omega)]; exact k13⟩, ?_, ?_, ?_, ?_, ?_, ?_, ?_, ?_, ?_, ?_, ?_, ?_, ?_, ?_, ?_, ?_, ?_⟩
  · intro t p0 p1
    have a0 := hU.ne (j := 0) (by omega) (by omega); have a1 := hU.ne (j := 20 + 5 * t + 2) (by omega) (by omega); (have g0 := hT t; omega)
  · intro d p0 p1
    have a0 := hU.ne (j := 147 + d) (by omega) (by omega); (have g0 := hE d; constructor <;> omega)
  · intro s p0 p1
    have a0 := hU.ne (j := 1) (by omega) (by omega); have a1 := hU.ne (j := 547 + 84 * s + 0) (by omega) (by omega); (have g0 := hSA s; constructor <;> omega)
  · intro s p0 p1
    have a0 := hU.ne (j := 1) (by omega) (by omega); have a1 := hU.ne (j := 547 + 84 * s + 8) (by omega) (by omega); (have g0 := hSF s; constructor <;> omega)
  · intro s p0 p1
    have a0 := hU.ne (j := 1) (by omega) (by omega); rcases hU.at (547 + 84 * s + 10) (by omega) with ⟨z1, a1⟩ | ⟨z1, a1⟩ <;> (have g0 := hSO s; constructor <;> omega)
  · intro s p0 p1
    have a0 := hU.ne (j := 1) (by omega) (by omega); have a1 := hU.ne (j := 547 + 84 * s + 24) (by omega) (by omega); (have g0 := hSL s; omega)
  · intro s k p0 p1 p2 p3
    have a0 := hU.ne (j := 1) (by omega) (by omega); have a1 := hU.ne (j := 547 + 84 * s + 33 + 3 * k) (by omega) (by omega); (have g0 := hSB s k; constructor <;> omega)
  · intro s p0 p1
    have a0 := hU.ne (j := 1) (by omega) (by omega); have a1 := hU.ne (j := 547 + 84 * s + 7) (by omega) (by omega); (have g0 := hGC s; constructor <;> omega)
  · intro s p0 p1
    have a0 := hU.ne (j := 1) (by omega) (by omega); have a1 := hU.ne (j := 547 + 84 * s + 4) (by omega) (by omega); have a2 := hU.ne (j := 547 + 84 * s + 7) (by omega) (by omega); (have g0 := hGG s; constructor <;> omega)
  · intro s p0 p1
    have a0 := hU.ne (j := 1) (by omega) (by omega); have a1 := hU.ne (j := 547 + 84 * s + 5) (by omega) (by omega); (have g0 := hV s; refine ⟨?_, ?_, ?_⟩ <;> omega)
  · intro s o p0 p1 p2 p3
    intro hw
    have q11 := hSO s
    rcases (show s = q ∨ s ≠ q by omega) with rfl | hsq
    · rcases (show o = n ∨ o ≠ n by omega) with rfl | hoq
      · have a0 := hU.ne (j := 1) (by omega) (by omega); rcases hU.at (547 + 84 * s + 10) (by omega) with ⟨z1, a1⟩ | ⟨z1, a1⟩ <;> have a2 := hU.ne (j := 547 + 84 * s + 44 + 2 * o) (by omega) (by omega) <;> have a3 := hU.ne (j := 547 + 84 * s + 45 + 2 * o) (by omega) (by omega) <;> (have g0 := hP s o; constructor <;> omega)
      · clear hp; have a0 := hU.ne (j := 1) (by omega) (by omega); rcases hU.at (547 + 84 * s + 10) (by omega) with ⟨z1, a1⟩ | ⟨z1, a1⟩ <;> have a2 := hU.ne (j := 547 + 84 * s + 44 + 2 * o) (by omega) (by omega) <;> have a3 := hU.ne (j := 547 + 84 * s + 45 + 2 * o) (by omega) (by omega) <;> (have g0 := hP s o; constructor <;> omega)
    · have a0 := hU.ne (j := 1) (by omega) (by omega); rcases hU.at (547 + 84 * s + 10) (by omega) with ⟨z1, a1⟩ | ⟨z1, a1⟩ <;> have a2 := hU.ne (j := 547 + 84 * s + 44 + 2 * o) (by omega) (by omega) <;> have a3 := hU.ne (j := 547 + 84 * s + 45 + 2 * o) (by omega) (by omega) <;> (have g0 := hP s o; constructor <;> omega)
  · intro l p0 p1
    have a0 := hU.ne (j := 1) (by omega) (by omega); have a1 := hU.ne (j := 5) (by omega) (by omega); have a2 := hU.ne (j := 1051 + 16 * l + 0) (by omega) (by omega); (have g0 := hLS l; constructor <;> omega)
  · intro l p0 p1
    have a0 := hU.ne (j := 5) (by omega) (by omega); have a1 := hU.ne (j := 1051 + 16 * l + 3) (by omega) (by omega); (have g0 := hLL l; omega)
  · intro l p0 p1
    have a0 := hU.ne (j := 5) (by omega) (by omega); have a1 := hU.ne (j := 1051 + 16 * l + 4) (by omega) (by omega); (have g0 := hLT l; omega)
  · intro k p0 p1
    have a0 := hU.ne (j := 0) (by omega) (by omega); have a1 := hU.ne (j := 10) (by omega) (by omega); have a2 := hU.ne (j := 12919 + 8 * k + 0) (by omega) (by omega); (have g0 := hA0 k; constructor <;> omega)
  · intro k p0 p1
    have a0 := hU.ne (j := 0) (by omega) (by omega); have a1 := hU.ne (j := 10) (by omega) (by omega); have a2 := hU.ne (j := 12919 + 8 * k + 1) (by omega) (by omega); (have g0 := hA1 k; constructor <;> omega)
  · intro c p0 p1
    have a0 := hU.ne (j := 8) (by omega) (by omega)
    exact mo_CO.congr (fun j _ _ => (hU.ne (by omega) (by omega)).symm) (hC _ p0 (by omega))
set_option maxHeartbeats 4000000 in
theorem mo_w_LLAST (h : mo_RI x b R) (hU : mo_U R R' i v) (q : Int) (hi : i = 547 + 84 * q + 24) (hq : 0 ≤ q ∧ q < 6) (hv : v ≤ 2399) : mo_RI x b R' := by
  obtain ⟨hK, hT, hE, hSA, hSF, hSO, hSL, hSB, hGC, hGG, hV, hP, hLS, hLL, hLT, hA0, hA1, hC⟩ := h
  obtain ⟨k0, k1, k2, k3, k5, k6, k7, k8, k9, k10, k11, k12, k13⟩ := hK
  refine ⟨⟨by rw [hU.ne (j := 0) (by decide) (by omega)]; exact k0, by rw [hU.ne (j := 1) (by decide) (by omega)]; exact k1, by rw [hU.ne (j := 2) (by decide) (by omega)]; exact k2, by rw [hU.ne (j := 3) (by decide) (by omega)]; exact k3, by rw [hU.ne (j := 5) (by decide) (by omega)]; exact k5, by rw [hU.ne (j := 6) (by decide) (by omega)]; exact k6, by rw [hU.ne (j := 7) (by decide) (by omega)]; exact k7, by rw [hU.ne (j := 8) (by decide) (by omega)]; exact k8, by rw [hU.ne (j := 9) (by decide) (by omega)]; exact k9, by rw [hU.ne (j := 10) (by decide) (by omega)]; exact k10, by rw [hU.ne (j := 11) (by decide) (by omega)]; exact k11, by rw [hU.ne (j := 12) (by decide) (by omega)]; exact k12, by rw [hU.ne (j := 13) (by decide) (by omega)]; exact k13⟩, ?_, ?_, ?_, ?_, ?_, ?_, ?_, ?_, ?_, ?_, ?_, ?_, ?_, ?_, ?_, ?_, ?_⟩
  · intro t p0 p1
    have a0 := hU.ne (j := 0) (by omega) (by omega); have a1 := hU.ne (j := 20 + 5 * t + 2) (by omega) (by omega); (have g0 := hT t; omega)
  · intro d p0 p1
    have a0 := hU.ne (j := 147 + d) (by omega) (by omega); (have g0 := hE d; constructor <;> omega)
  · intro s p0 p1
    have a0 := hU.ne (j := 1) (by omega) (by omega); have a1 := hU.ne (j := 547 + 84 * s + 0) (by omega) (by omega); (have g0 := hSA s; constructor <;> omega)
  · intro s p0 p1
    have a0 := hU.ne (j := 1) (by omega) (by omega); have a1 := hU.ne (j := 547 + 84 * s + 8) (by omega) (by omega); (have g0 := hSF s; constructor <;> omega)
  · intro s p0 p1
    have a0 := hU.ne (j := 1) (by omega) (by omega); have a1 := hU.ne (j := 547 + 84 * s + 10) (by omega) (by omega); (have g0 := hSO s; constructor <;> omega)
  · intro s p0 p1
    have a0 := hU.ne (j := 1) (by omega) (by omega); rcases hU.at (547 + 84 * s + 24) (by omega) with ⟨z1, a1⟩ | ⟨z1, a1⟩ <;> (have g0 := hSL s; omega)
  · intro s k p0 p1 p2 p3
    have a0 := hU.ne (j := 1) (by omega) (by omega); have a1 := hU.ne (j := 547 + 84 * s + 33 + 3 * k) (by omega) (by omega); (have g0 := hSB s k; constructor <;> omega)
  · intro s p0 p1
    have a0 := hU.ne (j := 1) (by omega) (by omega); have a1 := hU.ne (j := 547 + 84 * s + 7) (by omega) (by omega); (have g0 := hGC s; constructor <;> omega)
  · intro s p0 p1
    have a0 := hU.ne (j := 1) (by omega) (by omega); have a1 := hU.ne (j := 547 + 84 * s + 4) (by omega) (by omega); have a2 := hU.ne (j := 547 + 84 * s + 7) (by omega) (by omega); (have g0 := hGG s; constructor <;> omega)
  · intro s p0 p1
    have a0 := hU.ne (j := 1) (by omega) (by omega); have a1 := hU.ne (j := 547 + 84 * s + 5) (by omega) (by omega); (have g0 := hV s; refine ⟨?_, ?_, ?_⟩ <;> omega)
  · intro s o p0 p1 p2 p3
    intro hw
    have q11 := hSO s
    have a0 := hU.ne (j := 1) (by omega) (by omega); have a1 := hU.ne (j := 547 + 84 * s + 10) (by omega) (by omega); have a2 := hU.ne (j := 547 + 84 * s + 44 + 2 * o) (by omega) (by omega); have a3 := hU.ne (j := 547 + 84 * s + 45 + 2 * o) (by omega) (by omega); (have g0 := hP s o; constructor <;> omega)
  · intro l p0 p1
    have a0 := hU.ne (j := 1) (by omega) (by omega); have a1 := hU.ne (j := 5) (by omega) (by omega); have a2 := hU.ne (j := 1051 + 16 * l + 0) (by omega) (by omega); (have g0 := hLS l; constructor <;> omega)
  · intro l p0 p1
    have a0 := hU.ne (j := 5) (by omega) (by omega); have a1 := hU.ne (j := 1051 + 16 * l + 3) (by omega) (by omega); (have g0 := hLL l; omega)
  · intro l p0 p1
    have a0 := hU.ne (j := 5) (by omega) (by omega); have a1 := hU.ne (j := 1051 + 16 * l + 4) (by omega) (by omega); (have g0 := hLT l; omega)
  · intro k p0 p1
    have a0 := hU.ne (j := 0) (by omega) (by omega); have a1 := hU.ne (j := 10) (by omega) (by omega); have a2 := hU.ne (j := 12919 + 8 * k + 0) (by omega) (by omega); (have g0 := hA0 k; constructor <;> omega)
  · intro k p0 p1
    have a0 := hU.ne (j := 0) (by omega) (by omega); have a1 := hU.ne (j := 10) (by omega) (by omega); have a2 := hU.ne (j := 12919 + 8 * k + 1) (by omega) (by omega); (have g0 := hA1 k; constructor <;> omega)
  · intro c p0 p1
    have a0 := hU.ne (j := 8) (by omega) (by omega)
    exact mo_CO.congr (fun j _ _ => (hU.ne (by omega) (by omega)).symm) (hC _ p0 (by omega))
set_option maxHeartbeats 4000000 in
theorem mo_w_TAB (h : mo_RI x b R) (hU : mo_U R R' i v) (q k : Int) (hi : i = 547 + 84 * q + 33 + 3 * k) (hq : 0 ≤ q ∧ q < 6) (hk : 0 ≤ k ∧ k < 4) (hv : 0 ≤ v ∧ v ≤ 5000) : mo_RI x b R' := by
  obtain ⟨hK, hT, hE, hSA, hSF, hSO, hSL, hSB, hGC, hGG, hV, hP, hLS, hLL, hLT, hA0, hA1, hC⟩ := h
  obtain ⟨k0, k1, k2, k3, k5, k6, k7, k8, k9, k10, k11, k12, k13⟩ := hK
  refine ⟨⟨by rw [hU.ne (j := 0) (by decide) (by omega)]; exact k0, by rw [hU.ne (j := 1) (by decide) (by omega)]; exact k1, by rw [hU.ne (j := 2) (by decide) (by omega)]; exact k2, by rw [hU.ne (j := 3) (by decide) (by omega)]; exact k3, by rw [hU.ne (j := 5) (by decide) (by omega)]; exact k5, by rw [hU.ne (j := 6) (by decide) (by omega)]; exact k6, by rw [hU.ne (j := 7) (by decide) (by omega)]; exact k7, by rw [hU.ne (j := 8) (by decide) (by omega)]; exact k8, by rw [hU.ne (j := 9) (by decide) (by omega)]; exact k9, by rw [hU.ne (j := 10) (by decide) (by omega)]; exact k10, by rw [hU.ne (j := 11) (by decide) (by omega)]; exact k11, by rw [hU.ne (j := 12) (by decide) (by omega)]; exact k12, by rw [hU.ne (j := 13) (by decide) (by omega)]; exact k13⟩, ?_, ?_, ?_, ?_, ?_, ?_, ?_, ?_, ?_, ?_, ?_, ?_, ?_, ?_, ?_, ?_, ?_⟩
  · intro t p0 p1
    have a0 := hU.ne (j := 0) (by omega) (by omega); have a1 := hU.ne (j := 20 + 5 * t + 2) (by omega) (by omega); (have g0 := hT t; omega)
  · intro d p0 p1
    have a0 := hU.ne (j := 147 + d) (by omega) (by omega); (have g0 := hE d; constructor <;> omega)
  · intro s p0 p1
    have a0 := hU.ne (j := 1) (by omega) (by omega); have a1 := hU.ne (j := 547 + 84 * s + 0) (by omega) (by omega); (have g0 := hSA s; constructor <;> omega)
  · intro s p0 p1
    have a0 := hU.ne (j := 1) (by omega) (by omega); have a1 := hU.ne (j := 547 + 84 * s + 8) (by omega) (by omega); (have g0 := hSF s; constructor <;> omega)
  · intro s p0 p1
    have a0 := hU.ne (j := 1) (by omega) (by omega); have a1 := hU.ne (j := 547 + 84 * s + 10) (by omega) (by omega); (have g0 := hSO s; constructor <;> omega)
  · intro s p0 p1
    have a0 := hU.ne (j := 1) (by omega) (by omega); have a1 := hU.ne (j := 547 + 84 * s + 24) (by omega) (by omega); (have g0 := hSL s; omega)
  · intro s k p0 p1 p2 p3
    have a0 := hU.ne (j := 1) (by omega) (by omega); rcases hU.at (547 + 84 * s + 33 + 3 * k) (by omega) with ⟨z1, a1⟩ | ⟨z1, a1⟩ <;> (have g0 := hSB s k; constructor <;> omega)
  · intro s p0 p1
    have a0 := hU.ne (j := 1) (by omega) (by omega); have a1 := hU.ne (j := 547 + 84 * s + 7) (by omega) (by omega); (have g0 := hGC s; constructor <;> omega)
  · intro s p0 p1
    have a0 := hU.ne (j := 1) (by omega) (by omega); have a1 := hU.ne (j := 547 + 84 * s + 4) (by omega) (by omega); have a2 := hU.ne (j := 547 + 84 * s + 7) (by omega) (by omega); (have g0 := hGG s; constructor <;> omega)
  · intro s p0 p1
    have a0 := hU.ne (j := 1) (by omega) (by omega); have a1 := hU.ne (j := 547 + 84 * s + 5) (by omega) (by omega); (have g0 := hV s; refine ⟨?_, ?_, ?_⟩ <;> omega)
  · intro s o p0 p1 p2 p3
    intro hw
    have q11 := hSO s
    have a0 := hU.ne (j := 1) (by omega) (by omega); have a1 := hU.ne (j := 547 + 84 * s + 10) (by omega) (by omega); have a2 := hU.ne (j := 547 + 84 * s + 44 + 2 * o) (by omega) (by omega); have a3 := hU.ne (j := 547 + 84 * s + 45 + 2 * o) (by omega) (by omega); (have g0 := hP s o; constructor <;> omega)
  · intro l p0 p1
    have a0 := hU.ne (j := 1) (by omega) (by omega); have a1 := hU.ne (j := 5) (by omega) (by omega); have a2 := hU.ne (j := 1051 + 16 * l + 0) (by omega) (by omega); (have g0 := hLS l; constructor <;> omega)
  · intro l p0 p1
    have a0 := hU.ne (j := 5) (by omega) (by omega); have a1 := hU.ne (j := 1051 + 16 * l + 3) (by omega) (by omega); (have g0 := hLL l; omega)
  · intro l p0 p1
    have a0 := hU.ne (j := 5) (by omega) (by omega); have a1 := hU.ne (j := 1051 + 16 * l + 4) (by omega) (by omega); (have g0 := hLT l; omega)
  · intro k p0 p1
    have a0 := hU.ne (j := 0) (by omega) (by omega); have a1 := hU.ne (j := 10) (by omega) (by omega); have a2 := hU.ne (j := 12919 + 8 * k + 0) (by omega) (by omega); (have g0 := hA0 k; constructor <;> omega)
  · intro k p0 p1
    have a0 := hU.ne (j := 0) (by omega) (by omega); have a1 := hU.ne (j := 10) (by omega) (by omega); have a2 := hU.ne (j := 12919 + 8 * k + 1) (by omega) (by omega); (have g0 := hA1 k; constructor <;> omega)
  · intro c p0 p1
    have a0 := hU.ne (j := 8) (by omega) (by omega)
    exact mo_CO.congr (fun j _ _ => (hU.ne (by omega) (by omega)).symm) (hC _ p0 (by omega))
set_option maxHeartbeats 4000000 in
theorem mo_w_ord (h : mo_RI x b R) (hU : mo_U R R' i v) (q k : Int) (hi : i = 547 + 84 * q + 44 + k) (hq : 0 ≤ q ∧ q < 6) (hk : 0 ≤ k ∧ 2 * R (547 + 84 * q + 10) ≤ k ∧ k < 40) : mo_RI x b R' := by
  obtain ⟨hK, hT, hE, hSA, hSF, hSO, hSL, hSB, hGC, hGG, hV, hP, hLS, hLL, hLT, hA0, hA1, hC⟩ := h
  obtain ⟨k0, k1, k2, k3, k5, k6, k7, k8, k9, k10, k11, k12, k13⟩ := hK
  refine ⟨⟨by rw [hU.ne (j := 0) (by decide) (by omega)]; exact k0, by rw [hU.ne (j := 1) (by decide) (by omega)]; exact k1, by rw [hU.ne (j := 2) (by decide) (by omega)]; exact k2, by rw [hU.ne (j := 3) (by decide) (by omega)]; exact k3, by rw [hU.ne (j := 5) (by decide) (by omega)]; exact k5, by rw [hU.ne (j := 6) (by decide) (by omega)]; exact k6, by rw [hU.ne (j := 7) (by decide) (by omega)]; exact k7, by rw [hU.ne (j := 8) (by decide) (by omega)]; exact k8, by rw [hU.ne (j := 9) (by decide) (by omega)]; exact k9, by rw [hU.ne (j := 10) (by decide) (by omega)]; exact k10, by rw [hU.ne (j := 11) (by decide) (by omega)]; exact k11, by rw [hU.ne (j := 12) (by decide) (by omega)]; exact k12, by rw [hU.ne (j := 13) (by decide) (by omega)]; exact k13⟩, ?_, ?_, ?_, ?_, ?_, ?_, ?_, ?_, ?_, ?_, ?_, ?_, ?_, ?_, ?_, ?_, ?_⟩
  · intro t p0 p1
    have a0 := hU.ne (j := 0) (by omega) (by omega); have a1 := hU.ne (j := 20 + 5 * t + 2) (by omega) (by omega); (have g0 := hT t; omega)
  · intro d p0 p1
    have a0 := hU.ne (j := 147 + d) (by omega) (by omega); (have g0 := hE d; constructor <;> omega)
  · intro s p0 p1
    have a0 := hU.ne (j := 1) (by omega) (by omega); have a1 := hU.ne (j := 547 + 84 * s + 0) (by omega) (by omega); (have g0 := hSA s; constructor <;> omega)
  · intro s p0 p1
    have a0 := hU.ne (j := 1) (by omega) (by omega); have a1 := hU.ne (j := 547 + 84 * s + 8) (by omega) (by omega); (have g0 := hSF s; constructor <;> omega)
  · intro s p0 p1
    have a0 := hU.ne (j := 1) (by omega) (by omega); have a1 := hU.ne (j := 547 + 84 * s + 10) (by omega) (by omega); (have g0 := hSO s; constructor <;> omega)
  · intro s p0 p1
    have a0 := hU.ne (j := 1) (by omega) (by omega); have a1 := hU.ne (j := 547 + 84 * s + 24) (by omega) (by omega); (have g0 := hSL s; omega)
  · intro s k p0 p1 p2 p3
    have a0 := hU.ne (j := 1) (by omega) (by omega); have a1 := hU.ne (j := 547 + 84 * s + 33 + 3 * k) (by omega) (by omega); (have g0 := hSB s k; constructor <;> omega)
  · intro s p0 p1
    have a0 := hU.ne (j := 1) (by omega) (by omega); have a1 := hU.ne (j := 547 + 84 * s + 7) (by omega) (by omega); (have g0 := hGC s; constructor <;> omega)
  · intro s p0 p1
    have a0 := hU.ne (j := 1) (by omega) (by omega); have a1 := hU.ne (j := 547 + 84 * s + 4) (by omega) (by omega); have a2 := hU.ne (j := 547 + 84 * s + 7) (by omega) (by omega); (have g0 := hGG s; constructor <;> omega)
  · intro s p0 p1
    have a0 := hU.ne (j := 1) (by omega) (by omega); have a1 := hU.ne (j := 547 + 84 * s + 5) (by omega) (by omega); (have g0 := hV s; refine ⟨?_, ?_, ?_⟩ <;> omega)
  · intro s o p0 p1 p2 p3
    intro hw
    have q11 := hSO s
    rcases (show s = q ∨ s ≠ q by omega) with rfl | hsq
    all_goals (have a0 := hU.ne (j := 1) (by omega) (by omega); have a1 := hU.ne (j := 547 + 84 * s + 10) (by omega) (by omega); rcases hU.at (547 + 84 * s + 44 + 2 * o) (by omega) with ⟨z2, a2⟩ | ⟨z2, a2⟩ <;> rcases hU.at (547 + 84 * s + 45 + 2 * o) (by omega) with ⟨z3, a3⟩ | ⟨z3, a3⟩ <;> (have g0 := hP s o; constructor <;> omega))
  · intro l p0 p1
    have a0 := hU.ne (j := 1) (by omega) (by omega); have a1 := hU.ne (j := 5) (by omega) (by omega); have a2 := hU.ne (j := 1051 + 16 * l + 0) (by omega) (by omega); (have g0 := hLS l; constructor <;> omega)
  · intro l p0 p1
    have a0 := hU.ne (j := 5) (by omega) (by omega); have a1 := hU.ne (j := 1051 + 16 * l + 3) (by omega) (by omega); (have g0 := hLL l; omega)
  · intro l p0 p1
    have a0 := hU.ne (j := 5) (by omega) (by omega); have a1 := hU.ne (j := 1051 + 16 * l + 4) (by omega) (by omega); (have g0 := hLT l; omega)
  · intro k p0 p1
    have a0 := hU.ne (j := 0) (by omega) (by omega); have a1 := hU.ne (j := 10) (by omega) (by omega); have a2 := hU.ne (j := 12919 + 8 * k + 0) (by omega) (by omega); (have g0 := hA0 k; constructor <;> omega)
  · intro k p0 p1
    have a0 := hU.ne (j := 0) (by omega) (by omega); have a1 := hU.ne (j := 10) (by omega) (by omega); have a2 := hU.ne (j := 12919 + 8 * k + 1) (by omega) (by omega); (have g0 := hA1 k; constructor <;> omega)
  · intro c p0 p1
    have a0 := hU.ne (j := 8) (by omega) (by omega)
    exact mo_CO.congr (fun j _ _ => (hU.ne (by omega) (by omega)).symm) (hC _ p0 (by omega))
set_option maxHeartbeats 4000000 in
theorem mo_w_land (h : mo_RI x b R) (hU : mo_U R R' i v) (l k : Int) (hi : i = 1051 + 16 * l + k) (hl : 0 ≤ l ∧ l < 60) (hk : 0 ≤ k ∧ k < 16 ∧ ((k ≠ 0 ∧ k ≠ 3 ∧ k ≠ 4) ∨ R 5 ≤ l)) : mo_RI x b R' := by
  obtain ⟨hK, hT, hE, hSA, hSF, hSO, hSL, hSB, hGC, hGG, hV, hP, hLS, hLL, hLT, hA0, hA1, hC⟩ := h
  obtain ⟨k0, k1, k2, k3, k5, k6, k7, k8, k9, k10, k11, k12, k13⟩ := hK
  refine ⟨⟨by rw [hU.ne (j := 0) (by decide) (by omega)]; exact k0, by rw [hU.ne (j := 1) (by decide) (by omega)]; exact k1, by rw [hU.ne (j := 2) (by decide) (by omega)]; exact k2, by rw [hU.ne (j := 3) (by decide) (by omega)]; exact k3, by rw [hU.ne (j := 5) (by decide) (by omega)]; exact k5, by rw [hU.ne (j := 6) (by decide) (by omega)]; exact k6, by rw [hU.ne (j := 7) (by decide) (by omega)]; exact k7, by rw [hU.ne (j := 8) (by decide) (by omega)]; exact k8, by rw [hU.ne (j := 9) (by decide) (by omega)]; exact k9, by rw [hU.ne (j := 10) (by decide) (by omega)]; exact k10, by rw [hU.ne (j := 11) (by decide) (by omega)]; exact k11, by rw [hU.ne (j := 12) (by decide) (by omega)]; exact k12, by rw [hU.ne (j := 13) (by decide) (by omega)]; exact k13⟩, ?_, ?_, ?_, ?_, ?_, ?_, ?_, ?_, ?_, ?_, ?_, ?_, ?_, ?_, ?_, ?_, ?_⟩
  · intro t p0 p1
    have a0 := hU.ne (j := 0) (by omega) (by omega); have a1 := hU.ne (j := 20 + 5 * t + 2) (by omega) (by omega); (have g0 := hT t; omega)
  · intro d p0 p1
    have a0 := hU.ne (j := 147 + d) (by omega) (by omega); (have g0 := hE d; constructor <;> omega)
  · intro s p0 p1
    have a0 := hU.ne (j := 1) (by omega) (by omega); have a1 := hU.ne (j := 547 + 84 * s + 0) (by omega) (by omega); (have g0 := hSA s; constructor <;> omega)
  · intro s p0 p1
    have a0 := hU.ne (j := 1) (by omega) (by omega); have a1 := hU.ne (j := 547 + 84 * s + 8) (by omega) (by omega); (have g0 := hSF s; constructor <;> omega)
  · intro s p0 p1
    have a0 := hU.ne (j := 1) (by omega) (by omega); have a1 := hU.ne (j := 547 + 84 * s + 10) (by omega) (by omega); (have g0 := hSO s; constructor <;> omega)
  · intro s p0 p1
    have a0 := hU.ne (j := 1) (by omega) (by omega); have a1 := hU.ne (j := 547 + 84 * s + 24) (by omega) (by omega); (have g0 := hSL s; omega)
  · intro s k p0 p1 p2 p3
    have a0 := hU.ne (j := 1) (by omega) (by omega); have a1 := hU.ne (j := 547 + 84 * s + 33 + 3 * k) (by omega) (by omega); (have g0 := hSB s k; constructor <;> omega)
  · intro s p0 p1
    have a0 := hU.ne (j := 1) (by omega) (by omega); have a1 := hU.ne (j := 547 + 84 * s + 7) (by omega) (by omega); (have g0 := hGC s; constructor <;> omega)
  · intro s p0 p1
    have a0 := hU.ne (j := 1) (by omega) (by omega); have a1 := hU.ne (j := 547 + 84 * s + 4) (by omega) (by omega); have a2 := hU.ne (j := 547 + 84 * s + 7) (by omega) (by omega); (have g0 := hGG s; constructor <;> omega)
  · intro s p0 p1
    have a0 := hU.ne (j := 1) (by omega) (by omega); have a1 := hU.ne (j := 547 + 84 * s + 5) (by omega) (by omega); (have g0 := hV s; refine ⟨?_, ?_, ?_⟩ <;> omega)
  · intro s o p0 p1 p2 p3
    intro hw
    have q11 := hSO s
    have a0 := hU.ne (j := 1) (by omega) (by omega); have a1 := hU.ne (j := 547 + 84 * s + 10) (by omega) (by omega); have a2 := hU.ne (j := 547 + 84 * s + 44 + 2 * o) (by omega) (by omega); have a3 := hU.ne (j := 547 + 84 * s + 45 + 2 * o) (by omega) (by omega); (have g0 := hP s o; constructor <;> omega)
  · intro l p0 p1
    have a0 := hU.ne (j := 1) (by omega) (by omega); have a1 := hU.ne (j := 5) (by omega) (by omega); have a2 := hU.ne (j := 1051 + 16 * l + 0) (by omega) (by omega); (have g0 := hLS l; constructor <;> omega)
  · intro l p0 p1
    have a0 := hU.ne (j := 5) (by omega) (by omega); have a1 := hU.ne (j := 1051 + 16 * l + 3) (by omega) (by omega); (have g0 := hLL l; omega)
  · intro l p0 p1
    have a0 := hU.ne (j := 5) (by omega) (by omega); have a1 := hU.ne (j := 1051 + 16 * l + 4) (by omega) (by omega); (have g0 := hLT l; omega)
  · intro k p0 p1
    have a0 := hU.ne (j := 0) (by omega) (by omega); have a1 := hU.ne (j := 10) (by omega) (by omega); have a2 := hU.ne (j := 12919 + 8 * k + 0) (by omega) (by omega); (have g0 := hA0 k; constructor <;> omega)
  · intro k p0 p1
    have a0 := hU.ne (j := 0) (by omega) (by omega); have a1 := hU.ne (j := 10) (by omega) (by omega); have a2 := hU.ne (j := 12919 + 8 * k + 1) (by omega) (by omega); (have g0 := hA1 k; constructor <;> omega)
  · intro c p0 p1
    have a0 := hU.ne (j := 8) (by omega) (by omega)
    exact mo_CO.congr (fun j _ _ => (hU.ne (by omega) (by omega)).symm) (hC _ p0 (by omega))
set_option maxHeartbeats 4000000 in
theorem mo_w_cargo (h : mo_RI x b R) (hU : mo_U R R' i v) (c k : Int) (hi : i = 12919 + 8 * c + k) (hl : 0 ≤ c ∧ c < 6) (hk : 0 ≤ k ∧ k < 8 ∧ ((k ≠ 0 ∧ k ≠ 1) ∨ R 10 ≤ c)) : mo_RI x b R' := by
  obtain ⟨hK, hT, hE, hSA, hSF, hSO, hSL, hSB, hGC, hGG, hV, hP, hLS, hLL, hLT, hA0, hA1, hC⟩ := h
  obtain ⟨k0, k1, k2, k3, k5, k6, k7, k8, k9, k10, k11, k12, k13⟩ := hK
  refine ⟨⟨by rw [hU.ne (j := 0) (by decide) (by omega)]; exact k0, by rw [hU.ne (j := 1) (by decide) (by omega)]; exact k1, by rw [hU.ne (j := 2) (by decide) (by omega)]; exact k2, by rw [hU.ne (j := 3) (by decide) (by omega)]; exact k3, by rw [hU.ne (j := 5) (by decide) (by omega)]; exact k5, by rw [hU.ne (j := 6) (by decide) (by omega)]; exact k6, by rw [hU.ne (j := 7) (by decide) (by omega)]; exact k7, by rw [hU.ne (j := 8) (by decide) (by omega)]; exact k8, by rw [hU.ne (j := 9) (by decide) (by omega)]; exact k9, by rw [hU.ne (j := 10) (by decide) (by omega)]; exact k10, by rw [hU.ne (j := 11) (by decide) (by omega)]; exact k11, by rw [hU.ne (j := 12) (by decide) (by omega)]; exact k12, by rw [hU.ne (j := 13) (by decide) (by omega)]; exact k13⟩, ?_, ?_, ?_, ?_, ?_, ?_, ?_, ?_, ?_, ?_, ?_, ?_, ?_, ?_, ?_, ?_, ?_⟩
  · intro t p0 p1
    have a0 := hU.ne (j := 0) (by omega) (by omega); have a1 := hU.ne (j := 20 + 5 * t + 2) (by omega) (by omega); (have g0 := hT t; omega)
  · intro d p0 p1
    have a0 := hU.ne (j := 147 + d) (by omega) (by omega); (have g0 := hE d; constructor <;> omega)
  · intro s p0 p1
    have a0 := hU.ne (j := 1) (by omega) (by omega); have a1 := hU.ne (j := 547 + 84 * s + 0) (by omega) (by omega); (have g0 := hSA s; constructor <;> omega)
  · intro s p0 p1
    have a0 := hU.ne (j := 1) (by omega) (by omega); have a1 := hU.ne (j := 547 + 84 * s + 8) (by omega) (by omega); (have g0 := hSF s; constructor <;> omega)
  · intro s p0 p1
    have a0 := hU.ne (j := 1) (by omega) (by omega); have a1 := hU.ne (j := 547 + 84 * s + 10) (by omega) (by omega); (have g0 := hSO s; constructor <;> omega)
  · intro s p0 p1
    have a0 := hU.ne (j := 1) (by omega) (by omega); have a1 := hU.ne (j := 547 + 84 * s + 24) (by omega) (by omega); (have g0 := hSL s; omega)
  · intro s k p0 p1 p2 p3
    have a0 := hU.ne (j := 1) (by omega) (by omega); have a1 := hU.ne (j := 547 + 84 * s + 33 + 3 * k) (by omega) (by omega); (have g0 := hSB s k; constructor <;> omega)
  · intro s p0 p1
    have a0 := hU.ne (j := 1) (by omega) (by omega); have a1 := hU.ne (j := 547 + 84 * s + 7) (by omega) (by omega); (have g0 := hGC s; constructor <;> omega)
  · intro s p0 p1
    have a0 := hU.ne (j := 1) (by omega) (by omega); have a1 := hU.ne (j := 547 + 84 * s + 4) (by omega) (by omega); have a2 := hU.ne (j := 547 + 84 * s + 7) (by omega) (by omega); (have g0 := hGG s; constructor <;> omega)
  · intro s p0 p1
    have a0 := hU.ne (j := 1) (by omega) (by omega); have a1 := hU.ne (j := 547 + 84 * s + 5) (by omega) (by omega); (have g0 := hV s; refine ⟨?_, ?_, ?_⟩ <;> omega)
  · intro s o p0 p1 p2 p3
    intro hw
    have q11 := hSO s
    have a0 := hU.ne (j := 1) (by omega) (by omega); have a1 := hU.ne (j := 547 + 84 * s + 10) (by omega) (by omega); have a2 := hU.ne (j := 547 + 84 * s + 44 + 2 * o) (by omega) (by omega); have a3 := hU.ne (j := 547 + 84 * s + 45 + 2 * o) (by omega) (by omega); (have g0 := hP s o; constructor <;> omega)
  · intro l p0 p1
    have a0 := hU.ne (j := 1) (by omega) (by omega); have a1 := hU.ne (j := 5) (by omega) (by omega); have a2 := hU.ne (j := 1051 + 16 * l + 0) (by omega) (by omega); (have g0 := hLS l; constructor <;> omega)
  · intro l p0 p1
    have a0 := hU.ne (j := 5) (by omega) (by omega); have a1 := hU.ne (j := 1051 + 16 * l + 3) (by omega) (by omega); (have g0 := hLL l; omega)
  · intro l p0 p1
    have a0 := hU.ne (j := 5) (by omega) (by omega); have a1 := hU.ne (j := 1051 + 16 * l + 4) (by omega) (by omega); (have g0 := hLT l; omega)
  · intro k p0 p1
    have a0 := hU.ne (j := 0) (by omega) (by omega); have a1 := hU.ne (j := 10) (by omega) (by omega); have a2 := hU.ne (j := 12919 + 8 * k + 0) (by omega) (by omega); (have g0 := hA0 k; constructor <;> omega)
  · intro k p0 p1
    have a0 := hU.ne (j := 0) (by omega) (by omega); have a1 := hU.ne (j := 10) (by omega) (by omega); have a2 := hU.ne (j := 12919 + 8 * k + 1) (by omega) (by omega); (have g0 := hA1 k; constructor <;> omega)
  · intro c p0 p1
    have a0 := hU.ne (j := 8) (by omega) (by omega)
    exact mo_CO.congr (fun j _ _ => (hU.ne (by omega) (by omega)).symm) (hC _ p0 (by omega))
set_option maxHeartbeats 4000000 in
theorem mo_w_con (h : mo_RI x b R) (hU : mo_U R R' i v) (c k : Int) (hi : i = 2251 + 864 * c + k) (hl : 0 ≤ c ∧ c < 12) (hk : 0 ≤ k ∧ k < 864) (hc : R 8 ≤ c) : mo_RI x b R' := by
  obtain ⟨hK, hT, hE, hSA, hSF, hSO, hSL, hSB, hGC, hGG, hV, hP, hLS, hLL, hLT, hA0, hA1, hC⟩ := h
  obtain ⟨k0, k1, k2, k3, k5, k6, k7, k8, k9, k10, k11, k12, k13⟩ := hK
  refine ⟨⟨by rw [hU.ne (j := 0) (by decide) (by omega)]; exact k0, by rw [hU.ne (j := 1) (by decide) (by omega)]; exact k1, by rw [hU.ne (j := 2) (by decide) (by omega)]; exact k2, by rw [hU.ne (j := 3) (by decide) (by omega)]; exact k3, by rw [hU.ne (j := 5) (by decide) (by omega)]; exact k5, by rw [hU.ne (j := 6) (by decide) (by omega)]; exact k6, by rw [hU.ne (j := 7) (by decide) (by omega)]; exact k7, by rw [hU.ne (j := 8) (by decide) (by omega)]; exact k8, by rw [hU.ne (j := 9) (by decide) (by omega)]; exact k9, by rw [hU.ne (j := 10) (by decide) (by omega)]; exact k10, by rw [hU.ne (j := 11) (by decide) (by omega)]; exact k11, by rw [hU.ne (j := 12) (by decide) (by omega)]; exact k12, by rw [hU.ne (j := 13) (by decide) (by omega)]; exact k13⟩, ?_, ?_, ?_, ?_, ?_, ?_, ?_, ?_, ?_, ?_, ?_, ?_, ?_, ?_, ?_, ?_, ?_⟩
  · intro t p0 p1
    have a0 := hU.ne (j := 0) (by omega) (by omega); have a1 := hU.ne (j := 20 + 5 * t + 2) (by omega) (by omega); (have g0 := hT t; omega)
  · intro d p0 p1
    have a0 := hU.ne (j := 147 + d) (by omega) (by omega); (have g0 := hE d; constructor <;> omega)
  · intro s p0 p1
    have a0 := hU.ne (j := 1) (by omega) (by omega); have a1 := hU.ne (j := 547 + 84 * s + 0) (by omega) (by omega); (have g0 := hSA s; constructor <;> omega)
  · intro s p0 p1
    have a0 := hU.ne (j := 1) (by omega) (by omega); have a1 := hU.ne (j := 547 + 84 * s + 8) (by omega) (by omega); (have g0 := hSF s; constructor <;> omega)
  · intro s p0 p1
    have a0 := hU.ne (j := 1) (by omega) (by omega); have a1 := hU.ne (j := 547 + 84 * s + 10) (by omega) (by omega); (have g0 := hSO s; constructor <;> omega)
  · intro s p0 p1
    have a0 := hU.ne (j := 1) (by omega) (by omega); have a1 := hU.ne (j := 547 + 84 * s + 24) (by omega) (by omega); (have g0 := hSL s; omega)
  · intro s k p0 p1 p2 p3
    have a0 := hU.ne (j := 1) (by omega) (by omega); have a1 := hU.ne (j := 547 + 84 * s + 33 + 3 * k) (by omega) (by omega); (have g0 := hSB s k; constructor <;> omega)
  · intro s p0 p1
    have a0 := hU.ne (j := 1) (by omega) (by omega); have a1 := hU.ne (j := 547 + 84 * s + 7) (by omega) (by omega); (have g0 := hGC s; constructor <;> omega)
  · intro s p0 p1
    have a0 := hU.ne (j := 1) (by omega) (by omega); have a1 := hU.ne (j := 547 + 84 * s + 4) (by omega) (by omega); have a2 := hU.ne (j := 547 + 84 * s + 7) (by omega) (by omega); (have g0 := hGG s; constructor <;> omega)
  · intro s p0 p1
    have a0 := hU.ne (j := 1) (by omega) (by omega); have a1 := hU.ne (j := 547 + 84 * s + 5) (by omega) (by omega); (have g0 := hV s; refine ⟨?_, ?_, ?_⟩ <;> omega)
  · intro s o p0 p1 p2 p3
    intro hw
    have q11 := hSO s
    have a0 := hU.ne (j := 1) (by omega) (by omega); have a1 := hU.ne (j := 547 + 84 * s + 10) (by omega) (by omega); have a2 := hU.ne (j := 547 + 84 * s + 44 + 2 * o) (by omega) (by omega); have a3 := hU.ne (j := 547 + 84 * s + 45 + 2 * o) (by omega) (by omega); (have g0 := hP s o; constructor <;> omega)
  · intro l p0 p1
    have a0 := hU.ne (j := 1) (by omega) (by omega); have a1 := hU.ne (j := 5) (by omega) (by omega); have a2 := hU.ne (j := 1051 + 16 * l + 0) (by omega) (by omega); (have g0 := hLS l; constructor <;> omega)
  · intro l p0 p1
    have a0 := hU.ne (j := 5) (by omega) (by omega); have a1 := hU.ne (j := 1051 + 16 * l + 3) (by omega) (by omega); (have g0 := hLL l; omega)
  · intro l p0 p1
    have a0 := hU.ne (j := 5) (by omega) (by omega); have a1 := hU.ne (j := 1051 + 16 * l + 4) (by omega) (by omega); (have g0 := hLT l; omega)
  · intro k p0 p1
    have a0 := hU.ne (j := 0) (by omega) (by omega); have a1 := hU.ne (j := 10) (by omega) (by omega); have a2 := hU.ne (j := 12919 + 8 * k + 0) (by omega) (by omega); (have g0 := hA0 k; constructor <;> omega)
  · intro k p0 p1
    have a0 := hU.ne (j := 0) (by omega) (by omega); have a1 := hU.ne (j := 10) (by omega) (by omega); have a2 := hU.ne (j := 12919 + 8 * k + 1) (by omega) (by omega); (have g0 := hA1 k; constructor <;> omega)
  · intro c p0 p1
    have a0 := hU.ne (j := 8) (by omega) (by omega)
    exact mo_CO.congr (fun j _ _ => (hU.ne (by omega) (by omega)).symm) (hC _ p0 (by omega))
def mo_SH (Q R : Int → Int) (a m : Int) : Prop := ∀ j, 0 ≤ j → R j = if a ≤ j ∧ j < a + m then Q (j + 2) else Q j
theorem mo_SH.rf {Q : Int → Int} {a m : Int} (h : m ≤ 0) : mo_SH Q Q a m := fun j _ => by rw [if_neg (by omega)]
theorem mo_SH.out {Q R : Int → Int} {a m j : Int} (h : mo_SH Q R a m) (h0 : 0 ≤ j) (hn : j < a ∨ a + m ≤ j) : R j = Q j := by rw [h j h0, if_neg (by omega)]
theorem mo_SH.inn {Q R : Int → Int} {a m j : Int} (h : mo_SH Q R a m) (h0 : 0 ≤ j) (h1 : a ≤ j) (h2 : j < a + m) : R j = Q (j + 2) := by rw [h j h0, if_pos ⟨h1, h2⟩]
theorem mo_SH.to {Q R : Int → Int} {a m n : Int} (h : mo_SH Q R a m) (e : m = n) : mo_SH Q R a n := by rw [← e]; exact h
theorem mo_SH.up {Q R R' : Int → Int} {a m i v : Int} (h : mo_SH Q R a m) (hU : mo_U R R' i v) (hi : i = a + m) (hv : v = Q (a + m + 2)) (hm : 0 ≤ m) (n : Int) (hn : n = m + 1) : mo_SH Q R' a n := by
  intro j hj
  rcases hU.at j hj with ⟨z, e⟩ | ⟨z, e⟩
  · rw [e, if_pos (by omega), hv, z, hi]
  · rw [e, h j hj]
    by_cases q : a ≤ j ∧ j < a + m
    · rw [if_pos q, if_pos (by omega)]
    · rw [if_neg q, if_neg (by omega)]
set_option maxHeartbeats 4000000 in
theorem mo_RI.ords (h : mo_RI x b R) (q : Int) (hq : 0 ≤ q ∧ q < 6) (e : ∀ j, 0 ≤ j → j ≠ 547 + 84 * q + 10 → (j < 547 + 84 * q + 44 ∨ 547 + 84 * q + 84 ≤ j) → R' j = R j) (hO : 0 ≤ R' (547 + 84 * q + 10) ∧ R' (547 + 84 * q + 10) ≤ 20)
    (hQ : ∀ o, 0 ≤ o → o < R' (547 + 84 * q + 10) → R' (547 + 84 * q + 44 + 2 * o) = 0 → 0 ≤ R' (547 + 84 * q + 45 + 2 * o) ∧ R' (547 + 84 * q + 45 + 2 * o) ≤ 5) : mo_RI x b R' := by
  obtain ⟨hK, hT, hE, hSA, hSF, hSO, hSL, hSB, hGC, hGG, hV, hP, hLS, hLL, hLT, hA0, hA1, hC⟩ := h
  obtain ⟨k0, k1, k2, k3, k5, k6, k7, k8, k9, k10, k11, k12, k13⟩ := hK
  refine ⟨⟨by rw [e 0 (by omega) (by omega) (by omega)]; exact k0, by rw [e 1 (by omega) (by omega) (by omega)]; exact k1, by rw [e 2 (by omega) (by omega) (by omega)]; exact k2, by rw [e 3 (by omega) (by omega) (by omega)]; exact k3, by rw [e 5 (by omega) (by omega) (by omega)]; exact k5, by rw [e 6 (by omega) (by omega) (by omega)]; exact k6, by rw [e 7 (by omega) (by omega) (by omega)]; exact k7, by rw [e 8 (by omega) (by omega) (by omega)]; exact k8, by rw [e 9 (by omega) (by omega) (by omega)]; exact k9, by rw [e 10 (by omega) (by omega) (by omega)]; exact k10, by rw [e 11 (by omega) (by omega) (by omega)]; exact k11, by rw [e 12 (by omega) (by omega) (by omega)]; exact k12, by rw [e 13 (by omega) (by omega) (by omega)]; exact k13⟩, ?_, ?_, ?_, ?_, ?_, ?_, ?_, ?_, ?_, ?_, ?_, ?_, ?_, ?_, ?_, ?_, ?_⟩
  · intro t p0 p1
    have q0 := e 0 (by omega) (by omega) (by omega)
    have r0 := e (20 + 5 * t + 2) (by omega) (by omega) (by omega)
    have g0 := hT t
    omega
  · intro d p0 p1
    have r0 := e (147 + d) (by omega) (by omega) (by omega)
    have g0 := hE d
    constructor <;> omega
  · intro s p0 p1
    have q1 := e 1 (by omega) (by omega) (by omega)
    have r0 := e (547 + 84 * s + 0) (by omega) (by omega) (by omega)
    have g0 := hSA s
    constructor <;> omega
  · intro s p0 p1
    have q1 := e 1 (by omega) (by omega) (by omega)
    have r0 := e (547 + 84 * s + 8) (by omega) (by omega) (by omega)
    have g0 := hSF s
    constructor <;> omega
  · intro s p0 p1
    have q1 := e 1 (by omega) (by omega) (by omega)
    rcases (show s = q ∨ s ≠ q by omega) with rfl | hsq
    · exact hO
    · have r0 := e (547 + 84 * s + 10) (by omega) (by omega) (by omega)
      have g0 := hSO s
      constructor <;> omega
  · intro s p0 p1
    have q1 := e 1 (by omega) (by omega) (by omega)
    have r0 := e (547 + 84 * s + 24) (by omega) (by omega) (by omega)
    have g0 := hSL s
    omega
  · intro s k p0 p1 p2 p3
    have q1 := e 1 (by omega) (by omega) (by omega)
    have r0 := e (547 + 84 * s + 33 + 3 * k) (by omega) (by omega) (by omega)
    have g0 := hSB s k
    constructor <;> omega
  · intro s p0 p1
    have q1 := e 1 (by omega) (by omega) (by omega)
    have r0 := e (547 + 84 * s + 7) (by omega) (by omega) (by omega)
    have g0 := hGC s
    constructor <;> omega
  · intro s p0 p1
    have q1 := e 1 (by omega) (by omega) (by omega)
    have r0 := e (547 + 84 * s + 4) (by omega) (by omega) (by omega)
    have r1 := e (547 + 84 * s + 7) (by omega) (by omega) (by omega)
    have g0 := hGG s
    constructor <;> omega
  · intro s p0 p1
    have q1 := e 1 (by omega) (by omega) (by omega)
    have r0 := e (547 + 84 * s + 5) (by omega) (by omega) (by omega)
    have g0 := hV s
    refine ⟨?_, ?_, ?_⟩ <;> omega
  · intro s o p0 p1 p2 p3
    have q1 := e 1 (by omega) (by omega) (by omega)
    rcases (show s = q ∨ s ≠ q by omega) with rfl | hsq
    · exact hQ o p2 p3
    · have r0 := e (547 + 84 * s + 10) (by omega) (by omega) (by omega)
      have q11 := hSO s p0 (by omega)
      have r1 := e (547 + 84 * s + 44 + 2 * o) (by omega) (by omega) (by omega)
      have r2 := e (547 + 84 * s + 45 + 2 * o) (by omega) (by omega) (by omega)
      have g0 := hP s o
      intro hw
      constructor <;> omega
  · intro l p0 p1
    have q1 := e 1 (by omega) (by omega) (by omega)
    have q5 := e 5 (by omega) (by omega) (by omega)
    have r0 := e (1051 + 16 * l + 0) (by omega) (by omega) (by omega)
    have g0 := hLS l
    constructor <;> omega
  · intro l p0 p1
    have q5 := e 5 (by omega) (by omega) (by omega)
    have r0 := e (1051 + 16 * l + 3) (by omega) (by omega) (by omega)
    have g0 := hLL l
    omega
  · intro l p0 p1
    have q5 := e 5 (by omega) (by omega) (by omega)
    have r0 := e (1051 + 16 * l + 4) (by omega) (by omega) (by omega)
    have g0 := hLT l
    omega
  · intro k p0 p1
    have q0 := e 0 (by omega) (by omega) (by omega)
    have q10 := e 10 (by omega) (by omega) (by omega)
    have r0 := e (12919 + 8 * k + 0) (by omega) (by omega) (by omega)
    have g0 := hA0 k
    constructor <;> omega
  · intro k p0 p1
    have q0 := e 0 (by omega) (by omega) (by omega)
    have q10 := e 10 (by omega) (by omega) (by omega)
    have r0 := e (12919 + 8 * k + 1) (by omega) (by omega) (by omega)
    have g0 := hA1 k
    constructor <;> omega
  · intro c p0 p1
    have q8 := e 8 (by omega) (by omega) (by omega)
    exact mo_CO.congr (fun j _ _ => (e _ (by omega) (by omega) (by omega)).symm) (hC c p0 (by omega))
end MOW
end
section
theorem gX12_tide_X12_in : GoodIn WALL (va_wsS RX12 99 yX12_in wqX12_in) := wg_S wa_213 wa_214 wa_5 wa_215
theorem gX12_tide_X12_told : GoodIn WALL (wsV RX12 105 RX12 yX12_told wqX12_told) := wg_V wa_216 wa_217 wa_218 wa_5 wa_219
theorem dX12_tide_0 : decode cX12_tide 0 = .ok (.aload_n 0, 1) := od_42  (by decide +kernel)
theorem dX12_tide_1 : decode cX12_tide 1 = .ok (.iconst 0, 1) := od_3  (by decide +kernel)
theorem dX12_tide_2 : decode cX12_tide 2 = .ok (.putfield 91, 3) := od_181 (a := 0) (b := 91) (by decide +kernel) (by decide)
theorem dX12_tide_5 : decode cX12_tide 5 = .ok (.iload_n 1, 1) := od_27  (by decide +kernel)
theorem dX12_tide_6 : decode cX12_tide 6 = .ok (.i2l, 1) := od_133  (by decide +kernel)
theorem dX12_tide_7 : decode cX12_tide 7 = .ok (.lconst 0, 1) := od_9  (by decide +kernel)
theorem dX12_tide_8 : decode cX12_tide 8 = .ok (.ldc2_w 137, 3) := od_20 (a := 0) (b := 137) (by decide +kernel) (by decide)
theorem dX12_tide_11 : decode cX12_tide 11 = .ok (.invokestatic 99, 3) := od_184 (a := 0) (b := 99) (by decide +kernel) (by decide)
theorem dX12_tide_14 : decode cX12_tide 14 = .ok (.ifCond .eq 15, 3) := od_153 (a := 0) (b := 15) (by decide +kernel) (by decide +kernel)
theorem dX12_tide_17 : decode cX12_tide 17 = .ok (.iload_n 2, 1) := od_28  (by decide +kernel)
theorem dX12_tide_18 : decode cX12_tide 18 = .ok (.i2l, 1) := od_133  (by decide +kernel)
theorem dX12_tide_19 : decode cX12_tide 19 = .ok (.lconst 0, 1) := od_9  (by decide +kernel)
theorem dX12_tide_20 : decode cX12_tide 20 = .ok (.ldc2_w 139, 3) := od_20 (a := 0) (b := 139) (by decide +kernel) (by decide)
theorem dX12_tide_23 : decode cX12_tide 23 = .ok (.invokestatic 99, 3) := od_184 (a := 0) (b := 99) (by decide +kernel) (by decide)
theorem dX12_tide_26 : decode cX12_tide 26 = .ok (.ifCond .ne 9, 3) := od_154 (a := 0) (b := 9) (by decide +kernel) (by decide +kernel)
theorem dX12_tide_29 : decode cX12_tide 29 = .ok (.aload_n 0, 1) := od_42  (by decide +kernel)
theorem dX12_tide_30 : decode cX12_tide 30 = .ok (.iconst (-1), 1) := od_2  (by decide +kernel)
theorem dX12_tide_31 : decode cX12_tide 31 = .ok (.invokevirtual 105, 3) := od_182 (a := 0) (b := 105) (by decide +kernel) (by decide)
theorem dX12_tide_34 : decode cX12_tide 34 = .ok (.ireturn, 1) := od_172  (by decide +kernel)
theorem dX12_tide_35 : decode cX12_tide 35 = .ok (.aload_n 0, 1) := od_42  (by decide +kernel)
theorem dX12_tide_36 : decode cX12_tide 36 = .ok (.getfield 7, 3) := od_180 (a := 0) (b := 7) (by decide +kernel) (by decide)
theorem dX12_tide_39 : decode cX12_tide 39 = .ok (.bipush 122, 2) := od_16 (a := 122) (by decide +kernel) (by decide +kernel)
theorem dX12_tide_41 : decode cX12_tide 41 = .ok (.iload_n 1, 1) := od_27  (by decide +kernel)
theorem dX12_tide_42 : decode cX12_tide 42 = .ok (.iadd, 1) := od_96  (by decide +kernel)
theorem dX12_tide_43 : decode cX12_tide 43 = .ok (.iload_n 2, 1) := od_28  (by decide +kernel)
theorem dX12_tide_44 : decode cX12_tide 44 = .ok (.iastore, 1) := od_79  (by decide +kernel)
theorem dX12_tide_45 : decode cX12_tide 45 = .ok (.aload_n 0, 1) := od_42  (by decide +kernel)
theorem dX12_tide_46 : decode cX12_tide 46 = .ok (.iconst 0, 1) := od_3  (by decide +kernel)
theorem dX12_tide_47 : decode cX12_tide 47 = .ok (.invokevirtual 105, 3) := od_182 (a := 0) (b := 105) (by decide +kernel) (by decide)
theorem dX12_tide_50 : decode cX12_tide 50 = .ok (.ireturn, 1) := od_172  (by decide +kernel)
theorem gX12_sea_X12_isDay : GoodIn WALL (va_wsS RX12 141 yX12_isDay wqX12_isDay) := wg_S wa_312 wa_313 wa_5 wa_314
theorem gX12_sea_X12_in : GoodIn WALL (va_wsS RX12 99 yX12_in wqX12_in) := wg_S wa_213 wa_214 wa_5 wa_215
theorem gX12_sea_X12_told : GoodIn WALL (wsV RX12 105 RX12 yX12_told wqX12_told) := wg_V wa_216 wa_217 wa_218 wa_5 wa_219
theorem dX12_sea_0 : decode cX12_sea 0 = .ok (.aload_n 0, 1) := od_42  (by decide +kernel)
theorem dX12_sea_1 : decode cX12_sea 1 = .ok (.iconst 0, 1) := od_3  (by decide +kernel)
theorem dX12_sea_2 : decode cX12_sea 2 = .ok (.putfield 91, 3) := od_181 (a := 0) (b := 91) (by decide +kernel) (by decide)
theorem dX12_sea_5 : decode cX12_sea 5 = .ok (.iload_n 1, 1) := od_27  (by decide +kernel)
theorem dX12_sea_6 : decode cX12_sea 6 = .ok (.invokestatic 141, 3) := od_184 (a := 0) (b := 141) (by decide +kernel) (by decide)
theorem dX12_sea_9 : decode cX12_sea 9 = .ok (.ifCond .eq 15, 3) := od_153 (a := 0) (b := 15) (by decide +kernel) (by decide +kernel)
theorem dX12_sea_12 : decode cX12_sea 12 = .ok (.iload_n 2, 1) := od_28  (by decide +kernel)
theorem dX12_sea_13 : decode cX12_sea 13 = .ok (.i2l, 1) := od_133  (by decide +kernel)
theorem dX12_sea_14 : decode cX12_sea 14 = .ok (.lconst 0, 1) := od_9  (by decide +kernel)
theorem dX12_sea_15 : decode cX12_sea 15 = .ok (.ldc2_w 139, 3) := od_20 (a := 0) (b := 139) (by decide +kernel) (by decide)
theorem dX12_sea_18 : decode cX12_sea 18 = .ok (.invokestatic 99, 3) := od_184 (a := 0) (b := 99) (by decide +kernel) (by decide)
theorem dX12_sea_21 : decode cX12_sea 21 = .ok (.ifCond .ne 9, 3) := od_154 (a := 0) (b := 9) (by decide +kernel) (by decide +kernel)
theorem dX12_sea_24 : decode cX12_sea 24 = .ok (.aload_n 0, 1) := od_42  (by decide +kernel)
theorem dX12_sea_25 : decode cX12_sea 25 = .ok (.iconst (-1), 1) := od_2  (by decide +kernel)
theorem dX12_sea_26 : decode cX12_sea 26 = .ok (.invokevirtual 105, 3) := od_182 (a := 0) (b := 105) (by decide +kernel) (by decide)
theorem dX12_sea_29 : decode cX12_sea 29 = .ok (.ireturn, 1) := od_172  (by decide +kernel)
theorem dX12_sea_30 : decode cX12_sea 30 = .ok (.aload_n 0, 1) := od_42  (by decide +kernel)
theorem dX12_sea_31 : decode cX12_sea 31 = .ok (.getfield 7, 3) := od_180 (a := 0) (b := 7) (by decide +kernel) (by decide)
theorem dX12_sea_34 : decode cX12_sea 34 = .ok (.sipush 147, 3) := od_17 (a := 0) (b := 147) (by decide +kernel) (by decide +kernel)
theorem dX12_sea_37 : decode cX12_sea 37 = .ok (.iload_n 1, 1) := od_27  (by decide +kernel)
theorem dX12_sea_38 : decode cX12_sea 38 = .ok (.iadd, 1) := od_96  (by decide +kernel)
theorem dX12_sea_39 : decode cX12_sea 39 = .ok (.iload_n 2, 1) := od_28  (by decide +kernel)
theorem dX12_sea_40 : decode cX12_sea 40 = .ok (.iastore, 1) := od_79  (by decide +kernel)
theorem dX12_sea_41 : decode cX12_sea 41 = .ok (.aload_n 0, 1) := od_42  (by decide +kernel)
theorem dX12_sea_42 : decode cX12_sea 42 = .ok (.iconst 0, 1) := od_3  (by decide +kernel)
theorem dX12_sea_43 : decode cX12_sea 43 = .ok (.invokevirtual 105, 3) := od_182 (a := 0) (b := 105) (by decide +kernel) (by decide)
theorem dX12_sea_46 : decode cX12_sea 46 = .ok (.ireturn, 1) := od_172  (by decide +kernel)
theorem gX12_terms_X12_in : GoodIn WALL (va_wsS RX12 99 yX12_in wqX12_in) := wg_S wa_213 wa_214 wa_5 wa_215
theorem gX12_terms_X12_told : GoodIn WALL (wsV RX12 105 RX12 yX12_told wqX12_told) := wg_V wa_216 wa_217 wa_218 wa_5 wa_219
theorem dX12_terms_0 : decode cX12_terms 0 = .ok (.aload_n 0, 1) := od_42  (by decide +kernel)
theorem dX12_terms_1 : decode cX12_terms 1 = .ok (.iconst 0, 1) := od_3  (by decide +kernel)
theorem dX12_terms_2 : decode cX12_terms 2 = .ok (.putfield 91, 3) := od_181 (a := 0) (b := 91) (by decide +kernel) (by decide)
theorem dX12_terms_5 : decode cX12_terms 5 = .ok (.iload_n 1, 1) := od_27  (by decide +kernel)
theorem dX12_terms_6 : decode cX12_terms 6 = .ok (.i2l, 1) := od_133  (by decide +kernel)
theorem dX12_terms_7 : decode cX12_terms 7 = .ok (.lconst 0, 1) := od_9  (by decide +kernel)
theorem dX12_terms_8 : decode cX12_terms 8 = .ok (.ldc2_w 150, 3) := od_20 (a := 0) (b := 150) (by decide +kernel) (by decide)
theorem dX12_terms_11 : decode cX12_terms 11 = .ok (.invokestatic 99, 3) := od_184 (a := 0) (b := 99) (by decide +kernel) (by decide)
theorem dX12_terms_14 : decode cX12_terms 14 = .ok (.ifCond .eq 15, 3) := od_153 (a := 0) (b := 15) (by decide +kernel) (by decide +kernel)
theorem dX12_terms_17 : decode cX12_terms 17 = .ok (.iload_n 2, 1) := od_28  (by decide +kernel)
theorem dX12_terms_18 : decode cX12_terms 18 = .ok (.i2l, 1) := od_133  (by decide +kernel)
theorem dX12_terms_19 : decode cX12_terms 19 = .ok (.lconst 1, 1) := od_10  (by decide +kernel)
theorem dX12_terms_20 : decode cX12_terms 20 = .ok (.ldc2_w 122, 3) := od_20 (a := 0) (b := 122) (by decide +kernel) (by decide)
theorem dX12_terms_23 : decode cX12_terms 23 = .ok (.invokestatic 99, 3) := od_184 (a := 0) (b := 99) (by decide +kernel) (by decide)
theorem dX12_terms_26 : decode cX12_terms 26 = .ok (.ifCond .ne 9, 3) := od_154 (a := 0) (b := 9) (by decide +kernel) (by decide +kernel)
theorem dX12_terms_29 : decode cX12_terms 29 = .ok (.aload_n 0, 1) := od_42  (by decide +kernel)
theorem dX12_terms_30 : decode cX12_terms 30 = .ok (.iconst (-1), 1) := od_2  (by decide +kernel)
theorem dX12_terms_31 : decode cX12_terms 31 = .ok (.invokevirtual 105, 3) := od_182 (a := 0) (b := 105) (by decide +kernel) (by decide)
theorem dX12_terms_34 : decode cX12_terms 34 = .ok (.ireturn, 1) := od_172  (by decide +kernel)
theorem dX12_terms_35 : decode cX12_terms 35 = .ok (.aload_n 0, 1) := od_42  (by decide +kernel)
theorem dX12_terms_36 : decode cX12_terms 36 = .ok (.getfield 7, 3) := od_180 (a := 0) (b := 7) (by decide +kernel) (by decide)
theorem dX12_terms_39 : decode cX12_terms 39 = .ok (.bipush 12, 2) := od_16 (a := 12) (by decide +kernel) (by decide +kernel)
theorem dX12_terms_41 : decode cX12_terms 41 = .ok (.iload_n 1, 1) := od_27  (by decide +kernel)
theorem dX12_terms_42 : decode cX12_terms 42 = .ok (.iastore, 1) := od_79  (by decide +kernel)
theorem dX12_terms_43 : decode cX12_terms 43 = .ok (.aload_n 0, 1) := od_42  (by decide +kernel)
theorem dX12_terms_44 : decode cX12_terms 44 = .ok (.getfield 7, 3) := od_180 (a := 0) (b := 7) (by decide +kernel) (by decide)
theorem dX12_terms_47 : decode cX12_terms 47 = .ok (.bipush 13, 2) := od_16 (a := 13) (by decide +kernel) (by decide +kernel)
theorem dX12_terms_49 : decode cX12_terms 49 = .ok (.iload_n 2, 1) := od_28  (by decide +kernel)
theorem dX12_terms_50 : decode cX12_terms 50 = .ok (.iastore, 1) := od_79  (by decide +kernel)
theorem dX12_terms_51 : decode cX12_terms 51 = .ok (.aload_n 0, 1) := od_42  (by decide +kernel)
theorem dX12_terms_52 : decode cX12_terms 52 = .ok (.iconst 0, 1) := od_3  (by decide +kernel)
theorem dX12_terms_53 : decode cX12_terms 53 = .ok (.invokevirtual 105, 3) := od_182 (a := 0) (b := 105) (by decide +kernel) (by decide)
theorem dX12_terms_56 : decode cX12_terms 56 = .ok (.ireturn, 1) := od_172  (by decide +kernel)
end

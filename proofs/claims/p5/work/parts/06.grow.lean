theorem tpx_g13 {κ : Nat → ClassId} {τ ν τ1 ν1 : Nat → Nat} {ρ ρ1 : Nat → Nat → Nat} {a : Nat} {e : va_E} (hE : ∀ b, τ b ≠ 0 → τ1 b = τ b ∧ ν1 b = ν b ∧ ρ1 b = ρ b) (ha : τ a = 13) (h : tp_g τ ν ρ 13 a) : tp_g τ1 ν1 ρ1 13 a := by
  have h9 : (τ (ρ a 2) = 32) ∧ (τ (ρ a 3) = 33) ∧ (τ (ρ a 4) = 34) ∧ (τ (ρ a 5) = 35) ∧ (τ (ρ a 6) = 36) ∧ (τ (ρ a 8) = 38) ∧ (τ (ρ a 21) = 51) ∧ (τ (ρ a 23) = 53) ∧ (τ (ρ a 24) = 54) ∧ (τ (ρ a 26) = 56) ∧ (τ (ρ a 27) = 57) ∧ (τ (ρ a 30) = 60) ∧ (τ (ρ a 31) = 61) ∧ (τ (ρ a 39) = 69) ∧ (τ (ρ a 40) = 70) ∧ (τ (ρ a 41) = 71) ∧ (τ (ρ a 42) = 72) ∧ (τ (ρ a 43) = 73) ∧ (τ (ρ a 44) = 74) ∧ (τ (ρ a 45) = 75) ∧ (τ (ρ a 46) = 76) ∧ (τ (ρ a 49) = 79) ∧ (τ (ρ a 50) = 80) ∧ (τ (ρ a 51) = 81) ∧ (τ (ρ a 52) = 82) := h
  have e0 := hE a (by rw [ha]; decide)
  obtain ⟨y2, y3, y4, y5, y6, y8, y21, y23, y24, y26, y27, y30, y31, y39, y40, y41, y42, y43, y44, y45, y46, y49, y50, y51, y52⟩ := h9
  show (τ1 (ρ1 a 2) = 32) ∧ (τ1 (ρ1 a 3) = 33) ∧ (τ1 (ρ1 a 4) = 34) ∧ (τ1 (ρ1 a 5) = 35) ∧ (τ1 (ρ1 a 6) = 36) ∧ (τ1 (ρ1 a 8) = 38) ∧ (τ1 (ρ1 a 21) = 51) ∧ (τ1 (ρ1 a 23) = 53) ∧ (τ1 (ρ1 a 24) = 54) ∧ (τ1 (ρ1 a 26) = 56) ∧ (τ1 (ρ1 a 27) = 57) ∧ (τ1 (ρ1 a 30) = 60) ∧ (τ1 (ρ1 a 31) = 61) ∧ (τ1 (ρ1 a 39) = 69) ∧ (τ1 (ρ1 a 40) = 70) ∧ (τ1 (ρ1 a 41) = 71) ∧ (τ1 (ρ1 a 42) = 72) ∧ (τ1 (ρ1 a 43) = 73) ∧ (τ1 (ρ1 a 44) = 74) ∧ (τ1 (ρ1 a 45) = 75) ∧ (τ1 (ρ1 a 46) = 76) ∧ (τ1 (ρ1 a 49) = 79) ∧ (τ1 (ρ1 a 50) = 80) ∧ (τ1 (ρ1 a 51) = 81) ∧ (τ1 (ρ1 a 52) = 82)
  rw [e0.2.2]
  exact ⟨(hE _ (by rw [y2]; decide)).1.trans y2, (hE _ (by rw [y3]; decide)).1.trans y3, (hE _ (by rw [y4]; decide)).1.trans y4, (hE _ (by rw [y5]; decide)).1.trans y5, (hE _ (by rw [y6]; decide)).1.trans y6, (hE _ (by rw [y8]; decide)).1.trans y8, (hE _ (by rw [y21]; decide)).1.trans y21, (hE _ (by rw [y23]; decide)).1.trans y23, (hE _ (by rw [y24]; decide)).1.trans y24, (hE _ (by rw [y26]; decide)).1.trans y26, (hE _ (by rw [y27]; decide)).1.trans y27, (hE _ (by rw [y30]; decide)).1.trans y30, (hE _ (by rw [y31]; decide)).1.trans y31, (hE _ (by rw [y39]; decide)).1.trans y39, (hE _ (by rw [y40]; decide)).1.trans y40, (hE _ (by rw [y41]; decide)).1.trans y41, (hE _ (by rw [y42]; decide)).1.trans y42, (hE _ (by rw [y43]; decide)).1.trans y43, (hE _ (by rw [y44]; decide)).1.trans y44, (hE _ (by rw [y45]; decide)).1.trans y45, (hE _ (by rw [y46]; decide)).1.trans y46, (hE _ (by rw [y49]; decide)).1.trans y49, (hE _ (by rw [y50]; decide)).1.trans y50, (hE _ (by rw [y51]; decide)).1.trans y51, (hE _ (by rw [y52]; decide)).1.trans y52⟩
theorem tpx_g1 {κ : Nat → ClassId} {τ ν τ1 ν1 : Nat → Nat} {ρ ρ1 : Nat → Nat → Nat} {a : Nat} {e : va_E} (hE : ∀ b, τ b ≠ 0 → τ1 b = τ b ∧ ν1 b = ν b ∧ ρ1 b = ρ b) (ha : τ a = 1) (h : tp_g τ ν ρ 1 a) : tp_g τ1 ν1 ρ1 1 a := by
  have h9 : (τ (ρ a 0) = 28 ∧ ν (ρ a 0) ≤ 400) ∧ (τ (ρ a 1) = 20 ∧ ν (ρ a 1) ≤ 13) := h
  have e0 := hE a (by rw [ha]; decide)
  show (τ1 (ρ1 a 0) = 28 ∧ ν1 (ρ1 a 0) ≤ 400) ∧ (τ1 (ρ1 a 1) = 20 ∧ ν1 (ρ1 a 1) ≤ 13)
  have e1 := hE (ρ a 0) (by omega)
  have e2 := hE (ρ a 1) (by omega)
  simp only [e0.2.2, e1.1, e1.2.1, e1.2.2, e2.1, e2.2.1, e2.2.2]
  exact h9
theorem tpx_o1 {Ω : Nat → (Nat → Nat) → va_E → Prop} {κ : Nat → ClassId} {τ ν τ1 ν1 : Nat → Nat} {ρ ρ1 : Nat → Nat → Nat} {a : Nat} {e : va_E} (hE : ∀ b, τ b ≠ 0 → τ1 b = τ b ∧ ν1 b = ν b ∧ ρ1 b = ρ b) (ha : τ a = 1) (hg : tp_g τ ν ρ 1 a) (h : tp_ok Ω κ τ ν ρ 1 a e) : tp_ok Ω κ τ1 ν1 ρ1 1 a e := by
  have g9 : (τ (ρ a 0) = 28 ∧ ν (ρ a 0) ≤ 400) ∧ (τ (ρ a 1) = 20 ∧ ν (ρ a 1) ≤ 13) := hg
  have h9 : ∃ x2 : Int32, ∃ x3 : Int32, ∃ x4 : Int32, e = .inr (0, [.ref (ρ a 0), .ref (ρ a 1), .int x2, .int x3, .int x4]) := h
  have e0 := hE a (by rw [ha]; decide)
  show ∃ x2 : Int32, ∃ x3 : Int32, ∃ x4 : Int32, e = .inr (0, [.ref (ρ1 a 0), .ref (ρ1 a 1), .int x2, .int x3, .int x4])
  simp only [e0.2.2]
  exact h9
theorem tpx_g2 {κ : Nat → ClassId} {τ ν τ1 ν1 : Nat → Nat} {ρ ρ1 : Nat → Nat → Nat} {a : Nat} {e : va_E} (hE : ∀ b, τ b ≠ 0 → τ1 b = τ b ∧ ν1 b = ν b ∧ ρ1 b = ρ b) (ha : τ a = 2) (h : tp_g τ ν ρ 2 a) : tp_g τ1 ν1 ρ1 2 a := by
  have h9 : (τ (ρ a 0) = 11) ∧ (τ (ρ a 1) = 21 ∧ ν (ρ a 1) = 192) ∧ (τ (ρ a 2) = 20 ∧ ν (ρ a 2) = 192) ∧ (τ (ρ a 3) = 21 ∧ ν (ρ a 3) = 64) ∧ (τ (ρ a 4) = 20 ∧ ν (ρ a 4) = 64) ∧ (τ (ρ a 10) = 20 ∧ ν (ρ a 10) = 6) ∧ (τ (ρ a 11) = 20 ∧ ν (ρ a 11) = 6) ∧ (τ (ρ a 12) = 20 ∧ ν (ρ a 12) = 6) ∧ (τ (ρ a 13) = 20 ∧ ν (ρ a 13) = 6) ∧ (τ (ρ a 14) = 21 ∧ ν (ρ a 14) = 6) := h
  have e0 := hE a (by rw [ha]; decide)
  show (τ1 (ρ1 a 0) = 11) ∧ (τ1 (ρ1 a 1) = 21 ∧ ν1 (ρ1 a 1) = 192) ∧ (τ1 (ρ1 a 2) = 20 ∧ ν1 (ρ1 a 2) = 192) ∧ (τ1 (ρ1 a 3) = 21 ∧ ν1 (ρ1 a 3) = 64) ∧ (τ1 (ρ1 a 4) = 20 ∧ ν1 (ρ1 a 4) = 64) ∧ (τ1 (ρ1 a 10) = 20 ∧ ν1 (ρ1 a 10) = 6) ∧ (τ1 (ρ1 a 11) = 20 ∧ ν1 (ρ1 a 11) = 6) ∧ (τ1 (ρ1 a 12) = 20 ∧ ν1 (ρ1 a 12) = 6) ∧ (τ1 (ρ1 a 13) = 20 ∧ ν1 (ρ1 a 13) = 6) ∧ (τ1 (ρ1 a 14) = 21 ∧ ν1 (ρ1 a 14) = 6)
  have e1 := hE (ρ a 0) (by omega)
  have e2 := hE (ρ a 1) (by omega)
  have e3 := hE (ρ a 2) (by omega)
  have e4 := hE (ρ a 3) (by omega)
  have e5 := hE (ρ a 4) (by omega)
  have e11 := hE (ρ a 10) (by omega)
  have e12 := hE (ρ a 11) (by omega)
  have e13 := hE (ρ a 12) (by omega)
  have e14 := hE (ρ a 13) (by omega)
  have e15 := hE (ρ a 14) (by omega)
  simp only [e0.2.2, e1.1, e1.2.1, e1.2.2, e2.1, e2.2.1, e2.2.2, e3.1, e3.2.1, e3.2.2, e4.1, e4.2.1, e4.2.2, e5.1, e5.2.1, e5.2.2, e11.1, e11.2.1, e11.2.2, e12.1, e12.2.1, e12.2.2, e13.1, e13.2.1, e13.2.2, e14.1, e14.2.1, e14.2.2, e15.1, e15.2.1, e15.2.2]
  exact h9
theorem tpx_o2 {Ω : Nat → (Nat → Nat) → va_E → Prop} {κ : Nat → ClassId} {τ ν τ1 ν1 : Nat → Nat} {ρ ρ1 : Nat → Nat → Nat} {a : Nat} {e : va_E} (hE : ∀ b, τ b ≠ 0 → τ1 b = τ b ∧ ν1 b = ν b ∧ ρ1 b = ρ b) (ha : τ a = 2) (hg : tp_g τ ν ρ 2 a) (h : tp_ok Ω κ τ ν ρ 2 a e) : tp_ok Ω κ τ1 ν1 ρ1 2 a e := by
  have g9 : (τ (ρ a 0) = 11) ∧ (τ (ρ a 1) = 21 ∧ ν (ρ a 1) = 192) ∧ (τ (ρ a 2) = 20 ∧ ν (ρ a 2) = 192) ∧ (τ (ρ a 3) = 21 ∧ ν (ρ a 3) = 64) ∧ (τ (ρ a 4) = 20 ∧ ν (ρ a 4) = 64) ∧ (τ (ρ a 10) = 20 ∧ ν (ρ a 10) = 6) ∧ (τ (ρ a 11) = 20 ∧ ν (ρ a 11) = 6) ∧ (τ (ρ a 12) = 20 ∧ ν (ρ a 12) = 6) ∧ (τ (ρ a 13) = 20 ∧ ν (ρ a 13) = 6) ∧ (τ (ρ a 14) = 21 ∧ ν (ρ a 14) = 6) := hg
  have h9 : ∃ x5 : Int32, ∃ x6 : Int32, ∃ x7 : Int32, ∃ x8 : Int64, ∃ x9 : Int32, e = .inr (1, [.ref (ρ a 0), .ref (ρ a 1), .ref (ρ a 2), .ref (ρ a 3), .ref (ρ a 4), .int x5, .int x6, .int x7, .long x8, .int x9, .ref (ρ a 10), .ref (ρ a 11), .ref (ρ a 12), .ref (ρ a 13), .ref (ρ a 14)]) ∧ (0 ≤ x9.toInt ∧ x9.toInt ≤ 6) := h
  have e0 := hE a (by rw [ha]; decide)
  show ∃ x5 : Int32, ∃ x6 : Int32, ∃ x7 : Int32, ∃ x8 : Int64, ∃ x9 : Int32, e = .inr (1, [.ref (ρ1 a 0), .ref (ρ1 a 1), .ref (ρ1 a 2), .ref (ρ1 a 3), .ref (ρ1 a 4), .int x5, .int x6, .int x7, .long x8, .int x9, .ref (ρ1 a 10), .ref (ρ1 a 11), .ref (ρ1 a 12), .ref (ρ1 a 13), .ref (ρ1 a 14)]) ∧ (0 ≤ x9.toInt ∧ x9.toInt ≤ 6)
  simp only [e0.2.2]
  exact h9
theorem tpx_g3 {κ : Nat → ClassId} {τ ν τ1 ν1 : Nat → Nat} {ρ ρ1 : Nat → Nat → Nat} {a : Nat} {e : va_E} (hE : ∀ b, τ b ≠ 0 → τ1 b = τ b ∧ ν1 b = ν b ∧ ρ1 b = ρ b) (ha : τ a = 3) (h : tp_g τ ν ρ 3 a) : tp_g τ1 ν1 ρ1 3 a := by
  have h9 : (τ (ρ a 0) = 22 ∧ ν (ρ a 0) = 400) ∧ (τ (ρ a 7) = 28 ∧ ν (ρ a 7) = 400) ∧ (τ (ρ a 9) = 20 ∧ ν (ρ a 9) = 13) := h
  have e0 := hE a (by rw [ha]; decide)
  show (τ1 (ρ1 a 0) = 22 ∧ ν1 (ρ1 a 0) = 400) ∧ (τ1 (ρ1 a 7) = 28 ∧ ν1 (ρ1 a 7) = 400) ∧ (τ1 (ρ1 a 9) = 20 ∧ ν1 (ρ1 a 9) = 13)
  have e1 := hE (ρ a 0) (by omega)
  have e8 := hE (ρ a 7) (by omega)
  have e10 := hE (ρ a 9) (by omega)
  simp only [e0.2.2, e1.1, e1.2.1, e1.2.2, e8.1, e8.2.1, e8.2.2, e10.1, e10.2.1, e10.2.2]
  exact h9
theorem tpx_o3 {Ω : Nat → (Nat → Nat) → va_E → Prop} {κ : Nat → ClassId} {τ ν τ1 ν1 : Nat → Nat} {ρ ρ1 : Nat → Nat → Nat} {a : Nat} {e : va_E} (hE : ∀ b, τ b ≠ 0 → τ1 b = τ b ∧ ν1 b = ν b ∧ ρ1 b = ρ b) (ha : τ a = 3) (hg : tp_g τ ν ρ 3 a) (h : tp_ok Ω κ τ ν ρ 3 a e) : tp_ok Ω κ τ1 ν1 ρ1 3 a e := by
  have g9 : (τ (ρ a 0) = 22 ∧ ν (ρ a 0) = 400) ∧ (τ (ρ a 7) = 28 ∧ ν (ρ a 7) = 400) ∧ (τ (ρ a 9) = 20 ∧ ν (ρ a 9) = 13) := hg
  have h9 : ∃ x1 : Int32, ∃ x2 : Int32, ∃ x3 : Int32, ∃ x4 : Int32, ∃ x5 : Int32, ∃ x6 : Int32, ∃ x8 : Int32, ∃ x10 : Int32, ∃ x11 : Int32, ∃ x12 : Int32, ∃ x13 : Int32, ∃ x14 : Int32, ∃ x15 : Int32, e = .inr (2, [.ref (ρ a 0), .int x1, .int x2, .int x3, .int x4, .int x5, .int x6, .ref (ρ a 7), .int x8, .ref (ρ a 9), .int x10, .int x11, .int x12, .int x13, .int x14, .int x15]) ∧ (0 ≤ x1.toInt ∧ x1.toInt ≤ 400) ∧ (0 ≤ x3.toInt ∧ x3.toInt ≤ 400) ∧ (0 ≤ x5.toInt ∧ x5.toInt ≤ 400) ∧ (0 ≤ x6.toInt ∧ x6.toInt ≤ 100001) ∧ (0 ≤ x8.toInt ∧ x8.toInt ≤ 400) ∧ (0 ≤ x10.toInt ∧ x10.toInt ≤ 12) ∧ (x4.toInt = 3 → x3.toInt < 400) := h
  have e0 := hE a (by rw [ha]; decide)
  show ∃ x1 : Int32, ∃ x2 : Int32, ∃ x3 : Int32, ∃ x4 : Int32, ∃ x5 : Int32, ∃ x6 : Int32, ∃ x8 : Int32, ∃ x10 : Int32, ∃ x11 : Int32, ∃ x12 : Int32, ∃ x13 : Int32, ∃ x14 : Int32, ∃ x15 : Int32, e = .inr (2, [.ref (ρ1 a 0), .int x1, .int x2, .int x3, .int x4, .int x5, .int x6, .ref (ρ1 a 7), .int x8, .ref (ρ1 a 9), .int x10, .int x11, .int x12, .int x13, .int x14, .int x15]) ∧ (0 ≤ x1.toInt ∧ x1.toInt ≤ 400) ∧ (0 ≤ x3.toInt ∧ x3.toInt ≤ 400) ∧ (0 ≤ x5.toInt ∧ x5.toInt ≤ 400) ∧ (0 ≤ x6.toInt ∧ x6.toInt ≤ 100001) ∧ (0 ≤ x8.toInt ∧ x8.toInt ≤ 400) ∧ (0 ≤ x10.toInt ∧ x10.toInt ≤ 12) ∧ (x4.toInt = 3 → x3.toInt < 400)
  simp only [e0.2.2]
  exact h9
theorem tpx_g4 {κ : Nat → ClassId} {τ ν τ1 ν1 : Nat → Nat} {ρ ρ1 : Nat → Nat → Nat} {a : Nat} {e : va_E} (hE : ∀ b, τ b ≠ 0 → τ1 b = τ b ∧ ν1 b = ν b ∧ ρ1 b = ρ b) (ha : τ a = 4) (h : tp_g τ ν ρ 4 a) : tp_g τ1 ν1 ρ1 4 a := by
  have h9 : (τ (ρ a 0) = 11) ∧ (τ (ρ a 1) = 21 ∧ ν (ρ a 1) = 8) ∧ (τ (ρ a 2) = 21 ∧ ν (ρ a 2) = 64) := h
  have e0 := hE a (by rw [ha]; decide)
  show (τ1 (ρ1 a 0) = 11) ∧ (τ1 (ρ1 a 1) = 21 ∧ ν1 (ρ1 a 1) = 8) ∧ (τ1 (ρ1 a 2) = 21 ∧ ν1 (ρ1 a 2) = 64)
  have e1 := hE (ρ a 0) (by omega)
  have e2 := hE (ρ a 1) (by omega)
  have e3 := hE (ρ a 2) (by omega)
  simp only [e0.2.2, e1.1, e1.2.1, e1.2.2, e2.1, e2.2.1, e2.2.2, e3.1, e3.2.1, e3.2.2]
  exact h9
theorem tpx_o4 {Ω : Nat → (Nat → Nat) → va_E → Prop} {κ : Nat → ClassId} {τ ν τ1 ν1 : Nat → Nat} {ρ ρ1 : Nat → Nat → Nat} {a : Nat} {e : va_E} (hE : ∀ b, τ b ≠ 0 → τ1 b = τ b ∧ ν1 b = ν b ∧ ρ1 b = ρ b) (ha : τ a = 4) (hg : tp_g τ ν ρ 4 a) (h : tp_ok Ω κ τ ν ρ 4 a e) : tp_ok Ω κ τ1 ν1 ρ1 4 a e := by
  have g9 : (τ (ρ a 0) = 11) ∧ (τ (ρ a 1) = 21 ∧ ν (ρ a 1) = 8) ∧ (τ (ρ a 2) = 21 ∧ ν (ρ a 2) = 64) := hg
  have h9 : ∃ x3 : Int32, ∃ x4 : Int64, ∃ x5 : Int64, e = .inr (3, [.ref (ρ a 0), .ref (ρ a 1), .ref (ρ a 2), .int x3, .long x4, .long x5]) ∧ (0 ≤ x3.toInt ∧ x3.toInt ≤ 64) := h
  have e0 := hE a (by rw [ha]; decide)
  show ∃ x3 : Int32, ∃ x4 : Int64, ∃ x5 : Int64, e = .inr (3, [.ref (ρ1 a 0), .ref (ρ1 a 1), .ref (ρ1 a 2), .int x3, .long x4, .long x5]) ∧ (0 ≤ x3.toInt ∧ x3.toInt ≤ 64)
  simp only [e0.2.2]
  exact h9
theorem tpx_g5 {κ : Nat → ClassId} {τ ν τ1 ν1 : Nat → Nat} {ρ ρ1 : Nat → Nat → Nat} {a : Nat} {e : va_E} (hE : ∀ b, τ b ≠ 0 → τ1 b = τ b ∧ ν1 b = ν b ∧ ρ1 b = ρ b) (ha : τ a = 5) (h : tp_g τ ν ρ 5 a) : tp_g τ1 ν1 ρ1 5 a := by
  have h9 : (τ (ρ a 1) = 21 ∧ ν (ρ a 1) = ρ a 10 * ρ a 11) ∧ (1 ≤ ρ a 10 ∧ ρ a 10 ≤ 15 ∧ ρ a 11 ≤ 60) := h
  have e0 := hE a (by rw [ha]; decide)
  show (τ1 (ρ1 a 1) = 21 ∧ ν1 (ρ1 a 1) = ρ1 a 10 * ρ1 a 11) ∧ (1 ≤ ρ1 a 10 ∧ ρ1 a 10 ≤ 15 ∧ ρ1 a 11 ≤ 60)
  have e2 := hE (ρ a 1) (by omega)
  simp only [e0.2.2, e2.1, e2.2.1, e2.2.2]
  exact h9
theorem tpx_o5 {Ω : Nat → (Nat → Nat) → va_E → Prop} {κ : Nat → ClassId} {τ ν τ1 ν1 : Nat → Nat} {ρ ρ1 : Nat → Nat → Nat} {a : Nat} {e : va_E} (hE : ∀ b, τ b ≠ 0 → τ1 b = τ b ∧ ν1 b = ν b ∧ ρ1 b = ρ b) (ha : τ a = 5) (hg : tp_g τ ν ρ 5 a) (h : tp_ok Ω κ τ ν ρ 5 a e) : tp_ok Ω κ τ1 ν1 ρ1 5 a e := by
  have g9 : (τ (ρ a 1) = 21 ∧ ν (ρ a 1) = ρ a 10 * ρ a 11) ∧ (1 ≤ ρ a 10 ∧ ρ a 10 ≤ 15 ∧ ρ a 11 ≤ 60) := hg
  have h9 : ∃ x0 : Int32, ∃ x2 : Int32, e = .inr (4, [.int x0, .ref (ρ a 1), .int x2]) ∧ (x0.toInt = (ρ a 10 : Int)) ∧ (0 ≤ x2.toInt ∧ x2.toInt ≤ (ρ a 11 : Int)) := h
  have e0 := hE a (by rw [ha]; decide)
  show ∃ x0 : Int32, ∃ x2 : Int32, e = .inr (4, [.int x0, .ref (ρ1 a 1), .int x2]) ∧ (x0.toInt = (ρ1 a 10 : Int)) ∧ (0 ≤ x2.toInt ∧ x2.toInt ≤ (ρ1 a 11 : Int))
  simp only [e0.2.2]
  exact h9
theorem tpx_g6 {κ : Nat → ClassId} {τ ν τ1 ν1 : Nat → Nat} {ρ ρ1 : Nat → Nat → Nat} {a : Nat} {e : va_E} (hE : ∀ b, τ b ≠ 0 → τ1 b = τ b ∧ ν1 b = ν b ∧ ρ1 b = ρ b) (ha : τ a = 6) (h : tp_g τ ν ρ 6 a) : tp_g τ1 ν1 ρ1 6 a := by
  have h9 : (τ (ρ a 0) = 8) ∧ (τ (ρ a 7) = 20 ∧ ν (ρ a 7) = 20) ∧ (τ (ρ a 8) = 20 ∧ ν (ρ a 8) = 20) ∧ (τ (ρ a 9) = 21 ∧ ν (ρ a 9) = 4) ∧ (τ (ρ a 13) = 20 ∧ ν (ρ a 13) = 6) ∧ (τ (ρ a 15) = 20 ∧ ν (ρ a 15) = 4) ∧ (τ (ρ a 16) = 20 ∧ ν (ρ a 16) = 4) := h
  have e0 := hE a (by rw [ha]; decide)
  show (τ1 (ρ1 a 0) = 8) ∧ (τ1 (ρ1 a 7) = 20 ∧ ν1 (ρ1 a 7) = 20) ∧ (τ1 (ρ1 a 8) = 20 ∧ ν1 (ρ1 a 8) = 20) ∧ (τ1 (ρ1 a 9) = 21 ∧ ν1 (ρ1 a 9) = 4) ∧ (τ1 (ρ1 a 13) = 20 ∧ ν1 (ρ1 a 13) = 6) ∧ (τ1 (ρ1 a 15) = 20 ∧ ν1 (ρ1 a 15) = 4) ∧ (τ1 (ρ1 a 16) = 20 ∧ ν1 (ρ1 a 16) = 4)
  have e1 := hE (ρ a 0) (by omega)
  have e8 := hE (ρ a 7) (by omega)
  have e9 := hE (ρ a 8) (by omega)
  have e10 := hE (ρ a 9) (by omega)
  have e14 := hE (ρ a 13) (by omega)
  have e16 := hE (ρ a 15) (by omega)
  have e17 := hE (ρ a 16) (by omega)
  simp only [e0.2.2, e1.1, e1.2.1, e1.2.2, e8.1, e8.2.1, e8.2.2, e9.1, e9.2.1, e9.2.2, e10.1, e10.2.1, e10.2.2, e14.1, e14.2.1, e14.2.2, e16.1, e16.2.1, e16.2.2, e17.1, e17.2.1, e17.2.2]
  exact h9
theorem tpx_o6 {Ω : Nat → (Nat → Nat) → va_E → Prop} {κ : Nat → ClassId} {τ ν τ1 ν1 : Nat → Nat} {ρ ρ1 : Nat → Nat → Nat} {a : Nat} {e : va_E} (hE : ∀ b, τ b ≠ 0 → τ1 b = τ b ∧ ν1 b = ν b ∧ ρ1 b = ρ b) (ha : τ a = 6) (hg : tp_g τ ν ρ 6 a) (h : tp_ok Ω κ τ ν ρ 6 a e) : tp_ok Ω κ τ1 ν1 ρ1 6 a e := by
  have g9 : (τ (ρ a 0) = 8) ∧ (τ (ρ a 7) = 20 ∧ ν (ρ a 7) = 20) ∧ (τ (ρ a 8) = 20 ∧ ν (ρ a 8) = 20) ∧ (τ (ρ a 9) = 21 ∧ ν (ρ a 9) = 4) ∧ (τ (ρ a 13) = 20 ∧ ν (ρ a 13) = 6) ∧ (τ (ρ a 15) = 20 ∧ ν (ρ a 15) = 4) ∧ (τ (ρ a 16) = 20 ∧ ν (ρ a 16) = 4) := hg
  have h9 : ∃ x1 : Int32, ∃ x2 : Int32, ∃ x3 : Int32, ∃ x4 : Int32, ∃ x5 : Int32, ∃ x6 : Int32, ∃ x10 : Int32, ∃ x11 : Int32, ∃ x12 : Int32, ∃ x14 : Int32, e = .inr (5, [.ref (ρ a 0), .int x1, .int x2, .int x3, .int x4, .int x5, .int x6, .ref (ρ a 7), .ref (ρ a 8), .ref (ρ a 9), .int x10, .int x11, .int x12, .ref (ρ a 13), .int x14, .ref (ρ a 15), .ref (ρ a 16)]) ∧ (0 ≤ x2.toInt ∧ x2.toInt ≤ 5) ∧ (0 ≤ x5.toInt ∧ x5.toInt ≤ 1) ∧ (0 ≤ x6.toInt ∧ x6.toInt ≤ 20) := h
  have e0 := hE a (by rw [ha]; decide)
  show ∃ x1 : Int32, ∃ x2 : Int32, ∃ x3 : Int32, ∃ x4 : Int32, ∃ x5 : Int32, ∃ x6 : Int32, ∃ x10 : Int32, ∃ x11 : Int32, ∃ x12 : Int32, ∃ x14 : Int32, e = .inr (5, [.ref (ρ1 a 0), .int x1, .int x2, .int x3, .int x4, .int x5, .int x6, .ref (ρ1 a 7), .ref (ρ1 a 8), .ref (ρ1 a 9), .int x10, .int x11, .int x12, .ref (ρ1 a 13), .int x14, .ref (ρ1 a 15), .ref (ρ1 a 16)]) ∧ (0 ≤ x2.toInt ∧ x2.toInt ≤ 5) ∧ (0 ≤ x5.toInt ∧ x5.toInt ≤ 1) ∧ (0 ≤ x6.toInt ∧ x6.toInt ≤ 20)
  simp only [e0.2.2]
  exact h9
theorem tpx_g7 {κ : Nat → ClassId} {τ ν τ1 ν1 : Nat → Nat} {ρ ρ1 : Nat → Nat → Nat} {a : Nat} {e : va_E} (hE : ∀ b, τ b ≠ 0 → τ1 b = τ b ∧ ν1 b = ν b ∧ ρ1 b = ρ b) (ha : τ a = 7) (h : tp_g τ ν ρ 7 a) : tp_g τ1 ν1 ρ1 7 a := by
  have h9 : (τ (ρ a 0) = 20 ∧ ν (ρ a 0) ≤ 60) ∧ (τ (ρ a 1) = 20 ∧ ν (ρ a 1) = ν (ρ a 0)) ∧ (τ (ρ a 2) = 20 ∧ ν (ρ a 2) = ν (ρ a 0)) := h
  have e0 := hE a (by rw [ha]; decide)
  show (τ1 (ρ1 a 0) = 20 ∧ ν1 (ρ1 a 0) ≤ 60) ∧ (τ1 (ρ1 a 1) = 20 ∧ ν1 (ρ1 a 1) = ν1 (ρ1 a 0)) ∧ (τ1 (ρ1 a 2) = 20 ∧ ν1 (ρ1 a 2) = ν1 (ρ1 a 0))
  have e1 := hE (ρ a 0) (by omega)
  have e2 := hE (ρ a 1) (by omega)
  have e3 := hE (ρ a 2) (by omega)
  simp only [e0.2.2, e1.1, e1.2.1, e1.2.2, e2.1, e2.2.1, e2.2.2, e3.1, e3.2.1, e3.2.2]
  exact h9
theorem tpx_o7 {Ω : Nat → (Nat → Nat) → va_E → Prop} {κ : Nat → ClassId} {τ ν τ1 ν1 : Nat → Nat} {ρ ρ1 : Nat → Nat → Nat} {a : Nat} {e : va_E} (hE : ∀ b, τ b ≠ 0 → τ1 b = τ b ∧ ν1 b = ν b ∧ ρ1 b = ρ b) (ha : τ a = 7) (hg : tp_g τ ν ρ 7 a) (h : tp_ok Ω κ τ ν ρ 7 a e) : tp_ok Ω κ τ1 ν1 ρ1 7 a e := by
  have g9 : (τ (ρ a 0) = 20 ∧ ν (ρ a 0) ≤ 60) ∧ (τ (ρ a 1) = 20 ∧ ν (ρ a 1) = ν (ρ a 0)) ∧ (τ (ρ a 2) = 20 ∧ ν (ρ a 2) = ν (ρ a 0)) := hg
  have h9 : ∃ x3 : Int32, e = .inr (6, [.ref (ρ a 0), .ref (ρ a 1), .ref (ρ a 2), .int x3]) ∧ (0 ≤ x3.toInt ∧ x3.toInt ≤ (ν (ρ a 0) : Int)) := h
  have e0 := hE a (by rw [ha]; decide)
  show ∃ x3 : Int32, e = .inr (6, [.ref (ρ1 a 0), .ref (ρ1 a 1), .ref (ρ1 a 2), .int x3]) ∧ (0 ≤ x3.toInt ∧ x3.toInt ≤ (ν1 (ρ1 a 0) : Int))
  have e1 := hE (ρ a 0) (by omega)
  have e2 := hE (ρ a 1) (by omega)
  have e3 := hE (ρ a 2) (by omega)
  simp only [e0.2.2, e1.2.1]
  exact h9
theorem tpx_g8 {κ : Nat → ClassId} {τ ν τ1 ν1 : Nat → Nat} {ρ ρ1 : Nat → Nat → Nat} {a : Nat} {e : va_E} (hE : ∀ b, τ b ≠ 0 → τ1 b = τ b ∧ ν1 b = ν b ∧ ρ1 b = ρ b) (ha : τ a = 8) (h : tp_g τ ν ρ 8 a) : tp_g τ1 ν1 ρ1 8 a := by
  have h9 : (τ (ρ a 4) = 20 ∧ ν (ρ a 4) = 6) ∧ (τ (ρ a 5) = 20 ∧ ν (ρ a 5) = 6) ∧ (τ (ρ a 6) = 21 ∧ ν (ρ a 6) = 6) := h
  have e0 := hE a (by rw [ha]; decide)
  show (τ1 (ρ1 a 4) = 20 ∧ ν1 (ρ1 a 4) = 6) ∧ (τ1 (ρ1 a 5) = 20 ∧ ν1 (ρ1 a 5) = 6) ∧ (τ1 (ρ1 a 6) = 21 ∧ ν1 (ρ1 a 6) = 6)
  have e5 := hE (ρ a 4) (by omega)
  have e6 := hE (ρ a 5) (by omega)
  have e7 := hE (ρ a 6) (by omega)
  simp only [e0.2.2, e5.1, e5.2.1, e5.2.2, e6.1, e6.2.1, e6.2.2, e7.1, e7.2.1, e7.2.2]
  exact h9
theorem tpx_o8 {Ω : Nat → (Nat → Nat) → va_E → Prop} {κ : Nat → ClassId} {τ ν τ1 ν1 : Nat → Nat} {ρ ρ1 : Nat → Nat → Nat} {a : Nat} {e : va_E} (hE : ∀ b, τ b ≠ 0 → τ1 b = τ b ∧ ν1 b = ν b ∧ ρ1 b = ρ b) (ha : τ a = 8) (hg : tp_g τ ν ρ 8 a) (h : tp_ok Ω κ τ ν ρ 8 a e) : tp_ok Ω κ τ1 ν1 ρ1 8 a e := by
  have g9 : (τ (ρ a 4) = 20 ∧ ν (ρ a 4) = 6) ∧ (τ (ρ a 5) = 20 ∧ ν (ρ a 5) = 6) ∧ (τ (ρ a 6) = 21 ∧ ν (ρ a 6) = 6) := hg
  have h9 : ∃ x0 : Int32, ∃ x1 : Int32, ∃ x2 : Int32, ∃ x3 : Int32, e = .inr (7, [.int x0, .int x1, .int x2, .int x3, .ref (ρ a 4), .ref (ρ a 5), .ref (ρ a 6)]) ∧ (1000 ≤ x0.toInt) := h
  have e0 := hE a (by rw [ha]; decide)
  show ∃ x0 : Int32, ∃ x1 : Int32, ∃ x2 : Int32, ∃ x3 : Int32, e = .inr (7, [.int x0, .int x1, .int x2, .int x3, .ref (ρ1 a 4), .ref (ρ1 a 5), .ref (ρ1 a 6)]) ∧ (1000 ≤ x0.toInt)
  simp only [e0.2.2]
  exact h9
theorem tpx_g9 {κ : Nat → ClassId} {τ ν τ1 ν1 : Nat → Nat} {ρ ρ1 : Nat → Nat → Nat} {a : Nat} {e : va_E} (hE : ∀ b, τ b ≠ 0 → τ1 b = τ b ∧ ν1 b = ν b ∧ ρ1 b = ρ b) (ha : τ a = 9) (h : tp_g τ ν ρ 9 a) : tp_g τ1 ν1 ρ1 9 a := by
  have h9 : (τ (ρ a 5) = 20 ∧ ν (ρ a 5) = 6) ∧ (τ (ρ a 6) = 20 ∧ ν (ρ a 6) = 6) := h
  have e0 := hE a (by rw [ha]; decide)
  show (τ1 (ρ1 a 5) = 20 ∧ ν1 (ρ1 a 5) = 6) ∧ (τ1 (ρ1 a 6) = 20 ∧ ν1 (ρ1 a 6) = 6)
  have e6 := hE (ρ a 5) (by omega)
  have e7 := hE (ρ a 6) (by omega)
  simp only [e0.2.2, e6.1, e6.2.1, e6.2.2, e7.1, e7.2.1, e7.2.2]
  exact h9
theorem tpx_o9 {Ω : Nat → (Nat → Nat) → va_E → Prop} {κ : Nat → ClassId} {τ ν τ1 ν1 : Nat → Nat} {ρ ρ1 : Nat → Nat → Nat} {a : Nat} {e : va_E} (hE : ∀ b, τ b ≠ 0 → τ1 b = τ b ∧ ν1 b = ν b ∧ ρ1 b = ρ b) (ha : τ a = 9) (hg : tp_g τ ν ρ 9 a) (h : tp_ok Ω κ τ ν ρ 9 a e) : tp_ok Ω κ τ1 ν1 ρ1 9 a e := by
  have g9 : (τ (ρ a 5) = 20 ∧ ν (ρ a 5) = 6) ∧ (τ (ρ a 6) = 20 ∧ ν (ρ a 6) = 6) := hg
  have h9 : ∃ x0 : Int32, ∃ x1 : Int32, ∃ x2 : Int32, ∃ x3 : Int32, ∃ x4 : Int32, e = .inr (8, [.int x0, .int x1, .int x2, .int x3, .int x4, .ref (ρ a 5), .ref (ρ a 6)]) ∧ (1 ≤ x2.toInt) := h
  have e0 := hE a (by rw [ha]; decide)
  show ∃ x0 : Int32, ∃ x1 : Int32, ∃ x2 : Int32, ∃ x3 : Int32, ∃ x4 : Int32, e = .inr (8, [.int x0, .int x1, .int x2, .int x3, .int x4, .ref (ρ1 a 5), .ref (ρ1 a 6)]) ∧ (1 ≤ x2.toInt)
  simp only [e0.2.2]
  exact h9
theorem tpx_g10 {κ : Nat → ClassId} {τ ν τ1 ν1 : Nat → Nat} {ρ ρ1 : Nat → Nat → Nat} {a : Nat} {e : va_E} (hE : ∀ b, τ b ≠ 0 → τ1 b = τ b ∧ ν1 b = ν b ∧ ρ1 b = ρ b) (ha : τ a = 10) (h : tp_g τ ν ρ 10 a) : tp_g τ1 ν1 ρ1 10 a := by
  have h9 : (τ (ρ a 0) = 11) := h
  have e0 := hE a (by rw [ha]; decide)
  show (τ1 (ρ1 a 0) = 11)
  have e1 := hE (ρ a 0) (by omega)
  simp only [e0.2.2, e1.1, e1.2.1, e1.2.2]
  exact h9
theorem tpx_o10 {Ω : Nat → (Nat → Nat) → va_E → Prop} {κ : Nat → ClassId} {τ ν τ1 ν1 : Nat → Nat} {ρ ρ1 : Nat → Nat → Nat} {a : Nat} {e : va_E} (hE : ∀ b, τ b ≠ 0 → τ1 b = τ b ∧ ν1 b = ν b ∧ ρ1 b = ρ b) (ha : τ a = 10) (hg : tp_g τ ν ρ 10 a) (h : tp_ok Ω κ τ ν ρ 10 a e) : tp_ok Ω κ τ1 ν1 ρ1 10 a e := by
  have g9 : (τ (ρ a 0) = 11) := hg
  have h9 : ∃ x1 : Int32, ∃ x2 : Int32, ∃ x3 : Int32, e = .inr (9, [.ref (ρ a 0), .int x1, .int x2, .int x3]) ∧ (0 ≤ x1.toInt ∧ x1.toInt ≤ 2399) ∧ (0 ≤ x3.toInt ∧ x3.toInt ≤ 1) := h
  have e0 := hE a (by rw [ha]; decide)
  show ∃ x1 : Int32, ∃ x2 : Int32, ∃ x3 : Int32, e = .inr (9, [.ref (ρ1 a 0), .int x1, .int x2, .int x3]) ∧ (0 ≤ x1.toInt ∧ x1.toInt ≤ 2399) ∧ (0 ≤ x3.toInt ∧ x3.toInt ≤ 1)
  simp only [e0.2.2]
  exact h9
theorem tpx_g11 {κ : Nat → ClassId} {τ ν τ1 ν1 : Nat → Nat} {ρ ρ1 : Nat → Nat → Nat} {a : Nat} {e : va_E} (hE : ∀ b, τ b ≠ 0 → τ1 b = τ b ∧ ν1 b = ν b ∧ ρ1 b = ρ b) (ha : τ a = 11) (h : tp_g τ ν ρ 11 a) : tp_g τ1 ν1 ρ1 11 a := by
  have h9 : (τ (ρ a 7) = 20 ∧ ν (ρ a 7) = 25) ∧ (τ (ρ a 8) = 20 ∧ ν (ρ a 8) = 100) ∧ (τ (ρ a 9) = 24) ∧ (τ (ρ a 10) = 25) ∧ (τ (ρ a 11) = 26) ∧ (τ (ρ a 12) = 7) ∧ (τ (ρ a 13) = 7) ∧ (τ (ρ a 14) = 7) ∧ (τ (ρ a 15) = 5 ∧ ρ (ρ a 15) 10 = 3 ∧ ρ (ρ a 15) 11 = 60) ∧ (τ (ρ a 16) = 5 ∧ ρ (ρ a 16) 10 = 5 ∧ ρ (ρ a 16) 11 = 60) ∧ (τ (ρ a 17) = 5 ∧ ρ (ρ a 17) 10 = 15 ∧ ρ (ρ a 17) 11 = 60) ∧ (τ (ρ a 18) = 5 ∧ ρ (ρ a 18) 10 = 8 ∧ ρ (ρ a 18) 11 = 6) := h
  have e0 := hE a (by rw [ha]; decide)
  show (τ1 (ρ1 a 7) = 20 ∧ ν1 (ρ1 a 7) = 25) ∧ (τ1 (ρ1 a 8) = 20 ∧ ν1 (ρ1 a 8) = 100) ∧ (τ1 (ρ1 a 9) = 24) ∧ (τ1 (ρ1 a 10) = 25) ∧ (τ1 (ρ1 a 11) = 26) ∧ (τ1 (ρ1 a 12) = 7) ∧ (τ1 (ρ1 a 13) = 7) ∧ (τ1 (ρ1 a 14) = 7) ∧ (τ1 (ρ1 a 15) = 5 ∧ ρ1 (ρ1 a 15) 10 = 3 ∧ ρ1 (ρ1 a 15) 11 = 60) ∧ (τ1 (ρ1 a 16) = 5 ∧ ρ1 (ρ1 a 16) 10 = 5 ∧ ρ1 (ρ1 a 16) 11 = 60) ∧ (τ1 (ρ1 a 17) = 5 ∧ ρ1 (ρ1 a 17) 10 = 15 ∧ ρ1 (ρ1 a 17) 11 = 60) ∧ (τ1 (ρ1 a 18) = 5 ∧ ρ1 (ρ1 a 18) 10 = 8 ∧ ρ1 (ρ1 a 18) 11 = 6)
  have e8 := hE (ρ a 7) (by omega)
  have e9 := hE (ρ a 8) (by omega)
  have e10 := hE (ρ a 9) (by omega)
  have e11 := hE (ρ a 10) (by omega)
  have e12 := hE (ρ a 11) (by omega)
  have e13 := hE (ρ a 12) (by omega)
  have e14 := hE (ρ a 13) (by omega)
  have e15 := hE (ρ a 14) (by omega)
  have e16 := hE (ρ a 15) (by omega)
  have e17 := hE (ρ a 16) (by omega)
  have e18 := hE (ρ a 17) (by omega)
  have e19 := hE (ρ a 18) (by omega)
  simp only [e0.2.2, e8.1, e8.2.1, e8.2.2, e9.1, e9.2.1, e9.2.2, e10.1, e10.2.1, e10.2.2, e11.1, e11.2.1, e11.2.2, e12.1, e12.2.1, e12.2.2, e13.1, e13.2.1, e13.2.2, e14.1, e14.2.1, e14.2.2, e15.1, e15.2.1, e15.2.2, e16.1, e16.2.1, e16.2.2, e17.1, e17.2.1, e17.2.2, e18.1, e18.2.1, e18.2.2, e19.1, e19.2.1, e19.2.2]
  exact h9
theorem tpx_o11 {Ω : Nat → (Nat → Nat) → va_E → Prop} {κ : Nat → ClassId} {τ ν τ1 ν1 : Nat → Nat} {ρ ρ1 : Nat → Nat → Nat} {a : Nat} {e : va_E} (hE : ∀ b, τ b ≠ 0 → τ1 b = τ b ∧ ν1 b = ν b ∧ ρ1 b = ρ b) (ha : τ a = 11) (hg : tp_g τ ν ρ 11 a) (h : tp_ok Ω κ τ ν ρ 11 a e) : tp_ok Ω κ τ1 ν1 ρ1 11 a e := by
  have g9 : (τ (ρ a 7) = 20 ∧ ν (ρ a 7) = 25) ∧ (τ (ρ a 8) = 20 ∧ ν (ρ a 8) = 100) ∧ (τ (ρ a 9) = 24) ∧ (τ (ρ a 10) = 25) ∧ (τ (ρ a 11) = 26) ∧ (τ (ρ a 12) = 7) ∧ (τ (ρ a 13) = 7) ∧ (τ (ρ a 14) = 7) ∧ (τ (ρ a 15) = 5 ∧ ρ (ρ a 15) 10 = 3 ∧ ρ (ρ a 15) 11 = 60) ∧ (τ (ρ a 16) = 5 ∧ ρ (ρ a 16) 10 = 5 ∧ ρ (ρ a 16) 11 = 60) ∧ (τ (ρ a 17) = 5 ∧ ρ (ρ a 17) 10 = 15 ∧ ρ (ρ a 17) 11 = 60) ∧ (τ (ρ a 18) = 5 ∧ ρ (ρ a 18) 10 = 8 ∧ ρ (ρ a 18) 11 = 6) := hg
  have h9 : ∃ x0 : Int32, ∃ x1 : Int32, ∃ x2 : Int32, ∃ x3 : Int32, ∃ x4 : Int32, ∃ x5 : Int32, ∃ x6 : Int32, e = .inr (10, [.int x0, .int x1, .int x2, .int x3, .int x4, .int x5, .int x6, .ref (ρ a 7), .ref (ρ a 8), .ref (ρ a 9), .ref (ρ a 10), .ref (ρ a 11), .ref (ρ a 12), .ref (ρ a 13), .ref (ρ a 14), .ref (ρ a 15), .ref (ρ a 16), .ref (ρ a 17), .ref (ρ a 18)]) ∧ (0 ≤ x0.toInt ∧ x0.toInt ≤ 2400) ∧ (0 ≤ x4.toInt ∧ x4.toInt ≤ 6) ∧ (0 ≤ x5.toInt ∧ x5.toInt ≤ 6) ∧ (0 ≤ x6.toInt ∧ x6.toInt ≤ 12) := h
  have e0 := hE a (by rw [ha]; decide)
  show ∃ x0 : Int32, ∃ x1 : Int32, ∃ x2 : Int32, ∃ x3 : Int32, ∃ x4 : Int32, ∃ x5 : Int32, ∃ x6 : Int32, e = .inr (10, [.int x0, .int x1, .int x2, .int x3, .int x4, .int x5, .int x6, .ref (ρ1 a 7), .ref (ρ1 a 8), .ref (ρ1 a 9), .ref (ρ1 a 10), .ref (ρ1 a 11), .ref (ρ1 a 12), .ref (ρ1 a 13), .ref (ρ1 a 14), .ref (ρ1 a 15), .ref (ρ1 a 16), .ref (ρ1 a 17), .ref (ρ1 a 18)]) ∧ (0 ≤ x0.toInt ∧ x0.toInt ≤ 2400) ∧ (0 ≤ x4.toInt ∧ x4.toInt ≤ 6) ∧ (0 ≤ x5.toInt ∧ x5.toInt ≤ 6) ∧ (0 ≤ x6.toInt ∧ x6.toInt ≤ 12)
  simp only [e0.2.2]
  exact h9
theorem tpx_g12 {κ : Nat → ClassId} {τ ν τ1 ν1 : Nat → Nat} {ρ ρ1 : Nat → Nat → Nat} {a : Nat} {e : va_E} (hE : ∀ b, τ b ≠ 0 → τ1 b = τ b ∧ ν1 b = ν b ∧ ρ1 b = ρ b) (ha : τ a = 12) (h : tp_g τ ν ρ 12 a) : tp_g τ1 ν1 ρ1 12 a := by
  have h9 : (τ (ρ a 0) = 11) ∧ (τ (ρ a 1) = 27) ∧ (τ (ρ a 2) = 10) ∧ (τ (ρ a 3) = 3) ∧ (τ (ρ a 4) = 4) ∧ (τ (ρ a 5) = 2) := h
  have e0 := hE a (by rw [ha]; decide)
  show (τ1 (ρ1 a 0) = 11) ∧ (τ1 (ρ1 a 1) = 27) ∧ (τ1 (ρ1 a 2) = 10) ∧ (τ1 (ρ1 a 3) = 3) ∧ (τ1 (ρ1 a 4) = 4) ∧ (τ1 (ρ1 a 5) = 2)
  have e1 := hE (ρ a 0) (by omega)
  have e2 := hE (ρ a 1) (by omega)
  have e3 := hE (ρ a 2) (by omega)
  have e4 := hE (ρ a 3) (by omega)
  have e5 := hE (ρ a 4) (by omega)
  have e6 := hE (ρ a 5) (by omega)
  simp only [e0.2.2, e1.1, e1.2.1, e1.2.2, e2.1, e2.2.1, e2.2.2, e3.1, e3.2.1, e3.2.2, e4.1, e4.2.1, e4.2.2, e5.1, e5.2.1, e5.2.2, e6.1, e6.2.1, e6.2.2]
  exact h9
theorem tpx_o12 {Ω : Nat → (Nat → Nat) → va_E → Prop} {κ : Nat → ClassId} {τ ν τ1 ν1 : Nat → Nat} {ρ ρ1 : Nat → Nat → Nat} {a : Nat} {e : va_E} (hE : ∀ b, τ b ≠ 0 → τ1 b = τ b ∧ ν1 b = ν b ∧ ρ1 b = ρ b) (ha : τ a = 12) (hg : tp_g τ ν ρ 12 a) (h : tp_ok Ω κ τ ν ρ 12 a e) : tp_ok Ω κ τ1 ν1 ρ1 12 a e := by
  have g9 : (τ (ρ a 0) = 11) ∧ (τ (ρ a 1) = 27) ∧ (τ (ρ a 2) = 10) ∧ (τ (ρ a 3) = 3) ∧ (τ (ρ a 4) = 4) ∧ (τ (ρ a 5) = 2) := hg
  have h9 : ∃ x6 : Int32, e = .inr (11, [.ref (ρ a 0), .ref (ρ a 1), .ref (ρ a 2), .ref (ρ a 3), .ref (ρ a 4), .ref (ρ a 5), .int x6]) := h
  have e0 := hE a (by rw [ha]; decide)
  show ∃ x6 : Int32, e = .inr (11, [.ref (ρ1 a 0), .ref (ρ1 a 1), .ref (ρ1 a 2), .ref (ρ1 a 3), .ref (ρ1 a 4), .ref (ρ1 a 5), .int x6])
  simp only [e0.2.2]
  exact h9
theorem tpx_g20 {κ : Nat → ClassId} {τ ν τ1 ν1 : Nat → Nat} {ρ ρ1 : Nat → Nat → Nat} {a : Nat} {e : va_E} (hE : ∀ b, τ b ≠ 0 → τ1 b = τ b ∧ ν1 b = ν b ∧ ρ1 b = ρ b) (ha : τ a = 20) (h : tp_g τ ν ρ 20 a) : tp_g τ1 ν1 ρ1 20 a := trivial
theorem tpx_o20 {Ω : Nat → (Nat → Nat) → va_E → Prop} {κ : Nat → ClassId} {τ ν τ1 ν1 : Nat → Nat} {ρ ρ1 : Nat → Nat → Nat} {a : Nat} {e : va_E} (hE : ∀ b, τ b ≠ 0 → τ1 b = τ b ∧ ν1 b = ν b ∧ ρ1 b = ρ b) (ha : τ a = 20) (hg : tp_g τ ν ρ 20 a) (h : tp_ok Ω κ τ ν ρ 20 a e) : tp_ok Ω κ τ1 ν1 ρ1 20 a e := by
  have e0 := hE a (by rw [ha]; decide)
  have h9 : ∃ g : Nat → Int32, e = .inl (κ 0, ν a, .inl g) := h
  show ∃ g : Nat → Int32, e = .inl (κ 0, ν1 a, .inl g)
  rw [e0.2.1]; exact h9
theorem tpx_g21 {κ : Nat → ClassId} {τ ν τ1 ν1 : Nat → Nat} {ρ ρ1 : Nat → Nat → Nat} {a : Nat} {e : va_E} (hE : ∀ b, τ b ≠ 0 → τ1 b = τ b ∧ ν1 b = ν b ∧ ρ1 b = ρ b) (ha : τ a = 21) (h : tp_g τ ν ρ 21 a) : tp_g τ1 ν1 ρ1 21 a := trivial
theorem tpx_o21 {Ω : Nat → (Nat → Nat) → va_E → Prop} {κ : Nat → ClassId} {τ ν τ1 ν1 : Nat → Nat} {ρ ρ1 : Nat → Nat → Nat} {a : Nat} {e : va_E} (hE : ∀ b, τ b ≠ 0 → τ1 b = τ b ∧ ν1 b = ν b ∧ ρ1 b = ρ b) (ha : τ a = 21) (hg : tp_g τ ν ρ 21 a) (h : tp_ok Ω κ τ ν ρ 21 a e) : tp_ok Ω κ τ1 ν1 ρ1 21 a e := by
  have e0 := hE a (by rw [ha]; decide)
  have h9 : ∃ g : Nat → Int64, e = .inl (κ 1, ν a, .inr (.inl g)) := h
  show ∃ g : Nat → Int64, e = .inl (κ 1, ν1 a, .inr (.inl g))
  rw [e0.2.1]; exact h9
theorem tpx_g22 {κ : Nat → ClassId} {τ ν τ1 ν1 : Nat → Nat} {ρ ρ1 : Nat → Nat → Nat} {a : Nat} {e : va_E} (hE : ∀ b, τ b ≠ 0 → τ1 b = τ b ∧ ν1 b = ν b ∧ ρ1 b = ρ b) (ha : τ a = 22) (h : tp_g τ ν ρ 22 a) : tp_g τ1 ν1 ρ1 22 a := trivial
theorem tpx_o22 {Ω : Nat → (Nat → Nat) → va_E → Prop} {κ : Nat → ClassId} {τ ν τ1 ν1 : Nat → Nat} {ρ ρ1 : Nat → Nat → Nat} {a : Nat} {e : va_E} (hE : ∀ b, τ b ≠ 0 → τ1 b = τ b ∧ ν1 b = ν b ∧ ρ1 b = ρ b) (ha : τ a = 22) (hg : tp_g τ ν ρ 22 a) (h : tp_ok Ω κ τ ν ρ 22 a e) : tp_ok Ω κ τ1 ν1 ρ1 22 a e := by
  have e0 := hE a (by rw [ha]; decide)
  have h9 : ∃ g : Nat → Int32, e = .inl (κ 2, ν a, .inl g) := h
  show ∃ g : Nat → Int32, e = .inl (κ 2, ν1 a, .inl g)
  rw [e0.2.1]; exact h9
theorem tpx_g23 {κ : Nat → ClassId} {τ ν τ1 ν1 : Nat → Nat} {ρ ρ1 : Nat → Nat → Nat} {a : Nat} {e : va_E} (hE : ∀ b, τ b ≠ 0 → τ1 b = τ b ∧ ν1 b = ν b ∧ ρ1 b = ρ b) (ha : τ a = 23) (h : tp_g τ ν ρ 23 a) : tp_g τ1 ν1 ρ1 23 a := trivial
theorem tpx_o23 {Ω : Nat → (Nat → Nat) → va_E → Prop} {κ : Nat → ClassId} {τ ν τ1 ν1 : Nat → Nat} {ρ ρ1 : Nat → Nat → Nat} {a : Nat} {e : va_E} (hE : ∀ b, τ b ≠ 0 → τ1 b = τ b ∧ ν1 b = ν b ∧ ρ1 b = ρ b) (ha : τ a = 23) (hg : tp_g τ ν ρ 23 a) (h : tp_ok Ω κ τ ν ρ 23 a e) : tp_ok Ω κ τ1 ν1 ρ1 23 a e := by
  have e0 := hE a (by rw [ha]; decide)
  have h9 : ∃ g : Nat → Int32, e = .inl (κ 3, ν a, .inl g) := h
  show ∃ g : Nat → Int32, e = .inl (κ 3, ν1 a, .inl g)
  rw [e0.2.1]; exact h9
theorem tpx_g24 {κ : Nat → ClassId} {τ ν τ1 ν1 : Nat → Nat} {ρ ρ1 : Nat → Nat → Nat} {a : Nat} {e : va_E} (hE : ∀ b, τ b ≠ 0 → τ1 b = τ b ∧ ν1 b = ν b ∧ ρ1 b = ρ b) (ha : τ a = 24) (h : tp_g τ ν ρ 24 a) : tp_g τ1 ν1 ρ1 24 a := by
  have h9 : ∀ j : Nat, j < 6 → τ (ρ a j) = 9 := h
  have e0 := hE a (by rw [ha]; decide)
  show ∀ j : Nat, j < 6 → τ1 (ρ1 a j) = 9
  intro j hj
  rw [e0.2.2]; exact (hE _ (by rw [h9 j hj]; decide)).1.trans (h9 j hj)
theorem tpx_o24 {Ω : Nat → (Nat → Nat) → va_E → Prop} {κ : Nat → ClassId} {τ ν τ1 ν1 : Nat → Nat} {ρ ρ1 : Nat → Nat → Nat} {a : Nat} {e : va_E} (hE : ∀ b, τ b ≠ 0 → τ1 b = τ b ∧ ν1 b = ν b ∧ ρ1 b = ρ b) (ha : τ a = 24) (hg : tp_g τ ν ρ 24 a) (h : tp_ok Ω κ τ ν ρ 24 a e) : tp_ok Ω κ τ1 ν1 ρ1 24 a e := by
  have e0 := hE a (by rw [ha]; decide)
  obtain ⟨g, h1, h2⟩ := h
  exact ⟨g, h1, fun j hj => by rw [e0.2.2]; exact h2 j hj⟩
theorem tpx_g25 {κ : Nat → ClassId} {τ ν τ1 ν1 : Nat → Nat} {ρ ρ1 : Nat → Nat → Nat} {a : Nat} {e : va_E} (hE : ∀ b, τ b ≠ 0 → τ1 b = τ b ∧ ν1 b = ν b ∧ ρ1 b = ρ b) (ha : τ a = 25) (h : tp_g τ ν ρ 25 a) : tp_g τ1 ν1 ρ1 25 a := by
  have h9 : ∀ j : Nat, j < 6 → τ (ρ a j) = 6 := h
  have e0 := hE a (by rw [ha]; decide)
  show ∀ j : Nat, j < 6 → τ1 (ρ1 a j) = 6
  intro j hj
  rw [e0.2.2]; exact (hE _ (by rw [h9 j hj]; decide)).1.trans (h9 j hj)
theorem tpx_o25 {Ω : Nat → (Nat → Nat) → va_E → Prop} {κ : Nat → ClassId} {τ ν τ1 ν1 : Nat → Nat} {ρ ρ1 : Nat → Nat → Nat} {a : Nat} {e : va_E} (hE : ∀ b, τ b ≠ 0 → τ1 b = τ b ∧ ν1 b = ν b ∧ ρ1 b = ρ b) (ha : τ a = 25) (hg : tp_g τ ν ρ 25 a) (h : tp_ok Ω κ τ ν ρ 25 a e) : tp_ok Ω κ τ1 ν1 ρ1 25 a e := by
  have e0 := hE a (by rw [ha]; decide)
  obtain ⟨g, h1, h2⟩ := h
  exact ⟨g, h1, fun j hj => by rw [e0.2.2]; exact h2 j hj⟩
theorem tpx_g26 {κ : Nat → ClassId} {τ ν τ1 ν1 : Nat → Nat} {ρ ρ1 : Nat → Nat → Nat} {a : Nat} {e : va_E} (hE : ∀ b, τ b ≠ 0 → τ1 b = τ b ∧ ν1 b = ν b ∧ ρ1 b = ρ b) (ha : τ a = 26) (h : tp_g τ ν ρ 26 a) : tp_g τ1 ν1 ρ1 26 a := trivial
theorem tpx_o26 {Ω : Nat → (Nat → Nat) → va_E → Prop} {κ : Nat → ClassId} {τ ν τ1 ν1 : Nat → Nat} {ρ ρ1 : Nat → Nat → Nat} {a : Nat} {e : va_E} (hE : ∀ b, τ b ≠ 0 → τ1 b = τ b ∧ ν1 b = ν b ∧ ρ1 b = ρ b) (ha : τ a = 26) (hg : tp_g τ ν ρ 26 a) (h : tp_ok Ω κ τ ν ρ 26 a e) : tp_ok Ω κ τ1 ν1 ρ1 26 a e := by
  obtain ⟨g, h1, h2⟩ := h
  refine ⟨g, h1, fun j hj => ?_⟩
  rcases h2 j hj with q | ⟨b, q, qt⟩
  · exact Or.inl q
  · exact Or.inr ⟨b, q, (hE b (by rw [qt]; decide)).1.trans qt⟩
theorem tpx_g27 {κ : Nat → ClassId} {τ ν τ1 ν1 : Nat → Nat} {ρ ρ1 : Nat → Nat → Nat} {a : Nat} {e : va_E} (hE : ∀ b, τ b ≠ 0 → τ1 b = τ b ∧ ν1 b = ν b ∧ ρ1 b = ρ b) (ha : τ a = 27) (h : tp_g τ ν ρ 27 a) : tp_g τ1 ν1 ρ1 27 a := trivial
theorem tpx_o27 {Ω : Nat → (Nat → Nat) → va_E → Prop} {κ : Nat → ClassId} {τ ν τ1 ν1 : Nat → Nat} {ρ ρ1 : Nat → Nat → Nat} {a : Nat} {e : va_E} (hE : ∀ b, τ b ≠ 0 → τ1 b = τ b ∧ ν1 b = ν b ∧ ρ1 b = ρ b) (ha : τ a = 27) (hg : tp_g τ ν ρ 27 a) (h : tp_ok Ω κ τ ν ρ 27 a e) : tp_ok Ω κ τ1 ν1 ρ1 27 a e := by
  obtain ⟨g, h1, h2⟩ := h
  refine ⟨g, h1, fun j hj => ?_⟩
  rcases h2 j hj with q | ⟨b, q, qt⟩
  · exact Or.inl q
  · exact Or.inr ⟨b, q, (hE b (by rw [qt]; decide)).1.trans qt⟩
theorem tpx_g28 {κ : Nat → ClassId} {τ ν τ1 ν1 : Nat → Nat} {ρ ρ1 : Nat → Nat → Nat} {a : Nat} {e : va_E} (hE : ∀ b, τ b ≠ 0 → τ1 b = τ b ∧ ν1 b = ν b ∧ ρ1 b = ρ b) (ha : τ a = 28) (h : tp_g τ ν ρ 28 a) : tp_g τ1 ν1 ρ1 28 a := trivial
theorem tpx_o28 {Ω : Nat → (Nat → Nat) → va_E → Prop} {κ : Nat → ClassId} {τ ν τ1 ν1 : Nat → Nat} {ρ ρ1 : Nat → Nat → Nat} {a : Nat} {e : va_E} (hE : ∀ b, τ b ≠ 0 → τ1 b = τ b ∧ ν1 b = ν b ∧ ρ1 b = ρ b) (ha : τ a = 28) (hg : tp_g τ ν ρ 28 a) (h : tp_ok Ω κ τ ν ρ 28 a e) : tp_ok Ω κ τ1 ν1 ρ1 28 a e := by
  have e0 := hE a (by rw [ha]; decide)
  have h9 : ∃ g : Nat → Int32, e = .inl (κ 0, ν a, .inl g) ∧ ∀ j : Nat, -1000 ≤ (g j).toInt ∧ (g j).toInt ≤ 100001 := h
  show ∃ g : Nat → Int32, e = .inl (κ 0, ν1 a, .inl g) ∧ ∀ j : Nat, -1000 ≤ (g j).toInt ∧ (g j).toInt ≤ 100001
  rw [e0.2.1]; exact h9
theorem tpj_3 (j : Nat) (h : j < 3) : j = 0 ∨ j = 1 ∨ j = 2 := by omega
theorem tpj_4 (j : Nat) (h : j < 4) : j = 0 ∨ j = 1 ∨ j = 2 ∨ j = 3 := by omega
theorem tpj_5 (j : Nat) (h : j < 5) : j = 0 ∨ j = 1 ∨ j = 2 ∨ j = 3 ∨ j = 4 := by omega
theorem tpj_6 (j : Nat) (h : j < 6) : j = 0 ∨ j = 1 ∨ j = 2 ∨ j = 3 ∨ j = 4 ∨ j = 5 := by omega
theorem tpj_7 (j : Nat) (h : j < 7) : j = 0 ∨ j = 1 ∨ j = 2 ∨ j = 3 ∨ j = 4 ∨ j = 5 ∨ j = 6 := by omega
theorem tpj_12 (j : Nat) (h : j < 12) : j = 0 ∨ j = 1 ∨ j = 2 ∨ j = 3 ∨ j = 4 ∨ j = 5 ∨ j = 6 ∨ j = 7 ∨ j = 8 ∨ j = 9 ∨ j = 10 ∨ j = 11 := by omega
theorem tpj_15 (j : Nat) (h : j < 15) : j = 0 ∨ j = 1 ∨ j = 2 ∨ j = 3 ∨ j = 4 ∨ j = 5 ∨ j = 6 ∨ j = 7 ∨ j = 8 ∨ j = 9 ∨ j = 10 ∨ j = 11 ∨ j = 12 ∨ j = 13 ∨ j = 14 := by omega
theorem tpj_16 (j : Nat) (h : j < 16) : j = 0 ∨ j = 1 ∨ j = 2 ∨ j = 3 ∨ j = 4 ∨ j = 5 ∨ j = 6 ∨ j = 7 ∨ j = 8 ∨ j = 9 ∨ j = 10 ∨ j = 11 ∨ j = 12 ∨ j = 13 ∨ j = 14 ∨ j = 15 := by omega
theorem tpj_17 (j : Nat) (h : j < 17) : j = 0 ∨ j = 1 ∨ j = 2 ∨ j = 3 ∨ j = 4 ∨ j = 5 ∨ j = 6 ∨ j = 7 ∨ j = 8 ∨ j = 9 ∨ j = 10 ∨ j = 11 ∨ j = 12 ∨ j = 13 ∨ j = 14 ∨ j = 15 ∨ j = 16 := by omega
theorem tpj_19 (j : Nat) (h : j < 19) : j = 0 ∨ j = 1 ∨ j = 2 ∨ j = 3 ∨ j = 4 ∨ j = 5 ∨ j = 6 ∨ j = 7 ∨ j = 8 ∨ j = 9 ∨ j = 10 ∨ j = 11 ∨ j = 12 ∨ j = 13 ∨ j = 14 ∨ j = 15 ∨ j = 16 ∨ j = 17 ∨ j = 18 := by omega
theorem tpx_g {κ : Nat → ClassId} {τ ν τ1 ν1 : Nat → Nat} {ρ ρ1 : Nat → Nat → Nat} {a : Nat} (hE : ∀ b, τ b ≠ 0 → τ1 b = τ b ∧ ν1 b = ν b ∧ ρ1 b = ρ b) (t : Nat) (ha : τ a = t) (h0 : t ≠ 0) (h : tp_g τ ν ρ t a) : tp_g τ1 ν1 ρ1 t a := by
  by_cases n1 : t = 1
  · subst n1; exact tpx_g1 (κ := κ) (e := .inr (0, [])) hE ha h
  by_cases n2 : t = 2
  · subst n2; exact tpx_g2 (κ := κ) (e := .inr (0, [])) hE ha h
  by_cases n3 : t = 3
  · subst n3; exact tpx_g3 (κ := κ) (e := .inr (0, [])) hE ha h
  by_cases n4 : t = 4
  · subst n4; exact tpx_g4 (κ := κ) (e := .inr (0, [])) hE ha h
  by_cases n5 : t = 5
  · subst n5; exact tpx_g5 (κ := κ) (e := .inr (0, [])) hE ha h
  by_cases n6 : t = 6
  · subst n6; exact tpx_g6 (κ := κ) (e := .inr (0, [])) hE ha h
  by_cases n7 : t = 7
  · subst n7; exact tpx_g7 (κ := κ) (e := .inr (0, [])) hE ha h
  by_cases n8 : t = 8
  · subst n8; exact tpx_g8 (κ := κ) (e := .inr (0, [])) hE ha h
  by_cases n9 : t = 9
  · subst n9; exact tpx_g9 (κ := κ) (e := .inr (0, [])) hE ha h
  by_cases n10 : t = 10
  · subst n10; exact tpx_g10 (κ := κ) (e := .inr (0, [])) hE ha h
  by_cases n11 : t = 11
  · subst n11; exact tpx_g11 (κ := κ) (e := .inr (0, [])) hE ha h
  by_cases n12 : t = 12
  · subst n12; exact tpx_g12 (κ := κ) (e := .inr (0, [])) hE ha h
  by_cases n20 : t = 20
  · subst n20; exact tpx_g20 (κ := κ) (e := .inr (0, [])) hE ha h
  by_cases n21 : t = 21
  · subst n21; exact tpx_g21 (κ := κ) (e := .inr (0, [])) hE ha h
  by_cases n22 : t = 22
  · subst n22; exact tpx_g22 (κ := κ) (e := .inr (0, [])) hE ha h
  by_cases n23 : t = 23
  · subst n23; exact tpx_g23 (κ := κ) (e := .inr (0, [])) hE ha h
  by_cases n24 : t = 24
  · subst n24; exact tpx_g24 (κ := κ) (e := .inr (0, [])) hE ha h
  by_cases n25 : t = 25
  · subst n25; exact tpx_g25 (κ := κ) (e := .inr (0, [])) hE ha h
  by_cases n26 : t = 26
  · subst n26; exact tpx_g26 (κ := κ) (e := .inr (0, [])) hE ha h
  by_cases n27 : t = 27
  · subst n27; exact tpx_g27 (κ := κ) (e := .inr (0, [])) hE ha h
  by_cases n28 : t = 28
  · subst n28; exact tpx_g28 (κ := κ) (e := .inr (0, [])) hE ha h
  by_cases n13 : t = 13
  · subst n13; exact tpx_g13 (κ := κ) (e := .inr (0, [])) hE ha h
  unfold tp_g
  split <;> first | trivial | (exfalso; omega)
theorem tpx_o {Ω : Nat → (Nat → Nat) → va_E → Prop} {κ : Nat → ClassId} {τ ν τ1 ν1 : Nat → Nat} {ρ ρ1 : Nat → Nat → Nat} {a : Nat} {e : va_E} (hE : ∀ b, τ b ≠ 0 → τ1 b = τ b ∧ ν1 b = ν b ∧ ρ1 b = ρ b) (t : Nat) (ha : τ a = t) (h0 : t ≠ 0) (hg : tp_g τ ν ρ t a) (h : tp_ok Ω κ τ ν ρ t a e) : tp_ok Ω κ τ1 ν1 ρ1 t a e := by
  by_cases n1 : t = 1
  · subst n1; exact tpx_o1 hE ha hg h
  by_cases n2 : t = 2
  · subst n2; exact tpx_o2 hE ha hg h
  by_cases n3 : t = 3
  · subst n3; exact tpx_o3 hE ha hg h
  by_cases n4 : t = 4
  · subst n4; exact tpx_o4 hE ha hg h
  by_cases n5 : t = 5
  · subst n5; exact tpx_o5 hE ha hg h
  by_cases n6 : t = 6
  · subst n6; exact tpx_o6 hE ha hg h
  by_cases n7 : t = 7
  · subst n7; exact tpx_o7 hE ha hg h
  by_cases n8 : t = 8
  · subst n8; exact tpx_o8 hE ha hg h
  by_cases n9 : t = 9
  · subst n9; exact tpx_o9 hE ha hg h
  by_cases n10 : t = 10
  · subst n10; exact tpx_o10 hE ha hg h
  by_cases n11 : t = 11
  · subst n11; exact tpx_o11 hE ha hg h
  by_cases n12 : t = 12
  · subst n12; exact tpx_o12 hE ha hg h
  by_cases n20 : t = 20
  · subst n20; exact tpx_o20 hE ha hg h
  by_cases n21 : t = 21
  · subst n21; exact tpx_o21 hE ha hg h
  by_cases n22 : t = 22
  · subst n22; exact tpx_o22 hE ha hg h
  by_cases n23 : t = 23
  · subst n23; exact tpx_o23 hE ha hg h
  by_cases n24 : t = 24
  · subst n24; exact tpx_o24 hE ha hg h
  by_cases n25 : t = 25
  · subst n25; exact tpx_o25 hE ha hg h
  by_cases n26 : t = 26
  · subst n26; exact tpx_o26 hE ha hg h
  by_cases n27 : t = 27
  · subst n27; exact tpx_o27 hE ha hg h
  by_cases n28 : t = 28
  · subst n28; exact tpx_o28 hE ha hg h
  have e0 := hE a (by rw [ha]; exact h0)
  have k1 : tp_ok Ω κ τ ν ρ t a e = Ω t (ρ a) e := by
    unfold tp_ok
    split <;> first | rfl | (exfalso; omega)
  have k2 : tp_ok Ω κ τ1 ν1 ρ1 t a e = Ω t (ρ1 a) e := by
    unfold tp_ok
    split <;> first | rfl | (exfalso; omega)
  rw [k2, e0.2.2, ← k1]; exact h
theorem tp_type {Ω : Nat → (Nat → Nat) → va_E → Prop} {κ : Nat → ClassId} {τ ν : Nat → Nat} {ρ : Nat → Nat → Nat} {L : List Nat} {f : Nat → va_E} (hG : tp_G τ ν ρ L) (hT : tp_T Ω κ τ ν ρ f) {o : Nat} (ho : o ∈ L) (h0 : τ o = 0) (t n : Nat) (r : Nat → Nat) (ht : t ≠ 0)
    (H : ∀ (τ1 ν1 : Nat → Nat) (ρ1 : Nat → Nat → Nat), (∀ b, τ b ≠ 0 → τ1 b = τ b ∧ ν1 b = ν b ∧ ρ1 b = ρ b) → ν1 o = n → ρ1 o = r → tp_g τ1 ν1 ρ1 t o ∧ tp_ok Ω κ τ1 ν1 ρ1 t o (f o)) :
    ∃ (τ1 ν1 : Nat → Nat) (ρ1 : Nat → Nat → Nat), tp_G τ1 ν1 ρ1 L ∧ tp_T Ω κ τ1 ν1 ρ1 f ∧ (∀ b, b ≠ o → τ1 b = τ b ∧ ν1 b = ν b ∧ ρ1 b = ρ b) ∧ τ1 o = t ∧ ν1 o = n ∧ ρ1 o = r := by
  refine ⟨fun a => if a = o then t else τ a, fun a => if a = o then n else ν a, fun a => if a = o then r else ρ a, ?_, ?_, fun b hb => ⟨if_neg hb, if_neg hb, if_neg hb⟩, if_pos rfl, if_pos rfl, if_pos rfl⟩
  all_goals generalize e1 : (fun a => if a = o then t else τ a) = τ1
  all_goals generalize e2 : (fun a => if a = o then n else ν a) = ν1
  all_goals generalize e3 : (fun a => if a = o then r else ρ a) = ρ1
  all_goals have q1 : τ1 o = t := by rw [← e1]; exact if_pos rfl
  all_goals have q2 : ν1 o = n := by rw [← e2]; exact if_pos rfl
  all_goals have q3 : ρ1 o = r := by rw [← e3]; exact if_pos rfl
  all_goals have hb : ∀ b, b ≠ o → τ1 b = τ b ∧ ν1 b = ν b ∧ ρ1 b = ρ b := fun b hb => by rw [← e1, ← e2, ← e3]; exact ⟨if_neg hb, if_neg hb, if_neg hb⟩
  all_goals have hE : ∀ b, τ b ≠ 0 → τ1 b = τ b ∧ ν1 b = ν b ∧ ρ1 b = ρ b := fun b q => hb b (fun z => q (by rw [z]; exact h0))
  all_goals have K := H τ1 ν1 ρ1 hE q2 q3
  · refine ⟨fun a ha => ?_, fun a => ?_⟩
    · by_cases z : a = o
      · rw [z]; exact ho
      · exact hG.1 a (by rw [← (hb a z).1]; exact ha)
    · by_cases z : a = o
      · rw [z, q1]; exact K.1
      · rw [(hb a z).1]
        by_cases y : τ a = 0
        · rw [y]; trivial
        · exact tpx_g (κ := κ) hE _ rfl y (hG.2 a)
  · intro a ha
    by_cases z : a = o
    · rw [z, q1]; exact K.2
    · rw [(hb a z).1]
      have y : τ a ≠ 0 := by rw [← (hb a z).1]; exact ha
      exact tpx_o hE _ rfl y (hG.2 a) (hT a y)
theorem tp_grow {Ω : Nat → (Nat → Nat) → va_E → Prop} {κ : Nat → ClassId} {τ ν : Nat → Nat} {ρ : Nat → Nat → Nat} {L : List Nat} {f : Nat → va_E} {D : va_G} {cl : List vw_C} {A : Nat → Prop} {H : Heap} {q : Nat} {e : va_E} (hG : tp_G τ ν ρ L) (hT : tp_T Ω κ τ ν ρ f) (hP : va_P D cl (va_pl L f ++ [(q, e)]) H) (hD : va_D A (va_pl L f ++ [(q, e)])) :
    ∃ (L1 : List Nat) (f1 : Nat → va_E), va_P D cl (va_pl L1 f1) H ∧ va_D A (va_pl L1 f1) ∧ tp_G τ ν ρ L1 ∧ tp_T Ω κ τ ν ρ f1 ∧ (∀ a, a ∈ L → a ∈ L1) ∧ q ∈ L1 ∧ τ q = 0 ∧ (∀ a, a ∈ L → a ≠ q) ∧ f1 q = e ∧ ∀ a, a ≠ q → f1 a = f a := by
  have hq : ∀ a, a ∈ L → a ≠ q := by
    intro a ha z
    obtain ⟨k, hk, hk1⟩ := List.getElem_of_mem ha
    have h1 : (va_pl L f ++ [(q, e)])[k]? = some (a, f a) := by
      rw [List.getElem?_append_left (by simp [va_pl]; exact hk)]
      simp [va_pl, List.getElem?_eq_getElem hk, hk1]
    have h2 : (va_pl L f ++ [(q, e)])[L.length]? = some (q, e) := by
      rw [List.getElem?_append_right (by simp [va_pl])]
      simp [va_pl]
    have := hD.1 k L.length _ _ h1 h2 z
    omega
  have h0 : τ q = 0 := Classical.byContradiction fun z => hq q (hG.1 q z) rfl
  have eL : va_pl L f ++ [(q, e)] = va_pl (L ++ [q]) (va_up f q e) := by
    simp only [va_pl, List.map_append, List.map_cons, List.map_nil]
    congr 1
    · apply List.map_congr_left
      intro a ha
      simp [va_up, hq a ha]
    · simp [va_up]
  rw [eL] at hP hD
  refine ⟨L ++ [q], va_up f q e, hP, hD, ⟨fun a ha => List.mem_append_left _ (hG.1 a ha), hG.2⟩, ?_, fun a ha => List.mem_append_left _ ha, List.mem_append_right _ (List.mem_singleton.mpr rfl), h0, hq, by simp [va_up], fun a ha => by simp [va_up, ha]⟩
  intro a ha
  have : a ≠ q := fun z => ha (by rw [z]; exact h0)
  have e1 : va_up f q e a = f a := by simp [va_up, this]
  rw [e1]; exact hT a ha
theorem tp_kid {D : va_G} {cl : List vw_C} {κ : Nat → ClassId} {s : State} {cA : ClassId} {ty : FieldType} (i : Nat) (hi : (tp_K κ)[i]? = some (κ i, ty)) (hK : va_K D cl (tp_K κ ++ [(cA, ty)]) s) : cA = κ i ∧ va_K D cl (tp_K κ) s := by
  have hl : i < (tp_K κ).length := (List.getElem?_eq_some_iff.mp hi).1
  have a1 := (hK.2 i (κ i, ty) (by rw [List.getElem?_append_left hl]; exact hi)).2
  have a2 := (hK.2 (tp_K κ).length (cA, ty) (by rw [List.getElem?_append_right (Nat.le_refl _)]; simp)).2
  refine ⟨?_, hK.1, fun k x hx => hK.2 k x (by rw [List.getElem?_append_left (List.getElem?_eq_some_iff.mp hx).1]; exact hx)⟩
  cases ty with
  | object C =>
    obtain ⟨_, _, _, _, _, b1⟩ := a1
    obtain ⟨_, _, _, _, _, b2⟩ := a2
    exact Option.some.inj (b2.symm.trans b1)
  | _ => exact Option.some.inj (a2.symm.trans a1)
theorem pz_na_int (cA : ClassId) (n : Nat) : vp_cell cA (n, .inl (fun _ => 0)) = arrV cA n (fun _ => defaultValue .int) := rfl
theorem pz_na_char (cA : ClassId) (n : Nat) : vp_cell cA (n, .inl (fun _ => 0)) = arrV cA n (fun _ => defaultValue .char) := rfl
theorem pz_na_boolean (cA : ClassId) (n : Nat) : vp_cell cA (n, .inl (fun _ => 0)) = arrV cA n (fun _ => defaultValue .boolean) := rfl
theorem pz_na_long (cA : ClassId) (n : Nat) : vp_cell cA (n, .inr (.inl (fun _ => 0))) = arrV cA n (fun _ => defaultValue .long) := rfl
theorem zi_cn (x : Int32) : x.toNatClampNeg = x.toInt.toNat := rfl
abbrev tp_S := (Nat → Nat) × (Nat → Nat) × (Nat → Nat → Nat) × List Nat × (Nat → va_E)
def tp_H (τ ν : Nat → Nat) (ρ : Nat → Nat → Nat) (L : List Nat) (f : Nat → va_E) (S : List Nat) (o : Option Nat) (τ1 ν1 : Nat → Nat) (ρ1 : Nat → Nat → Nat) (L1 : List Nat) (f1 : Nat → va_E) : Prop := (∀ a, a ∈ L → a ∈ L1) ∧ ∀ a, a ∈ L → some a ≠ o → τ1 a = τ a ∧ ν1 a = ν a ∧ ρ1 a = ρ a ∧ (τ a ∉ S → f1 a = f a)
def tp_PX (Ω : Nat → (Nat → Nat) → va_E → Prop) (κ : Nat → ClassId) (τ ν : Nat → Nat) (ρ : Nat → Nat → Nat) (L : List Nat) (f : Nat → va_E) (S : List Nat) (o : Option Nat) (x : tp_S) : Prop := tp_G x.1 x.2.1 x.2.2.1 x.2.2.2.1 ∧ tp_T Ω κ x.1 x.2.1 x.2.2.1 x.2.2.2.2 ∧ tp_H τ ν ρ L f S o x.1 x.2.1 x.2.2.1 x.2.2.2.1 x.2.2.2.2
section TPH
variable {Ω : Nat → (Nat → Nat) → va_E → Prop} {κ : Nat → ClassId} {τ ν τ1 ν1 τ2 ν2 : Nat → Nat} {ρ ρ1 ρ2 : Nat → Nat → Nat} {L L1 L2 : List Nat} {f f1 f2 : Nat → va_E} {S S1 : List Nat} {o : Option Nat} {q t : Nat}
theorem tp_H.rf : tp_H τ ν ρ L f S o τ ν ρ L f := ⟨fun _ h => h, fun _ _ _ => ⟨rfl, rfl, rfl, fun _ => rfl⟩⟩
/-- a write to a cell that was typed at the start, of a code in S -/
theorem tp_H.wt (h : tp_H τ ν ρ L f S o τ1 ν1 ρ1 L1 f1) (hq : τ1 q = t) (hs : t ∈ S) (k : ∀ b, b ≠ q → f2 b = f1 b) : tp_H τ ν ρ L f S o τ1 ν1 ρ1 L1 f2 := ⟨h.1, fun a ha ho => by
  obtain ⟨h1, h2, h3, h4⟩ := h.2 a ha ho
  exact ⟨h1, h2, h3, fun hn => by rw [k a (fun z => hn (by rw [← h1, z, hq]; exact hs))]; exact h4 hn⟩⟩
/-- a write to the cell that is being made -/
theorem tp_H.wo (h : tp_H τ ν ρ L f S (some q) τ1 ν1 ρ1 L1 f1) (k : ∀ b, b ≠ q → f2 b = f1 b) : tp_H τ ν ρ L f S (some q) τ1 ν1 ρ1 L1 f2 := ⟨h.1, fun a ha ho => by
  obtain ⟨h1, h2, h3, h4⟩ := h.2 a ha ho
  exact ⟨h1, h2, h3, fun hn => by rw [k a (fun z => ho (by rw [z]))]; exact h4 hn⟩⟩
/-- a write to a cell that wasn't there at the start -/
theorem tp_H.wn (h : tp_H τ ν ρ L f S o τ1 ν1 ρ1 L1 f1) (hq : ∀ a, a ∈ L → a ≠ q) (k : ∀ b, b ≠ q → f2 b = f1 b) : tp_H τ ν ρ L f S o τ1 ν1 ρ1 L1 f2 := ⟨h.1, fun a ha ho => by
  obtain ⟨h1, h2, h3, h4⟩ := h.2 a ha ho
  exact ⟨h1, h2, h3, fun hn => by rw [k a (hq a ha)]; exact h4 hn⟩⟩
theorem tp_H.gr (h : tp_H τ ν ρ L f S o τ1 ν1 ρ1 L1 f1) (hL : ∀ a, a ∈ L1 → a ∈ L2) (hq : ∀ a, a ∈ L1 → a ≠ q) (k : ∀ b, b ≠ q → f2 b = f1 b) : tp_H τ ν ρ L f S o τ1 ν1 ρ1 L2 f2 := ⟨fun a ha => hL a (h.1 a ha), fun a ha ho => by
  obtain ⟨h1, h2, h3, h4⟩ := h.2 a ha ho
  exact ⟨h1, h2, h3, fun hn => by rw [k a (hq a (h.1 a ha))]; exact h4 hn⟩⟩
theorem tp_H.ty (h : tp_H τ ν ρ L f S o τ1 ν1 ρ1 L1 f1) (hq : ∀ a, a ∈ L → some a ≠ o → a ≠ q) (hb : ∀ b, b ≠ q → τ2 b = τ1 b ∧ ν2 b = ν1 b ∧ ρ2 b = ρ1 b) : tp_H τ ν ρ L f S o τ2 ν2 ρ2 L1 f1 := ⟨h.1, fun a ha ho => by
  obtain ⟨h1, h2, h3, h4⟩ := h.2 a ha ho
  obtain ⟨b1, b2, b3⟩ := hb a (hq a ha ho)
  exact ⟨b1.trans h1, b2.trans h2, b3.trans h3, h4⟩⟩
theorem tp_H.pool (h : tp_H τ ν ρ L f S o τ1 ν1 ρ1 L1 f1) (hF : tp_F τ1 S1 f1 f2) (hs : ∀ t ∈ S1, t ∈ S) : tp_H τ ν ρ L f S o τ1 ν1 ρ1 L1 f2 := ⟨h.1, fun a ha ho => by
  obtain ⟨h1, h2, h3, h4⟩ := h.2 a ha ho
  exact ⟨h1, h2, h3, fun hn => by rw [hF a (fun z => hn (hs _ (by rw [← h1]; exact z)))]; exact h4 hn⟩⟩
theorem tp_H.call {o1 : Option Nat} (h : tp_H τ ν ρ L f S o τ1 ν1 ρ1 L1 f1) (h2 : tp_H τ1 ν1 ρ1 L1 f1 S1 o1 τ2 ν2 ρ2 L2 f2) (hs : ∀ t ∈ S1, t ∈ S) (ho1 : ∀ a, a ∈ L → some a ≠ o → some a ≠ o1) : tp_H τ ν ρ L f S o τ2 ν2 ρ2 L2 f2 := ⟨fun a ha => h2.1 a (h.1 a ha), fun a ha ho => by
  obtain ⟨a1, a2, a3, a4⟩ := h.2 a ha ho
  obtain ⟨b1, b2, b3, b4⟩ := h2.2 a (h.1 a ha) (ho1 a ha ho)
  exact ⟨b1.trans a1, b2.trans a2, b3.trans a3, fun hn => (b4 (fun z => hn (hs _ (by rw [← a1]; exact z)))).trans (a4 hn)⟩⟩
theorem tp_T.raw (hT : tp_T Ω κ τ ν ρ f) (h0 : τ q = 0) (k : ∀ b, b ≠ q → f1 b = f b) : tp_T Ω κ τ ν ρ f1 := fun a ha => by
  rw [k a (fun z => ha (by rw [z]; exact h0))]; exact hT a ha
theorem tp_ne0 {a b : Nat} (h : τ a = 0) (h1 : τ b = t) (ht : t ≠ 0) : a ≠ b := fun z => ht (by rw [← h1, ← z]; exact h)
theorem tp_Dw {A A1 : Nat → Prop} {ws : va_W} (h : va_D A1 ws) (hi : ∀ q, A1 q → A q) : va_D A ws := ⟨h.1, fun k q hk => hi _ (h.2 k q hk)⟩
end TPH
section TPWD
variable {p : Program} {l : Launch} {e : Env} {R : Room} {s : State} {m : MethodId} {args : Array Value} {below : List Frame} {meth : Method} {c : Code} {H : Heap} {locs : List Loc} {cells slots : Nat} {Q : State → Prop} {g : JFrame}
theorem tp_widen (k n : Nat) (h1 : cells ≤ k) (h2 : slots ≤ n) (kk : W p l e R s m args below meth c H locs k n Q g) : W p l e R s m args below meth c H locs cells slots Q g := fun T hT X => kk T hT (stand_widen X h1 h2)
end TPWD

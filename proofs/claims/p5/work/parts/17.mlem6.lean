theorem mo_dec1 {F F' B B' : Int} (h : F < F') (hB : B = 0) (hF : F ≤ 400) (hB' : 0 ≤ B') : (2010 - 5 * F' - 3000 * B').toNat < (2010 - 5 * F - 3000 * B).toNat := by omega
theorem mo_dec2 {t r F F' B B' : Int} (h : B' = 0 → (r = 4 ∧ F ≤ F') ∨ F < F') (hB : B = 0) (ht : t ≠ 4) (hF : F ≤ 400) (hF0 : 0 ≤ F') (hB' : 0 ≤ B') : (2010 + mo_tw r - 5 * F' - 3000 * B').toNat < (2010 + mo_tw t - 5 * F - 3000 * B).toNat := by
  have a := (mo_tw_all r).1; have a4 := (mo_tw_all r).2.1; have b := (mo_tw_all t).1
  have b4 : 1 ≤ mo_tw t := by unfold mo_tw; rw [if_neg ht]; split <;> (try split) <;> omega
  by_cases q : B' = 0
  · rcases h q with ⟨z, y⟩ | y
    · have := a4 z; omega
    · omega
  · omega
theorem mo_dec3 {t r F F' B B' : Int} (h : B' = 0 → (r = 4 ∧ F ≤ F') ∨ F < F' ∨ (F' = F ∧ r = 2)) (ht2 : t ≠ 2) (hB : B = 0) (ht : t ≠ 4) (hF : F ≤ 400) (hF0 : 0 ≤ F') (hB' : 0 ≤ B') : (2010 + mo_tw r - 5 * F' - 3000 * B').toNat < (2010 + mo_tw t - 5 * F - 3000 * B).toNat := by
  by_cases q : B' = 0
  · rcases h q with z | z | ⟨z, y⟩
    · exact mo_dec2 (fun _ => Or.inl z) hB ht hF hF0 hB'
    · exact mo_dec2 (fun _ => Or.inr z) hB ht hF hF0 hB'
    · have b4 : 2 ≤ mo_tw t := by unfold mo_tw; rw [if_neg ht, if_neg ht2]; split <;> omega
      have a := (mo_tw_all r).2.2.1 y
      omega
  · exact mo_dec2 (fun z => absurd z q) hB ht hF hF0 hB'
theorem mo_W2.rf (O A : Int → Int) {a b : Int} (h : b ≤ a) : mo_W2 O A a b := ⟨fun _ => 0, rfl, fun k h0 h1 => by omega⟩
theorem mo_EX.start {aa t N n : Int} (O A P Q : Int → Int) (h0 : 0 ≤ aa) (hN : N = aa) (hn : n = 0) (ht : t < 2) : mo_EX aa t O A P Q N n :=
  mo_EX.of0 h0 (mo_PJ.rf aa O A P Q hN hn rfl) (mo_SQ.rf P hn) ht (fun _ => by subst hn; show (-1 : Int) ≠ 31; decide)
/-- the clauses that are read -/
def mo_NC (C O A : Int → Int) (p N : Int) : Prop := ∀ k, 0 ≤ k → k < p → (0 ≤ C (5 * k + 1) ∧ C (5 * k + 1) ≤ C (5 * k + 2) ∧ C (5 * k + 2) ≤ C (5 * k + 3) ∧ C (5 * k + 3) ≤ C (5 * k + 4) ∧ C (5 * k + 4) ≤ N) ∧ mo_W2 O A (C (5 * k + 1)) (C (5 * k + 2)) ∧ mo_W2 O A (C (5 * k + 3)) (C (5 * k + 4))
theorem mo_NC.rf (C O A : Int → Int) {p N : Int} (h : p ≤ 0) : mo_NC C O A p N := fun k h0 h1 => by omega
section MNC
variable {C C1 C2 C3 C4 C5 O A O2 A2 : Int → Int} {p N N1 N2 v : Int}
theorem mo_NC.add (h : mo_NC C O A p N) (h0 : 0 ≤ p) (hN : 0 ≤ N) (u1 : mo_U C C1 (5 * p) v) (u2 : mo_U C1 C2 (5 * p + 1) N) (u3 : mo_U C2 C3 (5 * p + 2) N1) (u4 : mo_U C3 C4 (5 * p + 3) N1) (u5 : mo_U C4 C5 (5 * p + 4) N2)
    (hF : mo_FR N O A O2 A2) (w1 : mo_W2 O2 A2 N N1) (w2 : mo_W2 O2 A2 N1 N2) (l1 : N ≤ N1) (l2 : N1 ≤ N2) {p' : Int} (hp : p' = p + 1) : mo_NC C5 O2 A2 p' N2 := by
  intro k k0 k1
  rcases (show k < p ∨ k = p by omega) with q | q
  · have e : ∀ j, 0 ≤ j → j < 5 * p → C5 j = C j := fun j j0 j1 => (u5.ne j0 (by omega)).trans ((u4.ne j0 (by omega)).trans ((u3.ne j0 (by omega)).trans ((u2.ne j0 (by omega)).trans (u1.ne j0 (by omega)))))
    rw [e _ (by omega) (by omega), e _ (by omega) (by omega), e _ (by omega) (by omega), e _ (by omega) (by omega)]
    obtain ⟨a, b, c⟩ := h k k0 q
    exact ⟨by omega, b.same (fun i i0 i1 => hF i (by omega) (by omega)), c.same (fun i i0 i1 => hF i (by omega) (by omega))⟩
  · subst q
    have e1 : C5 (5 * k + 1) = N := (u5.ne (by omega) (by omega)).trans ((u4.ne (by omega) (by omega)).trans ((u3.ne (by omega) (by omega)).trans (u2.eq (by omega))))
    have e2 : C5 (5 * k + 2) = N1 := (u5.ne (by omega) (by omega)).trans ((u4.ne (by omega) (by omega)).trans (u3.eq (by omega)))
    have e3 : C5 (5 * k + 3) = N1 := (u5.ne (by omega) (by omega)).trans (u4.eq (by omega))
    have e4 : C5 (5 * k + 4) = N2 := u5.eq (by omega)
    rw [e1, e2, e3, e4]
    exact ⟨by omega, w1, w2⟩
/-- a contract's row as it is being filled: k1 cells of its clauses, k2 ops -/
def mo_CC (R : Int → Int) (B : Int) (C O A : Int → Int) (p k1 k2 : Int) : Prop := R (B + 3) = p ∧ (∀ j, 0 ≤ j → j < k1 → R (B + 4 + j) = C j) ∧ (∀ k, 0 ≤ k → k < k2 → R (B + 64 + 2 * k) = O k ∧ R (B + 65 + 2 * k) = A k)
theorem mo_CC.rf {R : Int → Int} {B : Int} (C O A : Int → Int) (h : R (B + 3) = p) {k1 k2 : Int} (h1 : k1 ≤ 0) (h2 : k2 ≤ 0) : mo_CC R B C O A p k1 k2 := ⟨h, fun j j0 j1 => by omega, fun k k0 k1 => by omega⟩
theorem mo_CC.c {R R' : Int → Int} {B k1 k1' w i : Int} (h : mo_CC R B C O A p k1 0) (hB : 0 ≤ B) (h0 : 0 ≤ k1) (hU : mo_U R R' i w) (hi : i = B + 4 + k1) (hw : w = C k1) (hk : k1' = k1 + 1) : mo_CC R' B C O A p k1' 0 := by
  refine ⟨(hU.ne (by omega) (by omega)).trans h.1, fun j j0 j1 => ?_, fun k k0 k1 => by omega⟩
  rcases (show j < k1 ∨ j = k1 by omega) with q | q
  · exact (hU.ne (by omega) (by omega)).trans (h.2.1 j j0 q)
  · subst q; rw [← hw, ← hi]; exact hU.eq (by omega)
theorem mo_CC.o {R R1 R2 : Int → Int} {B k1 k2 k2' w x i j : Int} (h : mo_CC R B C O A p k1 k2) (hB : 0 ≤ B) (h0 : 0 ≤ k2) (h60 : k1 ≤ 60) (hU : mo_U R R1 i w) (hi : i = B + 64 + 2 * k2) (hw : w = O k2) (hV : mo_U R1 R2 j x) (hj : j = B + 65 + 2 * k2) (hx : x = A k2) (hk : k2' = k2 + 1) : mo_CC R2 B C O A p k1 k2' := by
  refine ⟨((hV.ne (by omega) (by omega)).trans (hU.ne (by omega) (by omega))).trans h.1, fun z z0 z1 => ((hV.ne (by omega) (by omega)).trans (hU.ne (by omega) (by omega))).trans (h.2.1 z z0 z1), fun k q0 q1 => ?_⟩
  rcases (show k < k2 ∨ k = k2 by omega) with q | q
  · have := h.2.2 k q0 q
    exact ⟨((hV.ne (by omega) (by omega)).trans (hU.ne (by omega) (by omega))).trans this.1, ((hV.ne (by omega) (by omega)).trans (hU.ne (by omega) (by omega))).trans this.2⟩
  · subst q
    refine ⟨?_, ?_⟩
    · rw [← hw, ← hi]; exact (hV.ne (by omega) (by omega)).trans (hU.eq (by omega))
    · rw [← hx, ← hj]; exact hV.eq (by omega)
theorem mo_NC.co {R : Int → Int} {B k1 k2 : Int} (h : mo_NC C O A p N) (hc : mo_CC R B C O A p k1 k2) (hp : 0 ≤ p ∧ p ≤ 12) (hN : N ≤ 400) (h1 : 5 * p ≤ k1) (h2 : N ≤ k2) : mo_CO (fun j => R (B + j)) := by
  refine ⟨by show 0 ≤ R (B + 3) ∧ R (B + 3) ≤ 12; rw [hc.1]; exact hp, fun k k0 q => ?_⟩
  have q : k < p := by have q9 : k < R (B + 3) := q; rw [hc.1] at q9; exact q9
  obtain ⟨a, b, c⟩ := h k k0 q
  have e : ∀ m, 1 ≤ m → m ≤ 4 → R (B + (4 + m + 5 * k)) = C (5 * k + m) := fun m m0 m1 => by
    have := hc.2.1 (5 * k + m) (by omega) (by omega)
    rw [← this]; exact congrArg R (by omega)
  have e1 := e 1 (by decide) (by decide)
  have e2 := e 2 (by decide) (by decide)
  have e3 := e 3 (by decide) (by decide)
  have e4 := e 4 (by decide) (by decide)
  show (0 ≤ R (B + (5 + 5 * k)) ∧ R (B + (5 + 5 * k)) ≤ R (B + (6 + 5 * k)) ∧ R (B + (6 + 5 * k)) ≤ R (B + (7 + 5 * k)) ∧ R (B + (7 + 5 * k)) ≤ R (B + (8 + 5 * k)) ∧ R (B + (8 + 5 * k)) ≤ 400) ∧ mo_WF (fun j => R (B + j)) (R (B + (5 + 5 * k))) (R (B + (6 + 5 * k))) ∧ mo_WF (fun j => R (B + j)) (R (B + (7 + 5 * k))) (R (B + (8 + 5 * k)))
  rw [show (4 : Int) + 1 = 5 by decide] at e1
  rw [show (4 : Int) + 2 = 6 by decide] at e2
  rw [show (4 : Int) + 3 = 7 by decide] at e3
  rw [show (4 : Int) + 4 = 8 by decide] at e4
  rw [e1, e2, e3, e4]
  exact ⟨by omega, b.row (fun i i0 i1 => hc.2.2 i (by omega) (by omega)), c.row (fun i i0 i1 => hc.2.2 i (by omega) (by omega))⟩
end MNC

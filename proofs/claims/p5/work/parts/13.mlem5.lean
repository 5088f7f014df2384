/-- pending binary ops of a pile; its innermost bracket -/
def mo_bn (P : Int → Int) : Nat → Int
  | 0 => 0
  | k + 1 => mo_bn P k + (if 10 ≤ P k ∧ P k ≤ 16 then 1 else 0)
def mo_in (P : Int → Int) : Nat → Int
  | 0 => -1
  | k + 1 => if 30 ≤ P k then P k else mo_in P k
theorem mo_bn_nn (P : Int → Int) (n : Nat) : 0 ≤ mo_bn P n := by
  induction n with
  | zero => exact Int.le_refl _
  | succ n ih => simp only [mo_bn]; split <;> omega
theorem mo_bn_eq {P P' : Int → Int} (n : Nat) (h : ∀ i : Nat, i < n → P' i = P i) : mo_bn P' n = mo_bn P n := by
  induction n with
  | zero => rfl
  | succ n ih => simp only [mo_bn]; rw [ih (fun i hi => h i (by omega)), h n (by omega)]
theorem mo_in_eq {P P' : Int → Int} (n : Nat) (h : ∀ i : Nat, i < n → P' i = P i) : mo_in P' n = mo_in P n := by
  induction n with
  | zero => rfl
  | succ n ih => simp only [mo_in]; rw [ih (fun i hi => h i (by omega)), h n (by omega)]
section MOP
variable {P P' : Int → Int} {m n : Int}
theorem mo_bn_yes (h0 : 0 ≤ m) (hn : n = m + 1) (hp : 10 ≤ P m ∧ P m ≤ 16) : mo_bn P n.toNat = mo_bn P m.toNat + 1 := by
  rw [show n.toNat = m.toNat + 1 by omega]; simp only [mo_bn]
  rw [show ((m.toNat : Nat) : Int) = m by omega, if_pos hp]
theorem mo_bn_no (h0 : 0 ≤ m) (hn : n = m + 1) (hp : ¬ (10 ≤ P m ∧ P m ≤ 16)) : mo_bn P n.toNat = mo_bn P m.toNat := by
  rw [show n.toNat = m.toNat + 1 by omega]; simp only [mo_bn]
  rw [show ((m.toNat : Nat) : Int) = m by omega, if_neg hp]; omega
theorem mo_in_yes (h0 : 0 ≤ m) (hn : n = m + 1) (hp : 30 ≤ P m) : mo_in P n.toNat = P m := by
  rw [show n.toNat = m.toNat + 1 by omega]; simp only [mo_in]
  rw [show ((m.toNat : Nat) : Int) = m by omega, if_pos hp]
theorem mo_in_no (h0 : 0 ≤ m) (hn : n = m + 1) (hp : ¬ 30 ≤ P m) : mo_in P n.toNat = mo_in P m.toNat := by
  rw [show n.toNat = m.toNat + 1 by omega]; simp only [mo_in]
  rw [show ((m.toNat : Nat) : Int) = m by omega, if_neg hp]
theorem mo_bn_up {v : Int} (hU : mo_U P P' n v) (h0 : 0 ≤ m) (hm : m ≤ n) : mo_bn P' m.toNat = mo_bn P m.toNat := mo_bn_eq _ (fun i hi => hU.ne (by omega) (by omega))
theorem mo_in_up {v : Int} (hU : mo_U P P' n v) (h0 : 0 ≤ m) (hm : m ≤ n) : mo_in P' m.toNat = mo_in P m.toNat := mo_in_eq _ (fun i hi => hU.ne (by omega) (by omega))
end MOP
/-- the code from a to N as it is being made, with the pile of n ops; b: an operand is there -/
def mo_PJ (a : Int) (O A P Q : Int → Int) (N n b : Int) : Prop := ∃ d : Int → Int, d a = 0 ∧ d N = mo_bn P n.toNat + b ∧ a ≤ N ∧ d N ≤ N - a ∧
  (∀ k, a ≤ k → k < N → (0 ≤ d k ∧ d k ≤ k - a) ∧ (0 ≤ O k ∧ O k ≤ 19) ∧ (O k < 10 → O k ≤ 8 ∧ d (k + 1) = d k + 1) ∧ (10 ≤ O k → O k < 17 → 2 ≤ d k ∧ d (k + 1) = d k - 1) ∧ (O k = 17 → 1 ≤ d k ∧ d (k + 1) = d k) ∧
    (18 ≤ O k → 1 ≤ d k ∧ d (k + 1) = d k - 1 ∧ ((∃ i, 0 ≤ i ∧ i < n ∧ 18 ≤ P i ∧ P i ≤ 19 ∧ Q i = k) ∨ (k < A k ∧ A k ≤ N ∧ d (A k) = d k)))) ∧
  (∀ i, 0 ≤ i → i < n → 18 ≤ P i → P i ≤ 19 → a ≤ Q i ∧ Q i < N ∧ d (Q i) = mo_bn P i.toNat + 1) ∧
  (∀ i j, 0 ≤ i → i < j → j < n → 18 ≤ P i → P i ≤ 19 → 18 ≤ P j → P j ≤ 19 → Q i ≠ Q j)
theorem mo_PJ.rf (a : Int) (O A P Q : Int → Int) {N n b : Int} (hN : N = a) (hn : n = 0) (hb : b = 0) : mo_PJ a O A P Q N n b := by
  subst hN; subst hn; subst hb
  exact ⟨fun _ => 0, rfl, rfl, Int.le_refl _, by show (0 : Int) ≤ _; omega, fun k h0 h1 => by omega, fun i h0 h1 => by omega, fun i j h0 h1 h2 => by omega⟩
section MPJ
variable {a N N' n n' b b' v w x : Int} {O O' A A' P P' Q Q' : Int → Int}
theorem mo_PJ.emit (h : mo_PJ a O A P Q N n b) (h0 : 0 ≤ a) (hb : 0 ≤ b) (hO : mo_U O O' N v) (hA : mo_U A A' N w) (hN : N' = N + 1) (hn : 0 ≤ n' ∧ n' ≤ n) (hpop : ∀ i, n' ≤ i → i < n → ¬ (18 ≤ P i ∧ P i ≤ 19)) (hv : 0 ≤ v ∧ v ≤ 17) (hx : x = mo_bn P n'.toNat + b')
    (hl : v < 10 → v ≤ 8 ∧ x = mo_bn P n.toNat + b + 1) (hbn : 10 ≤ v → v < 17 → 2 ≤ mo_bn P n.toNat + b ∧ x = mo_bn P n.toNat + b - 1) (hnt : v = 17 → 1 ≤ mo_bn P n.toNat + b ∧ x = mo_bn P n.toNat + b) : mo_PJ a O' A' P Q N' n' b' := by
  subst hN
  obtain ⟨d, d0, dN, aN, dA, h1, h2, h3⟩ := h
  have nn := mo_bn_nn P n.toNat
  obtain ⟨D, D1, D2⟩ : ∃ D : Int → Int, D (N + 1) = x ∧ ∀ y, y ≠ N + 1 → D y = d y := ⟨fun y => if y = N + 1 then x else d y, if_pos rfl, fun y h => if_neg h⟩
  refine ⟨D, (D2 a (by omega)).trans d0, D1.trans hx, by omega, ?_, fun k k0 k1 => ?_, fun i i0 i1 i2 i3 => ?_, fun i j i0 i1 i2 => h3 i j i0 i1 (by omega)⟩
  · rw [D1]; omega
  · have ek := D2 k (by omega)
    rcases (show k < N ∨ k = N by omega) with q | q
    · have ek1 := D2 (k + 1) (by omega)
      rw [ek, ek1, hO.ne (by omega) (by omega), hA.ne (by omega) (by omega)]
      obtain ⟨c1, c2, c3, c4, c5, c6⟩ := h1 k k0 q
      refine ⟨c1, c2, c3, c4, c5, fun z => ?_⟩
      obtain ⟨e1, e2, e3⟩ := c6 z
      refine ⟨e1, e2, ?_⟩
      rcases e3 with ⟨i, i0, i1, i2, i3, i4⟩ | ⟨g1, g2, g3⟩
      · refine Or.inl ⟨i, i0, ?_, i2, i3, i4⟩
        rcases (show i < n' ∨ n' ≤ i by omega) with y | y
        · exact y
        · exact absurd ⟨i2, i3⟩ (hpop i y i1)
      · exact Or.inr ⟨g1, by omega, (D2 _ (by omega)).trans g3⟩
    · subst q
      have eO : O' k = v := hO.eq (by omega)
      rw [ek, D1, eO]
      exact ⟨⟨by omega, dA⟩, by omega, fun z => by have := hl z; omega, fun z y => by have := hbn z y; omega, fun z => by have := hnt z; omega, fun z => by omega⟩
  · obtain ⟨q1, q2, q3⟩ := h2 i i0 (by omega) i2 i3
    exact ⟨q1, by omega, (D2 _ (by omega)).trans q3⟩
theorem mo_PJ.and (h : mo_PJ a O A P Q N n 1) (h0 : 0 ≤ a) (hn : n = n' + 1) (hn0 : 0 ≤ n') (hp : 18 ≤ P n' ∧ P n' ≤ 19) (hA : mo_U A A' (Q n') N) : mo_PJ a O A' P Q N n' 1 := by
  obtain ⟨d, d0, dN, aN, dA, h1, h2, h3⟩ := h
  have eb := mo_bn_no (P := P) hn0 hn (by omega)
  obtain ⟨q1, q2, q3⟩ := h2 n' hn0 (by omega) hp.1 hp.2
  refine ⟨d, d0, by rw [dN, eb], aN, dA, fun k k0 k1 => ?_, fun i i0 i1 i2 i3 => h2 i i0 (by omega) i2 i3, fun i j i0 i1 i2 => h3 i j i0 i1 (by omega)⟩
  obtain ⟨c1, c2, c3, c4, c5, c6⟩ := h1 k k0 k1
  refine ⟨c1, c2, c3, c4, c5, fun z => ?_⟩
  obtain ⟨e1, e2, e3⟩ := c6 z
  refine ⟨e1, e2, ?_⟩
  rcases hA.at k (by omega) with ⟨y, e⟩ | ⟨y, e⟩
  · refine Or.inr ?_
    rw [e]; exact ⟨k1, Int.le_refl _, by rw [dN, y, q3, eb]⟩
  · rw [e]
    rcases e3 with ⟨i, i0, i1, i2, i3, i4⟩ | g
    · refine Or.inl ⟨i, i0, ?_, i2, i3, i4⟩
      rcases (show i < n' ∨ i = n' by omega) with r | r
      · exact r
      · subst r; exact absurd i4.symm y
    · exact Or.inr g
theorem mo_PJ.push (h : mo_PJ a O A P Q N n b) (hn : 0 ≤ n) (hP : mo_U P P' n v) (hQ : mo_U Q Q' n w) (hn' : n' = n + 1) (hv : ¬ (18 ≤ v ∧ v ≤ 19)) (hb : b = (if 10 ≤ v ∧ v ≤ 16 then 1 else 0) + b') : mo_PJ a O A P' Q' N n' b' := by
  obtain ⟨d, d0, dN, aN, dA, h1, h2, h3⟩ := h
  have e0 : P' n = v := hP.eq hn
  have eb : mo_bn P' n'.toNat = mo_bn P n.toNat + (if 10 ≤ v ∧ v ≤ 16 then 1 else 0) := by
    split
    · rename_i q; rw [mo_bn_yes (P := P') hn hn' (by rw [e0]; exact q), mo_bn_up hP hn (Int.le_refl _)]
    · rename_i q; rw [mo_bn_no (P := P') hn hn' (by rw [e0]; exact q), mo_bn_up hP hn (Int.le_refl _)]; omega
  refine ⟨d, d0, by rw [dN, eb, hb]; omega, aN, dA, fun k k0 k1 => ?_, fun i i0 i1 i2 i3 => ?_, fun i j i0 i1 i2 i3 i4 i5 i6 => ?_⟩
  · obtain ⟨c1, c2, c3, c4, c5, c6⟩ := h1 k k0 k1
    refine ⟨c1, c2, c3, c4, c5, fun z => ?_⟩
    obtain ⟨e1, e2, e3⟩ := c6 z
    refine ⟨e1, e2, ?_⟩
    rcases e3 with ⟨i, i0, i1, i2, i3, i4⟩ | g
    · exact Or.inl ⟨i, i0, by omega, by rw [hP.ne i0 (by omega)]; exact i2, by rw [hP.ne i0 (by omega)]; exact i3, by rw [hQ.ne i0 (by omega)]; exact i4⟩
    · exact Or.inr g
  · rcases hP.at i i0 with ⟨y, e⟩ | ⟨y, e⟩
    · rw [e] at i2 i3; exact absurd ⟨i2, i3⟩ hv
    · rw [e] at i2 i3; rw [hQ.ne i0 y, mo_bn_up hP i0 (by omega)]; exact h2 i i0 (by omega) i2 i3
  · rcases hP.at i i0 with ⟨y, e⟩ | ⟨y, e⟩
    · omega
    · rcases hP.at j (by omega) with ⟨y2, e2⟩ | ⟨y2, e2⟩
      · rw [e2] at i5 i6; exact absurd ⟨i5, i6⟩ hv
      · rw [e] at i3 i4; rw [e2] at i5 i6; rw [hQ.ne i0 y, hQ.ne (by omega) y2]; exact h3 i j i0 i1 (by omega) i3 i4 i5 i6
theorem mo_PJ.pusha (h : mo_PJ a O A P Q N n 1) (h0 : 0 ≤ a) (hn : 0 ≤ n) (hP : mo_U P P' n v) (hQ : mo_U Q Q' n N) (hO : mo_U O O' N v) (hA : mo_U A A' N w) (hv : 18 ≤ v ∧ v ≤ 19) (hN : N' = N + 1) (hn' : n' = n + 1) : mo_PJ a O' A' P' Q' N' n' 0 := by
  subst hN
  obtain ⟨d, d0, dN, aN, dA, h1, h2, h3⟩ := h
  have nn := mo_bn_nn P n.toNat
  have e0 : P' n = v := hP.eq hn
  have eb : mo_bn P' n'.toNat = mo_bn P n.toNat := by rw [mo_bn_no (P := P') hn hn' (by rw [e0]; omega), mo_bn_up hP hn (Int.le_refl _)]
  obtain ⟨D, D1, D2⟩ : ∃ D : Int → Int, D (N + 1) = d N - 1 ∧ ∀ y, y ≠ N + 1 → D y = d y := ⟨fun y => if y = N + 1 then d N - 1 else d y, if_pos rfl, fun y h => if_neg h⟩
  refine ⟨D, (D2 a (by omega)).trans d0, by rw [D1, eb]; omega, by omega, by rw [D1]; omega, fun k k0 k1 => ?_, fun i i0 i1 i2 i3 => ?_, fun i j i0 i1 i2 i3 i4 i5 i6 => ?_⟩
  · have ek := D2 k (by omega)
    rcases (show k < N ∨ k = N by omega) with q | q
    · have ek1 := D2 (k + 1) (by omega)
      rw [ek, ek1, hO.ne (by omega) (by omega), hA.ne (by omega) (by omega)]
      obtain ⟨c1, c2, c3, c4, c5, c6⟩ := h1 k k0 q
      refine ⟨c1, c2, c3, c4, c5, fun z => ?_⟩
      obtain ⟨e1, e2, e3⟩ := c6 z
      refine ⟨e1, e2, ?_⟩
      rcases e3 with ⟨i, i0, i1, i2, i3, i4⟩ | ⟨g1, g2, g3⟩
      · exact Or.inl ⟨i, i0, by omega, by rw [hP.ne i0 (by omega)]; exact i2, by rw [hP.ne i0 (by omega)]; exact i3, by rw [hQ.ne i0 (by omega)]; exact i4⟩
      · exact Or.inr ⟨g1, by omega, (D2 _ (by omega)).trans g3⟩
    · subst q
      have eO : O' k = v := hO.eq (by omega)
      rw [ek, D1, eO]
      exact ⟨⟨by omega, dA⟩, by omega, fun z => by omega, fun z y => by omega, fun z => by omega, fun z => ⟨by omega, rfl, Or.inl ⟨n, hn, by omega, by rw [e0]; exact hv.1, by rw [e0]; exact hv.2, hQ.eq hn⟩⟩⟩
  · rcases hP.at i i0 with ⟨y, e⟩ | ⟨y, e⟩
    · subst y
      rw [hQ.eq i0]
      refine ⟨aN, by omega, ?_⟩
      rw [D2 N (by omega), mo_bn_up hP i0 (Int.le_refl _)]; exact dN
    · rw [e] at i2 i3
      obtain ⟨q1, q2, q3⟩ := h2 i i0 (by omega) i2 i3
      rw [hQ.ne i0 y, mo_bn_up hP i0 (by omega)]
      exact ⟨q1, by omega, (D2 _ (by omega)).trans q3⟩
  · rcases hP.at i i0 with ⟨y, e⟩ | ⟨y, e⟩
    · omega
    · rw [e] at i3 i4
      have qi := h2 i i0 (by omega) i3 i4
      rcases hP.at j (by omega) with ⟨y2, e2⟩ | ⟨y2, e2⟩
      · subst y2; rw [hQ.ne i0 y, hQ.eq (by omega)]; omega
      · rw [e2] at i5 i6; rw [hQ.ne i0 y, hQ.ne (by omega) y2]; exact h3 i j i0 i1 (by omega) i3 i4 i5 i6
theorem mo_PJ.popb (h : mo_PJ a O A P Q N n b) (hn : n = n' + 1) (hn0 : 0 ≤ n') (hp : 30 ≤ P n') : mo_PJ a O A P Q N n' b := by
  obtain ⟨d, d0, dN, aN, dA, h1, h2, h3⟩ := h
  have eb := mo_bn_no (P := P) hn0 hn (by omega)
  refine ⟨d, d0, by rw [dN, eb], aN, dA, fun k k0 k1 => ?_, fun i i0 i1 i2 i3 => h2 i i0 (by omega) i2 i3, fun i j i0 i1 i2 => h3 i j i0 i1 (by omega)⟩
  obtain ⟨c1, c2, c3, c4, c5, c6⟩ := h1 k k0 k1
  refine ⟨c1, c2, c3, c4, c5, fun z => ?_⟩
  obtain ⟨e1, e2, e3⟩ := c6 z
  refine ⟨e1, e2, ?_⟩
  rcases e3 with ⟨i, i0, i1, i2, i3, i4⟩ | g
  · refine Or.inl ⟨i, i0, ?_, i2, i3, i4⟩
    rcases (show i < n' ∨ i = n' by omega) with r | r
    · exact r
    · subst r; omega
  · exact Or.inr g
/-- code that is done -/
def mo_W2 (O A : Int → Int) (a b : Int) : Prop := ∃ d : Int → Int, d a = 0 ∧ ∀ k, a ≤ k → k < b → (0 ≤ d k ∧ d k ≤ k - a) ∧ (0 ≤ O k ∧ O k ≤ 19) ∧ (O k < 10 → O k ≤ 8 ∧ d (k + 1) = d k + 1) ∧ (10 ≤ O k → O k < 17 → 2 ≤ d k ∧ d (k + 1) = d k - 1) ∧ (O k = 17 → 1 ≤ d k ∧ d (k + 1) = d k) ∧ (18 ≤ O k → 1 ≤ d k ∧ d (k + 1) = d k - 1 ∧ k < A k ∧ A k ≤ b ∧ d (A k) = d k)
theorem mo_PJ.done (h : mo_PJ a O A P Q N n b) (hn : n = 0) : mo_W2 O A a N := by
  subst hn
  obtain ⟨d, d0, dN, aN, dA, h1, h2, h3⟩ := h
  refine ⟨d, d0, fun k k0 k1 => ?_⟩
  obtain ⟨c1, c2, c3, c4, c5, c6⟩ := h1 k k0 k1
  refine ⟨c1, c2, c3, c4, c5, fun z => ?_⟩
  obtain ⟨e1, e2, e3⟩ := c6 z
  rcases e3 with ⟨i, i0, i1, -⟩ | g
  · omega
  · exact ⟨e1, e2, g⟩
theorem mo_W2.same (h : mo_W2 O A a b) (e : ∀ k, a ≤ k → k < b → O' k = O k ∧ A' k = A k) : mo_W2 O' A' a b := by
  obtain ⟨d, d0, h1⟩ := h
  refine ⟨d, d0, fun k k0 k1 => ?_⟩
  rw [(e k k0 k1).1, (e k k0 k1).2]; exact h1 k k0 k1
theorem mo_W2.row {R : Int → Int} {B : Int} (h : mo_W2 O A a b) (e : ∀ k, a ≤ k → k < b → R (B + 64 + 2 * k) = O k ∧ R (B + 65 + 2 * k) = A k) : mo_WF (fun j => R (B + j)) a b := by
  obtain ⟨d, d0, h1⟩ := h
  refine ⟨d, d0, fun k k0 k1 => ?_⟩
  have e1 : B + (64 + 2 * k) = B + 64 + 2 * k := by omega
  have e2 : B + (65 + 2 * k) = B + 65 + 2 * k := by omega
  simp only [e1, e2]
  rw [(e k k0 k1).1, (e k k0 k1).2]; exact h1 k k0 k1
end MPJ
/-- what the pile may hold; where no brackets of sums are around tests -/
def mo_PV (P Q : Int → Int) (n : Int) : Prop := ∀ i, 0 ≤ i → i < n → ((10 ≤ P i ∧ P i ≤ 19) ∨ P i = 30 ∨ P i = 31) ∧ 0 ≤ Q i ∧ Q i < 400
def mo_SQ (P : Int → Int) (n : Int) : Prop := ∀ i, 0 ≤ i → i < n → 14 ≤ P i → P i ≤ 30 → mo_in P i.toNat ≠ 31
theorem mo_PV.rf (P Q : Int → Int) {n : Int} (hn : n = 0) : mo_PV P Q n := fun i h0 h1 => by omega
theorem mo_SQ.rf (P : Int → Int) {n : Int} (hn : n = 0) : mo_SQ P n := fun i h0 h1 => by omega
section MPV
variable {n n' v w : Int} {P P' Q Q' : Int → Int}
theorem mo_PV.lt (h : mo_PV P Q n) (hn : n' ≤ n) : mo_PV P Q n' := fun i h0 h1 => h i h0 (by omega)
theorem mo_SQ.lt (h : mo_SQ P n) (hn : n' ≤ n) : mo_SQ P n' := fun i h0 h1 => h i h0 (by omega)
theorem mo_PV.push (h : mo_PV P Q n) (hn : 0 ≤ n) (hP : mo_U P P' n v) (hQ : mo_U Q Q' n w) (hn' : n' = n + 1) (hv : (10 ≤ v ∧ v ≤ 19) ∨ v = 30 ∨ v = 31) (hw : 0 ≤ w ∧ w < 400) : mo_PV P' Q' n' := by
  intro i h0 h1
  rcases hP.at i h0 with ⟨y, e⟩ | ⟨y, e⟩
  · rw [e, y, hQ.eq hn]; exact ⟨hv, hw⟩
  · rw [e, hQ.ne h0 y]; exact h i h0 (by omega)
theorem mo_SQ.push (h : mo_SQ P n) (hn : 0 ≤ n) (hP : mo_U P P' n v) (hn' : n' = n + 1) (hv : 14 ≤ v → v ≤ 30 → mo_in P n.toNat ≠ 31) : mo_SQ P' n' := by
  intro i h0 h1 h2 h3
  rw [mo_in_up hP h0 (by omega)]
  rcases hP.at i h0 with ⟨y, e⟩ | ⟨y, e⟩
  · subst y; rw [e] at h2 h3; exact hv h2 h3
  · rw [e] at h2 h3; exact h i h0 (by omega) h2 h3
theorem mo_in_drop (hn : 0 ≤ n') (k : Nat) (hk : n = n' + k) (h : ∀ i, n' ≤ i → i < n → P i < 30) : mo_in P n.toNat = mo_in P n'.toNat := by
  induction k generalizing n with
  | zero => rw [show n = n' by omega]
  | succ k ih =>
    rw [mo_in_no (P := P) (m := n - 1) (by omega) (by omega) (by have := h (n - 1) (by omega) (by omega); omega)]
    exact ih (by omega) (fun i i0 i1 => h i i0 (by omega))
theorem mo_in_drop' (hn : 0 ≤ n') (hk : n' ≤ n) (h : ∀ i, n' ≤ i → i < n → P i < 30) : mo_in P n.toNat = mo_in P n'.toNat := mo_in_drop hn (n - n').toNat (by omega) h
end MPV
theorem zl_w0 {x p t q r : Int64} {T : Int} (e1 : p = x * 32) (e2 : q = p + t) (e3 : r = q - 96) (hx : x.toInt = 0) (ht : t.toInt = T) (h0 : 0 ≤ T) (h1 : T ≤ 65535) : r.toInt = T - 96 := by
  have a := zl_mul e1 hx (show (32 : Int64).toInt = 32 from rfl) (by omega) (by omega)
  have b := zl_add e2 a ht (by omega) (by omega)
  have c := zl_sub e3 b (show (96 : Int64).toInt = 96 from rfl) (by omega) (by omega)
  omega
def mo_EX (aa t : Int) (O A P Q : Int → Int) (N n : Int) : Prop := 0 ≤ aa ∧ mo_PJ aa O A P Q N n (if 2 ≤ t then 1 else 0) ∧ mo_SQ P n ∧ ((t = 0 ∨ t = 2) → mo_in P n.toNat ≠ 31) ∧ (t = 4 → mo_in P n.toNat = -1)
def mo_FR (aa : Int) (O A O' A' : Int → Int) : Prop := ∀ k, 0 ≤ k → k < aa → O' k = O k ∧ A' k = A k
theorem mo_FR.rf (aa : Int) (O A : Int → Int) : mo_FR aa O A O A := fun k _ _ => ⟨rfl, rfl⟩
theorem mo_FR.then {aa : Int} {O A O1 A1 O2 A2 : Int → Int} (h : mo_FR aa O A O1 A1) (h2 : mo_FR aa O1 A1 O2 A2) : mo_FR aa O A O2 A2 := fun k h0 h1 => ⟨(h2 k h0 h1).1.trans (h k h0 h1).1, (h2 k h0 h1).2.trans (h k h0 h1).2⟩
theorem mo_FR.emit {aa N v w : Int} {O A O1 A1 : Int → Int} (hO : mo_U O O1 N v) (hA : mo_U A A1 N w) (hN : aa ≤ N) : mo_FR aa O A O1 A1 := fun k h0 h1 => ⟨hO.ne h0 (by omega), hA.ne h0 (by omega)⟩
theorem mo_PJ.pop {a N N' n n' v w : Int} {O O' A A' P Q : Int → Int} (h : mo_PJ a O A P Q N n 1) (h0 : 0 ≤ a) (hO : mo_U O O' N v) (hA : mo_U A A' N w) (hN : N' = N + 1) (hn : n = n' + 1) (hn0 : 0 ≤ n') (hv : v = P n') (hr : 10 ≤ v ∧ v ≤ 17) : mo_PJ a O' A' P Q N' n' 1 := by
  have nn := mo_bn_nn P n'.toNat
  refine h.emit h0 (by decide) hO hA hN ⟨hn0, by omega⟩ (fun i i0 i1 => by rw [show i = n' by omega, ← hv]; omega) (by omega) rfl (fun z => by omega) (fun z y => ?_) (fun z => ?_)
  · have := mo_bn_yes (P := P) hn0 hn (by rw [← hv]; omega); omega
  · have := mo_bn_no (P := P) hn0 hn (by rw [← hv]; omega); omega
theorem mo_PJ.leaf {a N N' n v w : Int} {O O' A A' P Q : Int → Int} (h : mo_PJ a O A P Q N n 0) (h0 : 0 ≤ a) (hO : mo_U O O' N v) (hA : mo_U A A' N w) (hN : N' = N + 1) (hn : 0 ≤ n) (hv : 0 ≤ v ∧ v ≤ 8) : mo_PJ a O' A' P Q N' n 1 :=
  h.emit h0 (by decide) hO hA hN ⟨hn, Int.le_refl _⟩ (fun i i0 i1 => by omega) (by omega) rfl (fun z => ⟨hv.2, by omega⟩) (fun z y => by omega) (fun z => by omega)
section MEX
variable {aa t t' N N' n n' n1 v w : Int} {O A P Q O' A' P' Q' : Int → Int}
theorem mo_EX.pj1 (h : mo_EX aa t O A P Q N n) (ht : 2 ≤ t) : mo_PJ aa O A P Q N n 1 := by have := h.2.1; rw [if_pos ht] at this; exact this
theorem mo_EX.pj0 (h : mo_EX aa t O A P Q N n) (ht : t < 2) : mo_PJ aa O A P Q N n 0 := by have := h.2.1; rw [if_neg (by omega)] at this; exact this
theorem mo_EX.of0 (h0 : 0 ≤ aa) (h : mo_PJ aa O A P Q N n 0) (hs : mo_SQ P n) (ht : t < 2) (hi : t = 0 → mo_in P n.toNat ≠ 31) : mo_EX aa t O A P Q N n := ⟨h0, by rw [if_neg (by omega)]; exact h, hs, fun q => hi (by omega), fun q => by omega⟩
theorem mo_EX.of1 (h0 : 0 ≤ aa) (h : mo_PJ aa O A P Q N n 1) (hs : mo_SQ P n) (ht : 2 ≤ t) (hi : t = 2 → mo_in P n.toNat ≠ 31) (h4 : t = 4 → mo_in P n.toNat = -1) : mo_EX aa t O A P Q N n := ⟨h0, by rw [if_pos ht]; exact h, hs, fun q => hi (by omega), h4⟩
theorem mo_EX.part (h : mo_EX aa t O A P Q N n) (ht : t < 2) : mo_EX aa 1 O A P Q N n := mo_EX.of0 h.1 (h.pj0 ht) h.2.2.1 (by decide) (fun q => absurd q (by decide))
theorem mo_EX.opn (h : mo_EX aa t O A P Q N n) (ht : t < 2) (hn : 0 ≤ n) (hP : mo_U P P' n v) (hQ : mo_U Q Q' n w) (hn' : n' = n + 1) (hv : (v = 30 ∧ t = 0) ∨ (v = 31 ∧ t' = 1)) (ht' : t' < 2) : mo_EX aa t' O A P' Q' N n' := by
  have e0 : P' n = v := hP.eq hn
  have ei : mo_in P' n'.toNat = v := by rw [mo_in_yes (P := P') hn hn' (by rw [e0]; omega), e0]
  refine mo_EX.of0 h.1 ((h.pj0 ht).push hn hP hQ hn' (by omega) (by rw [if_neg (by omega)]; rfl)) (h.2.2.1.push hn hP hn' (fun q1 q2 => h.2.2.2.1 (by omega))) ht' (fun q => by rw [ei]; omega)
theorem mo_EX.leaf (h : mo_EX aa t O A P Q N n) (ht : t < 2) (hn : 0 ≤ n) (hO : mo_U O O' N v) (hA : mo_U A A' N w) (hN : N' = N + 1) (hv : 0 ≤ v ∧ v ≤ 8) : mo_EX aa 3 O' A' P Q N' n :=
  mo_EX.of1 h.1 ((h.pj0 ht).leaf h.1 hO hA hN hn hv) h.2.2.1 (by decide) (fun q => absurd q (by decide)) (fun q => absurd q (by decide))
theorem mo_EX.nott (h : mo_EX aa 0 O A P Q N n) (hn : 0 ≤ n) (hP : mo_U P P' n v) (hQ : mo_U Q Q' n w) (hn' : n' = n + 1) (hv : v = 17) : mo_EX aa 0 O A P' Q' N n' := by
  have e0 : P' n = v := hP.eq hn
  have hi := h.2.2.2.1 (Or.inl rfl)
  refine mo_EX.of0 h.1 ((h.pj0 (by decide)).push hn hP hQ hn' (by omega) (by rw [if_neg (by omega)]; rfl)) (h.2.2.1.push hn hP hn' (fun _ _ => hi)) (by decide) (fun _ => ?_)
  rw [mo_in_no (P := P') hn hn' (by rw [e0]; omega), mo_in_up hP hn (Int.le_refl _)]; exact hi
/-- behind settleDown: the pile is n1 long -/
theorem mo_EX.bin (h0 : 0 ≤ aa) (h : mo_PJ aa O A P Q N n1 1) (hs : mo_SQ P n1) (hn : 0 ≤ n1) (hP : mo_U P P' n1 v) (hQ : mo_U Q Q' n1 w) (hn' : n' = n1 + 1) (hv : 10 ≤ v ∧ v ≤ 16) (hi : 14 ≤ v → mo_in P n1.toNat ≠ 31) : mo_EX aa 1 O A P' Q' N n' :=
  mo_EX.of0 h0 (h.push hn hP hQ hn' (by omega) (by rw [if_pos hv]; rfl)) (hs.push hn hP hn' (fun q1 q2 => hi q1)) (by decide) (fun q => absurd q (by decide))
theorem mo_EX.ando (h0 : 0 ≤ aa) (h : mo_PJ aa O A P Q N n1 1) (hs : mo_SQ P n1) (hn : 0 ≤ n1) (hP : mo_U P P' n1 v) (hQ : mo_U Q Q' n1 N) (hO : mo_U O O' N v) (hA : mo_U A A' N w) (hv : 18 ≤ v ∧ v ≤ 19) (hN : N' = N + 1) (hn' : n' = n1 + 1) (hi : mo_in P n1.toNat ≠ 31) : mo_EX aa 0 O' A' P' Q' N' n' := by
  have e0 : P' n1 = v := hP.eq hn
  refine mo_EX.of0 h0 (h.pusha h0 hn hP hQ hO hA hv hN hn') (hs.push hn hP hn' (fun _ _ => hi)) (by decide) (fun _ => ?_)
  rw [mo_in_no (P := P') hn hn' (by rw [e0]; omega), mo_in_up hP hn (Int.le_refl _)]; exact hi
theorem mo_top5 (hV : mo_PV P Q n) (hS : mo_SQ P n) (hi : mo_in P n.toNat = 31) (h0 : 0 ≤ n1) (h1 : n1 ≤ n) (hd : ∀ i, n1 ≤ i → i < n → P i < 30) (ht : n1 = 0 ∨ 14 ≤ P (n1 + -1)) : 1 ≤ n1 ∧ 30 ≤ P (n1 + -1) := by
  have e := mo_in_drop' (P := P) h0 h1 hd
  rcases (show n1 = 0 ∨ 1 ≤ n1 by omega) with z | z
  · subst z; have e2 : mo_in P (Int.toNat 0) = -1 := rfl; omega
  · refine ⟨z, ?_⟩
    have v := hV (n1 + -1) (by omega) (by omega)
    rcases (show 30 ≤ P (n1 + -1) ∨ P (n1 + -1) ≤ 19 by omega) with y | y
    · exact y
    · have s := hS (n1 + -1) (by omega) (by omega) (by omega) (by omega)
      rw [mo_in_no (P := P) (n := n1) (m := n1 + -1) (by omega) (by omega) (by omega)] at e
      rw [hi] at e; exact absurd e.symm s
theorem mo_top1 (hV : mo_PV P Q n) (hS : mo_SQ P n) (hi : mo_in P n.toNat ≠ -1) (hj : mo_in P n.toNat ≠ 31) (h0 : 0 ≤ n1) (h1 : n1 ≤ n) (hd : ∀ i, n1 ≤ i → i < n → P i < 30) (ht : n1 = 0 ∨ 30 ≤ P (n1 + -1)) : 1 ≤ n1 ∧ 30 ≤ P (n1 + -1) ∧ mo_in P (n1 + -1).toNat ≠ 31 := by
  have e := mo_in_drop' (P := P) h0 h1 hd
  rcases (show n1 = 0 ∨ 1 ≤ n1 by omega) with z | z
  · subst z; exact absurd e hi
  · have y : 30 ≤ P (n1 + -1) := by omega
    refine ⟨z, y, ?_⟩
    have v := hV (n1 + -1) (by omega) (by omega)
    rw [mo_in_yes (P := P) (n := n1) (m := n1 + -1) (by omega) (by omega) y] at e
    exact hS (n1 + -1) (by omega) (by omega) (by omega) (by omega)
theorem mo_top0 (hi : mo_in P n.toNat = -1) (h0 : 0 ≤ n1) (h1 : n1 ≤ n) (hd : ∀ i, n1 ≤ i → i < n → P i < 30) (ht : n1 = 0 ∨ 30 ≤ P (n1 + -1)) : n1 = 0 := by
  have e := mo_in_drop' (P := P) h0 h1 hd
  rcases (show n1 = 0 ∨ 1 ≤ n1 by omega) with z | z
  · exact z
  · have y : 30 ≤ P (n1 + -1) := by omega
    rw [mo_in_yes (P := P) (n := n1) (m := n1 + -1) (by omega) (by omega) y] at e
    omega
theorem mo_openPV {b : Int} {X Y : Prop} (h3 : mo_PV P Q n) (hn : 0 ≤ n) (ho : b = 0 → mo_U P P' n v ∧ mo_U Q Q' n 0 ∧ n' = n + 1 ∧ X) (hx : b ≠ 0 → P' = P ∧ Q' = Q ∧ n' = n ∧ Y) (hv : v = 30 ∨ v = 31) : mo_PV P' Q' n' := by
  by_cases q : b = 0
  · obtain ⟨a1, a2, a3, -⟩ := ho q; exact h3.push hn a1 a2 a3 (by omega) (by omega)
  · obtain ⟨a1, a2, a3, -⟩ := hx q; rw [a1, a2, a3]; exact h3
end MEX
def mo_tw (t : Int) : Int := if t = 4 then 0 else if t = 2 then 1 else if t = 3 then 2 else 3
theorem mo_tw_all (t : Int) : (0 ≤ mo_tw t ∧ mo_tw t ≤ 3) ∧ (t = 4 → mo_tw t = 0) ∧ (t = 2 → mo_tw t = 1) ∧ (t = 3 → mo_tw t = 2) := by
  unfold mo_tw
  by_cases h4 : t = 4
  · subst h4; decide
  · by_cases h2 : t = 2
    · subst h2; decide
    · by_cases h3 : t = 3
      · subst h3; decide
      · rw [if_neg h4, if_neg h2, if_neg h3]; omega
theorem mo_PJ.base {a N n b : Int} {O A P Q : Int → Int} (h : mo_PJ a O A P Q N n b) : a ≤ N := h.choose_spec.2.2.1

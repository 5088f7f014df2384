def mo_RL (g : Nat → Int64) (j : Int) : Int := (g j.toNat).toInt
theorem mo_upL {g : Nat → Int64} {i : Int32} {v : Int64} {I V : Int} (hi : i.toInt = I) (hv : v.toInt = V) (h0 : 0 ≤ I) : mo_U (mo_RL g) (mo_RL (vp_updL g i.toNatClampNeg v)) I V := by
  intro j hj
  have e : i.toNatClampNeg = i.toInt.toNat := rfl
  unfold mo_RL vp_updL
  by_cases q : j = I
  · rw [if_pos q, if_pos (by rw [e, hi, q]), hv]
  · rw [if_neg q, if_neg (by rw [e, hi]; omega)]
theorem mo_rdL {g : Nat → Int64} {i : Int32} {z : Int64} {I : Int} (e : z = g i.toNatClampNeg) (hi : i.toInt = I) : z.toInt = mo_RL g I := by rw [e, ← hi]; rfl
/-- a permutation of 0 .. n - 1 -/
def mo_PM (P : Int → Int) (n : Int) : Prop := (∀ i, 0 ≤ i → i < n → 0 ≤ P i ∧ P i < n) ∧ (∀ i j, 0 ≤ i → i < j → j < n → P i ≠ P j) ∧ ∀ t, 0 ≤ t → t < n → ∃ i, 0 ≤ i ∧ i < n ∧ P i = t
def mo_SW (P P' : Int → Int) (a b : Int) : Prop := ∀ j, 0 ≤ j → (j = a ∧ P' j = P b) ∨ (j ≠ a ∧ j = b ∧ P' j = P a) ∨ (j ≠ a ∧ j ≠ b ∧ P' j = P j)
theorem mo_SW.of {P Q P' : Int → Int} {a b x y : Int} (h1 : mo_U P Q a x) (h2 : mo_U Q P' b y) (hx : x = P b) (hy : y = P a) : mo_SW P P' a b := by
  intro j hj
  rcases h2.at j hj with ⟨z, e⟩ | ⟨z, e⟩
  · by_cases q : j = a
    · exact Or.inl ⟨q, by rw [e, hy, ← q, z]⟩
    · exact Or.inr (Or.inl ⟨q, z, by rw [e, hy]⟩)
  · rcases h1.at j hj with ⟨z2, e2⟩ | ⟨z2, e2⟩
    · exact Or.inl ⟨z2, by rw [e, e2, hx]⟩
    · exact Or.inr (Or.inr ⟨z2, z, by rw [e, e2]⟩)
theorem mo_SW.ne {P P' : Int → Int} {a b j : Int} (h : mo_SW P P' a b) (h0 : 0 ≤ j) (h1 : j ≠ a) (h2 : j ≠ b) : P' j = P j := by
  rcases h j h0 with ⟨z, e⟩ | ⟨z, z2, e⟩ | ⟨z, z2, e⟩
  · exact absurd z h1
  · exact absurd z2 h2
  · exact e
theorem mo_SW.fst {P P' : Int → Int} {a b : Int} (h : mo_SW P P' a b) (h0 : 0 ≤ a) : P' a = P b := by
  rcases h a h0 with ⟨z, e⟩ | ⟨z, z2, e⟩ | ⟨z, z2, e⟩
  · exact e
  · exact absurd rfl z
  · exact absurd rfl z
theorem mo_PM.inj {P : Int → Int} {n x y : Int} (h : mo_PM P n) (h0 : 0 ≤ x) (h1 : x < n) (h2 : 0 ≤ y) (h3 : y < n) (e : P x = P y) : x = y := by
  rcases (show x < y ∨ x = y ∨ y < x by omega) with q | q | q
  · exact absurd e (h.2.1 x y h0 q h3)
  · exact q
  · exact absurd e.symm (h.2.1 y x h2 q h1)
theorem mo_PM.sw {P P' : Int → Int} {n a b : Int} (h : mo_PM P n) (hs : mo_SW P P' a b) (ha : 0 ≤ a) (ha1 : a < n) (hb : 0 ≤ b) (hb1 : b < n) : mo_PM P' n := by
  refine ⟨fun i h0 h1 => ?_, fun i j h0 h1 h2 he => ?_, fun t h0 h1 => ?_⟩
  · rcases hs i h0 with ⟨z, e⟩ | ⟨z, z2, e⟩ | ⟨z, z2, e⟩ <;> rw [e]
    · exact h.1 b hb hb1
    · exact h.1 a ha ha1
    · exact h.1 i h0 h1
  · rcases hs i h0 with ⟨z, e⟩ | ⟨z, z2, e⟩ | ⟨z, z2, e⟩ <;> rcases hs j (by omega) with ⟨y, d⟩ | ⟨y, y2, d⟩ | ⟨y, y2, d⟩ <;> (rw [e, d] at he; have q := h.inj (by omega) (by omega) (by omega) (by omega) he; omega)
  · obtain ⟨i, i0, i1, e⟩ := h.2.2 t h0 h1
    by_cases qa : i = a
    · refine ⟨b, hb, hb1, ?_⟩
      rcases hs b hb with ⟨z, d⟩ | ⟨z, z2, d⟩ | ⟨z, z2, d⟩
      · rw [d, z, ← qa]; exact e
      · rw [d, ← qa]; exact e
      · exact absurd rfl z2
    · by_cases qb : i = b
      · exact ⟨a, ha, ha1, by rw [hs.fst ha, ← qb]; exact e⟩
      · exact ⟨i, i0, i1, by rw [hs.ne i0 qa qb]; exact e⟩
theorem mo_PM.id {P : Int → Int} {n : Int} (h : ∀ i, 0 ≤ i → i < n → P i = i) : mo_PM P n :=
  ⟨fun i h0 h1 => by rw [h i h0 h1]; exact ⟨h0, h1⟩, fun i j h0 h1 h2 => by rw [h i h0 (by omega), h j (by omega) h2]; omega, fun t h0 h1 => ⟨t, h0, h1, h t h0 h1⟩⟩
def mo_VL (P : Int → Int) : Nat → Int
  | 0 => 0
  | k + 1 => 6 * mo_VL P k + P k
theorem mo_VL_eq {P P' : Int → Int} (n : Nat) (h : ∀ i : Nat, i < n → P' i = P i) : mo_VL P' n = mo_VL P n := by
  induction n with
  | zero => rfl
  | succ n ih => simp only [mo_VL]; rw [ih (fun i hi => h i (by omega)), h n (by omega)]
theorem mo_VL_lt {P P' : Int → Int} {k : Nat} (n : Nat) (hk : k < n) (he : ∀ i : Nat, i < k → P' i = P i) (hl : P k < P' k) (hr : ∀ i : Nat, i < n → 0 ≤ P i ∧ P i ≤ 5 ∧ 0 ≤ P' i ∧ P' i ≤ 5) : mo_VL P n < mo_VL P' n := by
  induction n with
  | zero => omega
  | succ n ih =>
    simp only [mo_VL]
    by_cases q : k = n
    · subst q; rw [mo_VL_eq k he]; omega
    · have := ih (by omega) (fun i hi => hr i (by omega)); have := hr n (by omega); omega
theorem mo_VL_bd {P : Int → Int} (n : Nat) (h : ∀ i : Nat, i < n → 0 ≤ P i ∧ P i ≤ 5) : 0 ≤ mo_VL P n ∧ mo_VL P n + 1 ≤ 6 ^ n := by
  induction n with
  | zero => exact ⟨Int.le_refl 0, (by decide : (0 : Int) + 1 ≤ 6 ^ 0)⟩
  | succ n ih =>
    simp only [mo_VL]
    have a := ih (fun i hi => h i (by omega)); have b := h n (by omega)
    rw [Int.pow_succ]
    generalize (6 : Int) ^ n = w at a ⊢
    omega
theorem mo_PM.bd {P : Int → Int} {n : Int} (h : mo_PM P n) (h0 : 0 ≤ n) (h6 : n ≤ 6) : 0 ≤ mo_VL P n.toNat ∧ mo_VL P n.toNat ≤ 46655 := by
  have a := mo_VL_bd (P := P) n.toNat (fun i hi => by have := h.1 i (by omega) (by omega); omega)
  rcases (show n = 0 ∨ n = 1 ∨ n = 2 ∨ n = 3 ∨ n = 4 ∨ n = 5 ∨ n = 6 by omega) with rfl | rfl | rfl | rfl | rfl | rfl | rfl
  all_goals (refine ⟨a.1, ?_⟩; have b := a.2; revert b; generalize mo_VL P _ = w; intro b; have c : w + 1 ≤ 46656 := Int.le_trans b (by decide); omega)
theorem mo_lex {P P' : Int → Int} {n k : Int} (h0 : 0 ≤ k) (hk : k < n) (he : ∀ i, 0 ≤ i → i < k → P' i = P i) (hl : P k < P' k) (hp : mo_PM P n) (hp' : mo_PM P' n) (hn : n ≤ 6) : mo_VL P n.toNat < mo_VL P' n.toNat := by
  refine mo_VL_lt (k := k.toNat) n.toNat (by omega) (fun i hi => he i (by omega) (by omega)) ?_ (fun i hi => ?_)
  · rw [show ((k.toNat : Nat) : Int) = k by omega]; exact hl
  · have := hp.1 i (by omega) (by omega); have := hp'.1 i (by omega) (by omega); omega
/-- bit c of x; place c in a code -/
def mo_bt (x c : Int) : Prop := (c = 0 ∧ x % 2 = 1) ∨ (c = 1 ∧ x / 2 % 2 = 1) ∨ (c = 2 ∧ x / 4 % 2 = 1) ∨ (c = 3 ∧ x / 8 % 2 = 1) ∨ (c = 4 ∧ x / 16 % 2 = 1) ∨ (c = 5 ∧ x / 32 % 2 = 1)
def mo_P2 (n : Int) : Int := if n = 0 then 1 else if n = 1 then 2 else if n = 2 then 4 else if n = 3 then 8 else if n = 4 then 16 else if n = 5 then 32 else 64
theorem mo_bt_lt {x c n : Int} (h : mo_bt x c) (h0 : 0 ≤ x) (hx : x < mo_P2 n) (hn : 0 ≤ n ∧ n ≤ 6) : c < n := by
  unfold mo_bt at h
  have e0 : mo_P2 0 = 1 := by decide
  have e1 : mo_P2 1 = 2 := by decide
  have e2 : mo_P2 2 = 4 := by decide
  have e3 : mo_P2 3 = 8 := by decide
  have e4 : mo_P2 4 = 16 := by decide
  have e5 : mo_P2 5 = 32 := by decide
  have e6 : mo_P2 6 = 64 := by decide
  rcases (show n = 0 ∨ n = 1 ∨ n = 2 ∨ n = 3 ∨ n = 4 ∨ n = 5 ∨ n = 6 by omega) with rfl | rfl | rfl | rfl | rfl | rfl | rfl <;> omega
theorem mo_P2_le (n : Int) : 1 ≤ mo_P2 n ∧ mo_P2 n ≤ 64 := by
  unfold mo_P2
  repeat' split
  all_goals omega
def mo_cn (x c : Int) : Int := (if 0 < c then x % 2 else 0) + (if 1 < c then x / 2 % 2 else 0) + (if 2 < c then x / 4 % 2 else 0) + (if 3 < c then x / 8 % 2 else 0) + (if 4 < c then x / 16 % 2 else 0) + (if 5 < c then x / 32 % 2 else 0)
theorem mo_cn_yes {x c : Int} (h : mo_bt x c) : mo_cn x (c + 1) = mo_cn x c + 1 := by
  unfold mo_bt at h
  rcases h with ⟨rfl, h⟩ | ⟨rfl, h⟩ | ⟨rfl, h⟩ | ⟨rfl, h⟩ | ⟨rfl, h⟩ | ⟨rfl, h⟩ <;> (simp [mo_cn]; omega)
theorem mo_cn_no {x c : Int} (h : ¬ mo_bt x c) (h0 : 0 ≤ c) (h1 : c < 6) : mo_cn x (c + 1) = mo_cn x c := by
  unfold mo_bt at h
  rcases (show c = 0 ∨ c = 1 ∨ c = 2 ∨ c = 3 ∨ c = 4 ∨ c = 5 by omega) with rfl | rfl | rfl | rfl | rfl | rfl <;> (simp at h; simp [mo_cn]; omega)
theorem mo_cn0 (x : Int) : mo_cn x 0 = 0 := by simp [mo_cn]
def mo_pl (x c : Int) : Int := if c = 0 then x % 8 else if c = 1 then x / 8 % 8 else if c = 2 then x / 64 % 8 else if c = 3 then x / 512 % 8 else if c = 4 then x / 4096 % 8 else x / 32768 % 8
def mo_p8 (c : Int) : Int := if c = 0 then 1 else if c = 1 then 8 else if c = 2 then 64 else if c = 3 then 512 else if c = 4 then 4096 else 32768
theorem mo_pl_add {x p m c : Int} (h0 : 0 ≤ x) (h1 : x < 262144) (hp : 0 ≤ p) (hp1 : p < 8) (hm : 0 ≤ m) (hm1 : m < 6) (hc : 0 ≤ c) (hc1 : c < 6) (hz : mo_pl x m = 0) : (c = m → mo_pl (x + p * mo_p8 m) c = p) ∧ (c ≠ m → mo_pl (x + p * mo_p8 m) c = mo_pl x c) ∧ 0 ≤ x + p * mo_p8 m ∧ x + p * mo_p8 m < 262144 := by
  rcases (show m = 0 ∨ m = 1 ∨ m = 2 ∨ m = 3 ∨ m = 4 ∨ m = 5 by omega) with rfl | rfl | rfl | rfl | rfl | rfl <;> rcases (show c = 0 ∨ c = 1 ∨ c = 2 ∨ c = 3 ∨ c = 4 ∨ c = 5 by omega) with rfl | rfl | rfl | rfl | rfl | rfl <;>
    (simp [mo_pl, mo_p8] at hz ⊢; omega)
def mo_GD (x u : Int) : Prop := (0 ≤ x ∧ x < 262144) ∧ (∀ c, 0 ≤ c → c < 6 → mo_bt u c → 0 ≤ mo_pl x c ∧ mo_pl x c ≤ 5) ∧ ∀ t, 0 ≤ t → t < mo_cn u 6 → ∃ c, 0 ≤ c ∧ c < 6 ∧ mo_bt u c ∧ mo_pl x c = t
/-- the members of the set u below c, in order -/
def mo_MB (M : Int → Int) (u n c : Int) : Prop := n = mo_cn u c ∧ (0 ≤ n ∧ n ≤ c) ∧ (∀ i, 0 ≤ i → i < n → 0 ≤ M i ∧ M i < c ∧ mo_bt u (M i)) ∧ (∀ i j, 0 ≤ i → i < j → j < n → M i < M j) ∧ ∀ d, 0 ≤ d → d < c → mo_bt u d → ∃ i, 0 ≤ i ∧ i < n ∧ M i = d
theorem mo_MB.rf (M : Int → Int) (u : Int) {n c : Int} (hn : n = 0) (hc : c = 0) : mo_MB M u n c := by
  subst hn; subst hc
  exact ⟨(mo_cn0 u).symm, ⟨by omega, by omega⟩, fun i h0 h1 => by omega, fun i j h0 h1 h2 => by omega, fun d h0 h1 => by omega⟩
theorem mo_MB.yes {M M' : Int → Int} {u n c i v : Int} (h : mo_MB M u n c) (hU : mo_U M M' i v) (hi : i = n) (hv : v = c) (hb : mo_bt u c) (n' c' : Int) (hn : n' = n + 1) (hc : c' = c + 1) : mo_MB M' u n' c' := by
  subst hi; subst hv; subst hn; subst hc
  obtain ⟨a, b, h1, h2, h3⟩ := h
  have hc0 : 0 ≤ v := by omega
  refine ⟨by rw [mo_cn_yes hb, a], by omega, fun j j0 j1 => ?_, fun j k j0 j1 j2 => ?_, fun d d0 d1 hd => ?_⟩
  · rcases hU.at j j0 with ⟨z, e⟩ | ⟨z, e⟩ <;> rw [e]
    · exact ⟨hc0, by omega, hb⟩
    · have := h1 j j0 (by omega); exact ⟨this.1, by omega, this.2.2⟩
  · rcases hU.at j j0 with ⟨z, e⟩ | ⟨z, e⟩ <;> rcases hU.at k (by omega) with ⟨y, d⟩ | ⟨y, d⟩ <;> rw [e, d]
    · omega
    · omega
    · exact (h1 j j0 (by omega)).2.1
    · exact h2 j k j0 j1 (by omega)
  · rcases (show d < v ∨ d = v by omega) with q | q
    · obtain ⟨j, j0, j1, e⟩ := h3 d d0 q hd
      exact ⟨j, j0, by omega, by rw [hU.ne j0 (by omega)]; exact e⟩
    · exact ⟨i, b.1, by omega, by rw [hU.eq b.1, q]⟩
theorem mo_MB.no {M : Int → Int} {u n c : Int} (h : mo_MB M u n c) (hb : ¬ mo_bt u c) (h6 : c < 6) (c' : Int) (hc : c' = c + 1) : mo_MB M u n c' := by
  subst hc
  obtain ⟨a, b, h1, h2, h3⟩ := h
  refine ⟨by rw [mo_cn_no hb (by omega) h6]; exact a, by omega, fun j j0 j1 => ?_, h2, fun d d0 d1 hd => ?_⟩
  · have := h1 j j0 j1; exact ⟨this.1, by omega, this.2.2⟩
  · rcases (show d < c ∨ d = c by omega) with q | q
    · exact h3 d d0 q hd
    · subst q; exact absurd hd hb
/-- the line and the code as far as k: places P, members M -/
def mo_LC (P M Ln : Int → Int) (x k : Int) : Prop := (0 ≤ x ∧ x < 262144) ∧ (∀ i, 0 ≤ i → i < k → Ln (P i) = M i ∧ mo_pl x (M i) = P i) ∧ ∀ c, 0 ≤ c → c < 6 → (∀ i, 0 ≤ i → i < k → M i ≠ c) → mo_pl x c = 0
theorem mo_LC.rf (P M Ln : Int → Int) {x k : Int} (hx : x = 0) (hk : k = 0) : mo_LC P M Ln x k := by
  subst hx; subst hk
  refine ⟨⟨by omega, by omega⟩, fun i h0 h1 => by omega, fun c h0 h1 _ => ?_⟩
  rcases (show c = 0 ∨ c = 1 ∨ c = 2 ∨ c = 3 ∨ c = 4 ∨ c = 5 by omega) with rfl | rfl | rfl | rfl | rfl | rfl <;> decide
theorem mo_LC.up {P M Ln Ln' : Int → Int} {x k n u i v x' k' : Int} (h : mo_LC P M Ln x k) (hP : mo_PM P n) (hM : mo_MB M u n 6) (hk : 0 ≤ k) (hk1 : k < n) (hU : mo_U Ln Ln' i v) (hi : i = P k) (hv : v = M k) (hx : x' = x + P k * mo_p8 (M k)) (hk' : k' = k + 1) : mo_LC P M Ln' x' k' := by
  subst hi; subst hv; subst hx; subst hk'
  obtain ⟨a, b, c⟩ := h
  obtain ⟨-, m0, m1, m2, m3⟩ := hM
  have mk := m1 k hk hk1; have pk := hP.1 k hk hk1
  have hz : mo_pl x (M k) = 0 := c (M k) mk.1 (by omega) (fun i i0 i1 => by have := m2 i k i0 i1 hk1; omega)
  have pa := fun c (h0 : 0 ≤ c) (h1 : c < 6) => mo_pl_add (x := x) (p := P k) (m := M k) (c := c) a.1 a.2 pk.1 (by omega) mk.1 (by omega) h0 h1 hz
  refine ⟨(pa 0 (by omega) (by omega)).2.2, fun j j0 j1 => ?_, fun d d0 d1 hd => ?_⟩
  · rcases (show j < k ∨ j = k by omega) with q | q
    · have := b j j0 q; have mj := m1 j j0 (by omega)
      refine ⟨?_, ?_⟩
      · rw [hU.ne (hP.1 j j0 (by omega)).1 (fun z => by have := hP.inj j0 (by omega) hk hk1 z; omega)]; exact this.1
      · rw [(pa (M j) mj.1 (by omega)).2.1 (by have := m2 j k j0 q hk1; omega)]; exact this.2
    · subst q; exact ⟨hU.eq pk.1, (pa (M j) mk.1 (by omega)).1 rfl⟩
  · rw [(pa d d0 d1).2.1 (fun z => hd k hk (by omega) z.symm)]; exact c d d0 d1 (fun i i0 i1 => hd i i0 (by omega))
theorem mo_LC.good {P M Ln : Int → Int} {x n u k : Int} (h : mo_LC P M Ln x k) (hk : k = n) (hP : mo_PM P n) (hM : mo_MB M u n 6) : mo_GD x u := by
  subst hk
  obtain ⟨m4, m0, m1, m2, m3⟩ := hM
  refine ⟨h.1, fun c c0 c1 hc => ?_, fun t t0 t1 => ?_⟩
  · obtain ⟨i, i0, i1, e⟩ := m3 c c0 c1 hc
    rw [← e, (h.2.1 i i0 i1).2]; have := hP.1 i i0 i1; omega
  · obtain ⟨i, i0, i1, e⟩ := hP.2.2 t t0 (by omega)
    have := m1 i i0 i1
    exact ⟨M i, this.1, by omega, this.2.2, by rw [(h.2.1 i i0 i1).2]; exact e⟩
theorem mo_LC.line {P M Ln : Int → Int} {x n u k w : Int} (h : mo_LC P M Ln x k) (hk : k = n) (hP : mo_PM P n) (hM : mo_MB M u n 6) (hu : 0 ≤ u) (hu1 : u < mo_P2 w) (hw : 0 ≤ w ∧ w ≤ 6) : ∀ j, 0 ≤ j → j < n → 0 ≤ Ln j ∧ Ln j < w := by
  subst hk
  intro j j0 j1
  obtain ⟨i, i0, i1, e⟩ := hP.2.2 j j0 j1
  obtain ⟨-, m0, m1, m2, m3⟩ := hM
  have := m1 i i0 i1
  rw [← e, (h.2.1 i i0 i1).1]; exact ⟨this.1, mo_bt_lt this.2.2 hu hu1 hw⟩
theorem mo_MB.zero {M : Int → Int} {u n : Int} (h : mo_MB M u n 6) (hu : u = 0) : n = 0 := by
  rw [h.1, hu]; decide
theorem zb_bt0 : ∀ a : Fin 64, ∀ c : Fin 6, ((Int32.ofNat a.val >>> (Int32.ofNat c.val &&& 31)) &&& 1).toInt = ((a.val / 2 ^ c.val % 2 : Nat) : Int) := by decide +kernel
theorem zb_small {x : Int32} {k : Nat} (h0 : 0 ≤ x.toInt) (h1 : x.toInt < (k : Int)) (hk : k ≤ 1000000) : ∃ a : Fin k, x = Int32.ofNat a.val ∧ x.toInt = (a.val : Int) := by
  refine ⟨⟨x.toInt.toNat, by omega⟩, ?_, by show x.toInt = ((x.toInt.toNat : Nat) : Int); omega⟩
  apply Int32.toInt_inj.mp
  have e := Int32.toInt_ofNat_of_lt (n := x.toInt.toNat) (by omega)
  show x.toInt = (Int32.ofNat x.toInt.toNat).toInt
  rw [e]; omega
theorem zb_bt {x c y z : Int32} (e1 : y = x >>> (c &&& 31)) (e2 : z = y &&& 1) (h0 : 0 ≤ x.toInt) (h1 : x.toInt < 64) (h2 : 0 ≤ c.toInt) (h3 : c.toInt < 6) : (z.toInt = 1 → mo_bt x.toInt c.toInt) ∧ (z.toInt ≠ 1 → ¬ mo_bt x.toInt c.toInt) := by
  obtain ⟨a, ea, ia⟩ := zb_small (k := 64) h0 h1 (by decide)
  obtain ⟨d, ed, id⟩ := zb_small (k := 6) h2 h3 (by decide)
  have k := zb_bt0 a d
  rw [← ea, ← ed, ← e1, ← e2] at k
  rw [k, ia, id]
  unfold mo_bt
  have hd := d.isLt
  rcases (show d.val = 0 ∨ d.val = 1 ∨ d.val = 2 ∨ d.val = 3 ∨ d.val = 4 ∨ d.val = 5 by omega) with q | q | q | q | q | q <;> (rw [q]; simp <;> omega)
theorem zb_shl0 : ∀ c : Fin 7, ((1 : Int32) <<< (Int32.ofNat c.val &&& 31)).toInt = mo_P2 (c.val : Int) := by decide +kernel
theorem zb_P2 {c z : Int32} (e : z = (1 : Int32) <<< (c &&& 31)) (h0 : 0 ≤ c.toInt) (h1 : c.toInt ≤ 6) : z.toInt = mo_P2 c.toInt := by
  obtain ⟨a, ea, ia⟩ := zb_small (k := 7) h0 (by omega) (by decide)
  have k := zb_shl0 a
  rw [← ea, ← e] at k
  rw [k, ia]
theorem zb_orN {x p m : Nat} (hz : x >>> (3 * m) % 8 = 0) (hp : p < 8) : x ||| (p <<< (3 * m)) = x + p * 8 ^ m := by
  have e8 : (8 : Nat) ^ m = 2 ^ (3 * m) := by rw [show (8 : Nat) = 2 ^ 3 from rfl, ← Nat.pow_mul]
  have hx : x = (x >>> (3 * m)) <<< (3 * m) ||| (x % 2 ^ (3 * m)) := by
    rw [← Nat.shiftLeft_add_eq_or_of_lt (Nat.mod_lt _ (Nat.two_pow_pos _)), Nat.shiftLeft_eq, Nat.shiftRight_eq_div_pow, Nat.mul_comm]
    exact (Nat.div_add_mod x (2 ^ (3 * m))).symm
  have hA : x >>> (3 * m) = (x >>> (3 * m) / 8) <<< 3 := by rw [Nat.shiftLeft_eq]; omega
  generalize hl : x % 2 ^ (3 * m) = lo at hx
  have hlo : lo < 2 ^ (3 * m) := by rw [← hl]; exact Nat.mod_lt _ (Nat.two_pow_pos _)
  generalize hB : x >>> (3 * m) = A at hx hA
  have k1 : A ||| p = A + p := by rw [hA, ← Nat.shiftLeft_add_eq_or_of_lt (show p < 2 ^ 3 from hp)]
  have k2 : x = A * 2 ^ (3 * m) + lo := by rw [hx, ← Nat.shiftLeft_add_eq_or_of_lt hlo, Nat.shiftLeft_eq]
  calc x ||| (p <<< (3 * m)) = (A <<< (3 * m) ||| lo) ||| (p <<< (3 * m)) := by rw [← hx]
    _ = (A <<< (3 * m) ||| p <<< (3 * m)) ||| lo := by rw [Nat.or_assoc, Nat.or_comm lo, ← Nat.or_assoc]
    _ = (A ||| p) <<< (3 * m) ||| lo := by rw [Nat.shiftLeft_or_distrib]
    _ = (A + p) <<< (3 * m) + lo := by rw [k1, Nat.shiftLeft_add_eq_or_of_lt hlo]
    _ = x + p * 8 ^ m := by rw [Nat.shiftLeft_eq, e8, k2, Nat.add_mul]; omega
theorem zb_cd0 : ∀ p : Fin 8, ∀ m : Fin 6, (Int32.ofNat p.val <<< (Int32.ofNat (3 * m.val) &&& 31)).toBitVec.toNat = p.val <<< (3 * m.val) := by decide +kernel
theorem mo_p8N (m : Nat) (h : m < 6) : mo_p8 (m : Int) = ((8 ^ m : Nat) : Int) := by
  rcases (show m = 0 ∨ m = 1 ∨ m = 2 ∨ m = 3 ∨ m = 4 ∨ m = 5 by omega) with rfl | rfl | rfl | rfl | rfl | rfl <;> decide
theorem zb_cd {x p m y z : Int32} {M : Int} (e1 : y = p <<< (m &&& 31)) (e2 : z = x ||| y) (hm : m.toInt = 3 * M) (hM : 0 ≤ M) (hM1 : M < 6) (hx : 0 ≤ x.toInt) (hx1 : x.toInt < 262144) (hp : 0 ≤ p.toInt) (hp1 : p.toInt < 8) (hz : mo_pl x.toInt M = 0) : z.toInt = x.toInt + p.toInt * mo_p8 M := by
  obtain ⟨a, ea, ia⟩ := zb_small (k := 8) hp hp1 (by decide)
  have em : m = Int32.ofNat (3 * M.toNat) := by
    apply Int32.toInt_inj.mp
    rw [hm, Int32.toInt_ofNat', zi_bm _ (by omega) (by omega)]; omega
  have k := zb_cd0 a ⟨M.toNat, by omega⟩
  rw [← ea, ← em, ← e1] at k
  have ez : z.toBitVec.toNat = x.toBitVec.toNat ||| a.val <<< (3 * M.toNat) := by rw [e2, Int32.toBitVec_or, BitVec.toNat_or, k]
  have nx := zb_nat hx
  have hs : x.toBitVec.toNat >>> (3 * M.toNat) % 8 = 0 := by
    rw [Nat.shiftRight_eq_div_pow]
    rcases (show M = 0 ∨ M = 1 ∨ M = 2 ∨ M = 3 ∨ M = 4 ∨ M = 5 by omega) with rfl | rfl | rfl | rfl | rfl | rfl <;> (simp [mo_pl] at hz; rw [nx] at hz; simp; omega)
  rw [zb_orN hs a.isLt] at ez
  have p8 := mo_p8N M.toNat (by omega)
  rw [show ((M.toNat : Nat) : Int) = M by omega] at p8
  have b8 : 8 ^ M.toNat ≤ 8 ^ 5 := Nat.pow_le_pow_right (by decide) (by omega)
  have b9 : a.val * 8 ^ M.toNat ≤ 7 * 8 ^ 5 := Nat.mul_le_mul (by have := a.isLt; omega) b8
  have hz2 := zb_of (z := z) (k := z.toBitVec.toNat) (Nat.le_refl _) (by rw [ez]; omega)
  have nz := zb_nat hz2.1
  rw [nz, ez, nx, ia, p8]
  simp
theorem mo_LC.free {P M Ln : Int → Int} {x k n u : Int} (h : mo_LC P M Ln x k) (hM : mo_MB M u n 6) (hk : 0 ≤ k) (hk1 : k < n) : mo_pl x (M k) = 0 := by
  obtain ⟨-, m0, m1, m2, m3⟩ := hM
  have mk := m1 k hk hk1
  exact h.2.2 (M k) mk.1 (by omega) (fun i i0 i1 => by have := m2 i k i0 i1 hk1; omega)

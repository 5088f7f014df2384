theorem zb_or0 : ∀ a : Fin 64, ∀ c : Fin 6, (Int32.ofNat a.val ||| ((1 : Int32) <<< (Int32.ofNat c.val &&& 31))).toInt = ((a.val ||| 2 ^ c.val : Nat) : Int) := by decide +kernel
theorem zb_or1 : ∀ a : Fin 64, ∀ c : Fin 6, ∀ d : Fin 6, (a.val ||| 2 ^ c.val) < 64 ∧ ((a.val ||| 2 ^ c.val) / 2 ^ d.val % 2 = 1 ↔ (a.val / 2 ^ d.val % 2 = 1 ∨ d.val = c.val)) := by decide +kernel
theorem mo_btN {x d : Nat} (h : d < 6) : mo_bt (x : Int) (d : Int) ↔ x / 2 ^ d % 2 = 1 := by
  unfold mo_bt
  rcases (show d = 0 ∨ d = 1 ∨ d = 2 ∨ d = 3 ∨ d = 4 ∨ d = 5 by omega) with rfl | rfl | rfl | rfl | rfl | rfl <;> (simp; omega)
theorem zb_orbit {x c y z : Int32} (e1 : y = (1 : Int32) <<< (c &&& 31)) (e2 : z = x ||| y) (h0 : 0 ≤ x.toInt) (h1 : x.toInt < 64) (h2 : 0 ≤ c.toInt) (h3 : c.toInt < 6) : (0 ≤ z.toInt ∧ z.toInt < 64) ∧ ∀ d, 0 ≤ d → d < 6 → (mo_bt z.toInt d ↔ (mo_bt x.toInt d ∨ d = c.toInt)) := by
  obtain ⟨a, ea, ia⟩ := zb_small (k := 64) h0 h1 (by decide)
  obtain ⟨b, eb, ib⟩ := zb_small (k := 6) h2 h3 (by decide)
  have k := zb_or0 a b
  rw [← ea, ← eb, ← e1, ← e2] at k
  rw [k, ia, ib]
  have k0 := (zb_or1 a b ⟨0, by decide⟩).1
  refine ⟨⟨by omega, by omega⟩, fun d d0 d1 => ?_⟩
  obtain ⟨n, rfl⟩ : ∃ n : Nat, d = (n : Int) := ⟨d.toNat, by omega⟩
  have q := (zb_or1 a b ⟨n, by omega⟩).2
  replace q : (a.val ||| 2 ^ b.val) / 2 ^ n % 2 = 1 ↔ (a.val / 2 ^ n % 2 = 1 ∨ n = b.val) := q
  rw [mo_btN (by omega), mo_btN (by omega), q]
  constructor
  · rintro (h | h)
    · exact Or.inl h
    · exact Or.inr (by omega)
  · rintro (h | h)
    · exact Or.inl h
    · exact Or.inr (by omega)
theorem zb_or00 {x z : Int32} (e : z = x ||| 0) : z.toInt = x.toInt := by rw [e]; simp
theorem mo_bt_P2 {x u : Int} (h0 : 0 ≤ x) (h1 : x < 64) (hu : 0 ≤ u ∧ u ≤ 6) (h : ∀ d, 0 ≤ d → d < 6 → mo_bt x d → d < u) : x < mo_P2 u := by
  have q0 := h 0 (by decide) (by decide); have q1 := h 1 (by decide) (by decide); have q2 := h 2 (by decide) (by decide); have q3 := h 3 (by decide) (by decide); have q4 := h 4 (by decide) (by decide); have q5 := h 5 (by decide) (by decide)
  simp [mo_bt] at q0 q1 q2 q3 q4 q5
  rcases (show u = 0 ∨ u = 1 ∨ u = 2 ∨ u = 3 ∨ u = 4 ∨ u = 5 ∨ u = 6 by omega) with rfl | rfl | rfl | rfl | rfl | rfl | rfl <;> (simp [mo_P2]; omega)
theorem mo_ib {a b : Int} (h : a % 2 = 1 ↔ b % 2 = 1) : a % 2 = b % 2 := by omega
theorem mo_bt_eq {x y : Int} (h0 : 0 ≤ x) (h1 : x < 64) (h2 : 0 ≤ y) (h3 : y < 64) (h : ∀ d, 0 ≤ d → d < 6 → (mo_bt x d ↔ mo_bt y d)) : x = y := by
  have q0 := h 0 (by decide) (by decide); have q1 := h 1 (by decide) (by decide); have q2 := h 2 (by decide) (by decide); have q3 := h 3 (by decide) (by decide); have q4 := h 4 (by decide) (by decide); have q5 := h 5 (by decide) (by decide)
  simp [mo_bt] at q0 q1 q2 q3 q4 q5
  have e0 := mo_ib q0; have e1 := mo_ib q1; have e2 := mo_ib q2; have e3 := mo_ib q3; have e4 := mo_ib q4; have e5 := mo_ib q5
  clear h q0 q1 q2 q3 q4 q5
  omega
theorem mo_bt0 (d : Int) : ¬ mo_bt 0 d := by unfold mo_bt; omega
theorem mo_cn_top {x u : Int} (hu : 0 ≤ u ∧ u ≤ 6) (h : ∀ d, 0 ≤ d → d < 6 → mo_bt x d → d < u) : mo_cn x 6 = mo_cn x u := by
  have q0 := h 0 (by decide) (by decide); have q1 := h 1 (by decide) (by decide); have q2 := h 2 (by decide) (by decide); have q3 := h 3 (by decide) (by decide); have q4 := h 4 (by decide) (by decide); have q5 := h 5 (by decide) (by decide)
  simp [mo_bt] at q0 q1 q2 q3 q4 q5
  rcases (show u = 0 ∨ u = 1 ∨ u = 2 ∨ u = 3 ∨ u = 4 ∨ u = 5 ∨ u = 6 by omega) with rfl | rfl | rfl | rfl | rfl | rfl | rfl <;> (simp [mo_cn]; try omega)
def mo_pw (a : Int) : Nat → Int
  | 0 => 1
  | n + 1 => (a + 1) * mo_pw a n
theorem mo_pw_bd {a : Int} (h0 : 0 ≤ a) (h3 : a ≤ 3) (n : Nat) : 1 ≤ mo_pw a n ∧ mo_pw a n ≤ 4 ^ n := by
  induction n with
  | zero => exact ⟨Int.le_refl _, Int.le_refl _⟩
  | succ n ih =>
    simp only [mo_pw]; rw [Int.pow_succ]
    generalize mo_pw a n = w at ih ⊢
    generalize (4 : Int) ^ n = t at ih ⊢
    rcases (show a = 0 ∨ a = 1 ∨ a = 2 ∨ a = 3 by omega) with rfl | rfl | rfl | rfl <;> omega
theorem mo_pw6 {a n : Int} (h0 : 0 ≤ a) (h3 : a ≤ 3) (hn : 0 ≤ n ∧ n ≤ 6) : 1 ≤ mo_pw a n.toNat ∧ mo_pw a n.toNat ≤ 4096 := by
  have k := mo_pw_bd h0 h3 n.toNat
  refine ⟨k.1, Int.le_trans k.2 ?_⟩
  rcases (show n = 0 ∨ n = 1 ∨ n = 2 ∨ n = 3 ∨ n = 4 ∨ n = 5 ∨ n = 6 by omega) with rfl | rfl | rfl | rfl | rfl | rfl | rfl <;> decide
theorem zi_pw {x y z : Int32} {a n m : Int} (e : z = x * y) (hx : x.toInt = mo_pw a n.toNat) (hy : y.toInt = a + 1) (h0 : 0 ≤ a) (h3 : a ≤ 3) (hn : 0 ≤ n ∧ n ≤ 5) (hm : m = n + 1) : z.toInt = mo_pw a m.toNat := by
  subst hm
  have k := mo_pw6 h0 h3 (n := n) (by omega)
  rw [show (n + 1).toNat = n.toNat + 1 by omega]
  simp only [mo_pw]
  generalize mo_pw a n.toNat = w at hx k ⊢
  have b : 1 ≤ w * (a + 1) ∧ w * (a + 1) ≤ 16384 := by rcases (show a = 0 ∨ a = 1 ∨ a = 2 ∨ a = 3 by omega) with rfl | rfl | rfl | rfl <;> omega
  rw [zi_mul e hx hy (by omega) (by omega), Int.mul_comm]
theorem mo_last {L a W : Int} (h : L + 1 = (a + 1) * W) (h0 : 0 ≤ a) (h3 : a ≤ 3) : L % (a + 1) = a ∧ L / (a + 1) + 1 = W := by
  rcases (show a = 0 ∨ a = 1 ∨ a = 2 ∨ a = 3 by omega) with rfl | rfl | rfl | rfl <;> (constructor <;> simp <;> omega)
theorem mo_modr {L a : Int} (h0 : 0 ≤ a) : 0 ≤ L % (a + 1) ∧ L % (a + 1) ≤ a := ⟨Int.emod_nonneg _ (by omega), by have := Int.emod_lt_of_pos L (show 0 < a + 1 by omega); omega⟩
def mo_SBB (C S : Int → Int) (u a c : Int) : Prop := (∀ d, c < d → d < u → C d = -1 ∨ (0 ≤ C d ∧ C d < a)) ∧ ∀ s, 0 ≤ s → s < 3 → (0 ≤ S s ∧ S s < 64) ∧ ∀ d, 0 ≤ d → d < 6 → (mo_bt (S s) d ↔ (c < d ∧ d < u ∧ C d = s))
theorem mo_SBB.rf {C S : Int → Int} {u a c : Int} (hc : c = u - 1) (h : ∀ s, 0 ≤ s → s < 3 → S s = 0) : mo_SBB C S u a c :=
  ⟨fun d h0 h1 => by omega, fun s h0 h1 => by rw [h s h0 h1]; exact ⟨by omega, fun d _ _ => ⟨fun q => absurd q (mo_bt0 d), fun q => by omega⟩⟩⟩
theorem mo_SBB.yes {C C' S S' : Int → Int} {u a c c1 t i v : Int} (h : mo_SBB C S u a c) (hc : 0 ≤ c ∧ c < u ∧ u ≤ 6) (hC : ∀ j, 0 ≤ j → j ≠ c → C' j = C j) (hc' : C' c = t) (ht : 0 ≤ t ∧ t < a ∧ a ≤ 3) (hU : mo_U S S' i v) (hi : i = t) (hv : 0 ≤ v ∧ v < 64) (hb : ∀ d, 0 ≤ d → d < 6 → (mo_bt v d ↔ (mo_bt (S t) d ∨ d = c))) (h1 : c1 = c - 1) : mo_SBB C' S' u a c1 := by
  subst hi; subst h1
  refine ⟨fun d d0 d1 => ?_, fun s s0 s1 => ?_⟩
  · rcases (show d = c ∨ c < d by omega) with rfl | q
    · rw [hc']; omega
    · rw [hC d (by omega) (by omega)]; exact h.1 d q d1
  · obtain ⟨r, k⟩ := h.2 s s0 s1
    rcases hU.at s s0 with ⟨z, e⟩ | ⟨z, e⟩ <;> rw [e]
    · subst z
      refine ⟨hv, fun d d0 d1 => ?_⟩
      rw [hb d d0 d1, k d d0 d1]
      rcases (show d = c ∨ d ≠ c by omega) with rfl | q
      · rw [hc']; omega
      · rw [hC d d0 q]; omega
    · refine ⟨r, fun d d0 d1 => ?_⟩
      rw [k d d0 d1]
      rcases (show d = c ∨ d ≠ c by omega) with rfl | q
      · rw [hc']; omega
      · rw [hC d d0 q]; omega
theorem mo_SBB.no {C C' S : Int → Int} {u a c c1 : Int} (h : mo_SBB C S u a c) (hc : 0 ≤ c ∧ c < u ∧ u ≤ 6) (hC : ∀ j, 0 ≤ j → j ≠ c → C' j = C j) (hc' : C' c = -1) (h1 : c1 = c - 1) : mo_SBB C' S u a c1 := by
  subst h1
  refine ⟨fun d d0 d1 => ?_, fun s s0 s1 => ?_⟩
  · rcases (show d = c ∨ c < d by omega) with rfl | q
    · rw [hc']; omega
    · rw [hC d (by omega) (by omega)]; exact h.1 d q d1
  · obtain ⟨r, k⟩ := h.2 s s0 s1
    refine ⟨r, fun d d0 d1 => ?_⟩
    rw [k d d0 d1]
    rcases (show d = c ∨ d ≠ c by omega) with rfl | q
    · rw [hc']; omega
    · rw [hC d d0 q]; omega
def mo_BG (B L : Int → Int) (u a : Int) : Prop := (∀ d, 0 ≤ d → d < u → B d = -1 ∨ (0 ≤ B d ∧ B d < a)) ∧ ∀ s, 0 ≤ s → s < a → ∃ x, (0 ≤ x ∧ x < mo_P2 u ∧ x < 64) ∧ (∀ d, 0 ≤ d → d < 6 → (mo_bt x d ↔ (d < u ∧ B d = s))) ∧ L (64 * s + x) ≠ -2000000000000000
theorem mo_BG.of {B C S L : Int → Int} {u a : Int} (h : mo_SBB C S u a (-1)) (hu : 0 ≤ u ∧ u ≤ 6) (ha : a ≤ 3) (hB : ∀ d, 0 ≤ d → d < u → B d = C d) (hL : ∀ s, 0 ≤ s → s < a → L (64 * s + S s) ≠ -2000000000000000) : mo_BG B L u a := by
  refine ⟨fun d d0 d1 => by rw [hB d d0 d1]; exact h.1 d (by omega) d1, fun s s0 s1 => ?_⟩
  obtain ⟨r, k⟩ := h.2 s s0 (by omega)
  refine ⟨S s, ⟨r.1, mo_bt_P2 r.1 r.2 hu (fun d d0 d1 q => by have := (k d d0 d1).mp q; omega), r.2⟩, fun d d0 d1 => ?_, hL s s0 s1⟩
  rw [k d d0 d1]
  constructor
  · intro q; exact ⟨q.2.1, by rw [hB d d0 q.2.1]; exact q.2.2⟩
  · intro q; exact ⟨by omega, q.1, by rw [← hB d d0 q.1]; exact q.2⟩
def mo_TB (L A : Int → Int) (s k m : Int) : Prop := ∀ t x, 0 ≤ t → 0 ≤ x → x < m → (t < s ∨ (t = s ∧ x < k)) → (L (64 * t + x) ≠ -2000000000000000 → mo_GD (A (64 * t + x)) x) ∧ (x = 0 → L (64 * t + x) = 0)
theorem mo_TB.rf (L A : Int → Int) {s k m : Int} (hs : s = 0) (hk : k = 0) : mo_TB L A s k m := fun t x h0 h1 h2 h3 => by omega
theorem mo_TB.up {L L' A A' : Int → Int} {s k m i v w k1 : Int} (h : mo_TB L A s k m) (hL : mo_U L L' i v) (hA : mo_U A A' i w) (hi : i = 64 * s + k) (hm : m ≤ 64) (hk : 0 ≤ k ∧ k < m) (hs : 0 ≤ s) (h1 : v ≠ -2000000000000000 → mo_GD w k) (h2 : k = 0 → v = 0) (hk1 : k1 = k + 1) : mo_TB L' A' s k1 m := by
  subst hi; subst hk1
  intro t x t0 x0 x1 q
  rcases (show (t = s ∧ x = k) ∨ ¬ (t = s ∧ x = k) by omega) with ⟨rfl, rfl⟩ | z
  · rw [hL.eq (by omega), hA.eq (by omega)]; exact ⟨h1, h2⟩
  · rw [hL.ne (by omega) (by omega), hA.ne (by omega) (by omega)]; exact h t x t0 x0 x1 (by omega)
theorem mo_TB.nx {L A : Int → Int} {s k m s1 : Int} (h : mo_TB L A s k m) (hk : m ≤ k) (hs : s1 = s + 1) (k1 : Int) (hk1 : k1 = 0) : mo_TB L A s1 k1 m := by
  subst hs; subst hk1
  intro t x t0 x0 x1 q
  exact h t x t0 x0 x1 (by omega)
/-- the line of keepBest: places that were hit hold cargoes -/
def mo_KL (Ln : Int → Int) (y x c u : Int) : Prop := ∀ d, 0 ≤ d → d < c → mo_bt x d → 0 ≤ Ln (mo_pl y d) ∧ Ln (mo_pl y d) < u
theorem mo_KL.line {Ln : Int → Int} {y x c u n : Int} (h : mo_KL Ln y x c u) (hg : mo_GD y x) (hc : c = u) (hn : n = mo_cn x 6) (hx : ∀ d, 0 ≤ d → d < 6 → mo_bt x d → d < u) : ∀ j, 0 ≤ j → j < n → 0 ≤ Ln j ∧ Ln j < u := by
  subst hc; subst hn
  intro j j0 j1
  obtain ⟨d, d0, d1, hb, e⟩ := hg.2.2 j j0 j1
  have := h d d0 (hx d d0 d1 hb) hb
  rw [e] at this; exact this
theorem mo_KL.up {Ln Ln' : Int → Int} {y x c u i v c1 : Int} (h : mo_KL Ln y x c u) (hg : mo_GD y x) (hU : mo_U Ln Ln' i v) (hi : i = mo_pl y c) (hv : 0 ≤ v ∧ v < u) (hc : 0 ≤ c ∧ c < 6) (h1 : c1 = c + 1) : mo_KL Ln' y x c1 u := by
  subst h1; subst hi
  intro d d0 d1 hb
  have g := hg.2.1 d d0 (by omega) hb
  rcases hU.at (mo_pl y d) g.1 with ⟨z, e⟩ | ⟨z, e⟩ <;> rw [e]
  · exact hv
  · rcases (show d < c ∨ d = c by omega) with q | rfl
    · exact h d d0 q hb
    · exact absurd rfl z
theorem mo_KL.no {Ln : Int → Int} {y x c u c1 : Int} (h : mo_KL Ln y x c u) (hb : ¬ mo_bt x c) (h1 : c1 = c + 1) : mo_KL Ln y x c1 u := by
  subst h1
  intro d d0 d1 q
  rcases (show d < c ∨ d = c by omega) with z | rfl
  · exact h d d0 z q
  · exact absurd q hb
theorem zb_pl {x m y z : Int32} {C : Int} (e1 : y = x >>> (m &&& 31)) (e2 : z = y &&& 7) (hm : m.toInt = 3 * C) (hC : 0 ≤ C ∧ C < 6) (hx : 0 ≤ x.toInt ∧ x.toInt < 262144) : z.toInt = mo_pl x.toInt C := by
  have nx := zb_nat hx.1
  have em : m = Int32.ofNat (3 * C.toNat) := by
    apply Int32.toInt_inj.mp
    rw [hm, Int32.toInt_ofNat', zi_bm _ (by omega) (by omega)]; omega
  have key : z.toBitVec.toNat = x.toBitVec.toNat / 2 ^ (3 * C.toNat) % 8 := by
    rw [e2, Int32.toBitVec_and, BitVec.toNat_and, show ((7 : Int32).toBitVec.toNat) = 2 ^ 3 - 1 from rfl, Nat.and_two_pow_sub_one_eq_mod]
    have hy : y.toBitVec.toNat = x.toBitVec.toNat / 2 ^ (3 * C.toNat) := by
      rw [e1, Int32.toBitVec_shiftRight]
      have hs : (BitVec.smod (m &&& 31).toBitVec 32).toNat = 3 * C.toNat := by
        rcases (show C = 0 ∨ C = 1 ∨ C = 2 ∨ C = 3 ∨ C = 4 ∨ C = 5 by omega) with rfl | rfl | rfl | rfl | rfl | rfl <;> (rw [em]; decide)
      rw [BitVec.sshiftRight', hs, BitVec.sshiftRight_eq_of_msb_false (by rw [BitVec.msb_eq_decide]; simp; omega), BitVec.toNat_ushiftRight, Nat.shiftRight_eq_div_pow]
    rw [hy]
  have hb : z.toBitVec.toNat < 8 := by rw [key]; exact Nat.mod_lt _ (by decide)
  have nz := zb_nat (x := z) (zb_of (z := z) (k := 7) (by omega) (by decide)).1
  rw [nz, key, nx]
  rcases (show C = 0 ∨ C = 1 ∨ C = 2 ∨ C = 3 ∨ C = 4 ∨ C = 5 by omega) with rfl | rfl | rfl | rfl | rfl | rfl <;> (simp [mo_pl]; try omega)

theorem zl_bm (a : Int) (h1 : -9223372036854775808 ≤ a) (h2 : a ≤ 9223372036854775807) : a.bmod (2 ^ 64) = a := by
  unfold Int.bmod
  simp only []
  split <;> omega
section ZLN
variable {x y z : Int64} {X Y : Int}
theorem zl_add (e : z = x + y) (hx : x.toInt = X) (hy : y.toInt = Y) (h1 : -9223372036854775808 ≤ X + Y) (h2 : X + Y ≤ 9223372036854775807) : z.toInt = X + Y := by
  rw [e, Int64.toInt_add, hx, hy]; exact zl_bm _ h1 h2
theorem zl_sub (e : z = x - y) (hx : x.toInt = X) (hy : y.toInt = Y) (h1 : -9223372036854775808 ≤ X - Y) (h2 : X - Y ≤ 9223372036854775807) : z.toInt = X - Y := by
  rw [e, Int64.toInt_sub, hx, hy]; exact zl_bm _ h1 h2
theorem zl_mul (e : z = x * y) (hx : x.toInt = X) (hy : y.toInt = Y) (h1 : -9223372036854775808 ≤ X * Y) (h2 : X * Y ≤ 9223372036854775807) : z.toInt = X * Y := by
  rw [e, Int64.toInt_mul, hx, hy]; exact zl_bm _ h1 h2
theorem zl_div (e : z = x / y) (hx : x.toInt = X) (hy : y.toInt = Y) (h0 : 0 ≤ X) (h1 : 0 < Y) : z.toInt = X / Y := by
  have hX : X ≤ 9223372036854775807 := by rw [← hx]; have := x.toInt_lt; omega
  rw [e, Int64.toInt_div, hx, hy, Int.tdiv_eq_ediv_of_nonneg h0]
  have a : 0 ≤ X / Y := Int.ediv_nonneg h0 (by omega)
  have b : X / Y ≤ X := Int.ediv_le_self _ h0
  exact zl_bm _ (by omega) (by omega)
theorem zl_mulb (e : z = x * y) (hx : x.toInt = X) (hy : y.toInt = Y) (a b : Int) (h0 : 0 ≤ X) (h1 : X ≤ a) (h2 : 0 ≤ Y) (h3 : Y ≤ b) (hab : a * b ≤ 9223372036854775807) : 0 ≤ z.toInt ∧ z.toInt ≤ b * X ∧ z.toInt ≤ a * Y ∧ (1 ≤ Y → X ≤ z.toInt) ∧ (1 ≤ X → Y ≤ z.toInt) := by
  have q0 : 0 ≤ X * Y := Int.mul_nonneg h0 h2
  have q1 : X * Y ≤ X * b := Int.mul_le_mul_of_nonneg_left h3 h0
  have q2 : X * Y ≤ a * Y := Int.mul_le_mul_of_nonneg_right h1 h2
  have q3 : a * Y ≤ a * b := Int.mul_le_mul_of_nonneg_left h3 (by omega)
  have := zl_mul e hx hy (by omega) (by omega)
  rw [this, Int.mul_comm b X]
  refine ⟨q0, q1, q2, fun hy => ?_, fun hx => ?_⟩
  · have := Int.mul_le_mul_of_nonneg_left hy h0; omega
  · have := Int.mul_le_mul_of_nonneg_right hx h2; omega
theorem zi_l2i {w : Int32} (e : w = x.toInt32) (hx : x.toInt = X) (h1 : -2147483648 ≤ X) (h2 : X ≤ 2147483647) : w.toInt = X := by
  rw [e, Int64.toInt_toInt32, hx]; exact zi_bm _ h1 h2
theorem zl_negnz (e : z = -x) (h : x.toInt ≠ 0) : z.toInt ≠ 0 := by
  intro q; apply h
  have h1 : z = 0 := Int64.toInt_inj.mp q
  rw [e] at h1
  have h2 : x = 0 := by rw [← Int64.neg_neg (a := x), h1]; rfl
  rw [h2]; rfl
theorem zl_bd (x : Int64) : -9223372036854775808 ≤ x.toInt ∧ x.toInt ≤ 9223372036854775807 := ⟨by have := x.le_toInt; omega, by have := x.toInt_lt; omega⟩
end ZLN
def mo_hd (P : Prop) : Prop := P
theorem mo_un {P : Prop} (h : mo_hd P) : P := h
def mo_R (g : Nat → Int32) (j : Int) : Int := (g j.toNat).toInt
def mo_i (e : va_E) : Nat → Int32 := match e with | .inl (_, _, .inl g) => g | _ => fun _ => 0
def mo_l (e : va_E) : Nat → Int64 := match e with | .inl (_, _, .inr (.inl g)) => g | _ => fun _ => 0
theorem mo_i1 {k : ClassId} {n : Nat} {g : Nat → Int32} : mo_i (.inl (k, n, .inl g)) = g := rfl
theorem mo_l1 {k : ClassId} {n : Nat} {g : Nat → Int64} : mo_l (.inl (k, n, .inr (.inl g))) = g := rfl
def mo_U (R R' : Int → Int) (i v : Int) : Prop := ∀ j, 0 ≤ j → R' j = if j = i then v else R j
section MOU
variable {R R' : Int → Int} {i v j : Int}
theorem mo_U.ne (h : mo_U R R' i v) (h0 : 0 ≤ j) (hn : j ≠ i) : R' j = R j := by rw [h j h0, if_neg hn]
theorem mo_U.eq (h : mo_U R R' i v) (h0 : 0 ≤ i) : R' i = v := by rw [h i h0, if_pos rfl]
theorem mo_U.at (h : mo_U R R' i v) (j : Int) (h0 : 0 ≤ j) : (j = i ∧ R' j = v) ∨ (j ≠ i ∧ R' j = R j) := by
  by_cases q : j = i
  · exact Or.inl ⟨q, by rw [h j h0, if_pos q]⟩
  · exact Or.inr ⟨q, h.ne h0 q⟩
theorem mo_up {g : Nat → Int32} {i v : Int32} {I V : Int} (hi : i.toInt = I) (hv : v.toInt = V) (h0 : 0 ≤ I) : mo_U (mo_R g) (mo_R (upd g i.toNatClampNeg v)) I V := by
  intro j hj
  have e : i.toNatClampNeg = i.toInt.toNat := rfl
  unfold mo_R upd
  by_cases q : j = I
  · rw [if_pos q, if_pos (by rw [e, hi, q]), hv]
  · rw [if_neg q, if_neg (by rw [e, hi]; omega)]
theorem mo_rd {g : Nat → Int32} {i z : Int32} {I : Int} (e : z = g i.toNatClampNeg) (hi : i.toInt = I) : z.toInt = mo_R g I := by rw [e, ← hi]; rfl
end MOU
/-- height of the pile before each op of code P, from a to b -/
def mo_WF (P : Int → Int) (a b : Int) : Prop := ∃ d : Int → Int, d a = 0 ∧ ∀ k, a ≤ k → k < b → (0 ≤ d k ∧ d k ≤ k - a) ∧ (0 ≤ P (64 + 2 * k) ∧ P (64 + 2 * k) ≤ 19) ∧
  (P (64 + 2 * k) < 10 → P (64 + 2 * k) ≤ 8 ∧ d (k + 1) = d k + 1) ∧ (10 ≤ P (64 + 2 * k) → P (64 + 2 * k) < 17 → 2 ≤ d k ∧ d (k + 1) = d k - 1) ∧ (P (64 + 2 * k) = 17 → 1 ≤ d k ∧ d (k + 1) = d k) ∧
  (18 ≤ P (64 + 2 * k) → 1 ≤ d k ∧ d (k + 1) = d k - 1 ∧ k < P (65 + 2 * k) ∧ P (65 + 2 * k) ≤ b ∧ d (P (65 + 2 * k)) = d k)
def mo_CO (P : Int → Int) : Prop := (0 ≤ P 3 ∧ P 3 ≤ 12) ∧ ∀ k, 0 ≤ k → k < P 3 → (0 ≤ P (5 + 5 * k) ∧ P (5 + 5 * k) ≤ P (6 + 5 * k) ∧ P (6 + 5 * k) ≤ P (7 + 5 * k) ∧ P (7 + 5 * k) ≤ P (8 + 5 * k) ∧ P (8 + 5 * k) ≤ 400) ∧ mo_WF P (P (5 + 5 * k)) (P (6 + 5 * k)) ∧ mo_WF P (P (7 + 5 * k)) (P (8 + 5 * k))
theorem mo_WF.congr {P P' : Int → Int} {a b : Int} (ha : 0 ≤ a) (hb : b ≤ 400) (e : ∀ j, 0 ≤ j → j < 864 → P j = P' j) (h : mo_WF P a b) : mo_WF P' a b := by
  obtain ⟨d, h0, h⟩ := h
  refine ⟨d, h0, fun k h1 h2 => ?_⟩
  have := h k h1 h2
  rw [e (64 + 2 * k) (by omega) (by omega), e (65 + 2 * k) (by omega) (by omega)] at this
  exact this
theorem mo_CO.congr {P P' : Int → Int} (e : ∀ j, 0 ≤ j → j < 864 → P j = P' j) (h : mo_CO P) : mo_CO P' := by
  obtain ⟨h0, h⟩ := h
  rw [e 3 (by omega) (by omega)] at h0
  refine ⟨h0, fun k h1 h2 => ?_⟩
  obtain ⟨a, w1, w2⟩ := h k h1 (by rw [e 3 (by omega) (by omega)]; exact h2)
  have e5 := e (5 + 5 * k) (by omega) (by omega)
  have e6 := e (6 + 5 * k) (by omega) (by omega)
  have e7 := e (7 + 5 * k) (by omega) (by omega)
  have e8 := e (8 + 5 * k) (by omega) (by omega)
  rw [e5, e6, e7, e8] at a
  rw [e5, e6] at w1
  rw [e7, e8] at w2
  exact ⟨a, w1.congr (by omega) (by omega) e, w2.congr (by omega) (by omega) e⟩
theorem mo_WF.row {R : Int → Int} {B a b : Int} (h : mo_WF (fun j => R (B + j)) a b) : ∃ d : Int → Int, d a = 0 ∧ ∀ k, a ≤ k → k < b → (0 ≤ d k ∧ d k ≤ k - a) ∧ (0 ≤ R (B + 64 + 2 * k) ∧ R (B + 64 + 2 * k) ≤ 19) ∧
  (R (B + 64 + 2 * k) < 10 → R (B + 64 + 2 * k) ≤ 8 ∧ d (k + 1) = d k + 1) ∧ (10 ≤ R (B + 64 + 2 * k) → R (B + 64 + 2 * k) < 17 → 2 ≤ d k ∧ d (k + 1) = d k - 1) ∧ (R (B + 64 + 2 * k) = 17 → 1 ≤ d k ∧ d (k + 1) = d k) ∧
  (18 ≤ R (B + 64 + 2 * k) → 1 ≤ d k ∧ d (k + 1) = d k - 1 ∧ k < R (B + 65 + 2 * k) ∧ R (B + 65 + 2 * k) ≤ b ∧ d (R (B + 65 + 2 * k)) = d k) := by
  obtain ⟨d, h0, h⟩ := h
  refine ⟨d, h0, fun k h1 h2 => ?_⟩
  have e1 : B + (64 + 2 * k) = B + 64 + 2 * k := by omega
  have e2 : B + (65 + 2 * k) = B + 65 + 2 * k := by omega
  have := h k h1 h2
  simp only [e1, e2] at this
  exact this
theorem mo_CO.row {R : Int → Int} {B : Int} (h : mo_CO (fun j => R (B + j))) : (0 ≤ R (B + 3) ∧ R (B + 3) ≤ 12) ∧ ∀ k, 0 ≤ k → k < R (B + 3) → (0 ≤ R (B + 5 + 5 * k) ∧ R (B + 5 + 5 * k) ≤ R (B + 6 + 5 * k) ∧ R (B + 6 + 5 * k) ≤ R (B + 7 + 5 * k) ∧ R (B + 7 + 5 * k) ≤ R (B + 8 + 5 * k) ∧ R (B + 8 + 5 * k) ≤ 400) ∧ mo_WF (fun j => R (B + j)) (R (B + 5 + 5 * k)) (R (B + 6 + 5 * k)) ∧ mo_WF (fun j => R (B + j)) (R (B + 7 + 5 * k)) (R (B + 8 + 5 * k)) := by
  obtain ⟨h0, h⟩ := h
  refine ⟨h0, fun k h1 h2 => ?_⟩
  have e5 : B + (5 + 5 * k) = B + 5 + 5 * k := by omega
  have e6 : B + (6 + 5 * k) = B + 6 + 5 * k := by omega
  have e7 : B + (7 + 5 * k) = B + 7 + 5 * k := by omega
  have e8 : B + (8 + 5 * k) = B + 8 + 5 * k := by omega
  have := h k h1 h2
  simp only [e5, e6, e7, e8] at this
  exact this

def mo_T (R : Int → Int) : Prop := ∀ t : Int, 0 ≤ t → t < R 0 → 1 ≤ R (20 + 5 * t + 2)
def mo_E (R : Int → Int) : Prop := ∀ d : Int, 0 ≤ d → d < 100 → 0 ≤ R (147 + d) ∧ R (147 + d) ≤ 9
def mo_SA (R : Int → Int) : Prop := ∀ s : Int, 0 ≤ s → s < R 1 → 0 ≤ R (547 + 84 * s + 0) ∧ R (547 + 84 * s + 0) ≤ 5
def mo_SF (R : Int → Int) : Prop := ∀ s : Int, 0 ≤ s → s < R 1 → 0 ≤ R (547 + 84 * s + 8) ∧ R (547 + 84 * s + 8) ≤ 50
def mo_SO (R : Int → Int) : Prop := ∀ s : Int, 0 ≤ s → s < R 1 → 0 ≤ R (547 + 84 * s + 10) ∧ R (547 + 84 * s + 10) ≤ 20
def mo_SL (R : Int → Int) : Prop := ∀ s : Int, 0 ≤ s → s < R 1 → R (547 + 84 * s + 24) ≤ 2399
def mo_SB (R : Int → Int) : Prop := ∀ s k : Int, 0 ≤ s → s < R 1 → 0 ≤ k → k < 4 → 0 ≤ R (547 + 84 * s + 33 + 3 * k) ∧ R (547 + 84 * s + 33 + 3 * k) ≤ 5000
def mo_GC (R : Int → Int) : Prop := ∀ s : Int, 0 ≤ s → s < R 1 → 1000 ≤ R (547 + 84 * s + 7) ∧ R (547 + 84 * s + 7) ≤ 200000
def mo_GG (R : Int → Int) : Prop := ∀ s : Int, 0 ≤ s → s < R 1 → 0 ≤ R (547 + 84 * s + 4) ∧ R (547 + 84 * s + 4) ≤ R (547 + 84 * s + 7)
def mo_V (x b : Int) (R : Int → Int) : Prop := ∀ s : Int, 0 ≤ s → s < R 1 → 0 ≤ R (547 + 84 * s + 5) ∧ (s ≠ x → R (547 + 84 * s + 5) ≤ 202202) ∧ R (547 + 84 * s + 5) ≤ 202202 + b
def mo_P (R : Int → Int) : Prop := ∀ s o : Int, 0 ≤ s → s < R 1 → 0 ≤ o → o < R (547 + 84 * s + 10) → R (547 + 84 * s + 44 + 2 * o) = 0 → 0 ≤ R (547 + 84 * s + 45 + 2 * o) ∧ R (547 + 84 * s + 45 + 2 * o) ≤ 5
def mo_LS (R : Int → Int) : Prop := ∀ l : Int, 0 ≤ l → l < R 5 → 0 ≤ R (1051 + 16 * l + 0) ∧ R (1051 + 16 * l + 0) < R 1
def mo_LL (R : Int → Int) : Prop := ∀ l : Int, 0 ≤ l → l < R 5 → R (1051 + 16 * l + 3) ≤ 2399
def mo_LT (R : Int → Int) : Prop := ∀ l : Int, 0 ≤ l → l < R 5 → 1 ≤ R (1051 + 16 * l + 4)
def mo_A0 (R : Int → Int) : Prop := ∀ k : Int, 0 ≤ k → k < R 10 → 0 ≤ R (12919 + 8 * k + 0) ∧ R (12919 + 8 * k + 0) < R 0
def mo_A1 (R : Int → Int) : Prop := ∀ k : Int, 0 ≤ k → k < R 10 → 0 ≤ R (12919 + 8 * k + 1) ∧ R (12919 + 8 * k + 1) < R 0
def mo_K (R : Int → Int) : Prop := (0 ≤ R 0 ∧ R 0 ≤ 6) ∧ (0 ≤ R 1 ∧ R 1 ≤ 6) ∧ (0 ≤ R 2 ∧ R 2 ≤ 60) ∧ (0 ≤ R 3 ∧ R 3 ≤ 20) ∧ (0 ≤ R 5 ∧ R 5 ≤ 60) ∧ (0 ≤ R 6 ∧ R 6 ≤ 60) ∧ (0 ≤ R 7 ∧ R 7 ≤ 20) ∧ (0 ≤ R 8 ∧ R 8 ≤ 12) ∧ (0 ≤ R 9 ∧ R 9 ≤ 60) ∧ (0 ≤ R 10 ∧ R 10 ≤ 6) ∧ (0 ≤ R 11 ∧ R 11 ≤ 2399) ∧ (0 ≤ R 12 ∧ R 12 ≤ 100) ∧ (0 ≤ R 13 ∧ R 13 ≤ 1000)
def mo_C (R : Int → Int) : Prop := ∀ c : Int, 0 ≤ c → c < R 8 → mo_CO (fun j => R (2251 + 864 * c + j))
def mo_RI (x b : Int) (R : Int → Int) : Prop := mo_K R ∧ mo_T R ∧ mo_E R ∧ mo_SA R ∧ mo_SF R ∧ mo_SO R ∧ mo_SL R ∧ mo_SB R ∧ mo_GC R ∧ mo_GG R ∧ mo_V x b R ∧ mo_P R ∧ mo_LS R ∧ mo_LL R ∧ mo_LT R ∧ mo_A0 R ∧ mo_A1 R ∧ mo_C R
section MORI
variable {x b : Int} {R R' : Int → Int} {i v : Int}
theorem mo_RI.k0 (h : mo_RI x b R) : 0 ≤ R 0 ∧ R 0 ≤ 6 := h.1.1
theorem mo_RI.k1 (h : mo_RI x b R) : 0 ≤ R 1 ∧ R 1 ≤ 6 := h.1.2.1
theorem mo_RI.k2 (h : mo_RI x b R) : 0 ≤ R 2 ∧ R 2 ≤ 60 := h.1.2.2.1
theorem mo_RI.k3 (h : mo_RI x b R) : 0 ≤ R 3 ∧ R 3 ≤ 20 := h.1.2.2.2.1
theorem mo_RI.k5 (h : mo_RI x b R) : 0 ≤ R 5 ∧ R 5 ≤ 60 := h.1.2.2.2.2.1
theorem mo_RI.k6 (h : mo_RI x b R) : 0 ≤ R 6 ∧ R 6 ≤ 60 := h.1.2.2.2.2.2.1
theorem mo_RI.k7 (h : mo_RI x b R) : 0 ≤ R 7 ∧ R 7 ≤ 20 := h.1.2.2.2.2.2.2.1
theorem mo_RI.k8 (h : mo_RI x b R) : 0 ≤ R 8 ∧ R 8 ≤ 12 := h.1.2.2.2.2.2.2.2.1
theorem mo_RI.k9 (h : mo_RI x b R) : 0 ≤ R 9 ∧ R 9 ≤ 60 := h.1.2.2.2.2.2.2.2.2.1
theorem mo_RI.k10 (h : mo_RI x b R) : 0 ≤ R 10 ∧ R 10 ≤ 6 := h.1.2.2.2.2.2.2.2.2.2.1
theorem mo_RI.k11 (h : mo_RI x b R) : 0 ≤ R 11 ∧ R 11 ≤ 2399 := h.1.2.2.2.2.2.2.2.2.2.2.1
theorem mo_RI.k12 (h : mo_RI x b R) : 0 ≤ R 12 ∧ R 12 ≤ 100 := h.1.2.2.2.2.2.2.2.2.2.2.2.1
theorem mo_RI.k13 (h : mo_RI x b R) : 0 ≤ R 13 ∧ R 13 ≤ 1000 := h.1.2.2.2.2.2.2.2.2.2.2.2.2
theorem mo_RI.T (h : mo_RI x b R) {t : Int} : 0 ≤ t → t < R 0 → 1 ≤ R (20 + 5 * t + 2) := h.2.1 t
theorem mo_RI.E (h : mo_RI x b R) {d : Int} : 0 ≤ d → d < 100 → 0 ≤ R (147 + d) ∧ R (147 + d) ≤ 9 := h.2.2.1 d
theorem mo_RI.SA (h : mo_RI x b R) {s : Int} : 0 ≤ s → s < R 1 → 0 ≤ R (547 + 84 * s + 0) ∧ R (547 + 84 * s + 0) ≤ 5 := h.2.2.2.1 s
theorem mo_RI.SF (h : mo_RI x b R) {s : Int} : 0 ≤ s → s < R 1 → 0 ≤ R (547 + 84 * s + 8) ∧ R (547 + 84 * s + 8) ≤ 50 := h.2.2.2.2.1 s
theorem mo_RI.SO (h : mo_RI x b R) {s : Int} : 0 ≤ s → s < R 1 → 0 ≤ R (547 + 84 * s + 10) ∧ R (547 + 84 * s + 10) ≤ 20 := h.2.2.2.2.2.1 s
theorem mo_RI.SL (h : mo_RI x b R) {s : Int} : 0 ≤ s → s < R 1 → R (547 + 84 * s + 24) ≤ 2399 := h.2.2.2.2.2.2.1 s
theorem mo_RI.SB (h : mo_RI x b R) {s k : Int} : 0 ≤ s → s < R 1 → 0 ≤ k → k < 4 → 0 ≤ R (547 + 84 * s + 33 + 3 * k) ∧ R (547 + 84 * s + 33 + 3 * k) ≤ 5000 := h.2.2.2.2.2.2.2.1 s k
theorem mo_RI.GC (h : mo_RI x b R) {s : Int} : 0 ≤ s → s < R 1 → 1000 ≤ R (547 + 84 * s + 7) ∧ R (547 + 84 * s + 7) ≤ 200000 := h.2.2.2.2.2.2.2.2.1 s
theorem mo_RI.GG (h : mo_RI x b R) {s : Int} : 0 ≤ s → s < R 1 → 0 ≤ R (547 + 84 * s + 4) ∧ R (547 + 84 * s + 4) ≤ R (547 + 84 * s + 7) := h.2.2.2.2.2.2.2.2.2.1 s
theorem mo_RI.V (h : mo_RI x b R) {s : Int} : 0 ≤ s → s < R 1 → 0 ≤ R (547 + 84 * s + 5) ∧ (s ≠ x → R (547 + 84 * s + 5) ≤ 202202) ∧ R (547 + 84 * s + 5) ≤ 202202 + b := h.2.2.2.2.2.2.2.2.2.2.1 s
theorem mo_RI.P (h : mo_RI x b R) {s o : Int} : 0 ≤ s → s < R 1 → 0 ≤ o → o < R (547 + 84 * s + 10) → R (547 + 84 * s + 44 + 2 * o) = 0 → 0 ≤ R (547 + 84 * s + 45 + 2 * o) ∧ R (547 + 84 * s + 45 + 2 * o) ≤ 5 := h.2.2.2.2.2.2.2.2.2.2.2.1 s o
theorem mo_RI.LS (h : mo_RI x b R) {l : Int} : 0 ≤ l → l < R 5 → 0 ≤ R (1051 + 16 * l + 0) ∧ R (1051 + 16 * l + 0) < R 1 := h.2.2.2.2.2.2.2.2.2.2.2.2.1 l
theorem mo_RI.LL (h : mo_RI x b R) {l : Int} : 0 ≤ l → l < R 5 → R (1051 + 16 * l + 3) ≤ 2399 := h.2.2.2.2.2.2.2.2.2.2.2.2.2.1 l
theorem mo_RI.LT (h : mo_RI x b R) {l : Int} : 0 ≤ l → l < R 5 → 1 ≤ R (1051 + 16 * l + 4) := h.2.2.2.2.2.2.2.2.2.2.2.2.2.2.1 l
theorem mo_RI.A0 (h : mo_RI x b R) {k : Int} : 0 ≤ k → k < R 10 → 0 ≤ R (12919 + 8 * k + 0) ∧ R (12919 + 8 * k + 0) < R 0 := h.2.2.2.2.2.2.2.2.2.2.2.2.2.2.2.1 k
theorem mo_RI.A1 (h : mo_RI x b R) {k : Int} : 0 ≤ k → k < R 10 → 0 ≤ R (12919 + 8 * k + 1) ∧ R (12919 + 8 * k + 1) < R 0 := h.2.2.2.2.2.2.2.2.2.2.2.2.2.2.2.2.1 k
theorem mo_RI.C (h : mo_RI x b R) {c : Int} : 0 ≤ c → c < R 8 → mo_CO (fun j => R (2251 + 864 * c + j)) := h.2.2.2.2.2.2.2.2.2.2.2.2.2.2.2.2.2 c
theorem mo_RI.P0 (h : mo_RI x b R) {s : Int} (h0 : 0 ≤ s) (h1 : s < R 1) (h2 : 0 < R (547 + 84 * s + 10)) (h3 : R (547 + 84 * s + 44) = 0) : 0 ≤ R (547 + 84 * s + 45) ∧ R (547 + 84 * s + 45) ≤ 5 := by
  have := h.P (s := s) (o := 0) h0 h1 (by omega) h2
  rw [show 547 + 84 * s + 44 + 2 * 0 = 547 + 84 * s + 44 by omega, show 547 + 84 * s + 45 + 2 * 0 = 547 + 84 * s + 45 by omega] at this
  exact this h3
theorem mo_RI.xb (h : mo_RI x b R) {y a : Int} (ha : ∀ s, 0 ≤ s → s < R 1 → (s ≠ x → R (547 + 84 * s + 5) ≤ 202202) → R (547 + 84 * s + 5) ≤ 202202 + b → (s ≠ y → R (547 + 84 * s + 5) ≤ 202202) ∧ R (547 + 84 * s + 5) ≤ 202202 + a) : mo_RI y a R := by
  obtain ⟨hK, hT, hE, hSA, hSF, hSO, hSL, hSB, hGC, hGG, hV, hP, hLS, hLL, hLT, hA0, hA1, hC⟩ := h
  exact ⟨hK, hT, hE, hSA, hSF, hSO, hSL, hSB, hGC, hGG, fun s h0 h1 => ⟨(hV s h0 h1).1, ha s h0 h1 (hV s h0 h1).2.1 (hV s h0 h1).2.2⟩, hP, hLS, hLL, hLT, hA0, hA1, hC⟩
theorem mo_RI.same (h : mo_RI x b R) (e : ∀ j, 0 ≤ j → j < 12967 → R' j = R j) : mo_RI x b R' := by
  obtain ⟨hK, hT, hE, hSA, hSF, hSO, hSL, hSB, hGC, hGG, hV, hP, hLS, hLL, hLT, hA0, hA1, hC⟩ := h
  obtain ⟨k0, k1, k2, k3, k5, k6, k7, k8, k9, k10, k11, k12, k13⟩ := hK
  refine ⟨⟨by rw [e 0 (by omega) (by omega)]; exact k0, by rw [e 1 (by omega) (by omega)]; exact k1, by rw [e 2 (by omega) (by omega)]; exact k2, by rw [e 3 (by omega) (by omega)]; exact k3, by rw [e 5 (by omega) (by omega)]; exact k5, by rw [e 6 (by omega) (by omega)]; exact k6, by rw [e 7 (by omega) (by omega)]; exact k7, by rw [e 8 (by omega) (by omega)]; exact k8, by rw [e 9 (by omega) (by omega)]; exact k9, by rw [e 10 (by omega) (by omega)]; exact k10, by rw [e 11 (by omega) (by omega)]; exact k11, by rw [e 12 (by omega) (by omega)]; exact k12, by rw [e 13 (by omega) (by omega)]; exact k13⟩, ?_, ?_, ?_, ?_, ?_, ?_, ?_, ?_, ?_, ?_, ?_, ?_, ?_, ?_, ?_, ?_, ?_⟩
  · intro t p0 p1
    have q0 := e 0 (by omega) (by omega)
    have r0 := e (20 + 5 * t + 2) (by omega) (by omega)
    have g0 := hT t
    omega
  · intro d p0 p1
    have r0 := e (147 + d) (by omega) (by omega)
    have g0 := hE d
    constructor <;> omega
  · intro s p0 p1
    have q1 := e 1 (by omega) (by omega)
    have r0 := e (547 + 84 * s + 0) (by omega) (by omega)
    have g0 := hSA s
    constructor <;> omega
  · intro s p0 p1
    have q1 := e 1 (by omega) (by omega)
    have r0 := e (547 + 84 * s + 8) (by omega) (by omega)
    have g0 := hSF s
    constructor <;> omega
  · intro s p0 p1
    have q1 := e 1 (by omega) (by omega)
    have r0 := e (547 + 84 * s + 10) (by omega) (by omega)
    have g0 := hSO s
    constructor <;> omega
  · intro s p0 p1
    have q1 := e 1 (by omega) (by omega)
    have r0 := e (547 + 84 * s + 24) (by omega) (by omega)
    have g0 := hSL s
    omega
  · intro s k p0 p1 p2 p3
    have q1 := e 1 (by omega) (by omega)
    have r0 := e (547 + 84 * s + 33 + 3 * k) (by omega) (by omega)
    have g0 := hSB s k
    constructor <;> omega
  · intro s p0 p1
    have q1 := e 1 (by omega) (by omega)
    have r0 := e (547 + 84 * s + 7) (by omega) (by omega)
    have g0 := hGC s
    constructor <;> omega
  · intro s p0 p1
    have q1 := e 1 (by omega) (by omega)
    have r0 := e (547 + 84 * s + 4) (by omega) (by omega)
    have r1 := e (547 + 84 * s + 7) (by omega) (by omega)
    have g0 := hGG s
    constructor <;> omega
  · intro s p0 p1
    have q1 := e 1 (by omega) (by omega)
    have r0 := e (547 + 84 * s + 5) (by omega) (by omega)
    have g0 := hV s
    refine ⟨?_, ?_, ?_⟩ <;> omega
  · intro s o p0 p1 p2 p3
    have q1 := e 1 (by omega) (by omega)
    have q10 := e (547 + 84 * s + 10) (by omega) (by omega)
    have q11 := hSO s p0 (by omega)
    have r0 := e (547 + 84 * s + 44 + 2 * o) (by omega) (by omega)
    have r1 := e (547 + 84 * s + 45 + 2 * o) (by omega) (by omega)
    have g0 := hP s o
    intro hw
    constructor <;> omega
  · intro l p0 p1
    have q1 := e 1 (by omega) (by omega)
    have q5 := e 5 (by omega) (by omega)
    have r0 := e (1051 + 16 * l + 0) (by omega) (by omega)
    have g0 := hLS l
    constructor <;> omega
  · intro l p0 p1
    have q5 := e 5 (by omega) (by omega)
    have r0 := e (1051 + 16 * l + 3) (by omega) (by omega)
    have g0 := hLL l
    omega
  · intro l p0 p1
    have q5 := e 5 (by omega) (by omega)
    have r0 := e (1051 + 16 * l + 4) (by omega) (by omega)
    have g0 := hLT l
    omega
  · intro k p0 p1
    have q0 := e 0 (by omega) (by omega)
    have q10 := e 10 (by omega) (by omega)
    have r0 := e (12919 + 8 * k + 0) (by omega) (by omega)
    have g0 := hA0 k
    constructor <;> omega
  · intro k p0 p1
    have q0 := e 0 (by omega) (by omega)
    have q10 := e 10 (by omega) (by omega)
    have r0 := e (12919 + 8 * k + 1) (by omega) (by omega)
    have g0 := hA1 k
    constructor <;> omega
  · intro c p0 p1
    have q8 := e 8 (by omega) (by omega)
    exact mo_CO.congr (fun j _ _ => (e _ (by omega) (by omega)).symm) (hC c p0 (by omega))
end MORI
def mo_O (κ : Nat → ClassId) (t : Nat) (r : Nat → Nat) (e : va_E) : Prop := match t with
  | 13 => ∃ x0 : Int32, ∃ x1 : Int32, ∃ x7 : Int32, ∃ x9 : Int32, ∃ x10 : Int32, ∃ x11 : Int32, ∃ x12 : Int32, ∃ x13 : Int64, ∃ x14 : Int32, ∃ x15 : Int32, ∃ x16 : Int32, ∃ x17 : Int32, ∃ x18 : Int32, ∃ x19 : Int32, ∃ x20 : Int32, ∃ x22 : Int32, ∃ x25 : Int32, ∃ x28 : Int32, ∃ x29 : Int32, ∃ x32 : Int32, ∃ x33 : Int64, ∃ x34 : Int64, ∃ x35 : Int64, ∃ x36 : Int32, ∃ x37 : Int32, ∃ x38 : Int32, ∃ x47 : Int32, ∃ x48 : Int32, e = .inr (12, [.int x0, .int x1, .ref (r 2), .ref (r 3), .ref (r 4), .ref (r 5), .ref (r 6), .int x7, .ref (r 8), .int x9, .int x10, .int x11, .int x12, .long x13, .int x14, .int x15, .int x16, .int x17, .int x18, .int x19, .int x20, .ref (r 21), .int x22, .ref (r 23), .ref (r 24), .int x25, .ref (r 26), .ref (r 27), .int x28, .int x29, .ref (r 30), .ref (r 31), .int x32, .long x33, .long x34, .long x35, .int x36, .int x37, .int x38, .ref (r 39), .ref (r 40), .ref (r 41), .ref (r 42), .ref (r 43), .ref (r 44), .ref (r 45), .ref (r 46), .int x47, .int x48, .ref (r 49), .ref (r 50), .ref (r 51), .ref (r 52)]) ∧ (0 ≤ x7.toInt ∧ x7.toInt ≤ 1) ∧ (0 ≤ x9.toInt ∧ x9.toInt ≤ 400) ∧ (0 ≤ x10.toInt ∧ x10.toInt ≤ 400) ∧ (0 ≤ x11.toInt ∧ x11.toInt ≤ 400) ∧ (0 ≤ x12.toInt ∧ x12.toInt ≤ 3) ∧ (0 ≤ x15.toInt ∧ x15.toInt ≤ 1) ∧ (0 ≤ x19.toInt ∧ x19.toInt ≤ 12) ∧ (0 ≤ x20.toInt ∧ x20.toInt ≤ 12) ∧ (0 ≤ x22.toInt ∧ x22.toInt ≤ 400) ∧ (0 ≤ x28.toInt ∧ x28.toInt ≤ 400) ∧ (0 ≤ x32.toInt ∧ x32.toInt ≤ 1) ∧ (0 ≤ x37.toInt ∧ x37.toInt ≤ 5) ∧ (0 ≤ x47.toInt ∧ x47.toInt ≤ 1) ∧ (0 ≤ x48.toInt ∧ x48.toInt ≤ 6)
  | 32 => ∃ g : Nat → Int32, e = .inl (κ 0, 12967, .inl g)
  | 33 => ∃ g : Nat → Int32, e = .inl (κ 0, 25934, .inl g)
  | 34 => ∃ g : Nat → Int32, e = .inl (κ 3, 2, .inl g)
  | 35 => ∃ g : Nat → Int32, e = .inl (κ 0, 6, .inl g)
  | 36 => ∃ g : Nat → Int64, e = .inl (κ 1, 6, .inr (.inl g))
  | 38 => ∃ g : Nat → Int32, e = .inl (κ 0, 400, .inl g)
  | 51 => ∃ g : Nat → Int32, e = .inl (κ 0, 60, .inl g)
  | 53 => ∃ g : Nat → Int32, e = .inl (κ 0, 400, .inl g)
  | 54 => ∃ g : Nat → Int32, e = .inl (κ 0, 400, .inl g)
  | 56 => ∃ g : Nat → Int32, e = .inl (κ 0, 400, .inl g)
  | 57 => ∃ g : Nat → Int32, e = .inl (κ 0, 400, .inl g)
  | 60 => ∃ g : Nat → Int64, e = .inl (κ 1, 9, .inr (.inl g))
  | 61 => ∃ g : Nat → Int64, e = .inl (κ 1, 400, .inr (.inl g))
  | 69 => ∃ g : Nat → Int32, e = .inl (κ 0, 6, .inl g)
  | 70 => ∃ g : Nat → Int32, e = .inl (κ 0, 6, .inl g)
  | 71 => ∃ g : Nat → Int64, e = .inl (κ 1, 6, .inr (.inl g))
  | 72 => ∃ g : Nat → Int32, e = .inl (κ 0, 6, .inl g)
  | 73 => ∃ g : Nat → Int64, e = .inl (κ 1, 192, .inr (.inl g))
  | 74 => ∃ g : Nat → Int32, e = .inl (κ 0, 192, .inl g)
  | 75 => ∃ g : Nat → Int32, e = .inl (κ 0, 6, .inl g)
  | 76 => ∃ g : Nat → Int32, e = .inl (κ 0, 6, .inl g)
  | 79 => ∃ g : Nat → Int32, e = .inl (κ 0, 6, .inl g)
  | 80 => ∃ g : Nat → Int64, e = .inl (κ 1, 30, .inr (.inl g))
  | 81 => ∃ g : Nat → Int32, e = .inl (κ 0, 6, .inl g)
  | 82 => ∃ g : Nat → Int32, e = .inl (κ 0, 3, .inl g)
  | _ => False
theorem tpo_13 {κ : Nat → ClassId} {τ ν : Nat → Nat} {ρ : Nat → Nat → Nat} {f : Nat → va_E} {a : Nat} (hT : tp_T (mo_O κ) κ τ ν ρ f) (h : τ a = 13) : ∃ x0 : Int32, ∃ x1 : Int32, ∃ x7 : Int32, ∃ x9 : Int32, ∃ x10 : Int32, ∃ x11 : Int32, ∃ x12 : Int32, ∃ x13 : Int64, ∃ x14 : Int32, ∃ x15 : Int32, ∃ x16 : Int32, ∃ x17 : Int32, ∃ x18 : Int32, ∃ x19 : Int32, ∃ x20 : Int32, ∃ x22 : Int32, ∃ x25 : Int32, ∃ x28 : Int32, ∃ x29 : Int32, ∃ x32 : Int32, ∃ x33 : Int64, ∃ x34 : Int64, ∃ x35 : Int64, ∃ x36 : Int32, ∃ x37 : Int32, ∃ x38 : Int32, ∃ x47 : Int32, ∃ x48 : Int32, f a = .inr (12, [.int x0, .int x1, .ref (ρ a 2), .ref (ρ a 3), .ref (ρ a 4), .ref (ρ a 5), .ref (ρ a 6), .int x7, .ref (ρ a 8), .int x9, .int x10, .int x11, .int x12, .long x13, .int x14, .int x15, .int x16, .int x17, .int x18, .int x19, .int x20, .ref (ρ a 21), .int x22, .ref (ρ a 23), .ref (ρ a 24), .int x25, .ref (ρ a 26), .ref (ρ a 27), .int x28, .int x29, .ref (ρ a 30), .ref (ρ a 31), .int x32, .long x33, .long x34, .long x35, .int x36, .int x37, .int x38, .ref (ρ a 39), .ref (ρ a 40), .ref (ρ a 41), .ref (ρ a 42), .ref (ρ a 43), .ref (ρ a 44), .ref (ρ a 45), .ref (ρ a 46), .int x47, .int x48, .ref (ρ a 49), .ref (ρ a 50), .ref (ρ a 51), .ref (ρ a 52)]) ∧ (0 ≤ x7.toInt ∧ x7.toInt ≤ 1) ∧ (0 ≤ x9.toInt ∧ x9.toInt ≤ 400) ∧ (0 ≤ x10.toInt ∧ x10.toInt ≤ 400) ∧ (0 ≤ x11.toInt ∧ x11.toInt ≤ 400) ∧ (0 ≤ x12.toInt ∧ x12.toInt ≤ 3) ∧ (0 ≤ x15.toInt ∧ x15.toInt ≤ 1) ∧ (0 ≤ x19.toInt ∧ x19.toInt ≤ 12) ∧ (0 ≤ x20.toInt ∧ x20.toInt ≤ 12) ∧ (0 ≤ x22.toInt ∧ x22.toInt ≤ 400) ∧ (0 ≤ x28.toInt ∧ x28.toInt ≤ 400) ∧ (0 ≤ x32.toInt ∧ x32.toInt ≤ 1) ∧ (0 ≤ x37.toInt ∧ x37.toInt ≤ 5) ∧ (0 ≤ x47.toInt ∧ x47.toInt ≤ 1) ∧ (0 ≤ x48.toInt ∧ x48.toInt ≤ 6) := tp_at hT h (by decide)
theorem tpk_13 {κ : Nat → ClassId} {τ ν : Nat → Nat} {ρ : Nat → Nat → Nat} {f : Nat → va_E} {a : Nat} (hT : tp_T (mo_O κ) κ τ ν ρ f) (h : τ a = 13) {P9 : Prop} (k9 : ∀ x0 : Int32, ∀ x1 : Int32, ∀ x7 : Int32, ∀ x9 : Int32, ∀ x10 : Int32, ∀ x11 : Int32, ∀ x12 : Int32, ∀ x13 : Int64, ∀ x14 : Int32, ∀ x15 : Int32, ∀ x16 : Int32, ∀ x17 : Int32, ∀ x18 : Int32, ∀ x19 : Int32, ∀ x20 : Int32, ∀ x22 : Int32, ∀ x25 : Int32, ∀ x28 : Int32, ∀ x29 : Int32, ∀ x32 : Int32, ∀ x33 : Int64, ∀ x34 : Int64, ∀ x35 : Int64, ∀ x36 : Int32, ∀ x37 : Int32, ∀ x38 : Int32, ∀ x47 : Int32, ∀ x48 : Int32, (f a = .inr (12, [.int x0, .int x1, .ref (ρ a 2), .ref (ρ a 3), .ref (ρ a 4), .ref (ρ a 5), .ref (ρ a 6), .int x7, .ref (ρ a 8), .int x9, .int x10, .int x11, .int x12, .long x13, .int x14, .int x15, .int x16, .int x17, .int x18, .int x19, .int x20, .ref (ρ a 21), .int x22, .ref (ρ a 23), .ref (ρ a 24), .int x25, .ref (ρ a 26), .ref (ρ a 27), .int x28, .int x29, .ref (ρ a 30), .ref (ρ a 31), .int x32, .long x33, .long x34, .long x35, .int x36, .int x37, .int x38, .ref (ρ a 39), .ref (ρ a 40), .ref (ρ a 41), .ref (ρ a 42), .ref (ρ a 43), .ref (ρ a 44), .ref (ρ a 45), .ref (ρ a 46), .int x47, .int x48, .ref (ρ a 49), .ref (ρ a 50), .ref (ρ a 51), .ref (ρ a 52)])) → ((0 ≤ x7.toInt ∧ x7.toInt ≤ 1)) → ((0 ≤ x9.toInt ∧ x9.toInt ≤ 400)) → ((0 ≤ x10.toInt ∧ x10.toInt ≤ 400)) → ((0 ≤ x11.toInt ∧ x11.toInt ≤ 400)) → ((0 ≤ x12.toInt ∧ x12.toInt ≤ 3)) → ((0 ≤ x15.toInt ∧ x15.toInt ≤ 1)) → ((0 ≤ x19.toInt ∧ x19.toInt ≤ 12)) → ((0 ≤ x20.toInt ∧ x20.toInt ≤ 12)) → ((0 ≤ x22.toInt ∧ x22.toInt ≤ 400)) → ((0 ≤ x28.toInt ∧ x28.toInt ≤ 400)) → ((0 ≤ x32.toInt ∧ x32.toInt ≤ 1)) → ((0 ≤ x37.toInt ∧ x37.toInt ≤ 5)) → ((0 ≤ x47.toInt ∧ x47.toInt ≤ 1)) → ((0 ≤ x48.toInt ∧ x48.toInt ≤ 6)) → P9) : P9 := by
  obtain ⟨x0, x1, x7, x9, x10, x11, x12, x13, x14, x15, x16, x17, x18, x19, x20, x22, x25, x28, x29, x32, x33, x34, x35, x36, x37, x38, x47, x48, h9⟩ := tpo_13 hT h
  exact k9 x0 x1 x7 x9 x10 x11 x12 x13 x14 x15 x16 x17 x18 x19 x20 x22 x25 x28 x29 x32 x33 x34 x35 x36 x37 x38 x47 x48 (h9.1) (h9.2.1) (h9.2.2.1) (h9.2.2.2.1) (h9.2.2.2.2.1) (h9.2.2.2.2.2.1) (h9.2.2.2.2.2.2.1) (h9.2.2.2.2.2.2.2.1) (h9.2.2.2.2.2.2.2.2.1) (h9.2.2.2.2.2.2.2.2.2.1) (h9.2.2.2.2.2.2.2.2.2.2.1) (h9.2.2.2.2.2.2.2.2.2.2.2.1) (h9.2.2.2.2.2.2.2.2.2.2.2.2.1) (h9.2.2.2.2.2.2.2.2.2.2.2.2.2.1) (h9.2.2.2.2.2.2.2.2.2.2.2.2.2.2)
theorem tpo_32 {κ : Nat → ClassId} {τ ν : Nat → Nat} {ρ : Nat → Nat → Nat} {f : Nat → va_E} {a : Nat} (hT : tp_T (mo_O κ) κ τ ν ρ f) (h : τ a = 32) : ∃ g : Nat → Int32, f a = .inl (κ 0, 12967, .inl g) := tp_at hT h (by decide)
theorem tpk_32 {κ : Nat → ClassId} {τ ν : Nat → Nat} {ρ : Nat → Nat → Nat} {f : Nat → va_E} {a : Nat} (hT : tp_T (mo_O κ) κ τ ν ρ f) (h : τ a = 32) {P9 : Prop} (k9 : ∀ g : Nat → Int32, (f a = .inl (κ 0, 12967, .inl g)) → P9) : P9 := by
  obtain ⟨g, h9⟩ := tpo_32 hT h
  exact k9 g (h9)
theorem tp_o32 {κ : Nat → ClassId} {τ ν : Nat → Nat} {ρ : Nat → Nat → Nat} {a : Nat} {g : Nat → Int32} : tp_ok (mo_O κ) κ τ ν ρ 32 a (.inl (κ 0, 12967, .inl g)) := ⟨g, rfl⟩
theorem tpo_33 {κ : Nat → ClassId} {τ ν : Nat → Nat} {ρ : Nat → Nat → Nat} {f : Nat → va_E} {a : Nat} (hT : tp_T (mo_O κ) κ τ ν ρ f) (h : τ a = 33) : ∃ g : Nat → Int32, f a = .inl (κ 0, 25934, .inl g) := tp_at hT h (by decide)
theorem tpk_33 {κ : Nat → ClassId} {τ ν : Nat → Nat} {ρ : Nat → Nat → Nat} {f : Nat → va_E} {a : Nat} (hT : tp_T (mo_O κ) κ τ ν ρ f) (h : τ a = 33) {P9 : Prop} (k9 : ∀ g : Nat → Int32, (f a = .inl (κ 0, 25934, .inl g)) → P9) : P9 := by
  obtain ⟨g, h9⟩ := tpo_33 hT h
  exact k9 g (h9)
theorem tp_o33 {κ : Nat → ClassId} {τ ν : Nat → Nat} {ρ : Nat → Nat → Nat} {a : Nat} {g : Nat → Int32} : tp_ok (mo_O κ) κ τ ν ρ 33 a (.inl (κ 0, 25934, .inl g)) := ⟨g, rfl⟩
theorem tpo_34 {κ : Nat → ClassId} {τ ν : Nat → Nat} {ρ : Nat → Nat → Nat} {f : Nat → va_E} {a : Nat} (hT : tp_T (mo_O κ) κ τ ν ρ f) (h : τ a = 34) : ∃ g : Nat → Int32, f a = .inl (κ 3, 2, .inl g) := tp_at hT h (by decide)
theorem tpk_34 {κ : Nat → ClassId} {τ ν : Nat → Nat} {ρ : Nat → Nat → Nat} {f : Nat → va_E} {a : Nat} (hT : tp_T (mo_O κ) κ τ ν ρ f) (h : τ a = 34) {P9 : Prop} (k9 : ∀ g : Nat → Int32, (f a = .inl (κ 3, 2, .inl g)) → P9) : P9 := by
  obtain ⟨g, h9⟩ := tpo_34 hT h
  exact k9 g (h9)
theorem tp_o34 {κ : Nat → ClassId} {τ ν : Nat → Nat} {ρ : Nat → Nat → Nat} {a : Nat} {g : Nat → Int32} : tp_ok (mo_O κ) κ τ ν ρ 34 a (.inl (κ 3, 2, .inl g)) := ⟨g, rfl⟩
theorem tpo_35 {κ : Nat → ClassId} {τ ν : Nat → Nat} {ρ : Nat → Nat → Nat} {f : Nat → va_E} {a : Nat} (hT : tp_T (mo_O κ) κ τ ν ρ f) (h : τ a = 35) : ∃ g : Nat → Int32, f a = .inl (κ 0, 6, .inl g) := tp_at hT h (by decide)
theorem tpk_35 {κ : Nat → ClassId} {τ ν : Nat → Nat} {ρ : Nat → Nat → Nat} {f : Nat → va_E} {a : Nat} (hT : tp_T (mo_O κ) κ τ ν ρ f) (h : τ a = 35) {P9 : Prop} (k9 : ∀ g : Nat → Int32, (f a = .inl (κ 0, 6, .inl g)) → P9) : P9 := by
  obtain ⟨g, h9⟩ := tpo_35 hT h
  exact k9 g (h9)
theorem tp_o35 {κ : Nat → ClassId} {τ ν : Nat → Nat} {ρ : Nat → Nat → Nat} {a : Nat} {g : Nat → Int32} : tp_ok (mo_O κ) κ τ ν ρ 35 a (.inl (κ 0, 6, .inl g)) := ⟨g, rfl⟩
theorem tpo_36 {κ : Nat → ClassId} {τ ν : Nat → Nat} {ρ : Nat → Nat → Nat} {f : Nat → va_E} {a : Nat} (hT : tp_T (mo_O κ) κ τ ν ρ f) (h : τ a = 36) : ∃ g : Nat → Int64, f a = .inl (κ 1, 6, .inr (.inl g)) := tp_at hT h (by decide)
theorem tpk_36 {κ : Nat → ClassId} {τ ν : Nat → Nat} {ρ : Nat → Nat → Nat} {f : Nat → va_E} {a : Nat} (hT : tp_T (mo_O κ) κ τ ν ρ f) (h : τ a = 36) {P9 : Prop} (k9 : ∀ g : Nat → Int64, (f a = .inl (κ 1, 6, .inr (.inl g))) → P9) : P9 := by
  obtain ⟨g, h9⟩ := tpo_36 hT h
  exact k9 g (h9)
theorem tp_o36 {κ : Nat → ClassId} {τ ν : Nat → Nat} {ρ : Nat → Nat → Nat} {a : Nat} {g : Nat → Int64} : tp_ok (mo_O κ) κ τ ν ρ 36 a (.inl (κ 1, 6, .inr (.inl g))) := ⟨g, rfl⟩
theorem tpo_38 {κ : Nat → ClassId} {τ ν : Nat → Nat} {ρ : Nat → Nat → Nat} {f : Nat → va_E} {a : Nat} (hT : tp_T (mo_O κ) κ τ ν ρ f) (h : τ a = 38) : ∃ g : Nat → Int32, f a = .inl (κ 0, 400, .inl g) := tp_at hT h (by decide)
theorem tpk_38 {κ : Nat → ClassId} {τ ν : Nat → Nat} {ρ : Nat → Nat → Nat} {f : Nat → va_E} {a : Nat} (hT : tp_T (mo_O κ) κ τ ν ρ f) (h : τ a = 38) {P9 : Prop} (k9 : ∀ g : Nat → Int32, (f a = .inl (κ 0, 400, .inl g)) → P9) : P9 := by
  obtain ⟨g, h9⟩ := tpo_38 hT h
  exact k9 g (h9)
theorem tp_o38 {κ : Nat → ClassId} {τ ν : Nat → Nat} {ρ : Nat → Nat → Nat} {a : Nat} {g : Nat → Int32} : tp_ok (mo_O κ) κ τ ν ρ 38 a (.inl (κ 0, 400, .inl g)) := ⟨g, rfl⟩
theorem tpo_51 {κ : Nat → ClassId} {τ ν : Nat → Nat} {ρ : Nat → Nat → Nat} {f : Nat → va_E} {a : Nat} (hT : tp_T (mo_O κ) κ τ ν ρ f) (h : τ a = 51) : ∃ g : Nat → Int32, f a = .inl (κ 0, 60, .inl g) := tp_at hT h (by decide)
theorem tpk_51 {κ : Nat → ClassId} {τ ν : Nat → Nat} {ρ : Nat → Nat → Nat} {f : Nat → va_E} {a : Nat} (hT : tp_T (mo_O κ) κ τ ν ρ f) (h : τ a = 51) {P9 : Prop} (k9 : ∀ g : Nat → Int32, (f a = .inl (κ 0, 60, .inl g)) → P9) : P9 := by
  obtain ⟨g, h9⟩ := tpo_51 hT h
  exact k9 g (h9)
theorem tp_o51 {κ : Nat → ClassId} {τ ν : Nat → Nat} {ρ : Nat → Nat → Nat} {a : Nat} {g : Nat → Int32} : tp_ok (mo_O κ) κ τ ν ρ 51 a (.inl (κ 0, 60, .inl g)) := ⟨g, rfl⟩
theorem tpo_53 {κ : Nat → ClassId} {τ ν : Nat → Nat} {ρ : Nat → Nat → Nat} {f : Nat → va_E} {a : Nat} (hT : tp_T (mo_O κ) κ τ ν ρ f) (h : τ a = 53) : ∃ g : Nat → Int32, f a = .inl (κ 0, 400, .inl g) := tp_at hT h (by decide)
theorem tpk_53 {κ : Nat → ClassId} {τ ν : Nat → Nat} {ρ : Nat → Nat → Nat} {f : Nat → va_E} {a : Nat} (hT : tp_T (mo_O κ) κ τ ν ρ f) (h : τ a = 53) {P9 : Prop} (k9 : ∀ g : Nat → Int32, (f a = .inl (κ 0, 400, .inl g)) → P9) : P9 := by
  obtain ⟨g, h9⟩ := tpo_53 hT h
  exact k9 g (h9)
theorem tp_o53 {κ : Nat → ClassId} {τ ν : Nat → Nat} {ρ : Nat → Nat → Nat} {a : Nat} {g : Nat → Int32} : tp_ok (mo_O κ) κ τ ν ρ 53 a (.inl (κ 0, 400, .inl g)) := ⟨g, rfl⟩
theorem tpo_54 {κ : Nat → ClassId} {τ ν : Nat → Nat} {ρ : Nat → Nat → Nat} {f : Nat → va_E} {a : Nat} (hT : tp_T (mo_O κ) κ τ ν ρ f) (h : τ a = 54) : ∃ g : Nat → Int32, f a = .inl (κ 0, 400, .inl g) := tp_at hT h (by decide)
theorem tpk_54 {κ : Nat → ClassId} {τ ν : Nat → Nat} {ρ : Nat → Nat → Nat} {f : Nat → va_E} {a : Nat} (hT : tp_T (mo_O κ) κ τ ν ρ f) (h : τ a = 54) {P9 : Prop} (k9 : ∀ g : Nat → Int32, (f a = .inl (κ 0, 400, .inl g)) → P9) : P9 := by
  obtain ⟨g, h9⟩ := tpo_54 hT h
  exact k9 g (h9)
theorem tp_o54 {κ : Nat → ClassId} {τ ν : Nat → Nat} {ρ : Nat → Nat → Nat} {a : Nat} {g : Nat → Int32} : tp_ok (mo_O κ) κ τ ν ρ 54 a (.inl (κ 0, 400, .inl g)) := ⟨g, rfl⟩
theorem tpo_56 {κ : Nat → ClassId} {τ ν : Nat → Nat} {ρ : Nat → Nat → Nat} {f : Nat → va_E} {a : Nat} (hT : tp_T (mo_O κ) κ τ ν ρ f) (h : τ a = 56) : ∃ g : Nat → Int32, f a = .inl (κ 0, 400, .inl g) := tp_at hT h (by decide)
theorem tpk_56 {κ : Nat → ClassId} {τ ν : Nat → Nat} {ρ : Nat → Nat → Nat} {f : Nat → va_E} {a : Nat} (hT : tp_T (mo_O κ) κ τ ν ρ f) (h : τ a = 56) {P9 : Prop} (k9 : ∀ g : Nat → Int32, (f a = .inl (κ 0, 400, .inl g)) → P9) : P9 := by
  obtain ⟨g, h9⟩ := tpo_56 hT h
  exact k9 g (h9)
theorem tp_o56 {κ : Nat → ClassId} {τ ν : Nat → Nat} {ρ : Nat → Nat → Nat} {a : Nat} {g : Nat → Int32} : tp_ok (mo_O κ) κ τ ν ρ 56 a (.inl (κ 0, 400, .inl g)) := ⟨g, rfl⟩
theorem tpo_57 {κ : Nat → ClassId} {τ ν : Nat → Nat} {ρ : Nat → Nat → Nat} {f : Nat → va_E} {a : Nat} (hT : tp_T (mo_O κ) κ τ ν ρ f) (h : τ a = 57) : ∃ g : Nat → Int32, f a = .inl (κ 0, 400, .inl g) := tp_at hT h (by decide)
theorem tpk_57 {κ : Nat → ClassId} {τ ν : Nat → Nat} {ρ : Nat → Nat → Nat} {f : Nat → va_E} {a : Nat} (hT : tp_T (mo_O κ) κ τ ν ρ f) (h : τ a = 57) {P9 : Prop} (k9 : ∀ g : Nat → Int32, (f a = .inl (κ 0, 400, .inl g)) → P9) : P9 := by
  obtain ⟨g, h9⟩ := tpo_57 hT h
  exact k9 g (h9)
theorem tp_o57 {κ : Nat → ClassId} {τ ν : Nat → Nat} {ρ : Nat → Nat → Nat} {a : Nat} {g : Nat → Int32} : tp_ok (mo_O κ) κ τ ν ρ 57 a (.inl (κ 0, 400, .inl g)) := ⟨g, rfl⟩
theorem tpo_60 {κ : Nat → ClassId} {τ ν : Nat → Nat} {ρ : Nat → Nat → Nat} {f : Nat → va_E} {a : Nat} (hT : tp_T (mo_O κ) κ τ ν ρ f) (h : τ a = 60) : ∃ g : Nat → Int64, f a = .inl (κ 1, 9, .inr (.inl g)) := tp_at hT h (by decide)
theorem tpk_60 {κ : Nat → ClassId} {τ ν : Nat → Nat} {ρ : Nat → Nat → Nat} {f : Nat → va_E} {a : Nat} (hT : tp_T (mo_O κ) κ τ ν ρ f) (h : τ a = 60) {P9 : Prop} (k9 : ∀ g : Nat → Int64, (f a = .inl (κ 1, 9, .inr (.inl g))) → P9) : P9 := by
  obtain ⟨g, h9⟩ := tpo_60 hT h
  exact k9 g (h9)
theorem tp_o60 {κ : Nat → ClassId} {τ ν : Nat → Nat} {ρ : Nat → Nat → Nat} {a : Nat} {g : Nat → Int64} : tp_ok (mo_O κ) κ τ ν ρ 60 a (.inl (κ 1, 9, .inr (.inl g))) := ⟨g, rfl⟩
theorem tpo_61 {κ : Nat → ClassId} {τ ν : Nat → Nat} {ρ : Nat → Nat → Nat} {f : Nat → va_E} {a : Nat} (hT : tp_T (mo_O κ) κ τ ν ρ f) (h : τ a = 61) : ∃ g : Nat → Int64, f a = .inl (κ 1, 400, .inr (.inl g)) := tp_at hT h (by decide)
theorem tpk_61 {κ : Nat → ClassId} {τ ν : Nat → Nat} {ρ : Nat → Nat → Nat} {f : Nat → va_E} {a : Nat} (hT : tp_T (mo_O κ) κ τ ν ρ f) (h : τ a = 61) {P9 : Prop} (k9 : ∀ g : Nat → Int64, (f a = .inl (κ 1, 400, .inr (.inl g))) → P9) : P9 := by
  obtain ⟨g, h9⟩ := tpo_61 hT h
  exact k9 g (h9)
theorem tp_o61 {κ : Nat → ClassId} {τ ν : Nat → Nat} {ρ : Nat → Nat → Nat} {a : Nat} {g : Nat → Int64} : tp_ok (mo_O κ) κ τ ν ρ 61 a (.inl (κ 1, 400, .inr (.inl g))) := ⟨g, rfl⟩
theorem tpo_69 {κ : Nat → ClassId} {τ ν : Nat → Nat} {ρ : Nat → Nat → Nat} {f : Nat → va_E} {a : Nat} (hT : tp_T (mo_O κ) κ τ ν ρ f) (h : τ a = 69) : ∃ g : Nat → Int32, f a = .inl (κ 0, 6, .inl g) := tp_at hT h (by decide)
theorem tpk_69 {κ : Nat → ClassId} {τ ν : Nat → Nat} {ρ : Nat → Nat → Nat} {f : Nat → va_E} {a : Nat} (hT : tp_T (mo_O κ) κ τ ν ρ f) (h : τ a = 69) {P9 : Prop} (k9 : ∀ g : Nat → Int32, (f a = .inl (κ 0, 6, .inl g)) → P9) : P9 := by
  obtain ⟨g, h9⟩ := tpo_69 hT h
  exact k9 g (h9)
theorem tp_o69 {κ : Nat → ClassId} {τ ν : Nat → Nat} {ρ : Nat → Nat → Nat} {a : Nat} {g : Nat → Int32} : tp_ok (mo_O κ) κ τ ν ρ 69 a (.inl (κ 0, 6, .inl g)) := ⟨g, rfl⟩
theorem tpo_70 {κ : Nat → ClassId} {τ ν : Nat → Nat} {ρ : Nat → Nat → Nat} {f : Nat → va_E} {a : Nat} (hT : tp_T (mo_O κ) κ τ ν ρ f) (h : τ a = 70) : ∃ g : Nat → Int32, f a = .inl (κ 0, 6, .inl g) := tp_at hT h (by decide)
theorem tpk_70 {κ : Nat → ClassId} {τ ν : Nat → Nat} {ρ : Nat → Nat → Nat} {f : Nat → va_E} {a : Nat} (hT : tp_T (mo_O κ) κ τ ν ρ f) (h : τ a = 70) {P9 : Prop} (k9 : ∀ g : Nat → Int32, (f a = .inl (κ 0, 6, .inl g)) → P9) : P9 := by
  obtain ⟨g, h9⟩ := tpo_70 hT h
  exact k9 g (h9)
theorem tp_o70 {κ : Nat → ClassId} {τ ν : Nat → Nat} {ρ : Nat → Nat → Nat} {a : Nat} {g : Nat → Int32} : tp_ok (mo_O κ) κ τ ν ρ 70 a (.inl (κ 0, 6, .inl g)) := ⟨g, rfl⟩
theorem tpo_71 {κ : Nat → ClassId} {τ ν : Nat → Nat} {ρ : Nat → Nat → Nat} {f : Nat → va_E} {a : Nat} (hT : tp_T (mo_O κ) κ τ ν ρ f) (h : τ a = 71) : ∃ g : Nat → Int64, f a = .inl (κ 1, 6, .inr (.inl g)) := tp_at hT h (by decide)
theorem tpk_71 {κ : Nat → ClassId} {τ ν : Nat → Nat} {ρ : Nat → Nat → Nat} {f : Nat → va_E} {a : Nat} (hT : tp_T (mo_O κ) κ τ ν ρ f) (h : τ a = 71) {P9 : Prop} (k9 : ∀ g : Nat → Int64, (f a = .inl (κ 1, 6, .inr (.inl g))) → P9) : P9 := by
  obtain ⟨g, h9⟩ := tpo_71 hT h
  exact k9 g (h9)
theorem tp_o71 {κ : Nat → ClassId} {τ ν : Nat → Nat} {ρ : Nat → Nat → Nat} {a : Nat} {g : Nat → Int64} : tp_ok (mo_O κ) κ τ ν ρ 71 a (.inl (κ 1, 6, .inr (.inl g))) := ⟨g, rfl⟩
theorem tpo_72 {κ : Nat → ClassId} {τ ν : Nat → Nat} {ρ : Nat → Nat → Nat} {f : Nat → va_E} {a : Nat} (hT : tp_T (mo_O κ) κ τ ν ρ f) (h : τ a = 72) : ∃ g : Nat → Int32, f a = .inl (κ 0, 6, .inl g) := tp_at hT h (by decide)
theorem tpk_72 {κ : Nat → ClassId} {τ ν : Nat → Nat} {ρ : Nat → Nat → Nat} {f : Nat → va_E} {a : Nat} (hT : tp_T (mo_O κ) κ τ ν ρ f) (h : τ a = 72) {P9 : Prop} (k9 : ∀ g : Nat → Int32, (f a = .inl (κ 0, 6, .inl g)) → P9) : P9 := by
  obtain ⟨g, h9⟩ := tpo_72 hT h
  exact k9 g (h9)
theorem tp_o72 {κ : Nat → ClassId} {τ ν : Nat → Nat} {ρ : Nat → Nat → Nat} {a : Nat} {g : Nat → Int32} : tp_ok (mo_O κ) κ τ ν ρ 72 a (.inl (κ 0, 6, .inl g)) := ⟨g, rfl⟩
theorem tpo_73 {κ : Nat → ClassId} {τ ν : Nat → Nat} {ρ : Nat → Nat → Nat} {f : Nat → va_E} {a : Nat} (hT : tp_T (mo_O κ) κ τ ν ρ f) (h : τ a = 73) : ∃ g : Nat → Int64, f a = .inl (κ 1, 192, .inr (.inl g)) := tp_at hT h (by decide)
theorem tpk_73 {κ : Nat → ClassId} {τ ν : Nat → Nat} {ρ : Nat → Nat → Nat} {f : Nat → va_E} {a : Nat} (hT : tp_T (mo_O κ) κ τ ν ρ f) (h : τ a = 73) {P9 : Prop} (k9 : ∀ g : Nat → Int64, (f a = .inl (κ 1, 192, .inr (.inl g))) → P9) : P9 := by
  obtain ⟨g, h9⟩ := tpo_73 hT h
  exact k9 g (h9)
theorem tp_o73 {κ : Nat → ClassId} {τ ν : Nat → Nat} {ρ : Nat → Nat → Nat} {a : Nat} {g : Nat → Int64} : tp_ok (mo_O κ) κ τ ν ρ 73 a (.inl (κ 1, 192, .inr (.inl g))) := ⟨g, rfl⟩
theorem tpo_74 {κ : Nat → ClassId} {τ ν : Nat → Nat} {ρ : Nat → Nat → Nat} {f : Nat → va_E} {a : Nat} (hT : tp_T (mo_O κ) κ τ ν ρ f) (h : τ a = 74) : ∃ g : Nat → Int32, f a = .inl (κ 0, 192, .inl g) := tp_at hT h (by decide)
theorem tpk_74 {κ : Nat → ClassId} {τ ν : Nat → Nat} {ρ : Nat → Nat → Nat} {f : Nat → va_E} {a : Nat} (hT : tp_T (mo_O κ) κ τ ν ρ f) (h : τ a = 74) {P9 : Prop} (k9 : ∀ g : Nat → Int32, (f a = .inl (κ 0, 192, .inl g)) → P9) : P9 := by
  obtain ⟨g, h9⟩ := tpo_74 hT h
  exact k9 g (h9)
theorem tp_o74 {κ : Nat → ClassId} {τ ν : Nat → Nat} {ρ : Nat → Nat → Nat} {a : Nat} {g : Nat → Int32} : tp_ok (mo_O κ) κ τ ν ρ 74 a (.inl (κ 0, 192, .inl g)) := ⟨g, rfl⟩
theorem tpo_75 {κ : Nat → ClassId} {τ ν : Nat → Nat} {ρ : Nat → Nat → Nat} {f : Nat → va_E} {a : Nat} (hT : tp_T (mo_O κ) κ τ ν ρ f) (h : τ a = 75) : ∃ g : Nat → Int32, f a = .inl (κ 0, 6, .inl g) := tp_at hT h (by decide)
theorem tpk_75 {κ : Nat → ClassId} {τ ν : Nat → Nat} {ρ : Nat → Nat → Nat} {f : Nat → va_E} {a : Nat} (hT : tp_T (mo_O κ) κ τ ν ρ f) (h : τ a = 75) {P9 : Prop} (k9 : ∀ g : Nat → Int32, (f a = .inl (κ 0, 6, .inl g)) → P9) : P9 := by
  obtain ⟨g, h9⟩ := tpo_75 hT h
  exact k9 g (h9)
theorem tp_o75 {κ : Nat → ClassId} {τ ν : Nat → Nat} {ρ : Nat → Nat → Nat} {a : Nat} {g : Nat → Int32} : tp_ok (mo_O κ) κ τ ν ρ 75 a (.inl (κ 0, 6, .inl g)) := ⟨g, rfl⟩
theorem tpo_76 {κ : Nat → ClassId} {τ ν : Nat → Nat} {ρ : Nat → Nat → Nat} {f : Nat → va_E} {a : Nat} (hT : tp_T (mo_O κ) κ τ ν ρ f) (h : τ a = 76) : ∃ g : Nat → Int32, f a = .inl (κ 0, 6, .inl g) := tp_at hT h (by decide)
theorem tpk_76 {κ : Nat → ClassId} {τ ν : Nat → Nat} {ρ : Nat → Nat → Nat} {f : Nat → va_E} {a : Nat} (hT : tp_T (mo_O κ) κ τ ν ρ f) (h : τ a = 76) {P9 : Prop} (k9 : ∀ g : Nat → Int32, (f a = .inl (κ 0, 6, .inl g)) → P9) : P9 := by
  obtain ⟨g, h9⟩ := tpo_76 hT h
  exact k9 g (h9)
theorem tp_o76 {κ : Nat → ClassId} {τ ν : Nat → Nat} {ρ : Nat → Nat → Nat} {a : Nat} {g : Nat → Int32} : tp_ok (mo_O κ) κ τ ν ρ 76 a (.inl (κ 0, 6, .inl g)) := ⟨g, rfl⟩
theorem tpo_79 {κ : Nat → ClassId} {τ ν : Nat → Nat} {ρ : Nat → Nat → Nat} {f : Nat → va_E} {a : Nat} (hT : tp_T (mo_O κ) κ τ ν ρ f) (h : τ a = 79) : ∃ g : Nat → Int32, f a = .inl (κ 0, 6, .inl g) := tp_at hT h (by decide)
theorem tpk_79 {κ : Nat → ClassId} {τ ν : Nat → Nat} {ρ : Nat → Nat → Nat} {f : Nat → va_E} {a : Nat} (hT : tp_T (mo_O κ) κ τ ν ρ f) (h : τ a = 79) {P9 : Prop} (k9 : ∀ g : Nat → Int32, (f a = .inl (κ 0, 6, .inl g)) → P9) : P9 := by
  obtain ⟨g, h9⟩ := tpo_79 hT h
  exact k9 g (h9)
theorem tp_o79 {κ : Nat → ClassId} {τ ν : Nat → Nat} {ρ : Nat → Nat → Nat} {a : Nat} {g : Nat → Int32} : tp_ok (mo_O κ) κ τ ν ρ 79 a (.inl (κ 0, 6, .inl g)) := ⟨g, rfl⟩
theorem tpo_80 {κ : Nat → ClassId} {τ ν : Nat → Nat} {ρ : Nat → Nat → Nat} {f : Nat → va_E} {a : Nat} (hT : tp_T (mo_O κ) κ τ ν ρ f) (h : τ a = 80) : ∃ g : Nat → Int64, f a = .inl (κ 1, 30, .inr (.inl g)) := tp_at hT h (by decide)
theorem tpk_80 {κ : Nat → ClassId} {τ ν : Nat → Nat} {ρ : Nat → Nat → Nat} {f : Nat → va_E} {a : Nat} (hT : tp_T (mo_O κ) κ τ ν ρ f) (h : τ a = 80) {P9 : Prop} (k9 : ∀ g : Nat → Int64, (f a = .inl (κ 1, 30, .inr (.inl g))) → P9) : P9 := by
  obtain ⟨g, h9⟩ := tpo_80 hT h
  exact k9 g (h9)
theorem tp_o80 {κ : Nat → ClassId} {τ ν : Nat → Nat} {ρ : Nat → Nat → Nat} {a : Nat} {g : Nat → Int64} : tp_ok (mo_O κ) κ τ ν ρ 80 a (.inl (κ 1, 30, .inr (.inl g))) := ⟨g, rfl⟩
theorem tpo_81 {κ : Nat → ClassId} {τ ν : Nat → Nat} {ρ : Nat → Nat → Nat} {f : Nat → va_E} {a : Nat} (hT : tp_T (mo_O κ) κ τ ν ρ f) (h : τ a = 81) : ∃ g : Nat → Int32, f a = .inl (κ 0, 6, .inl g) := tp_at hT h (by decide)
theorem tpk_81 {κ : Nat → ClassId} {τ ν : Nat → Nat} {ρ : Nat → Nat → Nat} {f : Nat → va_E} {a : Nat} (hT : tp_T (mo_O κ) κ τ ν ρ f) (h : τ a = 81) {P9 : Prop} (k9 : ∀ g : Nat → Int32, (f a = .inl (κ 0, 6, .inl g)) → P9) : P9 := by
  obtain ⟨g, h9⟩ := tpo_81 hT h
  exact k9 g (h9)
theorem tp_o81 {κ : Nat → ClassId} {τ ν : Nat → Nat} {ρ : Nat → Nat → Nat} {a : Nat} {g : Nat → Int32} : tp_ok (mo_O κ) κ τ ν ρ 81 a (.inl (κ 0, 6, .inl g)) := ⟨g, rfl⟩
theorem tpo_82 {κ : Nat → ClassId} {τ ν : Nat → Nat} {ρ : Nat → Nat → Nat} {f : Nat → va_E} {a : Nat} (hT : tp_T (mo_O κ) κ τ ν ρ f) (h : τ a = 82) : ∃ g : Nat → Int32, f a = .inl (κ 0, 3, .inl g) := tp_at hT h (by decide)
theorem tpk_82 {κ : Nat → ClassId} {τ ν : Nat → Nat} {ρ : Nat → Nat → Nat} {f : Nat → va_E} {a : Nat} (hT : tp_T (mo_O κ) κ τ ν ρ f) (h : τ a = 82) {P9 : Prop} (k9 : ∀ g : Nat → Int32, (f a = .inl (κ 0, 3, .inl g)) → P9) : P9 := by
  obtain ⟨g, h9⟩ := tpo_82 hT h
  exact k9 g (h9)
theorem tp_o82 {κ : Nat → ClassId} {τ ν : Nat → Nat} {ρ : Nat → Nat → Nat} {a : Nat} {g : Nat → Int32} : tp_ok (mo_O κ) κ τ ν ρ 82 a (.inl (κ 0, 3, .inl g)) := ⟨g, rfl⟩

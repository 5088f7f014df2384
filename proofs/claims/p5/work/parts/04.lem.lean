theorem zi_bd (x : Int32) : -2147483648 ≤ x.toInt ∧ x.toInt ≤ 2147483647 := ⟨by have := x.le_toInt; omega, by have := x.toInt_lt; omega⟩
theorem zi_rem {x y z : Int32} {X Y : Int} (e : z = x - x / y * y) (hx : x.toInt = X) (hy : y.toInt = Y) (h0 : 0 ≤ X) (h1 : 0 < Y) : z.toInt = X % Y := by
  have hX : X ≤ 2147483647 := by rw [← hx]; have := x.toInt_lt; omega
  have d := zi_div (z := x / y) rfl hx hy h0 h1
  have q0 : 0 ≤ X / Y := Int.ediv_nonneg h0 (by omega)
  have q1 : X / Y * Y ≤ X := Int.ediv_mul_le X (by omega)
  have q2 : 0 ≤ X / Y * Y := Int.mul_nonneg q0 (by omega)
  have k := zi_mul (z := x / y * y) rfl d hy (by omega) (by omega)
  have r := zi_sub e hx k (by omega) (by omega)
  rw [r, Int.emod_def, Int.mul_comm Y]
theorem zi_nz {y : Int32} {Y : Int} (h : Y ≠ 0) (hy : y.toInt = Y) : ¬ y = 0 := fun q => h (by rw [← hy, q]; rfl)
theorem zl_nz {y : Int64} {Y : Int} (h : Y ≠ 0) (hy : y.toInt = Y) : ¬ y = 0 := fun q => h (by rw [← hy, q]; rfl)
theorem zi_ofNat {z : Int32} {n : Nat} (e : z = Int32.ofNat n) (h : n ≤ 1000000) : z.toInt = (n : Int) := by
  rw [e, Int32.toInt_ofNat']; exact zi_bm _ (by omega) (by omega)
theorem zi_cl {i : Int32} {n : Nat} (h : vp_in i n) : i.toNatClampNeg < n := Nat.not_le.mp fun q => h (Or.inr q)
theorem zi_inl {i : Int32} {n : Nat} (h0 : 0 ≤ i.toInt) (h : i.toInt < (n : Int)) : vp_in i n := vp_in_iff.mpr ⟨h0, h⟩
theorem zi_cases01 {v : Int32} (h0 : 0 ≤ v.toInt) (h1 : v.toInt ≤ 1) : v = 0 ∨ v = 1 := by
  rcases (show v.toInt = 0 ∨ v.toInt = 1 by omega) with h | h
  · exact Or.inl (Int32.toInt_inj.mp h)
  · exact Or.inr (Int32.toInt_inj.mp h)
theorem zi_narZ {v : Int32} (h0 : 0 ≤ v.toInt) (h1 : v.toInt ≤ 1) : narrow .boolean (.int v) = .int v := by
  rcases zi_cases01 h0 h1 with rfl | rfl <;> rfl
theorem zi_fitZ {v : Int32} (h0 : 0 ≤ v.toInt) (h1 : v.toInt ≤ 1) : fits .boolean (.int v) = true := by
  rcases zi_cases01 h0 h1 with rfl | rfl <;> rfl
theorem zi_max {x y z : Int32} {X Y : Int} (e : z = if x < y then y else x) (hx : x.toInt = X) (hy : y.toInt = Y) : X ≤ z.toInt ∧ Y ≤ z.toInt ∧ (z.toInt = X ∨ z.toInt = Y) := by
  rw [e]; split
  · rename_i h; have := Int32.lt_iff_toInt_lt.mp h; omega
  · rename_i h; have : ¬ x.toInt < y.toInt := fun q => h (Int32.lt_iff_toInt_lt.mpr q); omega
theorem zi_min {x y z : Int32} {X Y : Int} (e : z = if y < x then y else x) (hx : x.toInt = X) (hy : y.toInt = Y) : z.toInt ≤ X ∧ z.toInt ≤ Y ∧ (z.toInt = X ∨ z.toInt = Y) := by
  rw [e]; split
  · rename_i h; have := Int32.lt_iff_toInt_lt.mp h; omega
  · rename_i h; have : ¬ y.toInt < x.toInt := fun q => h (Int32.lt_iff_toInt_lt.mpr q); omega
theorem zi_nn {n : Int32} (h : 0 ≤ n.toInt) : ¬ n < 0 := fun q => by have := Int32.lt_iff_toInt_lt.mp q; have h2 : (0 : Int32).toInt = 0 := rfl; omega
theorem zi_cp {n d : Int32} {N : Nat} {D X : Int} (hd : d.toInt = D) (hn : n.toInt = X) (h0 : 0 ≤ D ∧ 0 ≤ X ∧ D + X ≤ (N : Int)) : d.toNatClampNeg + n.toNatClampNeg ≤ N := by
  have h1 : d.toNatClampNeg = d.toInt.toNat := rfl
  have h2 : n.toNatClampNeg = n.toInt.toNat := rfl
  rw [h1, h2, hd, hn]; omega
def tp_cond (r : Int32) (P : Prop) : Prop := (r.toInt = 1 ∧ P) ∨ (r.toInt = 0 ∧ ¬ P)
theorem tp_cond.yes {r : Int32} {P : Prop} (h : tp_cond r P) (q : r.toInt ≠ 0) : P := h.elim (fun x => x.2) (fun x => absurd x.1 q)
theorem tp_cond.no {r : Int32} {P : Prop} (h : tp_cond r P) (q : r.toInt = 0) : ¬ P := h.elim (fun x => by have := x.1; omega) (fun x => x.2)
theorem tp_cond.rng {r : Int32} {P : Prop} (h : tp_cond r P) : 0 ≤ r.toInt ∧ r.toInt ≤ 1 := h.elim (fun x => by have := x.1; omega) (fun x => by have := x.1; omega)
theorem tp_cond.of {r : Int32} {P Q : Prop} (h : tp_cond r P) (hpq : P ↔ Q) : tp_cond r Q := by unfold tp_cond at *; rw [← hpq]; exact h
def tp_pick (r : Int32) (P : Prop) (a b : Int32) : Prop := (P → r = a) ∧ (¬ P → r = b)
def tp_fld (e : va_E) (k : Nat) : Int := match e with
  | .inr (_, vs) => (match vs[k]? with | some (.int v) => v.toInt | _ => 0)
  | _ => 0
theorem zb_nat {x : Int32} (h : 0 ≤ x.toInt) : x.toInt = (x.toBitVec.toNat : Int) := by
  have h2 : x.toInt = if 2 * x.toBitVec.toNat < 2 ^ 32 then (x.toBitVec.toNat : Int) else (x.toBitVec.toNat : Int) - ((2 ^ 32 : Nat) : Int) := BitVec.toInt_eq_toNat_cond _
  by_cases q : 2 * x.toBitVec.toNat < 2 ^ 32
  · rw [h2, if_pos q]
  · rw [if_neg q] at h2; have := x.toBitVec.isLt; omega
theorem zb_of {z : Int32} {k : Nat} (h : z.toBitVec.toNat ≤ k) (hk : k < 2147483648) : 0 ≤ z.toInt ∧ z.toInt ≤ (k : Int) := by
  have h2 : z.toInt = z.toBitVec.toInt := rfl
  rw [h2, BitVec.toInt_eq_toNat_cond, if_pos (by omega)]
  omega
theorem zb_mask {x m z : Int32} {k : Nat} (e : z = x &&& m) (hk : m.toBitVec.toNat = k ∧ k < 2147483648) : 0 ≤ z.toInt ∧ z.toInt ≤ (k : Int) := by
  refine zb_of ?_ hk.2
  rw [e, Int32.toBitVec_and, BitVec.toNat_and, ← hk.1]; exact Nat.and_le_right
theorem zb_and {x y z : Int32} {X : Int} (e : z = x &&& y) (hx : x.toInt = X) (h0 : 0 ≤ X) : 0 ≤ z.toInt ∧ z.toInt ≤ X := by
  have hn := zb_nat (x := x) (by omega)
  have := zb_of (z := z) (k := x.toBitVec.toNat) (by rw [e, Int32.toBitVec_and, BitVec.toNat_and]; exact Nat.and_le_left) (by have := x.toInt_lt; omega)
  omega
theorem zb_or {x y z : Int32} {X Y : Int} (k : Nat) (e : z = x ||| y) (hx : x.toInt = X) (hy : y.toInt = Y) (h0 : 0 ≤ X) (h1 : X ≤ 2 ^ k - 1) (h2 : 0 ≤ Y) (h3 : Y ≤ 2 ^ k - 1) (hk : k ≤ 30) : 0 ≤ z.toInt ∧ z.toInt ≤ 2 ^ k - 1 := by
  have a := zb_nat (x := x) (by omega)
  have b := zb_nat (x := y) (by omega)
  have c : ((2 ^ k : Nat) : Int) = 2 ^ k := by simp
  have d : x.toBitVec.toNat ||| y.toBitVec.toNat < 2 ^ k := Nat.or_lt_two_pow (by omega) (by omega)
  have f : (2 : Nat) ^ k ≤ 2 ^ 30 := Nat.pow_le_pow_right (by decide) hk
  have := zb_of (z := z) (k := 2 ^ k - 1) (by rw [e, Int32.toBitVec_or, BitVec.toNat_or]; omega) (by omega)
  omega
theorem tp_rowN {n w m : Nat} {r c : Int} (hn : n = w * m) (hw : w ≤ 15) (hm : m ≤ 60) (h1 : 0 ≤ r) (h2 : r < m) (h3 : 0 ≤ c) (h4 : c < w) : 0 ≤ r * w ∧ r * w + c < n ∧ (n : Int) ≤ 900 := by
  have a1 : 0 ≤ r * (w : Int) := Int.mul_nonneg h1 (by omega)
  have a2 : (r + 1) * (w : Int) ≤ (m : Int) * w := Int.mul_le_mul_of_nonneg_right (by omega) (by omega)
  have a3 : (n : Int) = (m : Int) * w := by rw [hn, Nat.mul_comm]; simp
  have a4 : (m : Int) * w ≤ 60 * 15 := Int.mul_le_mul (by omega) (by omega) (by omega) (by omega)
  rw [Int.add_mul, Int.one_mul] at a2
  omega
theorem tp_rowM {n w m : Nat} {r : Int} (hn : n = w * m) (hw : w ≤ 15) (hm : m ≤ 60) (h1 : 0 ≤ r) (h2 : r ≤ m) : 0 ≤ r * w ∧ r * w ≤ n ∧ (n : Int) ≤ 900 := by
  have a1 : 0 ≤ r * (w : Int) := Int.mul_nonneg h1 (by omega)
  have a2 : r * (w : Int) ≤ (m : Int) * w := Int.mul_le_mul_of_nonneg_right (by omega) (by omega)
  have a3 : (n : Int) = (m : Int) * w := by rw [hn, Nat.mul_comm]; simp
  have a4 : (m : Int) * w ≤ 60 * 15 := Int.mul_le_mul (by omega) (by omega) (by omega) (by omega)
  omega
theorem tp_rowA {n w m : Nat} {r : Int} (hn : n = w * m) (hw : 1 ≤ w) (h : r * w + w ≤ n) : r + 1 ≤ m := by
  have a3 : (n : Int) = (m : Int) * w := by rw [hn, Nat.mul_comm]; simp
  have a2 : (r + 1) * (w : Int) ≤ (m : Int) * w := by rw [Int.add_mul, Int.one_mul]; omega
  exact Int.le_of_mul_le_mul_right a2 (by omega)
theorem tp_rowC {n w m : Nat} {r : Int} (hn : n = w * m) (hw : 1 ≤ w) (h : r * w ≤ n) : r ≤ m := by
  have a3 : (n : Int) = (m : Int) * w := by rw [hn, Nat.mul_comm]; simp
  exact Int.le_of_mul_le_mul_right (by omega) (show (0 : Int) < w by omega)
theorem tp_sameq {f : Nat → va_E} {a n n1 : Nat} {k : ClassId} {g g1 : Nat → Option Nat} (h1 : f a = .inl (k, n, .inr (.inr (.inr (.inr g))))) (h2 : f a = .inl (k, n1, .inr (.inr (.inr (.inr g1))))) : g = g1 := by
  have h := h1.symm.trans h2
  simp only [Sum.inl.injEq, Prod.mk.injEq, Sum.inr.injEq, true_and] at h
  exact h.2
theorem zl_absnz {x z : Int64} (e : z = if 0 < x then x else -x) (h : x.toInt ≠ 0) : ¬ z = 0 := by
  intro q; rw [e] at q; apply h
  have h0 : (0 : Int64).toInt = 0 := rfl
  split at q
  · rw [q]; rfl
  · have : x = 0 := by rw [← Int64.neg_neg (a := x), q]; rfl
    rw [this]; rfl
theorem zb_shl5 {y z : Int32} {Y : Int} (e : z = (1 : Int32) <<< (y &&& 31)) (hy : y.toInt = Y) (h0 : 0 ≤ Y) (h1 : Y ≤ 5) : 1 ≤ z.toInt ∧ z.toInt ≤ 32 := by
  subst hy; subst e
  rcases (show y.toInt = 0 ∨ y.toInt = 1 ∨ y.toInt = 2 ∨ y.toInt = 3 ∨ y.toInt = 4 ∨ y.toInt = 5 by omega) with h | h | h | h | h | h <;> (rw [show y = Int32.ofInt y.toInt from (Int32.ofInt_toInt y).symm, h]; decide)
theorem zb_shl6 {y z : Int32} {Y : Int} (e : z = (1 : Int32) <<< (y &&& 31)) (hy : y.toInt = Y) (h0 : 0 ≤ Y) (h1 : Y ≤ 6) : 1 ≤ z.toInt ∧ z.toInt ≤ 64 := by
  subst hy; subst e
  rcases (show y.toInt = 0 ∨ y.toInt = 1 ∨ y.toInt = 2 ∨ y.toInt = 3 ∨ y.toInt = 4 ∨ y.toInt = 5 ∨ y.toInt = 6 by omega) with h | h | h | h | h | h | h <;> (rw [show y = Int32.ofInt y.toInt from (Int32.ofInt_toInt y).symm, h]; decide)
section TPV
variable {p : Program} {l : Launch} {e : Env} {R : Room} {s : State} {m : MethodId} {args : Array Value} {below : List Frame} {meth : Method} {c : Code} {H : Heap} {locs : List Loc} {cells slots : Nat} {Q : State → Prop} {pc : Nat} {ls : Array Slot} {rest : List Value}
theorem tp_callv0 {post : Unit → Prop} {a : Array Value} {st0 : List Value} (hr : va_Run p l e R s m args below meth c H locs cells slots 0 0 (F0 m pc ls st0) rest (va_Sv post a) (fun _ => False))
    (kk : W p l e R s m args below meth c H locs cells slots Q (F0 m (pc + 3) ls rest)) : W p l e R s m args below meth c H locs cells slots Q (F0 m pc ls st0) := by
  intro T hT X
  obtain ⟨v, st₀, t, T', L, h0, X', hL, e1, e2, ⟨hv, hp, hh⟩, st⟩ := hr T hT X
  cases hv
  obtain ⟨t2, a1, b1⟩ := kk T' (by rw [e1, hh, h0]) (Stand.forget X' (fun q h => (hL q h).elim))
  exact ⟨t2, st t2 a1, b1⟩
end TPV
section TPO
variable {Ω : Nat → (Nat → Nat) → va_E → Prop} {κ : Nat → ClassId} {τ ν : Nat → Nat} {ρ : Nat → Nat → Nat} {a n : Nat}
theorem tp_o20 {g : Nat → Int32} (hn : ν a = n) : tp_ok Ω κ τ ν ρ 20 a (.inl (κ 0, n, .inl g)) := ⟨g, by rw [hn]⟩
theorem tp_o21 {g : Nat → Int64} (hn : ν a = n) : tp_ok Ω κ τ ν ρ 21 a (.inl (κ 1, n, .inr (.inl g))) := ⟨g, by rw [hn]⟩
theorem tp_o22 {g : Nat → Int32} (hn : ν a = n) : tp_ok Ω κ τ ν ρ 22 a (.inl (κ 2, n, .inl g)) := ⟨g, by rw [hn]⟩
theorem tp_o23 {g : Nat → Int32} (hn : ν a = n) : tp_ok Ω κ τ ν ρ 23 a (.inl (κ 3, n, .inl g)) := ⟨g, by rw [hn]⟩
theorem tp_o28 {g : Nat → Int32} (hn : ν a = n) (h : ∀ j : Nat, -1000 ≤ (g j).toInt ∧ (g j).toInt ≤ 100001) : tp_ok Ω κ τ ν ρ 28 a (.inl (κ 0, n, .inl g)) := ⟨g, by rw [hn], h⟩
theorem tp_up28 {g : Nat → Int32} (h : ∀ j : Nat, -1000 ≤ (g j).toInt ∧ (g j).toInt ≤ 100001) (i : Nat) {v : Int32} (hv : -1000 ≤ v.toInt ∧ v.toInt ≤ 100001) : ∀ j : Nat, -1000 ≤ (upd g i v j).toInt ∧ (upd g i v j).toInt ≤ 100001 := by
  intro j; unfold upd; split
  · exact hv
  · exact h j
theorem tp_nu {g : Nat → Option Nat} {c v : Nat} (h : ∀ j : Nat, j < n → g j = none ∨ ∃ b : Nat, g j = some b ∧ τ b = c) (i : Nat) (hv : τ v = c) : ∀ j : Nat, j < n → va_up g i (some v) j = none ∨ ∃ b : Nat, va_up g i (some v) j = some b ∧ τ b = c := by
  intro j hj; unfold va_up; split
  · exact Or.inr ⟨v, rfl, hv⟩
  · exact h j hj
theorem tp_nuN {g : Nat → Option Nat} {c : Nat} (h : ∀ j : Nat, j < n → g j = none ∨ ∃ b : Nat, g j = some b ∧ τ b = c) (i : Nat) : ∀ j : Nat, j < n → va_up g i none j = none ∨ ∃ b : Nat, va_up g i none j = some b ∧ τ b = c := by
  intro j hj; unfold va_up; split
  · exact Or.inl rfl
  · exact h j hj
end TPO
theorem tp_same2 {ρ : Nat → Nat → Nat} {f : Nat → va_E} {a : Nat} {p0 q0 : Int32} {p1 q1 : Int32} {p2 q2 : Int32} {p3 q3 : Int64} {p4 q4 : Int32} (h1 : f a = .inr (1, [.ref (ρ a 0), .ref (ρ a 1), .ref (ρ a 2), .ref (ρ a 3), .ref (ρ a 4), .int p0, .int p1, .int p2, .long p3, .int p4, .ref (ρ a 10), .ref (ρ a 11), .ref (ρ a 12), .ref (ρ a 13), .ref (ρ a 14)])) (h2 : f a = .inr (1, [.ref (ρ a 0), .ref (ρ a 1), .ref (ρ a 2), .ref (ρ a 3), .ref (ρ a 4), .int q0, .int q1, .int q2, .long q3, .int q4, .ref (ρ a 10), .ref (ρ a 11), .ref (ρ a 12), .ref (ρ a 13), .ref (ρ a 14)])) : p0 = q0 ∧ p1 = q1 ∧ p2 = q2 ∧ p3 = q3 ∧ p4 = q4 := by
  have h := h1.symm.trans h2
  simp only [Sum.inr.injEq, Prod.mk.injEq, List.cons.injEq, Value.int.injEq, Value.long.injEq, true_and, and_true] at h
  obtain ⟨e0, e1, e2, e3, e4⟩ := h
  exact ⟨e0, e1, e2, e3, e4⟩
theorem tp_same3 {ρ : Nat → Nat → Nat} {f : Nat → va_E} {a : Nat} {p0 q0 : Int32} {p1 q1 : Int32} {p2 q2 : Int32} {p3 q3 : Int32} {p4 q4 : Int32} {p5 q5 : Int32} {p6 q6 : Int32} {p7 q7 : Int32} {p8 q8 : Int32} {p9 q9 : Int32} {p10 q10 : Int32} {p11 q11 : Int32} {p12 q12 : Int32} (h1 : f a = .inr (2, [.ref (ρ a 0), .int p0, .int p1, .int p2, .int p3, .int p4, .int p5, .ref (ρ a 7), .int p6, .ref (ρ a 9), .int p7, .int p8, .int p9, .int p10, .int p11, .int p12])) (h2 : f a = .inr (2, [.ref (ρ a 0), .int q0, .int q1, .int q2, .int q3, .int q4, .int q5, .ref (ρ a 7), .int q6, .ref (ρ a 9), .int q7, .int q8, .int q9, .int q10, .int q11, .int q12])) : p0 = q0 ∧ p1 = q1 ∧ p2 = q2 ∧ p3 = q3 ∧ p4 = q4 ∧ p5 = q5 ∧ p6 = q6 ∧ p7 = q7 ∧ p8 = q8 ∧ p9 = q9 ∧ p10 = q10 ∧ p11 = q11 ∧ p12 = q12 := by
  have h := h1.symm.trans h2
  simp only [Sum.inr.injEq, Prod.mk.injEq, List.cons.injEq, Value.int.injEq, Value.long.injEq, true_and, and_true] at h
  obtain ⟨e0, e1, e2, e3, e4, e5, e6, e7, e8, e9, e10, e11, e12⟩ := h
  exact ⟨e0, e1, e2, e3, e4, e5, e6, e7, e8, e9, e10, e11, e12⟩
theorem tp_same4 {ρ : Nat → Nat → Nat} {f : Nat → va_E} {a : Nat} {p0 q0 : Int32} {p1 q1 : Int64} {p2 q2 : Int64} (h1 : f a = .inr (3, [.ref (ρ a 0), .ref (ρ a 1), .ref (ρ a 2), .int p0, .long p1, .long p2])) (h2 : f a = .inr (3, [.ref (ρ a 0), .ref (ρ a 1), .ref (ρ a 2), .int q0, .long q1, .long q2])) : p0 = q0 ∧ p1 = q1 ∧ p2 = q2 := by
  have h := h1.symm.trans h2
  simp only [Sum.inr.injEq, Prod.mk.injEq, List.cons.injEq, Value.int.injEq, Value.long.injEq, true_and, and_true] at h
  obtain ⟨e0, e1, e2⟩ := h
  exact ⟨e0, e1, e2⟩
theorem tp_same5 {ρ : Nat → Nat → Nat} {f : Nat → va_E} {a : Nat} {p0 q0 : Int32} {p1 q1 : Int32} (h1 : f a = .inr (4, [.int p0, .ref (ρ a 1), .int p1])) (h2 : f a = .inr (4, [.int q0, .ref (ρ a 1), .int q1])) : p0 = q0 ∧ p1 = q1 := by
  have h := h1.symm.trans h2
  simp only [Sum.inr.injEq, Prod.mk.injEq, List.cons.injEq, Value.int.injEq, Value.long.injEq, true_and, and_true] at h
  obtain ⟨e0, e1⟩ := h
  exact ⟨e0, e1⟩
theorem tp_same6 {ρ : Nat → Nat → Nat} {f : Nat → va_E} {a : Nat} {p0 q0 : Int32} {p1 q1 : Int32} {p2 q2 : Int32} {p3 q3 : Int32} {p4 q4 : Int32} {p5 q5 : Int32} {p6 q6 : Int32} {p7 q7 : Int32} {p8 q8 : Int32} {p9 q9 : Int32} (h1 : f a = .inr (5, [.ref (ρ a 0), .int p0, .int p1, .int p2, .int p3, .int p4, .int p5, .ref (ρ a 7), .ref (ρ a 8), .ref (ρ a 9), .int p6, .int p7, .int p8, .ref (ρ a 13), .int p9, .ref (ρ a 15), .ref (ρ a 16)])) (h2 : f a = .inr (5, [.ref (ρ a 0), .int q0, .int q1, .int q2, .int q3, .int q4, .int q5, .ref (ρ a 7), .ref (ρ a 8), .ref (ρ a 9), .int q6, .int q7, .int q8, .ref (ρ a 13), .int q9, .ref (ρ a 15), .ref (ρ a 16)])) : p0 = q0 ∧ p1 = q1 ∧ p2 = q2 ∧ p3 = q3 ∧ p4 = q4 ∧ p5 = q5 ∧ p6 = q6 ∧ p7 = q7 ∧ p8 = q8 ∧ p9 = q9 := by
  have h := h1.symm.trans h2
  simp only [Sum.inr.injEq, Prod.mk.injEq, List.cons.injEq, Value.int.injEq, Value.long.injEq, true_and, and_true] at h
  obtain ⟨e0, e1, e2, e3, e4, e5, e6, e7, e8, e9⟩ := h
  exact ⟨e0, e1, e2, e3, e4, e5, e6, e7, e8, e9⟩
theorem tp_same7 {ρ : Nat → Nat → Nat} {f : Nat → va_E} {a : Nat} {p0 q0 : Int32} (h1 : f a = .inr (6, [.ref (ρ a 0), .ref (ρ a 1), .ref (ρ a 2), .int p0])) (h2 : f a = .inr (6, [.ref (ρ a 0), .ref (ρ a 1), .ref (ρ a 2), .int q0]))   : p0 = q0 := by
  have h := h1.symm.trans h2
  simp only [Sum.inr.injEq, Prod.mk.injEq, List.cons.injEq, Value.int.injEq, Value.long.injEq, true_and, and_true] at h
  exact h
theorem tp_same8 {ρ : Nat → Nat → Nat} {f : Nat → va_E} {a : Nat} {p0 q0 : Int32} {p1 q1 : Int32} {p2 q2 : Int32} {p3 q3 : Int32} (h1 : f a = .inr (7, [.int p0, .int p1, .int p2, .int p3, .ref (ρ a 4), .ref (ρ a 5), .ref (ρ a 6)])) (h2 : f a = .inr (7, [.int q0, .int q1, .int q2, .int q3, .ref (ρ a 4), .ref (ρ a 5), .ref (ρ a 6)])) : p0 = q0 ∧ p1 = q1 ∧ p2 = q2 ∧ p3 = q3 := by
  have h := h1.symm.trans h2
  simp only [Sum.inr.injEq, Prod.mk.injEq, List.cons.injEq, Value.int.injEq, Value.long.injEq, true_and, and_true] at h
  obtain ⟨e0, e1, e2, e3⟩ := h
  exact ⟨e0, e1, e2, e3⟩
theorem tp_same9 {ρ : Nat → Nat → Nat} {f : Nat → va_E} {a : Nat} {p0 q0 : Int32} {p1 q1 : Int32} {p2 q2 : Int32} {p3 q3 : Int32} {p4 q4 : Int32} (h1 : f a = .inr (8, [.int p0, .int p1, .int p2, .int p3, .int p4, .ref (ρ a 5), .ref (ρ a 6)])) (h2 : f a = .inr (8, [.int q0, .int q1, .int q2, .int q3, .int q4, .ref (ρ a 5), .ref (ρ a 6)])) : p0 = q0 ∧ p1 = q1 ∧ p2 = q2 ∧ p3 = q3 ∧ p4 = q4 := by
  have h := h1.symm.trans h2
  simp only [Sum.inr.injEq, Prod.mk.injEq, List.cons.injEq, Value.int.injEq, Value.long.injEq, true_and, and_true] at h
  obtain ⟨e0, e1, e2, e3, e4⟩ := h
  exact ⟨e0, e1, e2, e3, e4⟩
theorem tp_same10 {ρ : Nat → Nat → Nat} {f : Nat → va_E} {a : Nat} {p0 q0 : Int32} {p1 q1 : Int32} {p2 q2 : Int32} (h1 : f a = .inr (9, [.ref (ρ a 0), .int p0, .int p1, .int p2])) (h2 : f a = .inr (9, [.ref (ρ a 0), .int q0, .int q1, .int q2])) : p0 = q0 ∧ p1 = q1 ∧ p2 = q2 := by
  have h := h1.symm.trans h2
  simp only [Sum.inr.injEq, Prod.mk.injEq, List.cons.injEq, Value.int.injEq, Value.long.injEq, true_and, and_true] at h
  obtain ⟨e0, e1, e2⟩ := h
  exact ⟨e0, e1, e2⟩
theorem tp_same11 {ρ : Nat → Nat → Nat} {f : Nat → va_E} {a : Nat} {p0 q0 : Int32} {p1 q1 : Int32} {p2 q2 : Int32} {p3 q3 : Int32} {p4 q4 : Int32} {p5 q5 : Int32} {p6 q6 : Int32} (h1 : f a = .inr (10, [.int p0, .int p1, .int p2, .int p3, .int p4, .int p5, .int p6, .ref (ρ a 7), .ref (ρ a 8), .ref (ρ a 9), .ref (ρ a 10), .ref (ρ a 11), .ref (ρ a 12), .ref (ρ a 13), .ref (ρ a 14), .ref (ρ a 15), .ref (ρ a 16), .ref (ρ a 17), .ref (ρ a 18)])) (h2 : f a = .inr (10, [.int q0, .int q1, .int q2, .int q3, .int q4, .int q5, .int q6, .ref (ρ a 7), .ref (ρ a 8), .ref (ρ a 9), .ref (ρ a 10), .ref (ρ a 11), .ref (ρ a 12), .ref (ρ a 13), .ref (ρ a 14), .ref (ρ a 15), .ref (ρ a 16), .ref (ρ a 17), .ref (ρ a 18)])) : p0 = q0 ∧ p1 = q1 ∧ p2 = q2 ∧ p3 = q3 ∧ p4 = q4 ∧ p5 = q5 ∧ p6 = q6 := by
  have h := h1.symm.trans h2
  simp only [Sum.inr.injEq, Prod.mk.injEq, List.cons.injEq, Value.int.injEq, Value.long.injEq, true_and, and_true] at h
  obtain ⟨e0, e1, e2, e3, e4, e5, e6⟩ := h
  exact ⟨e0, e1, e2, e3, e4, e5, e6⟩

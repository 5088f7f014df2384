def tp_K (κ : Nat → ClassId) : List (ClassId × FieldType) := [(κ 0, .int), (κ 1, .long), (κ 2, .char), (κ 3, .boolean), (κ 4, .object RX8), (κ 5, .object RX5), (κ 6, .object RX0), (κ 7, .object RX10)]
def tp_g (τ ν : Nat → Nat) (ρ : Nat → Nat → Nat) (t a : Nat) : Prop := match t with
  | 1 => (τ (ρ a 0) = 28 ∧ ν (ρ a 0) ≤ 400) ∧ (τ (ρ a 1) = 20 ∧ ν (ρ a 1) ≤ 13)
  | 2 => (τ (ρ a 0) = 11) ∧ (τ (ρ a 1) = 21 ∧ ν (ρ a 1) = 192) ∧ (τ (ρ a 2) = 20 ∧ ν (ρ a 2) = 192) ∧ (τ (ρ a 3) = 21 ∧ ν (ρ a 3) = 64) ∧ (τ (ρ a 4) = 20 ∧ ν (ρ a 4) = 64) ∧ (τ (ρ a 10) = 20 ∧ ν (ρ a 10) = 6) ∧ (τ (ρ a 11) = 20 ∧ ν (ρ a 11) = 6) ∧ (τ (ρ a 12) = 20 ∧ ν (ρ a 12) = 6) ∧ (τ (ρ a 13) = 20 ∧ ν (ρ a 13) = 6) ∧ (τ (ρ a 14) = 21 ∧ ν (ρ a 14) = 6)
  | 3 => (τ (ρ a 0) = 22 ∧ ν (ρ a 0) = 400) ∧ (τ (ρ a 7) = 28 ∧ ν (ρ a 7) = 400) ∧ (τ (ρ a 9) = 20 ∧ ν (ρ a 9) = 13)
  | 4 => (τ (ρ a 0) = 11) ∧ (τ (ρ a 1) = 21 ∧ ν (ρ a 1) = 8) ∧ (τ (ρ a 2) = 21 ∧ ν (ρ a 2) = 64)
  | 5 => (τ (ρ a 1) = 21 ∧ ν (ρ a 1) = ρ a 10 * ρ a 11) ∧ (1 ≤ ρ a 10 ∧ ρ a 10 ≤ 15 ∧ ρ a 11 ≤ 60)
  | 6 => (τ (ρ a 0) = 8) ∧ (τ (ρ a 7) = 20 ∧ ν (ρ a 7) = 20) ∧ (τ (ρ a 8) = 20 ∧ ν (ρ a 8) = 20) ∧ (τ (ρ a 9) = 21 ∧ ν (ρ a 9) = 4) ∧ (τ (ρ a 13) = 20 ∧ ν (ρ a 13) = 6) ∧ (τ (ρ a 15) = 20 ∧ ν (ρ a 15) = 4) ∧ (τ (ρ a 16) = 20 ∧ ν (ρ a 16) = 4)
  | 7 => (τ (ρ a 0) = 20 ∧ ν (ρ a 0) ≤ 60) ∧ (τ (ρ a 1) = 20 ∧ ν (ρ a 1) = ν (ρ a 0)) ∧ (τ (ρ a 2) = 20 ∧ ν (ρ a 2) = ν (ρ a 0))
  | 8 => (τ (ρ a 4) = 20 ∧ ν (ρ a 4) = 6) ∧ (τ (ρ a 5) = 20 ∧ ν (ρ a 5) = 6) ∧ (τ (ρ a 6) = 21 ∧ ν (ρ a 6) = 6)
  | 9 => (τ (ρ a 5) = 20 ∧ ν (ρ a 5) = 6) ∧ (τ (ρ a 6) = 20 ∧ ν (ρ a 6) = 6)
  | 10 => (τ (ρ a 0) = 11)
  | 11 => (τ (ρ a 7) = 20 ∧ ν (ρ a 7) = 25) ∧ (τ (ρ a 8) = 20 ∧ ν (ρ a 8) = 100) ∧ (τ (ρ a 9) = 24) ∧ (τ (ρ a 10) = 25) ∧ (τ (ρ a 11) = 26) ∧ (τ (ρ a 12) = 7) ∧ (τ (ρ a 13) = 7) ∧ (τ (ρ a 14) = 7) ∧ (τ (ρ a 15) = 5 ∧ ρ (ρ a 15) 10 = 3 ∧ ρ (ρ a 15) 11 = 60) ∧ (τ (ρ a 16) = 5 ∧ ρ (ρ a 16) 10 = 5 ∧ ρ (ρ a 16) 11 = 60) ∧ (τ (ρ a 17) = 5 ∧ ρ (ρ a 17) 10 = 15 ∧ ρ (ρ a 17) 11 = 60) ∧ (τ (ρ a 18) = 5 ∧ ρ (ρ a 18) 10 = 8 ∧ ρ (ρ a 18) 11 = 6)
  | 12 => (τ (ρ a 0) = 11) ∧ (τ (ρ a 1) = 27) ∧ (τ (ρ a 2) = 10) ∧ (τ (ρ a 3) = 3) ∧ (τ (ρ a 4) = 4) ∧ (τ (ρ a 5) = 2)
  | 20 => True
  | 21 => True
  | 22 => True
  | 23 => True
  | 24 => ∀ j : Nat, j < 6 → τ (ρ a j) = 9
  | 25 => ∀ j : Nat, j < 6 → τ (ρ a j) = 6
  | 26 => True
  | 27 => True
  | 28 => True
  | 13 => (τ (ρ a 2) = 32) ∧ (τ (ρ a 3) = 33) ∧ (τ (ρ a 4) = 34) ∧ (τ (ρ a 5) = 35) ∧ (τ (ρ a 6) = 36) ∧ (τ (ρ a 8) = 38) ∧ (τ (ρ a 21) = 51) ∧ (τ (ρ a 23) = 53) ∧ (τ (ρ a 24) = 54) ∧ (τ (ρ a 26) = 56) ∧ (τ (ρ a 27) = 57) ∧ (τ (ρ a 30) = 60) ∧ (τ (ρ a 31) = 61) ∧ (τ (ρ a 39) = 69) ∧ (τ (ρ a 40) = 70) ∧ (τ (ρ a 41) = 71) ∧ (τ (ρ a 42) = 72) ∧ (τ (ρ a 43) = 73) ∧ (τ (ρ a 44) = 74) ∧ (τ (ρ a 45) = 75) ∧ (τ (ρ a 46) = 76) ∧ (τ (ρ a 49) = 79) ∧ (τ (ρ a 50) = 80) ∧ (τ (ρ a 51) = 81) ∧ (τ (ρ a 52) = 82)
  | _ => True
def tp_ok (Ω : Nat → (Nat → Nat) → va_E → Prop) (κ : Nat → ClassId) (τ ν : Nat → Nat) (ρ : Nat → Nat → Nat) (t a : Nat) (e : va_E) : Prop := match t with
  | 1 => ∃ x2 : Int32, ∃ x3 : Int32, ∃ x4 : Int32, e = .inr (0, [.ref (ρ a 0), .ref (ρ a 1), .int x2, .int x3, .int x4])
  | 2 => ∃ x5 : Int32, ∃ x6 : Int32, ∃ x7 : Int32, ∃ x8 : Int64, ∃ x9 : Int32, e = .inr (1, [.ref (ρ a 0), .ref (ρ a 1), .ref (ρ a 2), .ref (ρ a 3), .ref (ρ a 4), .int x5, .int x6, .int x7, .long x8, .int x9, .ref (ρ a 10), .ref (ρ a 11), .ref (ρ a 12), .ref (ρ a 13), .ref (ρ a 14)]) ∧ (0 ≤ x9.toInt ∧ x9.toInt ≤ 6)
  | 3 => ∃ x1 : Int32, ∃ x2 : Int32, ∃ x3 : Int32, ∃ x4 : Int32, ∃ x5 : Int32, ∃ x6 : Int32, ∃ x8 : Int32, ∃ x10 : Int32, ∃ x11 : Int32, ∃ x12 : Int32, ∃ x13 : Int32, ∃ x14 : Int32, ∃ x15 : Int32, e = .inr (2, [.ref (ρ a 0), .int x1, .int x2, .int x3, .int x4, .int x5, .int x6, .ref (ρ a 7), .int x8, .ref (ρ a 9), .int x10, .int x11, .int x12, .int x13, .int x14, .int x15]) ∧ (0 ≤ x1.toInt ∧ x1.toInt ≤ 400) ∧ (0 ≤ x3.toInt ∧ x3.toInt ≤ 400) ∧ (0 ≤ x5.toInt ∧ x5.toInt ≤ 400) ∧ (0 ≤ x6.toInt ∧ x6.toInt ≤ 100001) ∧ (0 ≤ x8.toInt ∧ x8.toInt ≤ 400) ∧ (0 ≤ x10.toInt ∧ x10.toInt ≤ 12) ∧ (x4.toInt = 3 → x3.toInt < 400)
  | 4 => ∃ x3 : Int32, ∃ x4 : Int64, ∃ x5 : Int64, e = .inr (3, [.ref (ρ a 0), .ref (ρ a 1), .ref (ρ a 2), .int x3, .long x4, .long x5]) ∧ (0 ≤ x3.toInt ∧ x3.toInt ≤ 64)
  | 5 => ∃ x0 : Int32, ∃ x2 : Int32, e = .inr (4, [.int x0, .ref (ρ a 1), .int x2]) ∧ (x0.toInt = (ρ a 10 : Int)) ∧ (0 ≤ x2.toInt ∧ x2.toInt ≤ (ρ a 11 : Int))
  | 6 => ∃ x1 : Int32, ∃ x2 : Int32, ∃ x3 : Int32, ∃ x4 : Int32, ∃ x5 : Int32, ∃ x6 : Int32, ∃ x10 : Int32, ∃ x11 : Int32, ∃ x12 : Int32, ∃ x14 : Int32, e = .inr (5, [.ref (ρ a 0), .int x1, .int x2, .int x3, .int x4, .int x5, .int x6, .ref (ρ a 7), .ref (ρ a 8), .ref (ρ a 9), .int x10, .int x11, .int x12, .ref (ρ a 13), .int x14, .ref (ρ a 15), .ref (ρ a 16)]) ∧ (0 ≤ x2.toInt ∧ x2.toInt ≤ 5) ∧ (0 ≤ x5.toInt ∧ x5.toInt ≤ 1) ∧ (0 ≤ x6.toInt ∧ x6.toInt ≤ 20)
  | 7 => ∃ x3 : Int32, e = .inr (6, [.ref (ρ a 0), .ref (ρ a 1), .ref (ρ a 2), .int x3]) ∧ (0 ≤ x3.toInt ∧ x3.toInt ≤ (ν (ρ a 0) : Int))
  | 8 => ∃ x0 : Int32, ∃ x1 : Int32, ∃ x2 : Int32, ∃ x3 : Int32, e = .inr (7, [.int x0, .int x1, .int x2, .int x3, .ref (ρ a 4), .ref (ρ a 5), .ref (ρ a 6)]) ∧ (1000 ≤ x0.toInt)
  | 9 => ∃ x0 : Int32, ∃ x1 : Int32, ∃ x2 : Int32, ∃ x3 : Int32, ∃ x4 : Int32, e = .inr (8, [.int x0, .int x1, .int x2, .int x3, .int x4, .ref (ρ a 5), .ref (ρ a 6)]) ∧ (1 ≤ x2.toInt)
  | 10 => ∃ x1 : Int32, ∃ x2 : Int32, ∃ x3 : Int32, e = .inr (9, [.ref (ρ a 0), .int x1, .int x2, .int x3]) ∧ (0 ≤ x1.toInt ∧ x1.toInt ≤ 2399) ∧ (0 ≤ x3.toInt ∧ x3.toInt ≤ 1)
  | 11 => ∃ x0 : Int32, ∃ x1 : Int32, ∃ x2 : Int32, ∃ x3 : Int32, ∃ x4 : Int32, ∃ x5 : Int32, ∃ x6 : Int32, e = .inr (10, [.int x0, .int x1, .int x2, .int x3, .int x4, .int x5, .int x6, .ref (ρ a 7), .ref (ρ a 8), .ref (ρ a 9), .ref (ρ a 10), .ref (ρ a 11), .ref (ρ a 12), .ref (ρ a 13), .ref (ρ a 14), .ref (ρ a 15), .ref (ρ a 16), .ref (ρ a 17), .ref (ρ a 18)]) ∧ (0 ≤ x0.toInt ∧ x0.toInt ≤ 2400) ∧ (0 ≤ x4.toInt ∧ x4.toInt ≤ 6) ∧ (0 ≤ x5.toInt ∧ x5.toInt ≤ 6) ∧ (0 ≤ x6.toInt ∧ x6.toInt ≤ 12)
  | 12 => ∃ x6 : Int32, e = .inr (11, [.ref (ρ a 0), .ref (ρ a 1), .ref (ρ a 2), .ref (ρ a 3), .ref (ρ a 4), .ref (ρ a 5), .int x6])
  | 20 => ∃ g : Nat → Int32, e = .inl (κ 0, ν a, .inl g)
  | 21 => ∃ g : Nat → Int64, e = .inl (κ 1, ν a, .inr (.inl g))
  | 22 => ∃ g : Nat → Int32, e = .inl (κ 2, ν a, .inl g)
  | 23 => ∃ g : Nat → Int32, e = .inl (κ 3, ν a, .inl g)
  | 24 => ∃ g : Nat → Option Nat, e = .inl (κ 4, 6, .inr (.inr (.inr (.inr g)))) ∧ (∀ j : Nat, j < 6 → g j = some (ρ a j))
  | 25 => ∃ g : Nat → Option Nat, e = .inl (κ 5, 6, .inr (.inr (.inr (.inr g)))) ∧ (∀ j : Nat, j < 6 → g j = some (ρ a j))
  | 26 => ∃ g : Nat → Option Nat, e = .inl (κ 6, 12, .inr (.inr (.inr (.inr g)))) ∧ (∀ j : Nat, j < 12 → g j = none ∨ ∃ b : Nat, g j = some b ∧ τ b = 1)
  | 27 => ∃ g : Nat → Option Nat, e = .inl (κ 7, 2, .inr (.inr (.inr (.inr g)))) ∧ (∀ j : Nat, j < 2 → g j = none ∨ ∃ b : Nat, g j = some b ∧ τ b = 11)
  | 28 => ∃ g : Nat → Int32, e = .inl (κ 0, ν a, .inl g) ∧ ∀ j : Nat, -1000 ≤ (g j).toInt ∧ (g j).toInt ≤ 100001
  | t => Ω t (ρ a) e
def tp_G (τ ν : Nat → Nat) (ρ : Nat → Nat → Nat) (L : List Nat) : Prop := (∀ a, τ a ≠ 0 → a ∈ L) ∧ ∀ a, tp_g τ ν ρ (τ a) a
def tp_T (Ω : Nat → (Nat → Nat) → va_E → Prop) (κ : Nat → ClassId) (τ ν : Nat → Nat) (ρ : Nat → Nat → Nat) (f : Nat → va_E) : Prop := ∀ a, τ a ≠ 0 → tp_ok Ω κ τ ν ρ (τ a) a (f a)
def tp_O (Ω : Nat → (Nat → Nat) → va_E → Prop) (κ : Nat → ClassId) (τ ν : Nat → Nat) (ρ : Nat → Nat → Nat) (o : Nat) (f : Nat → va_E) : Prop := ∀ a, τ a ≠ 0 → a ≠ o → tp_ok Ω κ τ ν ρ (τ a) a (f a)
def tp_F (τ : Nat → Nat) (S : List Nat) (f f1 : Nat → va_E) : Prop := ∀ a, τ a ∉ S → f1 a = f a
section TP
variable {Ω : Nat → (Nat → Nat) → va_E → Prop} {κ : Nat → ClassId} {τ ν : Nat → Nat} {ρ : Nat → Nat → Nat} {L : List Nat} {f f1 f2 : Nat → va_E} {a b t t1 : Nat} {e : va_E} {S S1 : List Nat}
theorem tp_in (hG : tp_G τ ν ρ L) (h : τ a = t) (h0 : t ≠ 0) : a ∈ L := hG.1 a (by rw [h]; exact h0)
theorem tp_gt (hG : tp_G τ ν ρ L) (h : τ a = t) : tp_g τ ν ρ t a := by have := hG.2 a; rw [h] at this; exact this
theorem tp_at (hT : tp_T Ω κ τ ν ρ f) (h : τ a = t) (h0 : t ≠ 0) : tp_ok Ω κ τ ν ρ t a (f a) := by have := hT a (by rw [h]; exact h0); rw [h] at this; exact this
theorem tp_atO {o : Nat} (hT : tp_O Ω κ τ ν ρ o f) (h : τ a = t) (h0 : t ≠ 0) (hn : a ≠ o) : tp_ok Ω κ τ ν ρ t a (f a) := by have := hT a (by rw [h]; exact h0) hn; rw [h] at this; exact this
theorem tp_ne (h : τ a = t) (h1 : τ b = t1) (hn : t ≠ t1) : a ≠ b := fun q => hn (by rw [← h, ← h1, q])
theorem tp_T.up (hT : tp_T Ω κ τ ν ρ f) (h : τ a = t) (g1 : f1 a = e) (k1 : ∀ b, b ≠ a → f1 b = f b) (ho : tp_ok Ω κ τ ν ρ t a e) : tp_T Ω κ τ ν ρ f1 := by
  intro b hb
  by_cases q : b = a
  · subst q; rw [g1, h]; exact ho
  · rw [k1 b q]; exact hT b hb
theorem tp_T.opn (hT : tp_T Ω κ τ ν ρ f) (o : Nat) : tp_O Ω κ τ ν ρ o f := fun b hb _ => hT b hb
theorem tp_O.up {o : Nat} (hT : tp_O Ω κ τ ν ρ o f) (k1 : ∀ b, b ≠ o → f1 b = f b) : tp_O Ω κ τ ν ρ o f1 := fun b hb q => by rw [k1 b q]; exact hT b hb q
theorem tp_O.close {o : Nat} (hT : tp_O Ω κ τ ν ρ o f) (h : τ o = t) (g1 : f o = e) (ho : tp_ok Ω κ τ ν ρ t o e) : tp_T Ω κ τ ν ρ f := by
  intro b hb
  by_cases q : b = o
  · subst q; rw [g1, h]; exact ho
  · exact hT b hb q
theorem tp_F.rf : tp_F τ S f f := fun _ _ => rfl
theorem tp_F.up {f0 : Nat → va_E} (hF : tp_F τ S f0 f) (h : τ a = t) (hs : t ∈ S) (k1 : ∀ b, b ≠ a → f1 b = f b) : tp_F τ S f0 f1 := fun b hb => by
  rw [k1 b (fun q => hb (by rw [q, h]; exact hs))]; exact hF b hb
theorem tp_F.then {f0 : Nat → va_E} (hF : tp_F τ S f0 f) (h : tp_F τ S1 f f1) (hs : ∀ t ∈ S1, t ∈ S) : tp_F τ S f0 f1 := fun b hb => by
  rw [h b (fun q => hb (hs _ q))]; exact hF b hb
theorem tp_pos (h : a ∈ L) (hf : f a = e) : ∃ k : Nat, (va_pl L f)[k]? = some (a, e) := by
  obtain ⟨k, hk⟩ := va_pl_get (X := []) (f := f) h
  exact ⟨k, by rw [← hf]; exact hk⟩
theorem tp_set {A : Nat → Prop} {k : Nat} {e0 : va_E} (hD : va_D A (va_pl L f)) (h : a ∈ L) (hk : (va_pl L f)[k]? = some (a, e0)) : (va_pl L f).set k (a, e) = va_pl L (va_up f a e) := by
  have h0 : e0 = f a := by
    obtain ⟨x, hx, hq⟩ := List.mem_map.mp (List.mem_of_getElem? hk)
    injection hq with q1 q2
    rw [← q2, q1]
  subst h0
  exact va_pl_set (X := []) hD h hk
theorem tp_ad {A : Nat → Prop} (f1 : Nat → va_E) (hD : va_D A (va_pl L f)) : va_D A (va_pl L f1) := by
  have key : ∀ (k : Nat) (q : Nat × va_E), (va_pl L f1)[k]? = some q → (va_pl L f)[k]? = some (q.1, f q.1) := by
    intro k q hk
    simp only [va_pl, List.getElem?_map, Option.map_eq_some_iff] at hk ⊢
    obtain ⟨x, hx, hq⟩ := hk
    exact ⟨x, hx, by rw [← hq]⟩
  exact ⟨fun i j p q hi hj hpq => hD.1 i j _ _ (key i p hi) (key j q hj) hpq, fun k q hk => hD.2 k (q.1, f q.1) (key k q hk)⟩
theorem tp_fr {A : Nat → Prop} {H0 H : Heap} {locs : List Loc} (hD : va_D A (va_pl L f)) (hS : va_S A H0 H locs) (hA : ∀ q, H0.size ≤ q → A q) : ∀ q, va_A (va_pl L f) H.size q → A q := by
  intro q h
  rcases h with ⟨k, e, h⟩ | h
  · exact hD.2 k _ h
  · exact hA q (Nat.le_trans hS.1 h)
theorem tp_row (r w m c : Int) (h1 : 0 ≤ r) (h2 : r < m) (h3 : 0 ≤ c) (h4 : c < w) : 0 ≤ r * w ∧ r * w + c < m * w ∧ r * w + w ≤ m * w := by
  have a1 : 0 ≤ r * w := Int.mul_nonneg h1 (by omega)
  have a2 : (r + 1) * w ≤ m * w := Int.mul_le_mul_of_nonneg_right (by omega) (by omega)
  rw [Int.add_mul, Int.one_mul] at a2
  omega
end TP
section TPW
variable {p : Program} {l : Launch} {e : Env} {R : Room} {s : State} {m : MethodId} {args : Array Value} {below : List Frame} {meth : Method} {c : Code} {cells slots : Nat} {Q : State → Prop} {g : JFrame} {D : va_G} {cl : List vw_C} {A : Nat → Prop} {H0 : Heap}
/-- behind a write: the pool with one cell changed -/
theorem tp_k {L : List Nat} {f : Nat → va_E} {a q0 : Nat} {e0 : va_E} (e1 : va_E) (hD : va_D A (va_pl L f)) (h : a ∈ L) (hk : (va_pl L f)[q0]? = some (a, e0))
    (kk : ∀ (f1 : Nat → va_E) (H1 : Heap) (locs1 : List Loc), va_P D cl (va_pl L f1) H1 → va_D A (va_pl L f1) → va_S A H0 H1 locs1 → f1 a = e1 → (∀ b, b ≠ a → f1 b = f b) → W p l e R s m args below meth c H1 locs1 cells slots Q g) :
    ∀ (H1 : Heap) (locs1 : List Loc), va_P D cl ((va_pl L f).set q0 (a, e1)) H1 → va_D A ((va_pl L f).set q0 (a, e1)) → va_S A H0 H1 locs1 → W p l e R s m args below meth c H1 locs1 cells slots Q g := by
  intro H1 locs1 hP1 hD1 hS1
  rw [tp_set hD h hk] at hP1 hD1
  exact kk _ H1 locs1 hP1 hD1 hS1 (by simp [va_up]) (fun b hb => by simp [va_up, hb])
theorem tp_join (pc : Nat) (Inv : Heap → List Loc → Array Slot → List Value → Prop)
    (hs : ∀ (H : Heap) (locs : List Loc) (ls : Array Slot) (st : List Value), Inv H locs ls st → W p l e R s m args below meth c H locs cells slots Q (F0 m pc ls st)) {H : Heap} {locs : List Loc}
    (kk : (∀ (H : Heap) (locs : List Loc) (ls : Array Slot) (st : List Value), Inv H locs ls st → W p l e R s m args below meth c H locs cells slots Q (F0 m pc ls st)) → W p l e R s m args below meth c H locs cells slots Q g) : W p l e R s m args below meth c H locs cells slots Q g := kk hs
end TPW
theorem tpg_13 {τ ν : Nat → Nat} {ρ : Nat → Nat → Nat} {L : List Nat} {a : Nat} (hG : tp_G τ ν ρ L) (h : τ a = 13) : (τ (ρ a 2) = 32) ∧ (τ (ρ a 3) = 33) ∧ (τ (ρ a 4) = 34) ∧ (τ (ρ a 5) = 35) ∧ (τ (ρ a 6) = 36) ∧ (τ (ρ a 8) = 38) ∧ (τ (ρ a 21) = 51) ∧ (τ (ρ a 23) = 53) ∧ (τ (ρ a 24) = 54) ∧ (τ (ρ a 26) = 56) ∧ (τ (ρ a 27) = 57) ∧ (τ (ρ a 30) = 60) ∧ (τ (ρ a 31) = 61) ∧ (τ (ρ a 39) = 69) ∧ (τ (ρ a 40) = 70) ∧ (τ (ρ a 41) = 71) ∧ (τ (ρ a 42) = 72) ∧ (τ (ρ a 43) = 73) ∧ (τ (ρ a 44) = 74) ∧ (τ (ρ a 45) = 75) ∧ (τ (ρ a 46) = 76) ∧ (τ (ρ a 49) = 79) ∧ (τ (ρ a 50) = 80) ∧ (τ (ρ a 51) = 81) ∧ (τ (ρ a 52) = 82) := tp_gt hG h
theorem tpg_1 {τ ν : Nat → Nat} {ρ : Nat → Nat → Nat} {L : List Nat} {a : Nat} (hG : tp_G τ ν ρ L) (h : τ a = 1) : (τ (ρ a 0) = 28 ∧ ν (ρ a 0) ≤ 400) ∧ (τ (ρ a 1) = 20 ∧ ν (ρ a 1) ≤ 13) := tp_gt hG h
theorem tpo_1 {Ω : Nat → (Nat → Nat) → va_E → Prop} {κ : Nat → ClassId} {τ ν : Nat → Nat} {ρ : Nat → Nat → Nat} {f : Nat → va_E} {a : Nat} (hT : tp_T Ω κ τ ν ρ f) (h : τ a = 1) : ∃ x2 : Int32, ∃ x3 : Int32, ∃ x4 : Int32, f a = .inr (0, [.ref (ρ a 0), .ref (ρ a 1), .int x2, .int x3, .int x4]) := tp_at hT h (by decide)
theorem tpg_2 {τ ν : Nat → Nat} {ρ : Nat → Nat → Nat} {L : List Nat} {a : Nat} (hG : tp_G τ ν ρ L) (h : τ a = 2) : (τ (ρ a 0) = 11) ∧ (τ (ρ a 1) = 21 ∧ ν (ρ a 1) = 192) ∧ (τ (ρ a 2) = 20 ∧ ν (ρ a 2) = 192) ∧ (τ (ρ a 3) = 21 ∧ ν (ρ a 3) = 64) ∧ (τ (ρ a 4) = 20 ∧ ν (ρ a 4) = 64) ∧ (τ (ρ a 10) = 20 ∧ ν (ρ a 10) = 6) ∧ (τ (ρ a 11) = 20 ∧ ν (ρ a 11) = 6) ∧ (τ (ρ a 12) = 20 ∧ ν (ρ a 12) = 6) ∧ (τ (ρ a 13) = 20 ∧ ν (ρ a 13) = 6) ∧ (τ (ρ a 14) = 21 ∧ ν (ρ a 14) = 6) := tp_gt hG h
theorem tpo_2 {Ω : Nat → (Nat → Nat) → va_E → Prop} {κ : Nat → ClassId} {τ ν : Nat → Nat} {ρ : Nat → Nat → Nat} {f : Nat → va_E} {a : Nat} (hT : tp_T Ω κ τ ν ρ f) (h : τ a = 2) : ∃ x5 : Int32, ∃ x6 : Int32, ∃ x7 : Int32, ∃ x8 : Int64, ∃ x9 : Int32, f a = .inr (1, [.ref (ρ a 0), .ref (ρ a 1), .ref (ρ a 2), .ref (ρ a 3), .ref (ρ a 4), .int x5, .int x6, .int x7, .long x8, .int x9, .ref (ρ a 10), .ref (ρ a 11), .ref (ρ a 12), .ref (ρ a 13), .ref (ρ a 14)]) ∧ (0 ≤ x9.toInt ∧ x9.toInt ≤ 6) := tp_at hT h (by decide)
theorem tpg_3 {τ ν : Nat → Nat} {ρ : Nat → Nat → Nat} {L : List Nat} {a : Nat} (hG : tp_G τ ν ρ L) (h : τ a = 3) : (τ (ρ a 0) = 22 ∧ ν (ρ a 0) = 400) ∧ (τ (ρ a 7) = 28 ∧ ν (ρ a 7) = 400) ∧ (τ (ρ a 9) = 20 ∧ ν (ρ a 9) = 13) := tp_gt hG h
theorem tpo_3 {Ω : Nat → (Nat → Nat) → va_E → Prop} {κ : Nat → ClassId} {τ ν : Nat → Nat} {ρ : Nat → Nat → Nat} {f : Nat → va_E} {a : Nat} (hT : tp_T Ω κ τ ν ρ f) (h : τ a = 3) : ∃ x1 : Int32, ∃ x2 : Int32, ∃ x3 : Int32, ∃ x4 : Int32, ∃ x5 : Int32, ∃ x6 : Int32, ∃ x8 : Int32, ∃ x10 : Int32, ∃ x11 : Int32, ∃ x12 : Int32, ∃ x13 : Int32, ∃ x14 : Int32, ∃ x15 : Int32, f a = .inr (2, [.ref (ρ a 0), .int x1, .int x2, .int x3, .int x4, .int x5, .int x6, .ref (ρ a 7), .int x8, .ref (ρ a 9), .int x10, .int x11, .int x12, .int x13, .int x14, .int x15]) ∧ (0 ≤ x1.toInt ∧ x1.toInt ≤ 400) ∧ (0 ≤ x3.toInt ∧ x3.toInt ≤ 400) ∧ (0 ≤ x5.toInt ∧ x5.toInt ≤ 400) ∧ (0 ≤ x6.toInt ∧ x6.toInt ≤ 100001) ∧ (0 ≤ x8.toInt ∧ x8.toInt ≤ 400) ∧ (0 ≤ x10.toInt ∧ x10.toInt ≤ 12) ∧ (x4.toInt = 3 → x3.toInt < 400) := tp_at hT h (by decide)
theorem tpg_4 {τ ν : Nat → Nat} {ρ : Nat → Nat → Nat} {L : List Nat} {a : Nat} (hG : tp_G τ ν ρ L) (h : τ a = 4) : (τ (ρ a 0) = 11) ∧ (τ (ρ a 1) = 21 ∧ ν (ρ a 1) = 8) ∧ (τ (ρ a 2) = 21 ∧ ν (ρ a 2) = 64) := tp_gt hG h
theorem tpo_4 {Ω : Nat → (Nat → Nat) → va_E → Prop} {κ : Nat → ClassId} {τ ν : Nat → Nat} {ρ : Nat → Nat → Nat} {f : Nat → va_E} {a : Nat} (hT : tp_T Ω κ τ ν ρ f) (h : τ a = 4) : ∃ x3 : Int32, ∃ x4 : Int64, ∃ x5 : Int64, f a = .inr (3, [.ref (ρ a 0), .ref (ρ a 1), .ref (ρ a 2), .int x3, .long x4, .long x5]) ∧ (0 ≤ x3.toInt ∧ x3.toInt ≤ 64) := tp_at hT h (by decide)
theorem tpg_5 {τ ν : Nat → Nat} {ρ : Nat → Nat → Nat} {L : List Nat} {a : Nat} (hG : tp_G τ ν ρ L) (h : τ a = 5) : (τ (ρ a 1) = 21 ∧ ν (ρ a 1) = ρ a 10 * ρ a 11) ∧ (1 ≤ ρ a 10 ∧ ρ a 10 ≤ 15 ∧ ρ a 11 ≤ 60) := tp_gt hG h
theorem tpo_5 {Ω : Nat → (Nat → Nat) → va_E → Prop} {κ : Nat → ClassId} {τ ν : Nat → Nat} {ρ : Nat → Nat → Nat} {f : Nat → va_E} {a : Nat} (hT : tp_T Ω κ τ ν ρ f) (h : τ a = 5) : ∃ x0 : Int32, ∃ x2 : Int32, f a = .inr (4, [.int x0, .ref (ρ a 1), .int x2]) ∧ (x0.toInt = (ρ a 10 : Int)) ∧ (0 ≤ x2.toInt ∧ x2.toInt ≤ (ρ a 11 : Int)) := tp_at hT h (by decide)
theorem tpg_6 {τ ν : Nat → Nat} {ρ : Nat → Nat → Nat} {L : List Nat} {a : Nat} (hG : tp_G τ ν ρ L) (h : τ a = 6) : (τ (ρ a 0) = 8) ∧ (τ (ρ a 7) = 20 ∧ ν (ρ a 7) = 20) ∧ (τ (ρ a 8) = 20 ∧ ν (ρ a 8) = 20) ∧ (τ (ρ a 9) = 21 ∧ ν (ρ a 9) = 4) ∧ (τ (ρ a 13) = 20 ∧ ν (ρ a 13) = 6) ∧ (τ (ρ a 15) = 20 ∧ ν (ρ a 15) = 4) ∧ (τ (ρ a 16) = 20 ∧ ν (ρ a 16) = 4) := tp_gt hG h
theorem tpo_6 {Ω : Nat → (Nat → Nat) → va_E → Prop} {κ : Nat → ClassId} {τ ν : Nat → Nat} {ρ : Nat → Nat → Nat} {f : Nat → va_E} {a : Nat} (hT : tp_T Ω κ τ ν ρ f) (h : τ a = 6) : ∃ x1 : Int32, ∃ x2 : Int32, ∃ x3 : Int32, ∃ x4 : Int32, ∃ x5 : Int32, ∃ x6 : Int32, ∃ x10 : Int32, ∃ x11 : Int32, ∃ x12 : Int32, ∃ x14 : Int32, f a = .inr (5, [.ref (ρ a 0), .int x1, .int x2, .int x3, .int x4, .int x5, .int x6, .ref (ρ a 7), .ref (ρ a 8), .ref (ρ a 9), .int x10, .int x11, .int x12, .ref (ρ a 13), .int x14, .ref (ρ a 15), .ref (ρ a 16)]) ∧ (0 ≤ x2.toInt ∧ x2.toInt ≤ 5) ∧ (0 ≤ x5.toInt ∧ x5.toInt ≤ 1) ∧ (0 ≤ x6.toInt ∧ x6.toInt ≤ 20) := tp_at hT h (by decide)
theorem tpg_7 {τ ν : Nat → Nat} {ρ : Nat → Nat → Nat} {L : List Nat} {a : Nat} (hG : tp_G τ ν ρ L) (h : τ a = 7) : (τ (ρ a 0) = 20 ∧ ν (ρ a 0) ≤ 60) ∧ (τ (ρ a 1) = 20 ∧ ν (ρ a 1) = ν (ρ a 0)) ∧ (τ (ρ a 2) = 20 ∧ ν (ρ a 2) = ν (ρ a 0)) := tp_gt hG h
theorem tpo_7 {Ω : Nat → (Nat → Nat) → va_E → Prop} {κ : Nat → ClassId} {τ ν : Nat → Nat} {ρ : Nat → Nat → Nat} {f : Nat → va_E} {a : Nat} (hT : tp_T Ω κ τ ν ρ f) (h : τ a = 7) : ∃ x3 : Int32, f a = .inr (6, [.ref (ρ a 0), .ref (ρ a 1), .ref (ρ a 2), .int x3]) ∧ (0 ≤ x3.toInt ∧ x3.toInt ≤ (ν (ρ a 0) : Int)) := tp_at hT h (by decide)
theorem tpg_8 {τ ν : Nat → Nat} {ρ : Nat → Nat → Nat} {L : List Nat} {a : Nat} (hG : tp_G τ ν ρ L) (h : τ a = 8) : (τ (ρ a 4) = 20 ∧ ν (ρ a 4) = 6) ∧ (τ (ρ a 5) = 20 ∧ ν (ρ a 5) = 6) ∧ (τ (ρ a 6) = 21 ∧ ν (ρ a 6) = 6) := tp_gt hG h
theorem tpo_8 {Ω : Nat → (Nat → Nat) → va_E → Prop} {κ : Nat → ClassId} {τ ν : Nat → Nat} {ρ : Nat → Nat → Nat} {f : Nat → va_E} {a : Nat} (hT : tp_T Ω κ τ ν ρ f) (h : τ a = 8) : ∃ x0 : Int32, ∃ x1 : Int32, ∃ x2 : Int32, ∃ x3 : Int32, f a = .inr (7, [.int x0, .int x1, .int x2, .int x3, .ref (ρ a 4), .ref (ρ a 5), .ref (ρ a 6)]) ∧ (1000 ≤ x0.toInt) := tp_at hT h (by decide)
theorem tpg_9 {τ ν : Nat → Nat} {ρ : Nat → Nat → Nat} {L : List Nat} {a : Nat} (hG : tp_G τ ν ρ L) (h : τ a = 9) : (τ (ρ a 5) = 20 ∧ ν (ρ a 5) = 6) ∧ (τ (ρ a 6) = 20 ∧ ν (ρ a 6) = 6) := tp_gt hG h
theorem tpo_9 {Ω : Nat → (Nat → Nat) → va_E → Prop} {κ : Nat → ClassId} {τ ν : Nat → Nat} {ρ : Nat → Nat → Nat} {f : Nat → va_E} {a : Nat} (hT : tp_T Ω κ τ ν ρ f) (h : τ a = 9) : ∃ x0 : Int32, ∃ x1 : Int32, ∃ x2 : Int32, ∃ x3 : Int32, ∃ x4 : Int32, f a = .inr (8, [.int x0, .int x1, .int x2, .int x3, .int x4, .ref (ρ a 5), .ref (ρ a 6)]) ∧ (1 ≤ x2.toInt) := tp_at hT h (by decide)
theorem tpg_10 {τ ν : Nat → Nat} {ρ : Nat → Nat → Nat} {L : List Nat} {a : Nat} (hG : tp_G τ ν ρ L) (h : τ a = 10) : (τ (ρ a 0) = 11) := tp_gt hG h
theorem tpo_10 {Ω : Nat → (Nat → Nat) → va_E → Prop} {κ : Nat → ClassId} {τ ν : Nat → Nat} {ρ : Nat → Nat → Nat} {f : Nat → va_E} {a : Nat} (hT : tp_T Ω κ τ ν ρ f) (h : τ a = 10) : ∃ x1 : Int32, ∃ x2 : Int32, ∃ x3 : Int32, f a = .inr (9, [.ref (ρ a 0), .int x1, .int x2, .int x3]) ∧ (0 ≤ x1.toInt ∧ x1.toInt ≤ 2399) ∧ (0 ≤ x3.toInt ∧ x3.toInt ≤ 1) := tp_at hT h (by decide)
theorem tpg_11 {τ ν : Nat → Nat} {ρ : Nat → Nat → Nat} {L : List Nat} {a : Nat} (hG : tp_G τ ν ρ L) (h : τ a = 11) : (τ (ρ a 7) = 20 ∧ ν (ρ a 7) = 25) ∧ (τ (ρ a 8) = 20 ∧ ν (ρ a 8) = 100) ∧ (τ (ρ a 9) = 24) ∧ (τ (ρ a 10) = 25) ∧ (τ (ρ a 11) = 26) ∧ (τ (ρ a 12) = 7) ∧ (τ (ρ a 13) = 7) ∧ (τ (ρ a 14) = 7) ∧ (τ (ρ a 15) = 5 ∧ ρ (ρ a 15) 10 = 3 ∧ ρ (ρ a 15) 11 = 60) ∧ (τ (ρ a 16) = 5 ∧ ρ (ρ a 16) 10 = 5 ∧ ρ (ρ a 16) 11 = 60) ∧ (τ (ρ a 17) = 5 ∧ ρ (ρ a 17) 10 = 15 ∧ ρ (ρ a 17) 11 = 60) ∧ (τ (ρ a 18) = 5 ∧ ρ (ρ a 18) 10 = 8 ∧ ρ (ρ a 18) 11 = 6) := tp_gt hG h
theorem tpo_11 {Ω : Nat → (Nat → Nat) → va_E → Prop} {κ : Nat → ClassId} {τ ν : Nat → Nat} {ρ : Nat → Nat → Nat} {f : Nat → va_E} {a : Nat} (hT : tp_T Ω κ τ ν ρ f) (h : τ a = 11) : ∃ x0 : Int32, ∃ x1 : Int32, ∃ x2 : Int32, ∃ x3 : Int32, ∃ x4 : Int32, ∃ x5 : Int32, ∃ x6 : Int32, f a = .inr (10, [.int x0, .int x1, .int x2, .int x3, .int x4, .int x5, .int x6, .ref (ρ a 7), .ref (ρ a 8), .ref (ρ a 9), .ref (ρ a 10), .ref (ρ a 11), .ref (ρ a 12), .ref (ρ a 13), .ref (ρ a 14), .ref (ρ a 15), .ref (ρ a 16), .ref (ρ a 17), .ref (ρ a 18)]) ∧ (0 ≤ x0.toInt ∧ x0.toInt ≤ 2400) ∧ (0 ≤ x4.toInt ∧ x4.toInt ≤ 6) ∧ (0 ≤ x5.toInt ∧ x5.toInt ≤ 6) ∧ (0 ≤ x6.toInt ∧ x6.toInt ≤ 12) := tp_at hT h (by decide)
theorem tpg_12 {τ ν : Nat → Nat} {ρ : Nat → Nat → Nat} {L : List Nat} {a : Nat} (hG : tp_G τ ν ρ L) (h : τ a = 12) : (τ (ρ a 0) = 11) ∧ (τ (ρ a 1) = 27) ∧ (τ (ρ a 2) = 10) ∧ (τ (ρ a 3) = 3) ∧ (τ (ρ a 4) = 4) ∧ (τ (ρ a 5) = 2) := tp_gt hG h
theorem tpo_12 {Ω : Nat → (Nat → Nat) → va_E → Prop} {κ : Nat → ClassId} {τ ν : Nat → Nat} {ρ : Nat → Nat → Nat} {f : Nat → va_E} {a : Nat} (hT : tp_T Ω κ τ ν ρ f) (h : τ a = 12) : ∃ x6 : Int32, f a = .inr (11, [.ref (ρ a 0), .ref (ρ a 1), .ref (ρ a 2), .ref (ρ a 3), .ref (ρ a 4), .ref (ρ a 5), .int x6]) := tp_at hT h (by decide)
theorem tpo_20 {Ω : Nat → (Nat → Nat) → va_E → Prop} {κ : Nat → ClassId} {τ ν : Nat → Nat} {ρ : Nat → Nat → Nat} {f : Nat → va_E} {a : Nat} {n : Nat} (hT : tp_T Ω κ τ ν ρ f) (h : τ a = 20) (hn : ν a = n) : ∃ g : Nat → Int32, f a = .inl (κ 0, n, .inl g) := by subst hn; exact tp_at hT h (by decide)
theorem tpo_21 {Ω : Nat → (Nat → Nat) → va_E → Prop} {κ : Nat → ClassId} {τ ν : Nat → Nat} {ρ : Nat → Nat → Nat} {f : Nat → va_E} {a : Nat} {n : Nat} (hT : tp_T Ω κ τ ν ρ f) (h : τ a = 21) (hn : ν a = n) : ∃ g : Nat → Int64, f a = .inl (κ 1, n, .inr (.inl g)) := by subst hn; exact tp_at hT h (by decide)
theorem tpo_22 {Ω : Nat → (Nat → Nat) → va_E → Prop} {κ : Nat → ClassId} {τ ν : Nat → Nat} {ρ : Nat → Nat → Nat} {f : Nat → va_E} {a : Nat} {n : Nat} (hT : tp_T Ω κ τ ν ρ f) (h : τ a = 22) (hn : ν a = n) : ∃ g : Nat → Int32, f a = .inl (κ 2, n, .inl g) := by subst hn; exact tp_at hT h (by decide)
theorem tpo_23 {Ω : Nat → (Nat → Nat) → va_E → Prop} {κ : Nat → ClassId} {τ ν : Nat → Nat} {ρ : Nat → Nat → Nat} {f : Nat → va_E} {a : Nat} {n : Nat} (hT : tp_T Ω κ τ ν ρ f) (h : τ a = 23) (hn : ν a = n) : ∃ g : Nat → Int32, f a = .inl (κ 3, n, .inl g) := by subst hn; exact tp_at hT h (by decide)
theorem tpg_24 {τ ν : Nat → Nat} {ρ : Nat → Nat → Nat} {L : List Nat} {a : Nat} (hG : tp_G τ ν ρ L) (h : τ a = 24) : ∀ j : Nat, j < 6 → τ (ρ a j) = 9 := tp_gt hG h
theorem tpo_24 {Ω : Nat → (Nat → Nat) → va_E → Prop} {κ : Nat → ClassId} {τ ν : Nat → Nat} {ρ : Nat → Nat → Nat} {f : Nat → va_E} {a : Nat} (hT : tp_T Ω κ τ ν ρ f) (h : τ a = 24) : ∃ g : Nat → Option Nat, f a = .inl (κ 4, 6, .inr (.inr (.inr (.inr g)))) ∧ (∀ j : Nat, j < 6 → g j = some (ρ a j)) := tp_at hT h (by decide)
theorem tpg_25 {τ ν : Nat → Nat} {ρ : Nat → Nat → Nat} {L : List Nat} {a : Nat} (hG : tp_G τ ν ρ L) (h : τ a = 25) : ∀ j : Nat, j < 6 → τ (ρ a j) = 6 := tp_gt hG h
theorem tpo_25 {Ω : Nat → (Nat → Nat) → va_E → Prop} {κ : Nat → ClassId} {τ ν : Nat → Nat} {ρ : Nat → Nat → Nat} {f : Nat → va_E} {a : Nat} (hT : tp_T Ω κ τ ν ρ f) (h : τ a = 25) : ∃ g : Nat → Option Nat, f a = .inl (κ 5, 6, .inr (.inr (.inr (.inr g)))) ∧ (∀ j : Nat, j < 6 → g j = some (ρ a j)) := tp_at hT h (by decide)
theorem tpo_26 {Ω : Nat → (Nat → Nat) → va_E → Prop} {κ : Nat → ClassId} {τ ν : Nat → Nat} {ρ : Nat → Nat → Nat} {f : Nat → va_E} {a : Nat} (hT : tp_T Ω κ τ ν ρ f) (h : τ a = 26) : ∃ g : Nat → Option Nat, f a = .inl (κ 6, 12, .inr (.inr (.inr (.inr g)))) ∧ (∀ j : Nat, j < 12 → g j = none ∨ ∃ b : Nat, g j = some b ∧ τ b = 1) := tp_at hT h (by decide)
theorem tpo_27 {Ω : Nat → (Nat → Nat) → va_E → Prop} {κ : Nat → ClassId} {τ ν : Nat → Nat} {ρ : Nat → Nat → Nat} {f : Nat → va_E} {a : Nat} (hT : tp_T Ω κ τ ν ρ f) (h : τ a = 27) : ∃ g : Nat → Option Nat, f a = .inl (κ 7, 2, .inr (.inr (.inr (.inr g)))) ∧ (∀ j : Nat, j < 2 → g j = none ∨ ∃ b : Nat, g j = some b ∧ τ b = 11) := tp_at hT h (by decide)
theorem tpo_28 {Ω : Nat → (Nat → Nat) → va_E → Prop} {κ : Nat → ClassId} {τ ν : Nat → Nat} {ρ : Nat → Nat → Nat} {f : Nat → va_E} {a : Nat} {n : Nat} (hT : tp_T Ω κ τ ν ρ f) (h : τ a = 28) (hn : ν a = n) : ∃ g : Nat → Int32, f a = .inl (κ 0, n, .inl g) ∧ ∀ j : Nat, -1000 ≤ (g j).toInt ∧ (g j).toInt ≤ 100001 := by subst hn; exact tp_at hT h (by decide)

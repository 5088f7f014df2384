set_option maxHeartbeats 8000000 in
set_option maxRecDepth 100000 in
theorem law_head {p : Program} {l : Launch} {e : Env} {s : State} {m : MethodId} {below : List Frame} {meth : Method} {c : Code} {b N9 : Nat} {xs : Nat → Int32} {dC : Nat → ClassId} {dI : Nat → Nat → Nat} {κ : Nat → ClassId} {adK adV : Nat → Nat} {zv : Option Nat} {xo mo : Nat} {k cells slots : Nat} {i : Int32} (C0 : lw_At p s m meth c b N9 xs) (hN9 : N9 ≤ 4608) (hN : nz_ok s) (hZ : pw_Z adK adV zv (fun q : Nat => s.heap.size ≤ q) s s.heap) (hK : va_K (dC, dI) vwCl (tp_K κ) s) (hi : i.toInt = 9 * (k : Int)) (hk : 9 * k ≤ 4608) (hc : cells ≤ 600000) (hs : slots ≤ 7302249) {τ ν : Nat → Nat} {ρ : Nat → Nat → Nat} {L : List Nat} {f : Nat → va_E} {H : Heap} {locs : List Loc} {ls : Array Slot} (hI : lz_I κ xo mo τ ν ρ L f) (hP : va_P (dC, dI) vwCl (va_pl L f) H) (hD : va_D (fun q : Nat => s.heap.size ≤ q) (va_pl L f)) (hS : va_S (fun q : Nat => s.heap.size ≤ q) s.heap H locs) (hl : lv_has ls 4 [(0, .ref b), (1, .ref xo), (2, .ref mo), (3, .int i)]) (kk : 9 * k + 9 ≤ N9 → W p l e room_1 s m #[Value.ref b] below meth c H locs cells slots (lw_Z below #[Value.ref b] s) (F0 m 27 ls [])) : W p l e room_1 s m #[Value.ref b] below meth c H locs cells slots (lw_Z below #[Value.ref b] s) (F0 m 18 ls []) := by
  obtain ⟨hx, hb, hr, hml, hown, hts, hX, hbl, hlocks, hgv⟩ := id C0
  have hown : s.vm.findClass RL = some m.cls := hown
  have hA : ∀ q : Nat, s.heap.size ≤ q → (fun q : Nat => s.heap.size ≤ q) q := fun _ h => h
  have hbA : ¬ (fun q : Nat => s.heap.size ≤ q) b := Nat.not_le.mpr hbl
  refine lv_iload_n hx hb dL_law_18 rfl (lv_at hl 3 rfl) ?_
  refine lv_aload_n hx hb dL_law_19 rfl (lv_at hl 0 rfl) ?_
  refine va_slen hx hb hX hbl hbA hS dL_law_20 ?_
  refine lv_topi (fun z1 ez1 => ?_)
  have iz1 : z1.toInt = (N9 : Int) := zi_ofNat ez1 (by omega)
  refine lv_bipush (v := 9) hx hb dL_law_21 (by decide) ?_
  refine lv_isub hx hb dL_law_23 ?_
  refine lv_topi (fun z2 ez2 => ?_)
  have iz2 : z2.toInt = (N9 : Int) - 9 := zi_sub ez2 iz1 (show (9 : Int32).toInt = 9 from rfl) (by omega) (by omega)
  refine lv_icmp_gt (tgt := 1716) hx hb dL_law_24 (by decide) (fun c1 => ?_) (fun c1 => ?_)
  · refine lv_iconst (v := 1) hx hb dL_law_1716 (by decide) ?_
    refine va_forget (fun q hq => hS.2.2 q hq) ?_
    refine W.widen (k := 600000) (n := 7302249) hc hs ?_
    exact lw_ret hx hb hr hlocks dL_law_1717
  · have ic1 : 9 * (k : Int) ≤ (N9 : Int) - 9 := zi_gtf hi iz2 c1
    exact kk (by omega)
set_option maxHeartbeats 8000000 in
set_option maxRecDepth 100000 in
theorem law_body {p : Program} {l : Launch} {e : Env} {s : State} {m : MethodId} {below : List Frame} {meth : Method} {c : Code} {b N9 : Nat} {xs : Nat → Int32} {dC : Nat → ClassId} {dI : Nat → Nat → Nat} {κ : Nat → ClassId} {adK adV : Nat → Nat} {zv : Option Nat} {xo mo : Nat} {k cells slots : Nat} {i : Int32} (C0 : lw_At p s m meth c b N9 xs) (hN9 : N9 ≤ 4608) (hN : nz_ok s) (hZ : pw_Z adK adV zv (fun q : Nat => s.heap.size ≤ q) s s.heap) (hK : va_K (dC, dI) vwCl (tp_K κ) s) (hk : 9 * k + 9 ≤ N9) (hi : i.toInt = 9 * (k : Int)) (hc : cells + 110 ≤ 600000) (hs : slots + 2634 ≤ 7302249) (kk : ∀ (τ ν : Nat → Nat) (ρ : Nat → Nat → Nat) (L : List Nat) (f : Nat → va_E) (H : Heap) (locs : List Loc) (ls : Array Slot), lz_I κ xo mo τ ν ρ L f → va_P (dC, dI) vwCl (va_pl L f) H → va_D (fun q : Nat => s.heap.size ≤ q) (va_pl L f) → va_S (fun q : Nat => s.heap.size ≤ q) s.heap H locs → lv_has ls 4 [(0, .ref b), (1, .ref xo), (2, .ref mo), (3, .int i)] → W p l e room_1 s m #[Value.ref b] below meth c H locs (cells + 110) (slots + 2634) (lw_Z below #[Value.ref b] s) (F0 m 1710 ls [])) {τ ν : Nat → Nat} {ρ : Nat → Nat → Nat} {L : List Nat} {f : Nat → va_E} {H : Heap} {locs : List Loc} {ls : Array Slot} (hI : lz_I κ xo mo τ ν ρ L f) (hP : va_P (dC, dI) vwCl (va_pl L f) H) (hD : va_D (fun q : Nat => s.heap.size ≤ q) (va_pl L f)) (hS : va_S (fun q : Nat => s.heap.size ≤ q) s.heap H locs) (hl : lv_has ls 4 [(0, .ref b), (1, .ref xo), (2, .ref mo), (3, .int i)]) : W p l e room_1 s m #[Value.ref b] below meth c H locs cells slots (lw_Z below #[Value.ref b] s) (F0 m 27 ls []) := by
  obtain ⟨hx, hb, hr, hml, hown, hts, hX, hbl, hlocks, hgv⟩ := id C0
  have hown : s.vm.findClass RL = some m.cls := hown
  have hA : ∀ q : Nat, s.heap.size ≤ q → (fun q : Nat => s.heap.size ≤ q) q := fun _ h => h
  have hbA : ¬ (fun q : Nat => s.heap.size ≤ q) b := Nat.not_le.mpr hbl
  refine lv_aload_n hx hb dL_law_27 rfl (lv_at hl 0 rfl) ?_
  refine lv_iload_n hx hb dL_law_28 rfl (lv_at hl 3 rfl) ?_
  refine va_sld hx hb hX hbl hbA hS (vp_in_iff.mpr ⟨by omega, by omega⟩) dL_law_29 ?_
  refine lv_bipush (v := 63) hx hb dL_law_30 (by decide) ?_
  refine lv_iand hx hb dL_law_32 ?_
  refine lv_topi (fun z3 ez3 => ?_)
  rcases zi_sw z3 0 39 with h1 | h1
  · refine lv_tableOut (tgt := 1710) hx hb dL_law_33 h1 (by decide) ?_
    refine tp_widen (cells + 110) (slots + 2634) (by omega) (by omega) ?_
    exact kk _ _ _ _ _ _ _ _ hI hP hD hS hl
  · rcases (show z3.toInt = 0 ∨ z3.toInt = 1 ∨ z3.toInt = 2 ∨ z3.toInt = 3 ∨ z3.toInt = 4 ∨ z3.toInt = 5 ∨ z3.toInt = 6 ∨ z3.toInt = 7 ∨ z3.toInt = 8 ∨ z3.toInt = 9 ∨ z3.toInt = 10 ∨ z3.toInt = 11 ∨ z3.toInt = 12 ∨ z3.toInt = 13 ∨ z3.toInt = 14 ∨ z3.toInt = 15 ∨ z3.toInt = 16 ∨ z3.toInt = 17 ∨ z3.toInt = 18 ∨ z3.toInt = 19 ∨ z3.toInt = 20 ∨ z3.toInt = 21 ∨ z3.toInt = 22 ∨ z3.toInt = 23 ∨ z3.toInt = 24 ∨ z3.toInt = 25 ∨ z3.toInt = 26 ∨ z3.toInt = 27 ∨ z3.toInt = 28 ∨ z3.toInt = 29 ∨ z3.toInt = 30 ∨ z3.toInt = 31 ∨ z3.toInt = 32 ∨ z3.toInt = 33 ∨ z3.toInt = 34 ∨ z3.toInt = 35 ∨ z3.toInt = 36 ∨ z3.toInt = 37 ∨ z3.toInt = 38 ∨ z3.toInt = 39 by omega) with h1k | h1k | h1k | h1k | h1k | h1k | h1k | h1k | h1k | h1k | h1k | h1k | h1k | h1k | h1k | h1k | h1k | h1k | h1k | h1k | h1k | h1k | h1k | h1k | h1k | h1k | h1k | h1k | h1k | h1k | h1k | h1k | h1k | h1k | h1k | h1k | h1k | h1k | h1k | h1k
    · refine lv_tableIn (tgt := 208) hx hb dL_law_33 (by omega) (by omega) (by rw [h1k]; rfl) (by decide) ?_
      exact law_case_0 C0 hN9 hN hZ hK hk hi hc hs kk hI hP hD hS hl
    · refine lv_tableIn (tgt := 261) hx hb dL_law_33 (by omega) (by omega) (by rw [h1k]; rfl) (by decide) ?_
      exact law_case_1 C0 hN9 hN hZ hK hk hi hc hs kk hI hP hD hS hl
    · refine lv_tableIn (tgt := 304) hx hb dL_law_33 (by omega) (by omega) (by rw [h1k]; rfl) (by decide) ?_
      exact law_case_2 C0 hN9 hN hZ hK hk hi hc hs kk hI hP hD hS hl
    · refine lv_tableIn (tgt := 373) hx hb dL_law_33 (by omega) (by omega) (by rw [h1k]; rfl) (by decide) ?_
      exact law_case_3 C0 hN9 hN hZ hK hk hi hc hs kk hI hP hD hS hl
    · refine lv_tableIn (tgt := 406) hx hb dL_law_33 (by omega) (by omega) (by rw [h1k]; rfl) (by decide) ?_
      exact law_case_4 C0 hN9 hN hZ hK hk hi hc hs kk hI hP hD hS hl
    · refine lv_tableIn (tgt := 439) hx hb dL_law_33 (by omega) (by omega) (by rw [h1k]; rfl) (by decide) ?_
      exact law_case_5 C0 hN9 hN hZ hK hk hi hc hs kk hI hP hD hS hl
    · refine lv_tableIn (tgt := 492) hx hb dL_law_33 (by omega) (by omega) (by rw [h1k]; rfl) (by decide) ?_
      exact law_case_6 C0 hN9 hN hZ hK hk hi hc hs kk hI hP hD hS hl
    · refine lv_tableIn (tgt := 535) hx hb dL_law_33 (by omega) (by omega) (by rw [h1k]; rfl) (by decide) ?_
      exact law_case_7 C0 hN9 hN hZ hK hk hi hc hs kk hI hP hD hS hl
    · refine lv_tableIn (tgt := 568) hx hb dL_law_33 (by omega) (by omega) (by rw [h1k]; rfl) (by decide) ?_
      exact law_case_8 C0 hN9 hN hZ hK hk hi hc hs kk hI hP hD hS hl
    · refine lv_tableIn (tgt := 611) hx hb dL_law_33 (by omega) (by omega) (by rw [h1k]; rfl) (by decide) ?_
      exact law_case_9 C0 hN9 hN hZ hK hk hi hc hs kk hI hP hD hS hl
    · refine lv_tableIn (tgt := 634) hx hb dL_law_33 (by omega) (by omega) (by rw [h1k]; rfl) (by decide) ?_
      exact law_case_10 C0 hN9 hN hZ hK hk hi hc hs kk hI hP hD hS hl
    · refine lv_tableIn (tgt := 667) hx hb dL_law_33 (by omega) (by omega) (by rw [h1k]; rfl) (by decide) ?_
      exact law_case_11 C0 hN9 hN hZ hK hk hi hc hs kk hI hP hD hS hl
    · refine lv_tableIn (tgt := 700) hx hb dL_law_33 (by omega) (by omega) (by rw [h1k]; rfl) (by decide) ?_
      exact law_case_12 C0 hN9 hN hZ hK hk hi hc hs kk hI hP hD hS hl
    · refine lv_tableIn (tgt := 733) hx hb dL_law_33 (by omega) (by omega) (by rw [h1k]; rfl) (by decide) ?_
      exact law_case_13 C0 hN9 hN hZ hK hk hi hc hs kk hI hP hD hS hl
    · refine lv_tableIn (tgt := 756) hx hb dL_law_33 (by omega) (by omega) (by rw [h1k]; rfl) (by decide) ?_
      exact law_case_14 C0 hN9 hN hZ hK hk hi hc hs kk hI hP hD hS hl
    · refine lv_tableIn (tgt := 789) hx hb dL_law_33 (by omega) (by omega) (by rw [h1k]; rfl) (by decide) ?_
      exact law_case_15 C0 hN9 hN hZ hK hk hi hc hs kk hI hP hD hS hl
    · refine lv_tableIn (tgt := 822) hx hb dL_law_33 (by omega) (by omega) (by rw [h1k]; rfl) (by decide) ?_
      exact law_case_16 C0 hN9 hN hZ hK hk hi hc hs kk hI hP hD hS hl
    · refine lv_tableIn (tgt := 855) hx hb dL_law_33 (by omega) (by omega) (by rw [h1k]; rfl) (by decide) ?_
      exact law_case_17 C0 hN9 hN hZ hK hk hi hc hs kk hI hP hD hS hl
    · refine lv_tableIn (tgt := 898) hx hb dL_law_33 (by omega) (by omega) (by rw [h1k]; rfl) (by decide) ?_
      exact law_case_18 C0 hN9 hN hZ hK hk hi hc hs kk hI hP hD hS hl
    · refine lv_tableIn (tgt := 941) hx hb dL_law_33 (by omega) (by omega) (by rw [h1k]; rfl) (by decide) ?_
      exact law_case_19 C0 hN9 hN hZ hK hk hi hc hs kk hI hP hD hS hl
    · refine lv_tableIn (tgt := 974) hx hb dL_law_33 (by omega) (by omega) (by rw [h1k]; rfl) (by decide) ?_
      exact law_case_20 C0 hN9 hN hZ hK hk hi hc hs kk hI hP hD hS hl
    · refine lv_tableIn (tgt := 1037) hx hb dL_law_33 (by omega) (by omega) (by rw [h1k]; rfl) (by decide) ?_
      exact law_case_21 C0 hN9 hN hZ hK hk hi hc hs kk hI hP hD hS hl
    · refine lv_tableIn (tgt := 1060) hx hb dL_law_33 (by omega) (by omega) (by rw [h1k]; rfl) (by decide) ?_
      exact law_case_22 C0 hN9 hN hZ hK hk hi hc hs kk hI hP hD hS hl
    · refine lv_tableIn (tgt := 1073) hx hb dL_law_33 (by omega) (by omega) (by rw [h1k]; rfl) (by decide) ?_
      exact law_case_23 C0 hN9 hN hZ hK hk hi hc hs kk hI hP hD hS hl
    · refine lv_tableIn (tgt := 1086) hx hb dL_law_33 (by omega) (by omega) (by rw [h1k]; rfl) (by decide) ?_
      exact law_case_24 C0 hN9 hN hZ hK hk hi hc hs kk hI hP hD hS hl
    · refine lv_tableIn (tgt := 1139) hx hb dL_law_33 (by omega) (by omega) (by rw [h1k]; rfl) (by decide) ?_
      exact law_case_25 C0 hN9 hN hZ hK hk hi hc hs kk hI hP hD hS hl
    · refine lv_tableIn (tgt := 1172) hx hb dL_law_33 (by omega) (by omega) (by rw [h1k]; rfl) (by decide) ?_
      exact law_case_26 C0 hN9 hN hZ hK hk hi hc hs kk hI hP hD hS hl
    · refine lv_tableIn (tgt := 1205) hx hb dL_law_33 (by omega) (by omega) (by rw [h1k]; rfl) (by decide) ?_
      exact law_case_27 C0 hN9 hN hZ hK hk hi hc hs kk hI hP hD hS hl
    · refine lv_tableIn (tgt := 1258) hx hb dL_law_33 (by omega) (by omega) (by rw [h1k]; rfl) (by decide) ?_
      exact law_case_28 C0 hN9 hN hZ hK hk hi hc hs kk hI hP hD hS hl
    · refine lv_tableIn (tgt := 1291) hx hb dL_law_33 (by omega) (by omega) (by rw [h1k]; rfl) (by decide) ?_
      exact law_case_29 C0 hN9 hN hZ hK hk hi hc hs kk hI hP hD hS hl
    · refine lv_tableIn (tgt := 1354) hx hb dL_law_33 (by omega) (by omega) (by rw [h1k]; rfl) (by decide) ?_
      exact law_case_30 C0 hN9 hN hZ hK hk hi hc hs kk hI hP hD hS hl
    · refine lv_tableIn (tgt := 1397) hx hb dL_law_33 (by omega) (by omega) (by rw [h1k]; rfl) (by decide) ?_
      exact law_case_31 C0 hN9 hN hZ hK hk hi hc hs kk hI hP hD hS hl
    · refine lv_tableIn (tgt := 1496) hx hb dL_law_33 (by omega) (by omega) (by rw [h1k]; rfl) (by decide) ?_
      exact law_case_32 C0 hN9 hN hZ hK hk hi hc hs kk hI hP hD hS hl
    · refine lv_tableIn (tgt := 1509) hx hb dL_law_33 (by omega) (by omega) (by rw [h1k]; rfl) (by decide) ?_
      exact law_case_33 C0 hN9 hN hZ hK hk hi hc hs kk hI hP hD hS hl
    · refine lv_tableIn (tgt := 1532) hx hb dL_law_33 (by omega) (by omega) (by rw [h1k]; rfl) (by decide) ?_
      exact law_case_34 C0 hN9 hN hZ hK hk hi hc hs kk hI hP hD hS hl
    · refine lv_tableIn (tgt := 1565) hx hb dL_law_33 (by omega) (by omega) (by rw [h1k]; rfl) (by decide) ?_
      exact law_case_35 C0 hN9 hN hZ hK hk hi hc hs kk hI hP hD hS hl
    · refine lv_tableIn (tgt := 1628) hx hb dL_law_33 (by omega) (by omega) (by rw [h1k]; rfl) (by decide) ?_
      exact law_case_36 C0 hN9 hN hZ hK hk hi hc hs kk hI hP hD hS hl
    · refine lv_tableIn (tgt := 1651) hx hb dL_law_33 (by omega) (by omega) (by rw [h1k]; rfl) (by decide) ?_
      exact law_case_37 C0 hN9 hN hZ hK hk hi hc hs kk hI hP hD hS hl
    · refine lv_tableIn (tgt := 1674) hx hb dL_law_33 (by omega) (by omega) (by rw [h1k]; rfl) (by decide) ?_
      exact law_case_38 C0 hN9 hN hZ hK hk hi hc hs kk hI hP hD hS hl
    · refine lv_tableIn (tgt := 1697) hx hb dL_law_33 (by omega) (by omega) (by rw [h1k]; rfl) (by decide) ?_
      exact law_case_39 C0 hN9 hN hZ hK hk hi hc hs kk hI hP hD hS hl
set_option maxHeartbeats 8000000 in
set_option maxRecDepth 100000 in
theorem law_main {p : Program} {l : Launch} {e : Env} {s : State} {m : MethodId} {below : List Frame} {meth : Method} {c : Code} {b N9 : Nat} {xs : Nat → Int32} {dC : Nat → ClassId} {dI : Nat → Nat → Nat} {κ : Nat → ClassId} {adK adV : Nat → Nat} {zv : Option Nat} {xo mo : Nat} (C0 : lw_At p s m meth c b N9 xs) (hN9 : N9 ≤ 4608) (hN : nz_ok s) (hZ : pw_Z adK adV zv (fun q : Nat => s.heap.size ≤ q) s s.heap) (hK : va_K (dC, dI) vwCl (tp_K κ) s) (CC SS : Nat) (hCC : CC ≤ 1000) (hSS : SS ≤ 100000) : ∀ (n k : Nat) {i : Int32} {τ ν : Nat → Nat} {ρ : Nat → Nat → Nat} {L : List Nat} {f : Nat → va_E} {H : Heap} {locs : List Loc} {ls : Array Slot}, 512 ≤ k + n → k ≤ 512 → i.toInt = 9 * (k : Int) → lz_I κ xo mo τ ν ρ L f → va_P (dC, dI) vwCl (va_pl L f) H → va_D (fun q : Nat => s.heap.size ≤ q) (va_pl L f) → va_S (fun q : Nat => s.heap.size ≤ q) s.heap H locs → lv_has ls 4 [(0, .ref b), (1, .ref xo), (2, .ref mo), (3, .int i)] → W p l e room_1 s m #[Value.ref b] below meth c H locs (CC + 110 * k) (SS + 2634 * k) (lw_Z below #[Value.ref b] s) (F0 m 18 ls []) := by
  intro n
  induction n with
  | zero =>
    intro k i τ ν ρ L f H locs ls h1 h2 hi hI hP hD hS hl
    exact law_head C0 hN9 hN hZ hK hi (by omega) (by omega) (by omega) hI hP hD hS hl (fun h => by exfalso; omega)
  | succ n ih =>
    intro k i τ ν ρ L f H locs ls h1 h2 hi hI hP hD hS hl
    refine law_head C0 hN9 hN hZ hK hi (by omega) (by omega) (by omega) hI hP hD hS hl (fun hk => ?_)
    refine law_body C0 hN9 hN hZ hK hk hi (by omega) (by omega) ?_ hI hP hD hS hl
    intro τ ν ρ L f H locs ls hI hP hD hS hl
    obtain ⟨hx, hb, hr, hml, hown, hts, hX, hbl, hlocks, hgv⟩ := id C0
    obtain ⟨i2, ei2⟩ : ∃ y : Int32, y = i + 9 := ⟨_, rfl⟩
    refine lv_iinc (v := i2) (lv' := [(3, .int i2), (0, .ref b), (1, .ref xo), (2, .ref mo)]) hx hb dL_law_1710 hl (k := 3) rfl (by rw [ei2]; rfl) (by decide) rfl (fun ls hl => ?_)
    refine lv_goto (tgt := 18) hx hb dL_law_1713 (by decide) ?_
    have hi2 : i2.toInt = 9 * ((k + 1 : Nat) : Int) := by
      have q9 := zi_add ei2 hi (show (9 : Int32).toInt = 9 from rfl) (by omega) (by omega)
      omega
    refine tp_widen (CC + 110 * (k + 1)) (SS + 2634 * (k + 1)) (by omega) (by omega) ?_
    exact ih (k + 1) (by omega) (by omega) hi2 hI hP hD hS (lv_sub hl [1, 2, 3, 0] rfl)

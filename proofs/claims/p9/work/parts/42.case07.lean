section
set_option maxHeartbeats 8000000 in
set_option maxRecDepth 100000 in
theorem law_case_33 {p : Program} {l : Launch} {e : Env} {s : State} {m : MethodId} {below : List Frame} {meth : Method} {c : Code} {b N9 : Nat} {xs : Nat → Int32} {dC : Nat → ClassId} {dI : Nat → Nat → Nat} {κ : Nat → ClassId} {adK adV : Nat → Nat} {zv : Option Nat} {xo mo : Nat} {k cells slots : Nat} {i : Int32} (C0 : lw_At p s m meth c b N9 xs) (hN9 : N9 ≤ 4608) (hN : nz_ok s) (hZ : pw_Z adK adV zv (fun q : Nat => s.heap.size ≤ q) s s.heap) (hK : va_K (dC, dI) vwCl (tp_K κ) s) (hk : 9 * k + 9 ≤ N9) (hi : i.toInt = 9 * (k : Int)) (hc : cells + 110 ≤ 600000) (hs : slots + 2634 ≤ 7302249) (kk : ∀ (τ ν : Nat → Nat) (ρ : Nat → Nat → Nat) (L : List Nat) (f : Nat → va_E) (H : Heap) (locs : List Loc) (ls : Array Slot), lz_I κ xo mo τ ν ρ L f → va_P (dC, dI) vwCl (va_pl L f) H → va_D (fun q : Nat => s.heap.size ≤ q) (va_pl L f) → va_S (fun q : Nat => s.heap.size ≤ q) s.heap H locs → lv_has ls 4 [(0, .ref b), (1, .ref xo), (2, .ref mo), (3, .int i)] → W p l e room_1 s m #[Value.ref b] below meth c H locs (cells + 110) (slots + 2634) (lw_Z below #[Value.ref b] s) (F0 m 1710 ls [])) {τ ν : Nat → Nat} {ρ : Nat → Nat → Nat} {L : List Nat} {f : Nat → va_E} {H : Heap} {locs : List Loc} {ls : Array Slot}  (hI : lz_I κ xo mo τ ν ρ L f) (hP : va_P (dC, dI) vwCl (va_pl L f) H) (hD : va_D (fun q : Nat => s.heap.size ≤ q) (va_pl L f)) (hS : va_S (fun q : Nat => s.heap.size ≤ q) s.heap H locs) (hl : lv_has ls 4 [(0, .ref b), (1, .ref xo), (2, .ref mo), (3, .int i)]) : W p l e room_1 s m #[Value.ref b] below meth c H locs cells slots (lw_Z below #[Value.ref b] s) (F0 m 1509 ls []) := by
  obtain ⟨hx, hb, hr, hml, hown, hts, hX, hbl, hlocks, hgv⟩ := id C0
  have hown : s.vm.findClass RL = some m.cls := hown
  have hA : ∀ q : Nat, s.heap.size ≤ q → (fun q : Nat => s.heap.size ≤ q) q := fun _ h => h
  have hbA : ¬ (fun q : Nat => s.heap.size ≤ q) b := Nat.not_le.mpr hbl
  obtain ⟨hG, hT, hxo, hmo, hJ, hIM, ⟨l0, l1, l2, l3, l4, l5, l6⟩, hPm⟩ := hI
  have hrow := (tpg_13 hG hmo).1; have hims := (tpg_13 hG hmo).2.1; have hkep := (tpg_13 hG hmo).2.2.1
  refine lv_aload_n hx hb dL_law_1509 rfl (lv_at hl 1 rfl) ?_
  refine lv_aload_n hx hb dL_law_1510 rfl (lv_at hl 0 rfl) ?_
  refine lv_iload_n hx hb dL_law_1511 rfl (lv_at hl 3 rfl) ?_
  refine lv_iconst (v := 1) hx hb dL_law_1512 (by decide) ?_
  refine lv_iadd hx hb dL_law_1513 ?_
  refine lv_topi (fun z1 ez1 => ?_)
  have iz1 : z1.toInt = i.toInt + 1 := zi_add ez1 rfl (show (1 : Int32).toInt = 1 from rfl) (by omega) (by omega)
  refine va_sld hx hb hX hbl hbA hS (vp_in_iff.mpr ⟨by omega, by omega⟩) dL_law_1514 ?_
  refine lv_topi (fun y2 ey2 => ?_)
  obtain rfl : y2 = xs (9 * k + 1) := ey2.trans (congrArg xs (show z1.toInt.toNat = 9 * k + 1 by omega))
  refine tgk_12 hG hxo (fun y3 y3l y4 y5 y6 y7 y8 y9a y9b y9c => ?_)
  refine tpk_12 hT hxo (fun o10_x6 hf_o10 => ?_)
  refine tpk_pos (tp_in hG hxo (by decide)) hf_o10 (fun q11 eq11 => ?_)
  have hFc := tp_fr hD hS hA
  obtain ⟨R_16, hRe_16⟩ : ∃ R, R = mo_R (mo_i (f (ρ mo 2))) := ⟨_, rfl⟩; rw [← hRe_16] at l0 l1 l2 l3 l4 l5 l6
  refine va_calll (va_runV (As := [.int (xs (9 * k + 1))]) (rest := []) ⟨hx, hb, hml, hown, hts⟩ (t_X11_best l dC dI _ (mo_O κ mo_n) κ τ ν ρ L f hG hT xo (xs (9 * k + 1)) hxo) (cwV 1 hts gz_X11_best rfl rfl rfl ⟨rfl, pd_X11_best⟩ ⟨Nat.le_of_ble_eq_true rfl, Nat.le_of_ble_eq_true rfl⟩) ⟨pz_blind, va_recv hK hP (ci := 11) (q0 := q11) rfl eq11, pz_pre hP hK hD hN⟩ rfl rfl hl.1 rfl (lv_room (Nat.le_of_ble_eq_true rfl)) dL_law_1515 ⟨by show _ ≤ 600000; omega, by show _ ≤ 7302249; omega⟩) hS (fun q _ h => hFc q h) hFc (fun r12 f14 t H1 locs ht hvm hw13 hB hz1 hk1 hS => ?_)
  refine tn_4 hw13 (fun hT1 hF15 hw13r hw13p => ?_); clear hw13
  obtain ⟨hw_t, hw_l⟩ := (tpg_12 hG hxo).1
  obtain ⟨-, -, -, -, -, -, ⟨ht13, -, hl13⟩, ⟨ht14, -, hl14⟩, ⟨ht15, -, -, hl15⟩, -, -, ⟨ht18, -, -, hl18⟩⟩ := tpg_11 hG hw_t
  have hJ : mo_RI (-1) 0 (mo_R (mo_i (f14 (ρ mo 2)))) := by rw [hF15 _ (by rw [hrow]; decide)]; exact hJ
  have hIM : mo_IM (mo_R (mo_i (f14 (ρ mo 3)))) := by rw [hF15 _ (by rw [hims]; decide)]; exact hIM
  have hXE : tp_X τ ρ (fun n => False) f f14 := tp_X.of hF15 (by decide)
  have m0 : tp_fld (f14 (ρ xo 0)) 0 = R_16 (11) := (congrArg (fun q => tp_fld q 0) (hXE (ρ xo 0) (Or.inr (Or.inr hw_t)) (fun q9 => q9))).trans l0
  have m1 : tp_fld (f14 (ρ xo 0)) 4 = R_16 (0) := (congrArg (fun q => tp_fld q 4) (hXE (ρ xo 0) (Or.inr (Or.inr hw_t)) (fun q9 => q9))).trans l1
  have m2 : tp_fld (f14 (ρ xo 0)) 5 = R_16 (1) := (congrArg (fun q => tp_fld q 5) (hXE (ρ xo 0) (Or.inr (Or.inr hw_t)) (fun q9 => q9))).trans l2
  have m3 : tp_fld (f14 (ρ (ρ xo 0) 13)) 3 = R_16 (3) := (congrArg (fun q => tp_fld q 3) (hXE (ρ (ρ xo 0) 13) (Or.inr (Or.inl ht13)) (fun q9 => q9))).trans l3
  have m4 : tp_fld (f14 (ρ (ρ xo 0) 14)) 3 = R_16 (7) := (congrArg (fun q => tp_fld q 3) (hXE (ρ (ρ xo 0) 14) (Or.inr (Or.inl ht14)) (fun q9 => q9))).trans l4
  have m5 : tp_fld (f14 (ρ (ρ xo 0) 15)) 2 = R_16 (6) := (congrArg (fun q => tp_fld q 2) (hXE (ρ (ρ xo 0) 15) (Or.inl ht15) (fun q9 => q9))).trans l5
  have m6 : tp_fld (f14 (ρ (ρ xo 0) 18)) 2 = R_16 (10) := (congrArg (fun q => tp_fld q 2) (hXE (ρ (ρ xo 0) 18) (Or.inl ht18) (fun q9 => q9))).trans l6
  have hPm := lz_P.keep hG hT hxo hXE (fun n q9 => by have q8 : False := q9; first | exact q8.elim | omega) (hF15 _ (by rw [(tpg_12 hG hxo).2.1]; decide)) (by rw [hF15 _ (by rw [hims]; decide)]) (by rw [hF15 _ (by rw [hkep]; decide)]) hPm
  have l0 := m0
  have l1 := m1
  have l2 := m2
  have l3 := m3
  have l4 := m4
  have l5 := m5
  have l6 := m6
  have hRe : mo_R (mo_i (f14 (ρ mo 2))) = R_16 := by rw [hF15 _ (by rw [hrow]; decide)]; exact hRe_16.symm
  have hT := hT1
  have hP := hB.1; rw [ht] at hP; have hD := tp_ad f14 hD; clear hB hFc hz1 hk1; subst ht; generalize t.heap = H at hP hS ⊢
  refine lv_pop2_2 hx hb dL_law_1518 rfl ?_
  refine lv_aload_n hx hb dL_law_1519 rfl (lv_at hl 2 rfl) ?_
  refine lv_aload_n hx hb dL_law_1520 rfl (lv_at hl 0 rfl) ?_
  refine lv_iload_n hx hb dL_law_1521 rfl (lv_at hl 3 rfl) ?_
  refine lv_iconst (v := 1) hx hb dL_law_1522 (by decide) ?_
  refine lv_iadd hx hb dL_law_1523 ?_
  refine lv_topi (fun z17 ez17 => ?_)
  have iz17 : z17.toInt = i.toInt + 1 := zi_add ez17 rfl (show (1 : Int32).toInt = 1 from rfl) (by omega) (by omega)
  refine va_sld hx hb hX hbl hbA hS (vp_in_iff.mpr ⟨by omega, by omega⟩) dL_law_1524 ?_
  refine lv_topi (fun y18 ey18 => ?_)
  obtain rfl : y18 = xs (9 * k + 1) := ey18.trans (congrArg xs (show z17.toInt.toNat = 9 * k + 1 by omega))
  refine tgk_13 hG hmo (fun y19 y20 y21 y22 y23 y24 y25 y26 y27 y28 y29 y30 y31 y32 y33 y34 y35 y36 y37 y38 y39 y40 y41 y42 y43 => ?_)
  refine tpk_13 hT hmo (fun o44_x0 o44_x1 o44_x7 o44_x9 o44_x10 o44_x11 o44_x12 o44_x13 o44_x14 o44_x15 o44_x16 o44_x17 o44_x18 o44_x19 o44_x20 o44_x22 o44_x25 o44_x28 o44_x29 o44_x32 o44_x33 o44_x34 o44_x35 o44_x36 o44_x37 o44_x38 o44_x47 o44_x48 hf_o44 ro44_0 ro44_1 ro44_2 ro44_3 ro44_4 ro44_5 ro44_6 ro44_7 ro44_8 ro44_9 ro44_10 ro44_11 ro44_12 ro44_13 ro44_14 => ?_)
  refine tpk_pos (tp_in hG hmo (by decide)) hf_o44 (fun q45 eq45 => ?_)
  have hFc := tp_fr hD hS hA
  have hRe_50 : R_16 = mo_R (mo_i (f14 (ρ mo 2))) := hRe.symm
  refine va_calll (va_runV (As := [.int (xs (9 * k + 1))]) (rest := []) ⟨hx, hb, hml, hown, hts⟩ (t_X12_best l dC dI _ κ mo_n τ ν ρ L f14 hG hT mo (xs (9 * k + 1)) hmo hJ) (cwV 1 hts gz_X12_best rfl rfl rfl ⟨rfl, pd_X12_best⟩ ⟨Nat.le_of_ble_eq_true rfl, Nat.le_of_ble_eq_true rfl⟩) ⟨pz_blind, va_recv hK hP (ci := 12) (q0 := q45) rfl eq45, pz_pre hP hK hD hN⟩ rfl rfl hl.1 rfl (lv_room (Nat.le_of_ble_eq_true rfl)) dL_law_1525 ⟨by show _ ≤ 600000; omega, by show _ ≤ 7302249; omega⟩) hS (fun q _ h => hFc q h) hFc (fun r46 f48 t H1 locs ht hvm hw47 hB hz1 hk1 hS => ?_)
  refine tn_4 hw47 (fun hT1 hF49 hw47r hw47p => ?_); clear hw47
  obtain ⟨hw_t, hw_l⟩ := (tpg_12 hG hxo).1
  obtain ⟨-, -, -, -, -, -, ⟨ht13, -, hl13⟩, ⟨ht14, -, hl14⟩, ⟨ht15, -, -, hl15⟩, -, -, ⟨ht18, -, -, hl18⟩⟩ := tpg_11 hG hw_t
  have hJ : mo_RI (-1) 0 (mo_R (mo_i (f48 (ρ mo 2)))) := by rw [hF49 _ (by rw [hrow]; decide)]; exact hJ
  have hRn : R_16 = mo_R (mo_i (f48 (ρ mo 2))) := by rw [hF49 _ (by rw [hrow]; decide)]; exact hRe_50
  have hIM : mo_IM (mo_R (mo_i (f48 (ρ mo 3)))) := by rw [hF49 _ (by rw [hims]; decide)]; exact hIM
  have m0 : tp_fld (f48 (ρ xo 0)) 0 = R_16 (11) := ((congrArg (fun q => tp_fld q 0) (hF49 (ρ xo 0) (by rw [hw_t]; decide))).trans l0)
  have m1 : tp_fld (f48 (ρ xo 0)) 4 = R_16 (0) := ((congrArg (fun q => tp_fld q 4) (hF49 (ρ xo 0) (by rw [hw_t]; decide))).trans l1)
  have m2 : tp_fld (f48 (ρ xo 0)) 5 = R_16 (1) := ((congrArg (fun q => tp_fld q 5) (hF49 (ρ xo 0) (by rw [hw_t]; decide))).trans l2)
  have m3 : tp_fld (f48 (ρ (ρ xo 0) 13)) 3 = R_16 (3) := ((congrArg (fun q => tp_fld q 3) (hF49 (ρ (ρ xo 0) 13) (by rw [ht13]; decide))).trans l3)
  have m4 : tp_fld (f48 (ρ (ρ xo 0) 14)) 3 = R_16 (7) := ((congrArg (fun q => tp_fld q 3) (hF49 (ρ (ρ xo 0) 14) (by rw [ht14]; decide))).trans l4)
  have m5 : tp_fld (f48 (ρ (ρ xo 0) 15)) 2 = R_16 (6) := ((congrArg (fun q => tp_fld q 2) (hF49 (ρ (ρ xo 0) 15) (by rw [ht15]; decide))).trans l5)
  have m6 : tp_fld (f48 (ρ (ρ xo 0) 18)) 2 = R_16 (10) := ((congrArg (fun q => tp_fld q 2) (hF49 (ρ (ρ xo 0) 18) (by rw [ht18]; decide))).trans l6)
  have l0 := m0
  have l1 := m1
  have l2 := m2
  have l3 := m3
  have l4 := m4
  have l5 := m5
  have l6 := m6
  rw [hRn] at l0 l1 l2 l3 l4 l5 l6
  have hPm := lz_P.keep hG hT hxo (tp_X.of (E := fun _ => False) hF49 (by decide)) (fun n q9 => False.elim q9) (hF49 _ (by rw [(tpg_12 hG hxo).2.1]; decide)) (by rw [hF49 _ (by rw [hims]; decide)]) (by rw [hF49 _ (by rw [hkep]; decide)]) hPm
  have hT := hT1
  have hP := hB.1; rw [ht] at hP; have hD := tp_ad f48 hD; clear hB hFc hz1 hk1; subst ht; generalize t.heap = H at hP hS ⊢
  refine lv_pop2_2 hx hb dL_law_1528 rfl ?_
  refine lv_goto (tgt := 1710) hx hb dL_law_1529 (by decide) ?_
  refine tp_widen (cells + 110) (slots + 2634) (by omega) (by omega) ?_
  exact kk τ ν ρ L f48 _ _ _ ⟨hG, hT, hxo, hmo, hJ, hIM, ⟨l0, l1, l2, l3, l4, l5, l6⟩, hPm⟩ hP hD hS (lv_sub hl [0, 1, 2, 3] rfl)
set_option maxHeartbeats 8000000 in
set_option maxRecDepth 100000 in
theorem law_case_34 {p : Program} {l : Launch} {e : Env} {s : State} {m : MethodId} {below : List Frame} {meth : Method} {c : Code} {b N9 : Nat} {xs : Nat → Int32} {dC : Nat → ClassId} {dI : Nat → Nat → Nat} {κ : Nat → ClassId} {adK adV : Nat → Nat} {zv : Option Nat} {xo mo : Nat} {k cells slots : Nat} {i : Int32} (C0 : lw_At p s m meth c b N9 xs) (hN9 : N9 ≤ 4608) (hN : nz_ok s) (hZ : pw_Z adK adV zv (fun q : Nat => s.heap.size ≤ q) s s.heap) (hK : va_K (dC, dI) vwCl (tp_K κ) s) (hk : 9 * k + 9 ≤ N9) (hi : i.toInt = 9 * (k : Int)) (hc : cells + 110 ≤ 600000) (hs : slots + 2634 ≤ 7302249) (kk : ∀ (τ ν : Nat → Nat) (ρ : Nat → Nat → Nat) (L : List Nat) (f : Nat → va_E) (H : Heap) (locs : List Loc) (ls : Array Slot), lz_I κ xo mo τ ν ρ L f → va_P (dC, dI) vwCl (va_pl L f) H → va_D (fun q : Nat => s.heap.size ≤ q) (va_pl L f) → va_S (fun q : Nat => s.heap.size ≤ q) s.heap H locs → lv_has ls 4 [(0, .ref b), (1, .ref xo), (2, .ref mo), (3, .int i)] → W p l e room_1 s m #[Value.ref b] below meth c H locs (cells + 110) (slots + 2634) (lw_Z below #[Value.ref b] s) (F0 m 1710 ls [])) {τ ν : Nat → Nat} {ρ : Nat → Nat → Nat} {L : List Nat} {f : Nat → va_E} {H : Heap} {locs : List Loc} {ls : Array Slot}  (hI : lz_I κ xo mo τ ν ρ L f) (hP : va_P (dC, dI) vwCl (va_pl L f) H) (hD : va_D (fun q : Nat => s.heap.size ≤ q) (va_pl L f)) (hS : va_S (fun q : Nat => s.heap.size ≤ q) s.heap H locs) (hl : lv_has ls 4 [(0, .ref b), (1, .ref xo), (2, .ref mo), (3, .int i)]) : W p l e room_1 s m #[Value.ref b] below meth c H locs cells slots (lw_Z below #[Value.ref b] s) (F0 m 1532 ls []) := by
  obtain ⟨hx, hb, hr, hml, hown, hts, hX, hbl, hlocks, hgv⟩ := id C0
  have hown : s.vm.findClass RL = some m.cls := hown
  have hA : ∀ q : Nat, s.heap.size ≤ q → (fun q : Nat => s.heap.size ≤ q) q := fun _ h => h
  have hbA : ¬ (fun q : Nat => s.heap.size ≤ q) b := Nat.not_le.mpr hbl
  obtain ⟨hG, hT, hxo, hmo, hJ, hIM, ⟨l0, l1, l2, l3, l4, l5, l6⟩, hPm⟩ := hI
  have hrow := (tpg_13 hG hmo).1; have hims := (tpg_13 hG hmo).2.1; have hkep := (tpg_13 hG hmo).2.2.1
  refine lv_aload_n hx hb dL_law_1532 rfl (lv_at hl 1 rfl) ?_
  refine lv_aload_n hx hb dL_law_1533 rfl (lv_at hl 0 rfl) ?_
  refine lv_iload_n hx hb dL_law_1534 rfl (lv_at hl 3 rfl) ?_
  refine lv_iconst (v := 1) hx hb dL_law_1535 (by decide) ?_
  refine lv_iadd hx hb dL_law_1536 ?_
  refine lv_topi (fun z1 ez1 => ?_)
  have iz1 : z1.toInt = i.toInt + 1 := zi_add ez1 rfl (show (1 : Int32).toInt = 1 from rfl) (by omega) (by omega)
  refine va_sld hx hb hX hbl hbA hS (vp_in_iff.mpr ⟨by omega, by omega⟩) dL_law_1537 ?_
  refine lv_topi (fun y2 ey2 => ?_)
  obtain rfl : y2 = xs (9 * k + 1) := ey2.trans (congrArg xs (show z1.toInt.toNat = 9 * k + 1 by omega))
  refine lv_aload_n hx hb dL_law_1538 rfl (lv_at hl 0 rfl) ?_
  refine lv_iload_n hx hb dL_law_1539 rfl (lv_at hl 3 rfl) ?_
  refine lv_iconst (v := 2) hx hb dL_law_1540 (by decide) ?_
  refine lv_iadd hx hb dL_law_1541 ?_
  refine lv_topi (fun z3 ez3 => ?_)
  have iz3 : z3.toInt = i.toInt + 2 := zi_add ez3 rfl (show (2 : Int32).toInt = 2 from rfl) (by omega) (by omega)
  refine va_sld hx hb hX hbl hbA hS (vp_in_iff.mpr ⟨by omega, by omega⟩) dL_law_1542 ?_
  refine lv_topi (fun y4 ey4 => ?_)
  obtain rfl : y4 = xs (9 * k + 2) := ey4.trans (congrArg xs (show z3.toInt.toNat = 9 * k + 2 by omega))
  refine tgk_12 hG hxo (fun y5 y5l y6 y7 y8 y9 y10 y11a y11b y11c => ?_)
  refine tpk_12 hT hxo (fun o12_x6 hf_o12 => ?_)
  refine tpk_pos (tp_in hG hxo (by decide)) hf_o12 (fun q13 eq13 => ?_)
  have hFc := tp_fr hD hS hA
  obtain ⟨R_18, hRe_18⟩ : ∃ R, R = mo_R (mo_i (f (ρ mo 2))) := ⟨_, rfl⟩; rw [← hRe_18] at l0 l1 l2 l3 l4 l5 l6
  refine va_calll (va_runV (As := [.int (xs (9 * k + 1)), .int (xs (9 * k + 2))]) (rest := []) ⟨hx, hb, hml, hown, hts⟩ (t_X11_voyage l dC dI _ (mo_O κ mo_n) κ τ ν ρ L f hG hT xo (xs (9 * k + 1)) (xs (9 * k + 2)) hxo) (cwV 2 hts gz_X11_voyage rfl rfl rfl ⟨rfl, pd_X11_voyage⟩ ⟨Nat.le_of_ble_eq_true rfl, Nat.le_of_ble_eq_true rfl⟩) ⟨pz_blind, va_recv hK hP (ci := 11) (q0 := q13) rfl eq13, pz_pre hP hK hD hN⟩ rfl rfl hl.1 rfl (lv_room (Nat.le_of_ble_eq_true rfl)) dL_law_1543 ⟨by show _ ≤ 600000; omega, by show _ ≤ 7302249; omega⟩) hS (fun q _ h => hFc q h) hFc (fun r14 f16 t H1 locs ht hvm hw15 hB hz1 hk1 hS => ?_)
  refine tn_4 hw15 (fun hT1 hF17 hw15r hw15p => ?_); clear hw15
  obtain ⟨hw_t, hw_l⟩ := (tpg_12 hG hxo).1
  obtain ⟨-, -, -, -, -, -, ⟨ht13, -, hl13⟩, ⟨ht14, -, hl14⟩, ⟨ht15, -, -, hl15⟩, -, -, ⟨ht18, -, -, hl18⟩⟩ := tpg_11 hG hw_t
  have hJ : mo_RI (-1) 0 (mo_R (mo_i (f16 (ρ mo 2)))) := by rw [hF17 _ (by rw [hrow]; decide)]; exact hJ
  have hIM : mo_IM (mo_R (mo_i (f16 (ρ mo 3)))) := by rw [hF17 _ (by rw [hims]; decide)]; exact hIM
  have hXE : tp_X τ ρ (fun n => False) f f16 := tp_X.of hF17 (by decide)
  have m0 : tp_fld (f16 (ρ xo 0)) 0 = R_18 (11) := (congrArg (fun q => tp_fld q 0) (hXE (ρ xo 0) (Or.inr (Or.inr hw_t)) (fun q9 => q9))).trans l0
  have m1 : tp_fld (f16 (ρ xo 0)) 4 = R_18 (0) := (congrArg (fun q => tp_fld q 4) (hXE (ρ xo 0) (Or.inr (Or.inr hw_t)) (fun q9 => q9))).trans l1
  have m2 : tp_fld (f16 (ρ xo 0)) 5 = R_18 (1) := (congrArg (fun q => tp_fld q 5) (hXE (ρ xo 0) (Or.inr (Or.inr hw_t)) (fun q9 => q9))).trans l2
  have m3 : tp_fld (f16 (ρ (ρ xo 0) 13)) 3 = R_18 (3) := (congrArg (fun q => tp_fld q 3) (hXE (ρ (ρ xo 0) 13) (Or.inr (Or.inl ht13)) (fun q9 => q9))).trans l3
  have m4 : tp_fld (f16 (ρ (ρ xo 0) 14)) 3 = R_18 (7) := (congrArg (fun q => tp_fld q 3) (hXE (ρ (ρ xo 0) 14) (Or.inr (Or.inl ht14)) (fun q9 => q9))).trans l4
  have m5 : tp_fld (f16 (ρ (ρ xo 0) 15)) 2 = R_18 (6) := (congrArg (fun q => tp_fld q 2) (hXE (ρ (ρ xo 0) 15) (Or.inl ht15) (fun q9 => q9))).trans l5
  have m6 : tp_fld (f16 (ρ (ρ xo 0) 18)) 2 = R_18 (10) := (congrArg (fun q => tp_fld q 2) (hXE (ρ (ρ xo 0) 18) (Or.inl ht18) (fun q9 => q9))).trans l6
  have hPm := lz_P.keep hG hT hxo hXE (fun n q9 => by have q8 : False := q9; first | exact q8.elim | omega) (hF17 _ (by rw [(tpg_12 hG hxo).2.1]; decide)) (by rw [hF17 _ (by rw [hims]; decide)]) (by rw [hF17 _ (by rw [hkep]; decide)]) hPm
  have l0 := m0
  have l1 := m1
  have l2 := m2
  have l3 := m3
  have l4 := m4
  have l5 := m5
  have l6 := m6
  have hRe : mo_R (mo_i (f16 (ρ mo 2))) = R_18 := by rw [hF17 _ (by rw [hrow]; decide)]; exact hRe_18.symm
  have hT := hT1
  have hP := hB.1; rw [ht] at hP; have hD := tp_ad f16 hD; clear hB hFc hz1 hk1; subst ht; generalize t.heap = H at hP hS ⊢
  refine lv_pop2_2 hx hb dL_law_1546 rfl ?_
  refine lv_aload_n hx hb dL_law_1547 rfl (lv_at hl 2 rfl) ?_
  refine lv_aload_n hx hb dL_law_1548 rfl (lv_at hl 0 rfl) ?_
  refine lv_iload_n hx hb dL_law_1549 rfl (lv_at hl 3 rfl) ?_
  refine lv_iconst (v := 1) hx hb dL_law_1550 (by decide) ?_
  refine lv_iadd hx hb dL_law_1551 ?_
  refine lv_topi (fun z19 ez19 => ?_)
  have iz19 : z19.toInt = i.toInt + 1 := zi_add ez19 rfl (show (1 : Int32).toInt = 1 from rfl) (by omega) (by omega)
  refine va_sld hx hb hX hbl hbA hS (vp_in_iff.mpr ⟨by omega, by omega⟩) dL_law_1552 ?_
  refine lv_topi (fun y20 ey20 => ?_)
  obtain rfl : y20 = xs (9 * k + 1) := ey20.trans (congrArg xs (show z19.toInt.toNat = 9 * k + 1 by omega))
  refine lv_aload_n hx hb dL_law_1553 rfl (lv_at hl 0 rfl) ?_
  refine lv_iload_n hx hb dL_law_1554 rfl (lv_at hl 3 rfl) ?_
  refine lv_iconst (v := 2) hx hb dL_law_1555 (by decide) ?_
  refine lv_iadd hx hb dL_law_1556 ?_
  refine lv_topi (fun z21 ez21 => ?_)
  have iz21 : z21.toInt = i.toInt + 2 := zi_add ez21 rfl (show (2 : Int32).toInt = 2 from rfl) (by omega) (by omega)
  refine va_sld hx hb hX hbl hbA hS (vp_in_iff.mpr ⟨by omega, by omega⟩) dL_law_1557 ?_
  refine lv_topi (fun y22 ey22 => ?_)
  obtain rfl : y22 = xs (9 * k + 2) := ey22.trans (congrArg xs (show z21.toInt.toNat = 9 * k + 2 by omega))
  refine tgk_13 hG hmo (fun y23 y24 y25 y26 y27 y28 y29 y30 y31 y32 y33 y34 y35 y36 y37 y38 y39 y40 y41 y42 y43 y44 y45 y46 y47 => ?_)
  refine tpk_13 hT hmo (fun o48_x0 o48_x1 o48_x7 o48_x9 o48_x10 o48_x11 o48_x12 o48_x13 o48_x14 o48_x15 o48_x16 o48_x17 o48_x18 o48_x19 o48_x20 o48_x22 o48_x25 o48_x28 o48_x29 o48_x32 o48_x33 o48_x34 o48_x35 o48_x36 o48_x37 o48_x38 o48_x47 o48_x48 hf_o48 ro48_0 ro48_1 ro48_2 ro48_3 ro48_4 ro48_5 ro48_6 ro48_7 ro48_8 ro48_9 ro48_10 ro48_11 ro48_12 ro48_13 ro48_14 => ?_)
  refine tpk_pos (tp_in hG hmo (by decide)) hf_o48 (fun q49 eq49 => ?_)
  have hFc := tp_fr hD hS hA
  have hRe_54 : R_18 = mo_R (mo_i (f16 (ρ mo 2))) := hRe.symm
  refine va_calll (va_runV (As := [.int (xs (9 * k + 1)), .int (xs (9 * k + 2))]) (rest := []) ⟨hx, hb, hml, hown, hts⟩ (t_X12_voyage l dC dI _ κ mo_n τ ν ρ L f16 hG hT mo (xs (9 * k + 1)) (xs (9 * k + 2)) hmo hJ) (cwV 2 hts gz_X12_voyage rfl rfl rfl ⟨rfl, pd_X12_voyage⟩ ⟨Nat.le_of_ble_eq_true rfl, Nat.le_of_ble_eq_true rfl⟩) ⟨pz_blind, va_recv hK hP (ci := 12) (q0 := q49) rfl eq49, pz_pre hP hK hD hN⟩ rfl rfl hl.1 rfl (lv_room (Nat.le_of_ble_eq_true rfl)) dL_law_1558 ⟨by show _ ≤ 600000; omega, by show _ ≤ 7302249; omega⟩) hS (fun q _ h => hFc q h) hFc (fun r50 f52 t H1 locs ht hvm hw51 hB hz1 hk1 hS => ?_)
  refine tn_4 hw51 (fun hT1 hF53 hw51r hw51p => ?_); clear hw51
  obtain ⟨hw_t, hw_l⟩ := (tpg_12 hG hxo).1
  obtain ⟨-, -, -, -, -, -, ⟨ht13, -, hl13⟩, ⟨ht14, -, hl14⟩, ⟨ht15, -, -, hl15⟩, -, -, ⟨ht18, -, -, hl18⟩⟩ := tpg_11 hG hw_t
  have hJ : mo_RI (-1) 0 (mo_R (mo_i (f52 (ρ mo 2)))) := by rw [hF53 _ (by rw [hrow]; decide)]; exact hJ
  have hRn : R_18 = mo_R (mo_i (f52 (ρ mo 2))) := by rw [hF53 _ (by rw [hrow]; decide)]; exact hRe_54
  have hIM : mo_IM (mo_R (mo_i (f52 (ρ mo 3)))) := by rw [hF53 _ (by rw [hims]; decide)]; exact hIM
  have m0 : tp_fld (f52 (ρ xo 0)) 0 = R_18 (11) := ((congrArg (fun q => tp_fld q 0) (hF53 (ρ xo 0) (by rw [hw_t]; decide))).trans l0)
  have m1 : tp_fld (f52 (ρ xo 0)) 4 = R_18 (0) := ((congrArg (fun q => tp_fld q 4) (hF53 (ρ xo 0) (by rw [hw_t]; decide))).trans l1)
  have m2 : tp_fld (f52 (ρ xo 0)) 5 = R_18 (1) := ((congrArg (fun q => tp_fld q 5) (hF53 (ρ xo 0) (by rw [hw_t]; decide))).trans l2)
  have m3 : tp_fld (f52 (ρ (ρ xo 0) 13)) 3 = R_18 (3) := ((congrArg (fun q => tp_fld q 3) (hF53 (ρ (ρ xo 0) 13) (by rw [ht13]; decide))).trans l3)
  have m4 : tp_fld (f52 (ρ (ρ xo 0) 14)) 3 = R_18 (7) := ((congrArg (fun q => tp_fld q 3) (hF53 (ρ (ρ xo 0) 14) (by rw [ht14]; decide))).trans l4)
  have m5 : tp_fld (f52 (ρ (ρ xo 0) 15)) 2 = R_18 (6) := ((congrArg (fun q => tp_fld q 2) (hF53 (ρ (ρ xo 0) 15) (by rw [ht15]; decide))).trans l5)
  have m6 : tp_fld (f52 (ρ (ρ xo 0) 18)) 2 = R_18 (10) := ((congrArg (fun q => tp_fld q 2) (hF53 (ρ (ρ xo 0) 18) (by rw [ht18]; decide))).trans l6)
  have l0 := m0
  have l1 := m1
  have l2 := m2
  have l3 := m3
  have l4 := m4
  have l5 := m5
  have l6 := m6
  rw [hRn] at l0 l1 l2 l3 l4 l5 l6
  have hPm := lz_P.keep hG hT hxo (tp_X.of (E := fun _ => False) hF53 (by decide)) (fun n q9 => False.elim q9) (hF53 _ (by rw [(tpg_12 hG hxo).2.1]; decide)) (by rw [hF53 _ (by rw [hims]; decide)]) (by rw [hF53 _ (by rw [hkep]; decide)]) hPm
  have hT := hT1
  have hP := hB.1; rw [ht] at hP; have hD := tp_ad f52 hD; clear hB hFc hz1 hk1; subst ht; generalize t.heap = H at hP hS ⊢
  refine lv_pop2_2 hx hb dL_law_1561 rfl ?_
  refine lv_goto (tgt := 1710) hx hb dL_law_1562 (by decide) ?_
  refine tp_widen (cells + 110) (slots + 2634) (by omega) (by omega) ?_
  exact kk τ ν ρ L f52 _ _ _ ⟨hG, hT, hxo, hmo, hJ, hIM, ⟨l0, l1, l2, l3, l4, l5, l6⟩, hPm⟩ hP hD hS (lv_sub hl [0, 1, 2, 3] rfl)
set_option maxHeartbeats 8000000 in
set_option maxRecDepth 100000 in
theorem law_case_35 {p : Program} {l : Launch} {e : Env} {s : State} {m : MethodId} {below : List Frame} {meth : Method} {c : Code} {b N9 : Nat} {xs : Nat → Int32} {dC : Nat → ClassId} {dI : Nat → Nat → Nat} {κ : Nat → ClassId} {adK adV : Nat → Nat} {zv : Option Nat} {xo mo : Nat} {k cells slots : Nat} {i : Int32} (C0 : lw_At p s m meth c b N9 xs) (hN9 : N9 ≤ 4608) (hN : nz_ok s) (hZ : pw_Z adK adV zv (fun q : Nat => s.heap.size ≤ q) s s.heap) (hK : va_K (dC, dI) vwCl (tp_K κ) s) (hk : 9 * k + 9 ≤ N9) (hi : i.toInt = 9 * (k : Int)) (hc : cells + 110 ≤ 600000) (hs : slots + 2634 ≤ 7302249) (kk : ∀ (τ ν : Nat → Nat) (ρ : Nat → Nat → Nat) (L : List Nat) (f : Nat → va_E) (H : Heap) (locs : List Loc) (ls : Array Slot), lz_I κ xo mo τ ν ρ L f → va_P (dC, dI) vwCl (va_pl L f) H → va_D (fun q : Nat => s.heap.size ≤ q) (va_pl L f) → va_S (fun q : Nat => s.heap.size ≤ q) s.heap H locs → lv_has ls 4 [(0, .ref b), (1, .ref xo), (2, .ref mo), (3, .int i)] → W p l e room_1 s m #[Value.ref b] below meth c H locs (cells + 110) (slots + 2634) (lw_Z below #[Value.ref b] s) (F0 m 1710 ls [])) {τ ν : Nat → Nat} {ρ : Nat → Nat → Nat} {L : List Nat} {f : Nat → va_E} {H : Heap} {locs : List Loc} {ls : Array Slot}  (hI : lz_I κ xo mo τ ν ρ L f) (hP : va_P (dC, dI) vwCl (va_pl L f) H) (hD : va_D (fun q : Nat => s.heap.size ≤ q) (va_pl L f)) (hS : va_S (fun q : Nat => s.heap.size ≤ q) s.heap H locs) (hl : lv_has ls 4 [(0, .ref b), (1, .ref xo), (2, .ref mo), (3, .int i)]) : W p l e room_1 s m #[Value.ref b] below meth c H locs cells slots (lw_Z below #[Value.ref b] s) (F0 m 1565 ls []) := by
  obtain ⟨hx, hb, hr, hml, hown, hts, hX, hbl, hlocks, hgv⟩ := id C0
  have hown : s.vm.findClass RL = some m.cls := hown
  have hA : ∀ q : Nat, s.heap.size ≤ q → (fun q : Nat => s.heap.size ≤ q) q := fun _ h => h
  have hbA : ¬ (fun q : Nat => s.heap.size ≤ q) b := Nat.not_le.mpr hbl
  obtain ⟨hG, hT, hxo, hmo, hJ, hIM, ⟨l0, l1, l2, l3, l4, l5, l6⟩, hPm⟩ := hI
  have hrow := (tpg_13 hG hmo).1; have hims := (tpg_13 hG hmo).2.1; have hkep := (tpg_13 hG hmo).2.2.1
  refine lv_aload_n hx hb dL_law_1565 rfl (lv_at hl 1 rfl) ?_
  refine lv_aload_n hx hb dL_law_1566 rfl (lv_at hl 0 rfl) ?_
  refine lv_iload_n hx hb dL_law_1567 rfl (lv_at hl 3 rfl) ?_
  refine lv_iconst (v := 1) hx hb dL_law_1568 (by decide) ?_
  refine lv_iadd hx hb dL_law_1569 ?_
  refine lv_topi (fun z1 ez1 => ?_)
  have iz1 : z1.toInt = i.toInt + 1 := zi_add ez1 rfl (show (1 : Int32).toInt = 1 from rfl) (by omega) (by omega)
  refine va_sld hx hb hX hbl hbA hS (vp_in_iff.mpr ⟨by omega, by omega⟩) dL_law_1570 ?_
  refine lv_topi (fun y2 ey2 => ?_)
  obtain rfl : y2 = xs (9 * k + 1) := ey2.trans (congrArg xs (show z1.toInt.toNat = 9 * k + 1 by omega))
  refine lv_aload_n hx hb dL_law_1571 rfl (lv_at hl 0 rfl) ?_
  refine lv_iload_n hx hb dL_law_1572 rfl (lv_at hl 3 rfl) ?_
  refine lv_iconst (v := 2) hx hb dL_law_1573 (by decide) ?_
  refine lv_iadd hx hb dL_law_1574 ?_
  refine lv_topi (fun z3 ez3 => ?_)
  have iz3 : z3.toInt = i.toInt + 2 := zi_add ez3 rfl (show (2 : Int32).toInt = 2 from rfl) (by omega) (by omega)
  refine va_sld hx hb hX hbl hbA hS (vp_in_iff.mpr ⟨by omega, by omega⟩) dL_law_1575 ?_
  refine lv_topi (fun y4 ey4 => ?_)
  obtain rfl : y4 = xs (9 * k + 2) := ey4.trans (congrArg xs (show z3.toInt.toNat = 9 * k + 2 by omega))
  refine lv_aload_n hx hb dL_law_1576 rfl (lv_at hl 0 rfl) ?_
  refine lv_iload_n hx hb dL_law_1577 rfl (lv_at hl 3 rfl) ?_
  refine lv_iconst (v := 3) hx hb dL_law_1578 (by decide) ?_
  refine lv_iadd hx hb dL_law_1579 ?_
  refine lv_topi (fun z5 ez5 => ?_)
  have iz5 : z5.toInt = i.toInt + 3 := zi_add ez5 rfl (show (3 : Int32).toInt = 3 from rfl) (by omega) (by omega)
  refine va_sld hx hb hX hbl hbA hS (vp_in_iff.mpr ⟨by omega, by omega⟩) dL_law_1580 ?_
  refine lv_topi (fun y6 ey6 => ?_)
  obtain rfl : y6 = xs (9 * k + 3) := ey6.trans (congrArg xs (show z5.toInt.toNat = 9 * k + 3 by omega))
  refine lv_aload_n hx hb dL_law_1581 rfl (lv_at hl 0 rfl) ?_
  refine lv_iload_n hx hb dL_law_1582 rfl (lv_at hl 3 rfl) ?_
  refine lv_iconst (v := 4) hx hb dL_law_1583 (by decide) ?_
  refine lv_iadd hx hb dL_law_1584 ?_
  refine lv_topi (fun z7 ez7 => ?_)
  have iz7 : z7.toInt = i.toInt + 4 := zi_add ez7 rfl (show (4 : Int32).toInt = 4 from rfl) (by omega) (by omega)
  refine va_sld hx hb hX hbl hbA hS (vp_in_iff.mpr ⟨by omega, by omega⟩) dL_law_1585 ?_
  refine lv_topi (fun y8 ey8 => ?_)
  obtain rfl : y8 = xs (9 * k + 4) := ey8.trans (congrArg xs (show z7.toInt.toNat = 9 * k + 4 by omega))
  refine lv_aload_n hx hb dL_law_1586 rfl (lv_at hl 0 rfl) ?_
  refine lv_iload_n hx hb dL_law_1587 rfl (lv_at hl 3 rfl) ?_
  refine lv_iconst (v := 5) hx hb dL_law_1588 (by decide) ?_
  refine lv_iadd hx hb dL_law_1589 ?_
  refine lv_topi (fun z9 ez9 => ?_)
  have iz9 : z9.toInt = i.toInt + 5 := zi_add ez9 rfl (show (5 : Int32).toInt = 5 from rfl) (by omega) (by omega)
  refine va_sld hx hb hX hbl hbA hS (vp_in_iff.mpr ⟨by omega, by omega⟩) dL_law_1590 ?_
  refine lv_topi (fun y10 ey10 => ?_)
  obtain rfl : y10 = xs (9 * k + 5) := ey10.trans (congrArg xs (show z9.toInt.toNat = 9 * k + 5 by omega))
  refine tgk_12 hG hxo (fun y11 y11l y12 y13 y14 y15 y16 y17a y17b y17c => ?_)
  refine tpk_12 hT hxo (fun o18_x6 hf_o18 => ?_)
  refine tpk_pos (tp_in hG hxo (by decide)) hf_o18 (fun q19 eq19 => ?_)
  have hFc := tp_fr hD hS hA
  obtain ⟨R_24, hRe_24⟩ : ∃ R, R = mo_R (mo_i (f (ρ mo 2))) := ⟨_, rfl⟩; rw [← hRe_24] at l0 l1 l2 l3 l4 l5 l6
  refine va_calll (va_runV (As := [.int (xs (9 * k + 1)), .int (xs (9 * k + 2)), .int (xs (9 * k + 3)), .int (xs (9 * k + 4)), .int (xs (9 * k + 5))]) (rest := []) ⟨hx, hb, hml, hown, hts⟩ (t_X11_judge l dC dI _ (mo_O κ mo_n) κ τ ν ρ L f hG hT xo (xs (9 * k + 1)) (xs (9 * k + 2)) (xs (9 * k + 3)) (xs (9 * k + 4)) (xs (9 * k + 5)) hxo) (cwV 5 hts gz_X11_judge rfl rfl rfl ⟨rfl, pd_X11_judge⟩ ⟨Nat.le_of_ble_eq_true rfl, Nat.le_of_ble_eq_true rfl⟩) ⟨pz_blind, va_recv hK hP (ci := 11) (q0 := q19) rfl eq19, pz_pre hP hK hD hN⟩ rfl rfl hl.1 rfl (lv_room (Nat.le_of_ble_eq_true rfl)) dL_law_1591 ⟨by show _ ≤ 600000; omega, by show _ ≤ 7302249; omega⟩) hS (fun q _ h => hFc q h) hFc (fun r20 f22 t H1 locs ht hvm hw21 hB hz1 hk1 hS => ?_)
  refine tn_4 hw21 (fun hT1 hF23 hw21r hw21p => ?_); clear hw21
  obtain ⟨hw_t, hw_l⟩ := (tpg_12 hG hxo).1
  obtain ⟨-, -, -, -, -, -, ⟨ht13, -, hl13⟩, ⟨ht14, -, hl14⟩, ⟨ht15, -, -, hl15⟩, -, -, ⟨ht18, -, -, hl18⟩⟩ := tpg_11 hG hw_t
  have hJ : mo_RI (-1) 0 (mo_R (mo_i (f22 (ρ mo 2)))) := by rw [hF23 _ (by rw [hrow]; decide)]; exact hJ
  have hIM : mo_IM (mo_R (mo_i (f22 (ρ mo 3)))) := by rw [hF23 _ (by rw [hims]; decide)]; exact hIM
  have hXE : tp_X τ ρ (fun n => False) f f22 := tp_X.of hF23 (by decide)
  have m0 : tp_fld (f22 (ρ xo 0)) 0 = R_24 (11) := (congrArg (fun q => tp_fld q 0) (hXE (ρ xo 0) (Or.inr (Or.inr hw_t)) (fun q9 => q9))).trans l0
  have m1 : tp_fld (f22 (ρ xo 0)) 4 = R_24 (0) := (congrArg (fun q => tp_fld q 4) (hXE (ρ xo 0) (Or.inr (Or.inr hw_t)) (fun q9 => q9))).trans l1
  have m2 : tp_fld (f22 (ρ xo 0)) 5 = R_24 (1) := (congrArg (fun q => tp_fld q 5) (hXE (ρ xo 0) (Or.inr (Or.inr hw_t)) (fun q9 => q9))).trans l2
  have m3 : tp_fld (f22 (ρ (ρ xo 0) 13)) 3 = R_24 (3) := (congrArg (fun q => tp_fld q 3) (hXE (ρ (ρ xo 0) 13) (Or.inr (Or.inl ht13)) (fun q9 => q9))).trans l3
  have m4 : tp_fld (f22 (ρ (ρ xo 0) 14)) 3 = R_24 (7) := (congrArg (fun q => tp_fld q 3) (hXE (ρ (ρ xo 0) 14) (Or.inr (Or.inl ht14)) (fun q9 => q9))).trans l4
  have m5 : tp_fld (f22 (ρ (ρ xo 0) 15)) 2 = R_24 (6) := (congrArg (fun q => tp_fld q 2) (hXE (ρ (ρ xo 0) 15) (Or.inl ht15) (fun q9 => q9))).trans l5
  have m6 : tp_fld (f22 (ρ (ρ xo 0) 18)) 2 = R_24 (10) := (congrArg (fun q => tp_fld q 2) (hXE (ρ (ρ xo 0) 18) (Or.inl ht18) (fun q9 => q9))).trans l6
  have hPm := lz_P.keep hG hT hxo hXE (fun n q9 => by have q8 : False := q9; first | exact q8.elim | omega) (hF23 _ (by rw [(tpg_12 hG hxo).2.1]; decide)) (by rw [hF23 _ (by rw [hims]; decide)]) (by rw [hF23 _ (by rw [hkep]; decide)]) hPm
  have l0 := m0
  have l1 := m1
  have l2 := m2
  have l3 := m3
  have l4 := m4
  have l5 := m5
  have l6 := m6
  have hRe : mo_R (mo_i (f22 (ρ mo 2))) = R_24 := by rw [hF23 _ (by rw [hrow]; decide)]; exact hRe_24.symm
  have hT := hT1
  have hP := hB.1; rw [ht] at hP; have hD := tp_ad f22 hD; clear hB hFc hz1 hk1; subst ht; generalize t.heap = H at hP hS ⊢
  refine lv_pop2_2 hx hb dL_law_1594 rfl ?_
  refine lv_aload_n hx hb dL_law_1595 rfl (lv_at hl 2 rfl) ?_
  refine lv_aload_n hx hb dL_law_1596 rfl (lv_at hl 0 rfl) ?_
  refine lv_iload_n hx hb dL_law_1597 rfl (lv_at hl 3 rfl) ?_
  refine lv_iconst (v := 1) hx hb dL_law_1598 (by decide) ?_
  refine lv_iadd hx hb dL_law_1599 ?_
  refine lv_topi (fun z25 ez25 => ?_)
  have iz25 : z25.toInt = i.toInt + 1 := zi_add ez25 rfl (show (1 : Int32).toInt = 1 from rfl) (by omega) (by omega)
  refine va_sld hx hb hX hbl hbA hS (vp_in_iff.mpr ⟨by omega, by omega⟩) dL_law_1600 ?_
  refine lv_topi (fun y26 ey26 => ?_)
  obtain rfl : y26 = xs (9 * k + 1) := ey26.trans (congrArg xs (show z25.toInt.toNat = 9 * k + 1 by omega))
  refine lv_aload_n hx hb dL_law_1601 rfl (lv_at hl 0 rfl) ?_
  refine lv_iload_n hx hb dL_law_1602 rfl (lv_at hl 3 rfl) ?_
  refine lv_iconst (v := 2) hx hb dL_law_1603 (by decide) ?_
  refine lv_iadd hx hb dL_law_1604 ?_
  refine lv_topi (fun z27 ez27 => ?_)
  have iz27 : z27.toInt = i.toInt + 2 := zi_add ez27 rfl (show (2 : Int32).toInt = 2 from rfl) (by omega) (by omega)
  refine va_sld hx hb hX hbl hbA hS (vp_in_iff.mpr ⟨by omega, by omega⟩) dL_law_1605 ?_
  refine lv_topi (fun y28 ey28 => ?_)
  obtain rfl : y28 = xs (9 * k + 2) := ey28.trans (congrArg xs (show z27.toInt.toNat = 9 * k + 2 by omega))
  refine lv_aload_n hx hb dL_law_1606 rfl (lv_at hl 0 rfl) ?_
  refine lv_iload_n hx hb dL_law_1607 rfl (lv_at hl 3 rfl) ?_
  refine lv_iconst (v := 3) hx hb dL_law_1608 (by decide) ?_
  refine lv_iadd hx hb dL_law_1609 ?_
  refine lv_topi (fun z29 ez29 => ?_)
  have iz29 : z29.toInt = i.toInt + 3 := zi_add ez29 rfl (show (3 : Int32).toInt = 3 from rfl) (by omega) (by omega)
  refine va_sld hx hb hX hbl hbA hS (vp_in_iff.mpr ⟨by omega, by omega⟩) dL_law_1610 ?_
  refine lv_topi (fun y30 ey30 => ?_)
  obtain rfl : y30 = xs (9 * k + 3) := ey30.trans (congrArg xs (show z29.toInt.toNat = 9 * k + 3 by omega))
  refine lv_aload_n hx hb dL_law_1611 rfl (lv_at hl 0 rfl) ?_
  refine lv_iload_n hx hb dL_law_1612 rfl (lv_at hl 3 rfl) ?_
  refine lv_iconst (v := 4) hx hb dL_law_1613 (by decide) ?_
  refine lv_iadd hx hb dL_law_1614 ?_
  refine lv_topi (fun z31 ez31 => ?_)
  have iz31 : z31.toInt = i.toInt + 4 := zi_add ez31 rfl (show (4 : Int32).toInt = 4 from rfl) (by omega) (by omega)
  refine va_sld hx hb hX hbl hbA hS (vp_in_iff.mpr ⟨by omega, by omega⟩) dL_law_1615 ?_
  refine lv_topi (fun y32 ey32 => ?_)
  obtain rfl : y32 = xs (9 * k + 4) := ey32.trans (congrArg xs (show z31.toInt.toNat = 9 * k + 4 by omega))
  refine lv_aload_n hx hb dL_law_1616 rfl (lv_at hl 0 rfl) ?_
  refine lv_iload_n hx hb dL_law_1617 rfl (lv_at hl 3 rfl) ?_
  refine lv_iconst (v := 5) hx hb dL_law_1618 (by decide) ?_
  refine lv_iadd hx hb dL_law_1619 ?_
  refine lv_topi (fun z33 ez33 => ?_)
  have iz33 : z33.toInt = i.toInt + 5 := zi_add ez33 rfl (show (5 : Int32).toInt = 5 from rfl) (by omega) (by omega)
  refine va_sld hx hb hX hbl hbA hS (vp_in_iff.mpr ⟨by omega, by omega⟩) dL_law_1620 ?_
  refine lv_topi (fun y34 ey34 => ?_)
  obtain rfl : y34 = xs (9 * k + 5) := ey34.trans (congrArg xs (show z33.toInt.toNat = 9 * k + 5 by omega))
  refine tgk_13 hG hmo (fun y35 y36 y37 y38 y39 y40 y41 y42 y43 y44 y45 y46 y47 y48 y49 y50 y51 y52 y53 y54 y55 y56 y57 y58 y59 => ?_)
  refine tpk_13 hT hmo (fun o60_x0 o60_x1 o60_x7 o60_x9 o60_x10 o60_x11 o60_x12 o60_x13 o60_x14 o60_x15 o60_x16 o60_x17 o60_x18 o60_x19 o60_x20 o60_x22 o60_x25 o60_x28 o60_x29 o60_x32 o60_x33 o60_x34 o60_x35 o60_x36 o60_x37 o60_x38 o60_x47 o60_x48 hf_o60 ro60_0 ro60_1 ro60_2 ro60_3 ro60_4 ro60_5 ro60_6 ro60_7 ro60_8 ro60_9 ro60_10 ro60_11 ro60_12 ro60_13 ro60_14 => ?_)
  refine tpk_pos (tp_in hG hmo (by decide)) hf_o60 (fun q61 eq61 => ?_)
  have hFc := tp_fr hD hS hA
  have hRe_66 : R_24 = mo_R (mo_i (f22 (ρ mo 2))) := hRe.symm
  refine va_calll (va_runV (As := [.int (xs (9 * k + 1)), .int (xs (9 * k + 2)), .int (xs (9 * k + 3)), .int (xs (9 * k + 4)), .int (xs (9 * k + 5))]) (rest := []) ⟨hx, hb, hml, hown, hts⟩ (t_X12_judge l dC dI _ κ mo_n τ ν ρ L f22 hG hT mo (xs (9 * k + 1)) (xs (9 * k + 2)) (xs (9 * k + 3)) (xs (9 * k + 4)) (xs (9 * k + 5)) hmo hJ) (cwV 5 hts gz_X12_judge rfl rfl rfl ⟨rfl, pd_X12_judge⟩ ⟨Nat.le_of_ble_eq_true rfl, Nat.le_of_ble_eq_true rfl⟩) ⟨pz_blind, va_recv hK hP (ci := 12) (q0 := q61) rfl eq61, pz_pre hP hK hD hN⟩ rfl rfl hl.1 rfl (lv_room (Nat.le_of_ble_eq_true rfl)) dL_law_1621 ⟨by show _ ≤ 600000; omega, by show _ ≤ 7302249; omega⟩) hS (fun q _ h => hFc q h) hFc (fun r62 f64 t H1 locs ht hvm hw63 hB hz1 hk1 hS => ?_)
  refine tn_4 hw63 (fun hT1 hF65 hw63r hw63p => ?_); clear hw63
  obtain ⟨hw_t, hw_l⟩ := (tpg_12 hG hxo).1
  obtain ⟨-, -, -, -, -, -, ⟨ht13, -, hl13⟩, ⟨ht14, -, hl14⟩, ⟨ht15, -, -, hl15⟩, -, -, ⟨ht18, -, -, hl18⟩⟩ := tpg_11 hG hw_t
  have hJ : mo_RI (-1) 0 (mo_R (mo_i (f64 (ρ mo 2)))) := by rw [hF65 _ (by rw [hrow]; decide)]; exact hJ
  have hRn : R_24 = mo_R (mo_i (f64 (ρ mo 2))) := by rw [hF65 _ (by rw [hrow]; decide)]; exact hRe_66
  have hIM : mo_IM (mo_R (mo_i (f64 (ρ mo 3)))) := by rw [hF65 _ (by rw [hims]; decide)]; exact hIM
  have m0 : tp_fld (f64 (ρ xo 0)) 0 = R_24 (11) := ((congrArg (fun q => tp_fld q 0) (hF65 (ρ xo 0) (by rw [hw_t]; decide))).trans l0)
  have m1 : tp_fld (f64 (ρ xo 0)) 4 = R_24 (0) := ((congrArg (fun q => tp_fld q 4) (hF65 (ρ xo 0) (by rw [hw_t]; decide))).trans l1)
  have m2 : tp_fld (f64 (ρ xo 0)) 5 = R_24 (1) := ((congrArg (fun q => tp_fld q 5) (hF65 (ρ xo 0) (by rw [hw_t]; decide))).trans l2)
  have m3 : tp_fld (f64 (ρ (ρ xo 0) 13)) 3 = R_24 (3) := ((congrArg (fun q => tp_fld q 3) (hF65 (ρ (ρ xo 0) 13) (by rw [ht13]; decide))).trans l3)
  have m4 : tp_fld (f64 (ρ (ρ xo 0) 14)) 3 = R_24 (7) := ((congrArg (fun q => tp_fld q 3) (hF65 (ρ (ρ xo 0) 14) (by rw [ht14]; decide))).trans l4)
  have m5 : tp_fld (f64 (ρ (ρ xo 0) 15)) 2 = R_24 (6) := ((congrArg (fun q => tp_fld q 2) (hF65 (ρ (ρ xo 0) 15) (by rw [ht15]; decide))).trans l5)
  have m6 : tp_fld (f64 (ρ (ρ xo 0) 18)) 2 = R_24 (10) := ((congrArg (fun q => tp_fld q 2) (hF65 (ρ (ρ xo 0) 18) (by rw [ht18]; decide))).trans l6)
  have l0 := m0
  have l1 := m1
  have l2 := m2
  have l3 := m3
  have l4 := m4
  have l5 := m5
  have l6 := m6
  rw [hRn] at l0 l1 l2 l3 l4 l5 l6
  have hPm := lz_P.keep hG hT hxo (tp_X.of (E := fun _ => False) hF65 (by decide)) (fun n q9 => False.elim q9) (hF65 _ (by rw [(tpg_12 hG hxo).2.1]; decide)) (by rw [hF65 _ (by rw [hims]; decide)]) (by rw [hF65 _ (by rw [hkep]; decide)]) hPm
  have hT := hT1
  have hP := hB.1; rw [ht] at hP; have hD := tp_ad f64 hD; clear hB hFc hz1 hk1; subst ht; generalize t.heap = H at hP hS ⊢
  refine lv_pop2_2 hx hb dL_law_1624 rfl ?_
  refine lv_goto (tgt := 1710) hx hb dL_law_1625 (by decide) ?_
  refine tp_widen (cells + 110) (slots + 2634) (by omega) (by omega) ?_
  exact kk τ ν ρ L f64 _ _ _ ⟨hG, hT, hxo, hmo, hJ, hIM, ⟨l0, l1, l2, l3, l4, l5, l6⟩, hPm⟩ hP hD hS (lv_sub hl [0, 1, 2, 3] rfl)
set_option maxHeartbeats 8000000 in
set_option maxRecDepth 100000 in
theorem law_case_36 {p : Program} {l : Launch} {e : Env} {s : State} {m : MethodId} {below : List Frame} {meth : Method} {c : Code} {b N9 : Nat} {xs : Nat → Int32} {dC : Nat → ClassId} {dI : Nat → Nat → Nat} {κ : Nat → ClassId} {adK adV : Nat → Nat} {zv : Option Nat} {xo mo : Nat} {k cells slots : Nat} {i : Int32} (C0 : lw_At p s m meth c b N9 xs) (hN9 : N9 ≤ 4608) (hN : nz_ok s) (hZ : pw_Z adK adV zv (fun q : Nat => s.heap.size ≤ q) s s.heap) (hK : va_K (dC, dI) vwCl (tp_K κ) s) (hk : 9 * k + 9 ≤ N9) (hi : i.toInt = 9 * (k : Int)) (hc : cells + 110 ≤ 600000) (hs : slots + 2634 ≤ 7302249) (kk : ∀ (τ ν : Nat → Nat) (ρ : Nat → Nat → Nat) (L : List Nat) (f : Nat → va_E) (H : Heap) (locs : List Loc) (ls : Array Slot), lz_I κ xo mo τ ν ρ L f → va_P (dC, dI) vwCl (va_pl L f) H → va_D (fun q : Nat => s.heap.size ≤ q) (va_pl L f) → va_S (fun q : Nat => s.heap.size ≤ q) s.heap H locs → lv_has ls 4 [(0, .ref b), (1, .ref xo), (2, .ref mo), (3, .int i)] → W p l e room_1 s m #[Value.ref b] below meth c H locs (cells + 110) (slots + 2634) (lw_Z below #[Value.ref b] s) (F0 m 1710 ls [])) {τ ν : Nat → Nat} {ρ : Nat → Nat → Nat} {L : List Nat} {f : Nat → va_E} {H : Heap} {locs : List Loc} {ls : Array Slot}  (hI : lz_I κ xo mo τ ν ρ L f) (hP : va_P (dC, dI) vwCl (va_pl L f) H) (hD : va_D (fun q : Nat => s.heap.size ≤ q) (va_pl L f)) (hS : va_S (fun q : Nat => s.heap.size ≤ q) s.heap H locs) (hl : lv_has ls 4 [(0, .ref b), (1, .ref xo), (2, .ref mo), (3, .int i)]) : W p l e room_1 s m #[Value.ref b] below meth c H locs cells slots (lw_Z below #[Value.ref b] s) (F0 m 1628 ls []) := by
  obtain ⟨hx, hb, hr, hml, hown, hts, hX, hbl, hlocks, hgv⟩ := id C0
  have hown : s.vm.findClass RL = some m.cls := hown
  have hA : ∀ q : Nat, s.heap.size ≤ q → (fun q : Nat => s.heap.size ≤ q) q := fun _ h => h
  have hbA : ¬ (fun q : Nat => s.heap.size ≤ q) b := Nat.not_le.mpr hbl
  obtain ⟨hG, hT, hxo, hmo, hJ, hIM, ⟨l0, l1, l2, l3, l4, l5, l6⟩, hPm⟩ := hI
  have hrow := (tpg_13 hG hmo).1; have hims := (tpg_13 hG hmo).2.1; have hkep := (tpg_13 hG hmo).2.2.1
  refine lv_aload_n hx hb dL_law_1628 rfl (lv_at hl 1 rfl) ?_
  refine lv_aload_n hx hb dL_law_1629 rfl (lv_at hl 0 rfl) ?_
  refine lv_iload_n hx hb dL_law_1630 rfl (lv_at hl 3 rfl) ?_
  refine lv_iconst (v := 1) hx hb dL_law_1631 (by decide) ?_
  refine lv_iadd hx hb dL_law_1632 ?_
  refine lv_topi (fun z1 ez1 => ?_)
  have iz1 : z1.toInt = i.toInt + 1 := zi_add ez1 rfl (show (1 : Int32).toInt = 1 from rfl) (by omega) (by omega)
  refine va_sld hx hb hX hbl hbA hS (vp_in_iff.mpr ⟨by omega, by omega⟩) dL_law_1633 ?_
  refine lv_topi (fun y2 ey2 => ?_)
  obtain rfl : y2 = xs (9 * k + 1) := ey2.trans (congrArg xs (show z1.toInt.toNat = 9 * k + 1 by omega))
  refine tgk_12 hG hxo (fun y3 y3l y4 y5 y6 y7 y8 y9a y9b y9c => ?_)
  refine tpk_12 hT hxo (fun o10_x6 hf_o10 => ?_)
  refine tpk_pos (tp_in hG hxo (by decide)) hf_o10 (fun q11 eq11 => ?_)
  have hFc := tp_fr hD hS hA
  obtain ⟨R_16, hRe_16⟩ : ∃ R, R = mo_R (mo_i (f (ρ mo 2))) := ⟨_, rfl⟩; rw [← hRe_16] at l0 l1 l2 l3 l4 l5 l6
  refine va_calli (va_runV (As := [.int (xs (9 * k + 1))]) (rest := []) ⟨hx, hb, hml, hown, hts⟩ (t_X11_image l dC dI _ (mo_O κ mo_n) κ τ ν ρ L f hG hT xo (xs (9 * k + 1)) hxo) (cwV 1 hts gz_X11_image rfl rfl rfl ⟨rfl, pd_X11_image⟩ ⟨Nat.le_of_ble_eq_true rfl, Nat.le_of_ble_eq_true rfl⟩) ⟨pz_blind, va_recv hK hP (ci := 11) (q0 := q11) rfl eq11, pz_pre hP hK hD hN⟩ rfl rfl hl.1 rfl (lv_room (Nat.le_of_ble_eq_true rfl)) dL_law_1634 ⟨by show _ ≤ 600000; omega, by show _ ≤ 7302249; omega⟩) hS (fun q _ h => hFc q h) hFc (fun r12 x9 t H1 locs ht hvm hw13 hB hz1 hk1 hS => ?_)
  obtain ⟨τ_16, ν_16, ρ_16, L_16, f14⟩ := x9; obtain ⟨⟨hG9, hT9, hH9⟩, hw13p⟩ := hw13
  have h9_hmo := hH9.2 mo (tp_in hG hmo (by decide)) (fun z => by cases z)
  have h9_hxo := hH9.2 xo (tp_in hG hxo (by decide)) (fun z => by cases z)
  have h9_hrow := hH9.2 (ρ mo 2) (tp_in hG hrow (by decide)) (fun z => by cases z)
  have h9_hims := hH9.2 (ρ mo 3) (tp_in hG hims (by decide)) (fun z => by cases z)
  have h9_hkep := hH9.2 (ρ mo 4) (tp_in hG hkep (by decide)) (fun z => by cases z)
  have h9_hW := hH9.2 (ρ xo 0) (tp_in hG (tpg_12 hG hxo).1.1 (by decide)) (fun z => by cases z)
  have qhJ : mo_R (mo_i (f14 (ρ_16 mo 2))) = mo_R (mo_i (f (ρ mo 2))) := by have q9 : ρ_16 mo = ρ mo := h9_hmo.2.2.1; rw [q9]; have q8 : f14 (ρ mo 2) = f (ρ mo 2) := h9_hrow.2.2.2 (by rw [hrow]; decide); rw [q8]
  have qhIM : mo_R (mo_i (f14 (ρ_16 mo 3))) = mo_R (mo_i (f (ρ mo 3))) := by have q9 : ρ_16 mo = ρ mo := h9_hmo.2.2.1; rw [q9]; have q8 : f14 (ρ mo 3) = f (ρ mo 3) := h9_hims.2.2.2 (by rw [hims]; decide); rw [q8]
  have qhKe : mo_R (mo_i (f14 (ρ_16 mo 4))) = mo_R (mo_i (f (ρ mo 4))) := by have q9 : ρ_16 mo = ρ mo := h9_hmo.2.2.1; rw [q9]; have q8 : f14 (ρ mo 4) = f (ρ mo 4) := h9_hkep.2.2.2 (by rw [hkep]; decide); rw [q8]
  have q2 : mo_R (mo_i (f14 (ρ mo 2))) = mo_R (mo_i (f (ρ mo 2))) := congrArg (fun q => mo_R (mo_i q)) (h9_hrow.2.2.2 (by rw [hrow]; decide))
  have q3 : mo_R (mo_i (f14 (ρ mo 3))) = mo_R (mo_i (f (ρ mo 3))) := congrArg (fun q => mo_R (mo_i q)) (h9_hims.2.2.2 (by rw [hims]; decide))
  have q4 : mo_R (mo_i (f14 (ρ mo 4))) = mo_R (mo_i (f (ρ mo 4))) := congrArg (fun q => mo_R (mo_i q)) (h9_hkep.2.2.2 (by rw [hkep]; decide))
  obtain ⟨hw_t, hw_l⟩ := (tpg_12 hG hxo).1
  obtain ⟨-, -, -, -, -, -, ⟨ht13, -, hl13⟩, ⟨ht14, -, hl14⟩, ⟨ht15, -, -, hl15⟩, -, -, ⟨ht18, -, -, hl18⟩⟩ := tpg_11 hG hw_t
  obtain ⟨hw9, -⟩ : ρ_16 (ρ xo 0) = ρ (ρ xo 0) ∧ True := ⟨h9_hW.2.2.1, trivial⟩; have hx9 : ρ_16 xo = ρ xo := h9_hxo.2.2.1; have hm9 : ρ_16 mo = ρ mo := h9_hmo.2.2.1
  refine tn_4 hw13p (fun ha9 hXE hc1 hc2 => ?_); clear hw13p
  have ha9c := ha9
  have hPo := hPm; have hGo := hG; have hTo := hT; have hxoo := hxo; have hWo : lz_W ρ f (ρ xo 0) R_16 := ⟨l0, l1, l2, l3, l4, l5, l6⟩
  have m0 : tp_fld (f14 (ρ xo 0)) 0 = R_16 (11) := (congrArg (fun q => tp_fld q 0) (hXE (ρ xo 0) (Or.inr (Or.inr hw_t)) (fun q9 => by have q8 : ((0 ≤ (xs (9 * k + 1)).toInt ∧ (xs (9 * k + 1)).toInt ≤ 1) ∧ 20 * ((xs (9 * k + 1)).toNatClampNeg + 1) ≤ (ρ (ρ xo 0) 30) ∧ (ρ (ρ xo 0) 30) ≤ 20 * ((xs (9 * k + 1)).toNatClampNeg + 1) + 18) := q9; omega))).trans l0
  have m1 : tp_fld (f14 (ρ xo 0)) 4 = R_16 (0) := (congrArg (fun q => tp_fld q 4) (hXE (ρ xo 0) (Or.inr (Or.inr hw_t)) (fun q9 => by have q8 : ((0 ≤ (xs (9 * k + 1)).toInt ∧ (xs (9 * k + 1)).toInt ≤ 1) ∧ 20 * ((xs (9 * k + 1)).toNatClampNeg + 1) ≤ (ρ (ρ xo 0) 30) ∧ (ρ (ρ xo 0) 30) ≤ 20 * ((xs (9 * k + 1)).toNatClampNeg + 1) + 18) := q9; omega))).trans l1
  have m2 : tp_fld (f14 (ρ xo 0)) 5 = R_16 (1) := (congrArg (fun q => tp_fld q 5) (hXE (ρ xo 0) (Or.inr (Or.inr hw_t)) (fun q9 => by have q8 : ((0 ≤ (xs (9 * k + 1)).toInt ∧ (xs (9 * k + 1)).toInt ≤ 1) ∧ 20 * ((xs (9 * k + 1)).toNatClampNeg + 1) ≤ (ρ (ρ xo 0) 30) ∧ (ρ (ρ xo 0) 30) ≤ 20 * ((xs (9 * k + 1)).toNatClampNeg + 1) + 18) := q9; omega))).trans l2
  have m3 : tp_fld (f14 (ρ (ρ xo 0) 13)) 3 = R_16 (3) := (congrArg (fun q => tp_fld q 3) (hXE (ρ (ρ xo 0) 13) (Or.inr (Or.inl ht13)) (fun q9 => by have q8 : ((0 ≤ (xs (9 * k + 1)).toInt ∧ (xs (9 * k + 1)).toInt ≤ 1) ∧ 20 * ((xs (9 * k + 1)).toNatClampNeg + 1) ≤ (ρ (ρ (ρ xo 0) 13) 30) ∧ (ρ (ρ (ρ xo 0) 13) 30) ≤ 20 * ((xs (9 * k + 1)).toNatClampNeg + 1) + 18) := q9; omega))).trans l3
  have m4 : tp_fld (f14 (ρ (ρ xo 0) 14)) 3 = R_16 (7) := (congrArg (fun q => tp_fld q 3) (hXE (ρ (ρ xo 0) 14) (Or.inr (Or.inl ht14)) (fun q9 => by have q8 : ((0 ≤ (xs (9 * k + 1)).toInt ∧ (xs (9 * k + 1)).toInt ≤ 1) ∧ 20 * ((xs (9 * k + 1)).toNatClampNeg + 1) ≤ (ρ (ρ (ρ xo 0) 14) 30) ∧ (ρ (ρ (ρ xo 0) 14) 30) ≤ 20 * ((xs (9 * k + 1)).toNatClampNeg + 1) + 18) := q9; omega))).trans l4
  have m5 : tp_fld (f14 (ρ (ρ xo 0) 15)) 2 = R_16 (6) := (congrArg (fun q => tp_fld q 2) (hXE (ρ (ρ xo 0) 15) (Or.inl ht15) (fun q9 => by have q8 : ((0 ≤ (xs (9 * k + 1)).toInt ∧ (xs (9 * k + 1)).toInt ≤ 1) ∧ 20 * ((xs (9 * k + 1)).toNatClampNeg + 1) ≤ (ρ (ρ (ρ xo 0) 15) 30) ∧ (ρ (ρ (ρ xo 0) 15) 30) ≤ 20 * ((xs (9 * k + 1)).toNatClampNeg + 1) + 18) := q9; omega))).trans l5
  have m6 : tp_fld (f14 (ρ (ρ xo 0) 18)) 2 = R_16 (10) := (congrArg (fun q => tp_fld q 2) (hXE (ρ (ρ xo 0) 18) (Or.inl ht18) (fun q9 => by have q8 : ((0 ≤ (xs (9 * k + 1)).toInt ∧ (xs (9 * k + 1)).toInt ≤ 1) ∧ 20 * ((xs (9 * k + 1)).toNatClampNeg + 1) ≤ (ρ (ρ (ρ xo 0) 18) 30) ∧ (ρ (ρ (ρ xo 0) 18) 30) ≤ 20 * ((xs (9 * k + 1)).toNatClampNeg + 1) + 18) := q9; omega))).trans l6
  have hHo := hH9; have hx9o := hx9; have hm9o := hm9
  have l0 : tp_fld (f14 (ρ_16 xo 0)) 0 = R_16 (11) := by rw [hx9]; exact m0
  have l1 : tp_fld (f14 (ρ_16 xo 0)) 4 = R_16 (0) := by rw [hx9]; exact m1
  have l2 : tp_fld (f14 (ρ_16 xo 0)) 5 = R_16 (1) := by rw [hx9]; exact m2
  have l3 : tp_fld (f14 (ρ_16 (ρ_16 xo 0) 13)) 3 = R_16 (3) := by rw [hx9, hw9]; exact m3
  have l4 : tp_fld (f14 (ρ_16 (ρ_16 xo 0) 14)) 3 = R_16 (7) := by rw [hx9, hw9]; exact m4
  have l5 : tp_fld (f14 (ρ_16 (ρ_16 xo 0) 15)) 2 = R_16 (6) := by rw [hx9, hw9]; exact m5
  have l6 : tp_fld (f14 (ρ_16 (ρ_16 xo 0) 18)) 2 = R_16 (10) := by rw [hx9, hw9]; exact m6
  have hq3 := q3; have hq4 := q4
  have hJ : mo_RI (-1) 0 (mo_R (mo_i (f14 (ρ_16 mo 2)))) := by rw [qhJ]; exact hJ
  have hIM : mo_IM (mo_R (mo_i (f14 (ρ_16 mo 3)))) := by rw [qhIM]; exact hIM
  have hRe : mo_R (mo_i (f14 (ρ_16 mo 2))) = R_16 := by rw [qhJ]; exact hRe_16.symm
  have hmo : τ_16 mo = 13 := h9_hmo.1.trans hmo; have hxo : τ_16 xo = 12 := h9_hxo.1.trans hxo
  have hG : tp_G τ_16 ν_16 ρ_16 L_16 := hG9; have hT : tp_T (mo_O κ mo_n) κ τ_16 ν_16 ρ_16 f14 := hT9
  have hP := hB.1; rw [ht] at hP; have hD := tp_Dw hB.2.2 hFc; clear hB hFc hz1 hk1; subst ht; generalize t.heap = H at hP hS ⊢
  have hP : va_P (dC, dI) vwCl (va_pl L_16 f14) H := hP; have hD : va_D (fun q : Nat => s.heap.size ≤ q) (va_pl L_16 f14) := hD
  have hrow := (tpg_13 hG hmo).1; have hims := (tpg_13 hG hmo).2.1; have hkep := (tpg_13 hG hmo).2.2.1
  refine lv_pop hx hb dL_law_1637 rfl ?_
  refine lv_aload_n hx hb dL_law_1638 rfl (lv_at hl 2 rfl) ?_
  refine lv_aload_n hx hb dL_law_1639 rfl (lv_at hl 0 rfl) ?_
  refine lv_iload_n hx hb dL_law_1640 rfl (lv_at hl 3 rfl) ?_
  refine lv_iconst (v := 1) hx hb dL_law_1641 (by decide) ?_
  refine lv_iadd hx hb dL_law_1642 ?_
  refine lv_topi (fun z17 ez17 => ?_)
  have iz17 : z17.toInt = i.toInt + 1 := zi_add ez17 rfl (show (1 : Int32).toInt = 1 from rfl) (by omega) (by omega)
  refine va_sld hx hb hX hbl hbA hS (vp_in_iff.mpr ⟨by omega, by omega⟩) dL_law_1643 ?_
  refine lv_topi (fun y18 ey18 => ?_)
  obtain rfl : y18 = xs (9 * k + 1) := ey18.trans (congrArg xs (show z17.toInt.toNat = 9 * k + 1 by omega))
  refine tgk_13 hG hmo (fun y19 y20 y21 y22 y23 y24 y25 y26 y27 y28 y29 y30 y31 y32 y33 y34 y35 y36 y37 y38 y39 y40 y41 y42 y43 => ?_)
  refine tpk_13 hT hmo (fun o44_x0 o44_x1 o44_x7 o44_x9 o44_x10 o44_x11 o44_x12 o44_x13 o44_x14 o44_x15 o44_x16 o44_x17 o44_x18 o44_x19 o44_x20 o44_x22 o44_x25 o44_x28 o44_x29 o44_x32 o44_x33 o44_x34 o44_x35 o44_x36 o44_x37 o44_x38 o44_x47 o44_x48 hf_o44 ro44_0 ro44_1 ro44_2 ro44_3 ro44_4 ro44_5 ro44_6 ro44_7 ro44_8 ro44_9 ro44_10 ro44_11 ro44_12 ro44_13 ro44_14 => ?_)
  refine tpk_pos (tp_in hG hmo (by decide)) hf_o44 (fun q45 eq45 => ?_)
  have hFc := tp_fr hD hS hA
  have hRe_50 : R_16 = mo_R (mo_i (f14 (ρ_16 mo 2))) := hRe.symm
  refine va_calli (va_runV (As := [.int (xs (9 * k + 1))]) (rest := []) ⟨hx, hb, hml, hown, hts⟩ (t_X12_image l dC dI _ κ mo_n τ_16 ν_16 ρ_16 L_16 f14 hG hT mo (xs (9 * k + 1)) hmo hJ hIM) (cwV 1 hts gz_X12_image rfl rfl rfl ⟨rfl, pd_X12_image⟩ ⟨Nat.le_of_ble_eq_true rfl, Nat.le_of_ble_eq_true rfl⟩) ⟨pz_blind, va_recv hK hP (ci := 12) (q0 := q45) rfl eq45, pz_pre hP hK hD hN⟩ rfl rfl hl.1 rfl (lv_room (Nat.le_of_ble_eq_true rfl)) dL_law_1644 ⟨by show _ ≤ 600000; omega, by show _ ≤ 7302249; omega⟩) hS (fun q _ h => hFc q h) hFc (fun r46 f48 t H1 locs ht hvm hw47 hB hz1 hk1 hS => ?_)
  refine tn_4 hw47 (fun hT1 hF49 hw47r hw47p => ?_); clear hw47
  obtain ⟨hw_t, hw_l⟩ := (tpg_12 hG hxo).1
  obtain ⟨-, -, -, -, -, -, ⟨ht13, -, hl13⟩, ⟨ht14, -, hl14⟩, ⟨ht15, -, -, hl15⟩, -, -, ⟨ht18, -, -, hl18⟩⟩ := tpg_11 hG hw_t
  have hJ : mo_RI (-1) 0 (mo_R (mo_i (f48 (ρ_16 mo 2)))) := by rw [hF49 _ (by rw [hrow]; decide)]; exact hJ
  have hRn : R_16 = mo_R (mo_i (f48 (ρ_16 mo 2))) := by rw [hF49 _ (by rw [hrow]; decide)]; exact hRe_50
  refine tn_4 hw47p (fun hIM hia him1 him2 => ?_); clear hw47p
  have m0 : tp_fld (f48 (ρ_16 xo 0)) 0 = R_16 (11) := ((congrArg (fun q => tp_fld q 0) (hF49 (ρ_16 xo 0) (by rw [hw_t]; decide))).trans l0)
  have m1 : tp_fld (f48 (ρ_16 xo 0)) 4 = R_16 (0) := ((congrArg (fun q => tp_fld q 4) (hF49 (ρ_16 xo 0) (by rw [hw_t]; decide))).trans l1)
  have m2 : tp_fld (f48 (ρ_16 xo 0)) 5 = R_16 (1) := ((congrArg (fun q => tp_fld q 5) (hF49 (ρ_16 xo 0) (by rw [hw_t]; decide))).trans l2)
  have m3 : tp_fld (f48 (ρ_16 (ρ_16 xo 0) 13)) 3 = R_16 (3) := ((congrArg (fun q => tp_fld q 3) (hF49 (ρ_16 (ρ_16 xo 0) 13) (by rw [ht13]; decide))).trans l3)
  have m4 : tp_fld (f48 (ρ_16 (ρ_16 xo 0) 14)) 3 = R_16 (7) := ((congrArg (fun q => tp_fld q 3) (hF49 (ρ_16 (ρ_16 xo 0) 14) (by rw [ht14]; decide))).trans l4)
  have m5 : tp_fld (f48 (ρ_16 (ρ_16 xo 0) 15)) 2 = R_16 (6) := ((congrArg (fun q => tp_fld q 2) (hF49 (ρ_16 (ρ_16 xo 0) 15) (by rw [ht15]; decide))).trans l5)
  have m6 : tp_fld (f48 (ρ_16 (ρ_16 xo 0) 18)) 2 = R_16 (10) := ((congrArg (fun q => tp_fld q 2) (hF49 (ρ_16 (ρ_16 xo 0) 18) (by rw [ht18]; decide))).trans l6)
  have l0 := m0
  have l1 := m1
  have l2 := m2
  have l3 := m3
  have l4 := m4
  have l5 := m5
  have l6 := m6
  rw [hRn] at l0 l1 l2 l3 l4 l5 l6
  have hPm := lz_P.image (v := (xs (9 * k + 1))) (R := R_16) rfl hGo hTo hxoo hHo hx9o hm9o hXE hWo hPo hc1 hc2 (fun a ha => hF49 a (by have h8 : τ_16 a = 5 ∨ τ_16 a = 7 ∨ τ_16 a = 11 ∨ τ_16 a = 27 := ha; rcases h8 with y | y | y | y <;> rw [y] <;> decide)) hG hT hxo (by rw [hm9o, hq3, q2, ← hRe_16, hq4] at him1; exact him1) (by rw [hm9o, hq3, hq4] at him2; exact him2)
  have hT := hT1
  have hP := hB.1; rw [ht] at hP; have hD := tp_ad f48 hD; clear hB hFc hz1 hk1; subst ht; generalize t.heap = H at hP hS ⊢
  refine lv_pop hx hb dL_law_1647 rfl ?_
  refine lv_goto (tgt := 1710) hx hb dL_law_1648 (by decide) ?_
  refine tp_widen (cells + 110) (slots + 2634) (by omega) (by omega) ?_
  exact kk τ_16 ν_16 ρ_16 L_16 f48 _ _ _ ⟨hG, hT, hxo, hmo, hJ, hIM, ⟨l0, l1, l2, l3, l4, l5, l6⟩, hPm⟩ hP hD hS (lv_sub hl [0, 1, 2, 3] rfl)
set_option maxHeartbeats 8000000 in
set_option maxRecDepth 100000 in
theorem law_case_37 {p : Program} {l : Launch} {e : Env} {s : State} {m : MethodId} {below : List Frame} {meth : Method} {c : Code} {b N9 : Nat} {xs : Nat → Int32} {dC : Nat → ClassId} {dI : Nat → Nat → Nat} {κ : Nat → ClassId} {adK adV : Nat → Nat} {zv : Option Nat} {xo mo : Nat} {k cells slots : Nat} {i : Int32} (C0 : lw_At p s m meth c b N9 xs) (hN9 : N9 ≤ 4608) (hN : nz_ok s) (hZ : pw_Z adK adV zv (fun q : Nat => s.heap.size ≤ q) s s.heap) (hK : va_K (dC, dI) vwCl (tp_K κ) s) (hk : 9 * k + 9 ≤ N9) (hi : i.toInt = 9 * (k : Int)) (hc : cells + 110 ≤ 600000) (hs : slots + 2634 ≤ 7302249) (kk : ∀ (τ ν : Nat → Nat) (ρ : Nat → Nat → Nat) (L : List Nat) (f : Nat → va_E) (H : Heap) (locs : List Loc) (ls : Array Slot), lz_I κ xo mo τ ν ρ L f → va_P (dC, dI) vwCl (va_pl L f) H → va_D (fun q : Nat => s.heap.size ≤ q) (va_pl L f) → va_S (fun q : Nat => s.heap.size ≤ q) s.heap H locs → lv_has ls 4 [(0, .ref b), (1, .ref xo), (2, .ref mo), (3, .int i)] → W p l e room_1 s m #[Value.ref b] below meth c H locs (cells + 110) (slots + 2634) (lw_Z below #[Value.ref b] s) (F0 m 1710 ls [])) {τ ν : Nat → Nat} {ρ : Nat → Nat → Nat} {L : List Nat} {f : Nat → va_E} {H : Heap} {locs : List Loc} {ls : Array Slot}  (hI : lz_I κ xo mo τ ν ρ L f) (hP : va_P (dC, dI) vwCl (va_pl L f) H) (hD : va_D (fun q : Nat => s.heap.size ≤ q) (va_pl L f)) (hS : va_S (fun q : Nat => s.heap.size ≤ q) s.heap H locs) (hl : lv_has ls 4 [(0, .ref b), (1, .ref xo), (2, .ref mo), (3, .int i)]) : W p l e room_1 s m #[Value.ref b] below meth c H locs cells slots (lw_Z below #[Value.ref b] s) (F0 m 1651 ls []) := by
  obtain ⟨hx, hb, hr, hml, hown, hts, hX, hbl, hlocks, hgv⟩ := id C0
  have hown : s.vm.findClass RL = some m.cls := hown
  have hA : ∀ q : Nat, s.heap.size ≤ q → (fun q : Nat => s.heap.size ≤ q) q := fun _ h => h
  have hbA : ¬ (fun q : Nat => s.heap.size ≤ q) b := Nat.not_le.mpr hbl
  obtain ⟨hG, hT, hxo, hmo, hJ, hIM, ⟨l0, l1, l2, l3, l4, l5, l6⟩, hPm⟩ := hI
  have hrow := (tpg_13 hG hmo).1; have hims := (tpg_13 hG hmo).2.1; have hkep := (tpg_13 hG hmo).2.2.1
  refine lv_aload_n hx hb dL_law_1651 rfl (lv_at hl 1 rfl) ?_
  refine lv_aload_n hx hb dL_law_1652 rfl (lv_at hl 0 rfl) ?_
  refine lv_iload_n hx hb dL_law_1653 rfl (lv_at hl 3 rfl) ?_
  refine lv_iconst (v := 1) hx hb dL_law_1654 (by decide) ?_
  refine lv_iadd hx hb dL_law_1655 ?_
  refine lv_topi (fun z1 ez1 => ?_)
  have iz1 : z1.toInt = i.toInt + 1 := zi_add ez1 rfl (show (1 : Int32).toInt = 1 from rfl) (by omega) (by omega)
  refine va_sld hx hb hX hbl hbA hS (vp_in_iff.mpr ⟨by omega, by omega⟩) dL_law_1656 ?_
  refine lv_topi (fun y2 ey2 => ?_)
  obtain rfl : y2 = xs (9 * k + 1) := ey2.trans (congrArg xs (show z1.toInt.toNat = 9 * k + 1 by omega))
  refine tgk_12 hG hxo (fun y3 y3l y4 y5 y6 y7 y8 y9a y9b y9c => ?_)
  refine tpk_12 hT hxo (fun o10_x6 hf_o10 => ?_)
  refine tpk_pos (tp_in hG hxo (by decide)) hf_o10 (fun q11 eq11 => ?_)
  have hFc := tp_fr hD hS hA
  obtain ⟨R_16, hRe_16⟩ : ∃ R, R = mo_R (mo_i (f (ρ mo 2))) := ⟨_, rfl⟩; rw [← hRe_16] at l0 l1 l2 l3 l4 l5 l6
  refine va_calli (va_runV (As := [.int (xs (9 * k + 1))]) (rest := []) ⟨hx, hb, hml, hown, hts⟩ (t_X11_back l dC dI _ (mo_O κ mo_n) κ τ ν ρ L f hG hT xo (xs (9 * k + 1)) hxo) (cwV 1 hts gz_X11_back rfl rfl rfl ⟨rfl, pd_X11_back⟩ ⟨Nat.le_of_ble_eq_true rfl, Nat.le_of_ble_eq_true rfl⟩) ⟨pz_blind, va_recv hK hP (ci := 11) (q0 := q11) rfl eq11, pz_pre hP hK hD hN⟩ rfl rfl hl.1 rfl (lv_room (Nat.le_of_ble_eq_true rfl)) dL_law_1657 ⟨by show _ ≤ 600000; omega, by show _ ≤ 7302249; omega⟩) hS (fun q _ h => hFc q h) hFc (fun r12 f14 t H1 locs ht hvm hw13 hB hz1 hk1 hS => ?_)
  refine tn_4 hw13 (fun hT1 hF15 hw13r hw13p => ?_); clear hw13
  obtain ⟨hw_t, hw_l⟩ := (tpg_12 hG hxo).1
  obtain ⟨-, -, -, -, -, -, ⟨ht13, -, hl13⟩, ⟨ht14, -, hl14⟩, ⟨ht15, -, -, hl15⟩, -, -, ⟨ht18, -, -, hl18⟩⟩ := tpg_11 hG hw_t
  have hJ : mo_RI (-1) 0 (mo_R (mo_i (f14 (ρ mo 2)))) := by rw [hF15 _ (by rw [hrow]; decide)]; exact hJ
  have hIM : mo_IM (mo_R (mo_i (f14 (ρ mo 3)))) := by rw [hF15 _ (by rw [hims]; decide)]; exact hIM
  obtain ⟨hXE, hw13pq⟩ := hw13p
  have him9 : f14 (ρ xo 1) = f (ρ xo 1) := hF15 _ (by rw [(tpg_12 hG hxo).2.1]; decide)
  have hl_o : lz_W ρ f (ρ xo 0) R_16 := ⟨l0, l1, l2, l3, l4, l5, l6⟩
  have hPo := hPm
  have hPm := lz_P.keep hG hT hxo hXE (fun n q9 => q9) him9 (by rw [hF15 _ (by rw [hims]; decide)]) (by rw [hF15 _ (by rw [hkep]; decide)]) hPm
  have hRe : mo_R (mo_i (f14 (ρ mo 2))) = R_16 := by rw [hF15 _ (by rw [hrow]; decide)]; exact hRe_16.symm
  have hT := hT1
  have hP := hB.1; rw [ht] at hP; have hD := tp_ad f14 hD; clear hB hFc hz1 hk1; subst ht; generalize t.heap = H at hP hS ⊢
  refine lv_pop hx hb dL_law_1660 rfl ?_
  refine lv_aload_n hx hb dL_law_1661 rfl (lv_at hl 2 rfl) ?_
  refine lv_aload_n hx hb dL_law_1662 rfl (lv_at hl 0 rfl) ?_
  refine lv_iload_n hx hb dL_law_1663 rfl (lv_at hl 3 rfl) ?_
  refine lv_iconst (v := 1) hx hb dL_law_1664 (by decide) ?_
  refine lv_iadd hx hb dL_law_1665 ?_
  refine lv_topi (fun z17 ez17 => ?_)
  have iz17 : z17.toInt = i.toInt + 1 := zi_add ez17 rfl (show (1 : Int32).toInt = 1 from rfl) (by omega) (by omega)
  refine va_sld hx hb hX hbl hbA hS (vp_in_iff.mpr ⟨by omega, by omega⟩) dL_law_1666 ?_
  refine lv_topi (fun y18 ey18 => ?_)
  obtain rfl : y18 = xs (9 * k + 1) := ey18.trans (congrArg xs (show z17.toInt.toNat = 9 * k + 1 by omega))
  refine tgk_13 hG hmo (fun y19 y20 y21 y22 y23 y24 y25 y26 y27 y28 y29 y30 y31 y32 y33 y34 y35 y36 y37 y38 y39 y40 y41 y42 y43 => ?_)
  refine tpk_13 hT hmo (fun o44_x0 o44_x1 o44_x7 o44_x9 o44_x10 o44_x11 o44_x12 o44_x13 o44_x14 o44_x15 o44_x16 o44_x17 o44_x18 o44_x19 o44_x20 o44_x22 o44_x25 o44_x28 o44_x29 o44_x32 o44_x33 o44_x34 o44_x35 o44_x36 o44_x37 o44_x38 o44_x47 o44_x48 hf_o44 ro44_0 ro44_1 ro44_2 ro44_3 ro44_4 ro44_5 ro44_6 ro44_7 ro44_8 ro44_9 ro44_10 ro44_11 ro44_12 ro44_13 ro44_14 => ?_)
  refine tpk_pos (tp_in hG hmo (by decide)) hf_o44 (fun q45 eq45 => ?_)
  have hFc := tp_fr hD hS hA
  have hRe_50 : R_16 = mo_R (mo_i (f14 (ρ mo 2))) := hRe.symm
  refine va_calli (va_runV (As := [.int (xs (9 * k + 1))]) (rest := []) ⟨hx, hb, hml, hown, hts⟩ (t_X12_back l dC dI _ κ mo_n τ ν ρ L f14 hG hT mo (xs (9 * k + 1)) hmo hJ hIM) (cwV 1 hts gz_X12_back rfl rfl rfl ⟨rfl, pd_X12_back⟩ ⟨Nat.le_of_ble_eq_true rfl, Nat.le_of_ble_eq_true rfl⟩) ⟨pz_blind, va_recv hK hP (ci := 12) (q0 := q45) rfl eq45, pz_pre hP hK hD hN⟩ rfl rfl hl.1 rfl (lv_room (Nat.le_of_ble_eq_true rfl)) dL_law_1667 ⟨by show _ ≤ 600000; omega, by show _ ≤ 7302249; omega⟩) hS (fun q _ h => hFc q h) hFc (fun r46 f48 t H1 locs ht hvm hw47 hB hz1 hk1 hS => ?_)
  refine tn_4 hw47 (fun hT1 hF49 hw47r hw47p => ?_); clear hw47
  obtain ⟨hw_t, hw_l⟩ := (tpg_12 hG hxo).1
  obtain ⟨-, -, -, -, -, -, ⟨ht13, -, hl13⟩, ⟨ht14, -, hl14⟩, ⟨ht15, -, -, hl15⟩, -, -, ⟨ht18, -, -, hl18⟩⟩ := tpg_11 hG hw_t
  obtain ⟨hJ, hw47pb⟩ := hw47p
  obtain ⟨Rn, hRn⟩ : ∃ R, R = mo_R (mo_i (f48 (ρ mo 2))) := ⟨_, rfl⟩
  rw [← hRn, ← hRe_50] at hw47pb
  have hIM : mo_IM (mo_R (mo_i (f48 (ρ mo 3)))) := by rw [hF49 _ (by rw [hims]; decide)]; exact hIM
  obtain ⟨heq9, hWn⟩ := lz_back hl_o hPo (by rw [(hF15 _ (by rw [hims]; decide))]) (by rw [(hF15 _ (by rw [hkep]; decide))]) hw13pq hw47pb
  obtain ⟨l0, l1, l2, l3, l4, l5, l6⟩ := lz_W.keep hG hw_t (tp_X.of (E := fun _ => False) hF49 (by decide)) (fun _ _ _ z => z) hWn
  rw [hRn] at l0 l1 l2 l3 l4 l5 l6
  have hPm := lz_P.keep hG hT hxo (tp_X.of (E := fun _ => False) hF49 (by decide)) (fun n q9 => False.elim q9) (hF49 _ (by rw [(tpg_12 hG hxo).2.1]; decide)) (by rw [hF49 _ (by rw [hims]; decide)]) (by rw [hF49 _ (by rw [hkep]; decide)]) hPm
  have hT := hT1
  have hP := hB.1; rw [ht] at hP; have hD := tp_ad f48 hD; clear hB hFc hz1 hk1; subst ht; generalize t.heap = H at hP hS ⊢
  refine lv_pop hx hb dL_law_1670 rfl ?_
  refine lv_goto (tgt := 1710) hx hb dL_law_1671 (by decide) ?_
  refine tp_widen (cells + 110) (slots + 2634) (by omega) (by omega) ?_
  exact kk τ ν ρ L f48 _ _ _ ⟨hG, hT, hxo, hmo, hJ, hIM, ⟨l0, l1, l2, l3, l4, l5, l6⟩, hPm⟩ hP hD hS (lv_sub hl [0, 1, 2, 3] rfl)
set_option maxHeartbeats 8000000 in
set_option maxRecDepth 100000 in
theorem law_case_38 {p : Program} {l : Launch} {e : Env} {s : State} {m : MethodId} {below : List Frame} {meth : Method} {c : Code} {b N9 : Nat} {xs : Nat → Int32} {dC : Nat → ClassId} {dI : Nat → Nat → Nat} {κ : Nat → ClassId} {adK adV : Nat → Nat} {zv : Option Nat} {xo mo : Nat} {k cells slots : Nat} {i : Int32} (C0 : lw_At p s m meth c b N9 xs) (hN9 : N9 ≤ 4608) (hN : nz_ok s) (hZ : pw_Z adK adV zv (fun q : Nat => s.heap.size ≤ q) s s.heap) (hK : va_K (dC, dI) vwCl (tp_K κ) s) (hk : 9 * k + 9 ≤ N9) (hi : i.toInt = 9 * (k : Int)) (hc : cells + 110 ≤ 600000) (hs : slots + 2634 ≤ 7302249) (kk : ∀ (τ ν : Nat → Nat) (ρ : Nat → Nat → Nat) (L : List Nat) (f : Nat → va_E) (H : Heap) (locs : List Loc) (ls : Array Slot), lz_I κ xo mo τ ν ρ L f → va_P (dC, dI) vwCl (va_pl L f) H → va_D (fun q : Nat => s.heap.size ≤ q) (va_pl L f) → va_S (fun q : Nat => s.heap.size ≤ q) s.heap H locs → lv_has ls 4 [(0, .ref b), (1, .ref xo), (2, .ref mo), (3, .int i)] → W p l e room_1 s m #[Value.ref b] below meth c H locs (cells + 110) (slots + 2634) (lw_Z below #[Value.ref b] s) (F0 m 1710 ls [])) {τ ν : Nat → Nat} {ρ : Nat → Nat → Nat} {L : List Nat} {f : Nat → va_E} {H : Heap} {locs : List Loc} {ls : Array Slot}  (hI : lz_I κ xo mo τ ν ρ L f) (hP : va_P (dC, dI) vwCl (va_pl L f) H) (hD : va_D (fun q : Nat => s.heap.size ≤ q) (va_pl L f)) (hS : va_S (fun q : Nat => s.heap.size ≤ q) s.heap H locs) (hl : lv_has ls 4 [(0, .ref b), (1, .ref xo), (2, .ref mo), (3, .int i)]) : W p l e room_1 s m #[Value.ref b] below meth c H locs cells slots (lw_Z below #[Value.ref b] s) (F0 m 1674 ls []) := by
  obtain ⟨hx, hb, hr, hml, hown, hts, hX, hbl, hlocks, hgv⟩ := id C0
  have hown : s.vm.findClass RL = some m.cls := hown
  have hA : ∀ q : Nat, s.heap.size ≤ q → (fun q : Nat => s.heap.size ≤ q) q := fun _ h => h
  have hbA : ¬ (fun q : Nat => s.heap.size ≤ q) b := Nat.not_le.mpr hbl
  obtain ⟨hG, hT, hxo, hmo, hJ, hIM, ⟨l0, l1, l2, l3, l4, l5, l6⟩, hPm⟩ := hI
  have hrow := (tpg_13 hG hmo).1; have hims := (tpg_13 hG hmo).2.1; have hkep := (tpg_13 hG hmo).2.2.1
  refine lv_aload_n hx hb dL_law_1674 rfl (lv_at hl 1 rfl) ?_
  refine lv_aload_n hx hb dL_law_1675 rfl (lv_at hl 0 rfl) ?_
  refine lv_iload_n hx hb dL_law_1676 rfl (lv_at hl 3 rfl) ?_
  refine lv_iconst (v := 1) hx hb dL_law_1677 (by decide) ?_
  refine lv_iadd hx hb dL_law_1678 ?_
  refine lv_topi (fun z1 ez1 => ?_)
  have iz1 : z1.toInt = i.toInt + 1 := zi_add ez1 rfl (show (1 : Int32).toInt = 1 from rfl) (by omega) (by omega)
  refine va_sld hx hb hX hbl hbA hS (vp_in_iff.mpr ⟨by omega, by omega⟩) dL_law_1679 ?_
  refine lv_topi (fun y2 ey2 => ?_)
  obtain rfl : y2 = xs (9 * k + 1) := ey2.trans (congrArg xs (show z1.toInt.toNat = 9 * k + 1 by omega))
  refine tgk_12 hG hxo (fun y3 y3l y4 y5 y6 y7 y8 y9a y9b y9c => ?_)
  refine tpk_12 hT hxo (fun o10_x6 hf_o10 => ?_)
  refine tpk_pos (tp_in hG hxo (by decide)) hf_o10 (fun q11 eq11 => ?_)
  have hFc := tp_fr hD hS hA
  obtain ⟨R_16, hRe_16⟩ : ∃ R, R = mo_R (mo_i (f (ρ mo 2))) := ⟨_, rfl⟩; rw [← hRe_16] at l0 l1 l2 l3 l4 l5 l6
  refine va_calli (va_runV (As := [.int (xs (9 * k + 1))]) (rest := []) ⟨hx, hb, hml, hown, hts⟩ (t_X11_count l dC dI _ (mo_O κ mo_n) κ τ ν ρ L f hG hT xo (xs (9 * k + 1)) hxo) (cwV 1 hts gz_X11_count rfl rfl rfl ⟨rfl, pd_X11_count⟩ ⟨Nat.le_of_ble_eq_true rfl, Nat.le_of_ble_eq_true rfl⟩) ⟨pz_blind, va_recv hK hP (ci := 11) (q0 := q11) rfl eq11, pz_pre hP hK hD hN⟩ rfl rfl hl.1 rfl (lv_room (Nat.le_of_ble_eq_true rfl)) dL_law_1680 ⟨by show _ ≤ 600000; omega, by show _ ≤ 7302249; omega⟩) hS (fun q _ h => hFc q h) hFc (fun r12 f14 t H1 locs ht hvm hw13 hB hz1 hk1 hS => ?_)
  refine tn_4 hw13 (fun hT1 hF15 hw13r hw13p => ?_); clear hw13
  obtain ⟨hw_t, hw_l⟩ := (tpg_12 hG hxo).1
  obtain ⟨-, -, -, -, -, -, ⟨ht13, -, hl13⟩, ⟨ht14, -, hl14⟩, ⟨ht15, -, -, hl15⟩, -, -, ⟨ht18, -, -, hl18⟩⟩ := tpg_11 hG hw_t
  have hJ : mo_RI (-1) 0 (mo_R (mo_i (f14 (ρ mo 2)))) := by rw [hF15 _ (by rw [hrow]; decide)]; exact hJ
  have hIM : mo_IM (mo_R (mo_i (f14 (ρ mo 3)))) := by rw [hF15 _ (by rw [hims]; decide)]; exact hIM
  have hXE : tp_X τ ρ (fun n => False) f f14 := tp_X.of hF15 (by decide)
  have m0 : tp_fld (f14 (ρ xo 0)) 0 = R_16 (11) := (congrArg (fun q => tp_fld q 0) (hXE (ρ xo 0) (Or.inr (Or.inr hw_t)) (fun q9 => q9))).trans l0
  have m1 : tp_fld (f14 (ρ xo 0)) 4 = R_16 (0) := (congrArg (fun q => tp_fld q 4) (hXE (ρ xo 0) (Or.inr (Or.inr hw_t)) (fun q9 => q9))).trans l1
  have m2 : tp_fld (f14 (ρ xo 0)) 5 = R_16 (1) := (congrArg (fun q => tp_fld q 5) (hXE (ρ xo 0) (Or.inr (Or.inr hw_t)) (fun q9 => q9))).trans l2
  have m3 : tp_fld (f14 (ρ (ρ xo 0) 13)) 3 = R_16 (3) := (congrArg (fun q => tp_fld q 3) (hXE (ρ (ρ xo 0) 13) (Or.inr (Or.inl ht13)) (fun q9 => q9))).trans l3
  have m4 : tp_fld (f14 (ρ (ρ xo 0) 14)) 3 = R_16 (7) := (congrArg (fun q => tp_fld q 3) (hXE (ρ (ρ xo 0) 14) (Or.inr (Or.inl ht14)) (fun q9 => q9))).trans l4
  have m5 : tp_fld (f14 (ρ (ρ xo 0) 15)) 2 = R_16 (6) := (congrArg (fun q => tp_fld q 2) (hXE (ρ (ρ xo 0) 15) (Or.inl ht15) (fun q9 => q9))).trans l5
  have m6 : tp_fld (f14 (ρ (ρ xo 0) 18)) 2 = R_16 (10) := (congrArg (fun q => tp_fld q 2) (hXE (ρ (ρ xo 0) 18) (Or.inl ht18) (fun q9 => q9))).trans l6
  have hPm := lz_P.keep hG hT hxo hXE (fun n q9 => by have q8 : False := q9; first | exact q8.elim | omega) (hF15 _ (by rw [(tpg_12 hG hxo).2.1]; decide)) (by rw [hF15 _ (by rw [hims]; decide)]) (by rw [hF15 _ (by rw [hkep]; decide)]) hPm
  have l0 := m0
  have l1 := m1
  have l2 := m2
  have l3 := m3
  have l4 := m4
  have l5 := m5
  have l6 := m6
  have hRe : mo_R (mo_i (f14 (ρ mo 2))) = R_16 := by rw [hF15 _ (by rw [hrow]; decide)]; exact hRe_16.symm
  have hT := hT1
  have hP := hB.1; rw [ht] at hP; have hD := tp_ad f14 hD; clear hB hFc hz1 hk1; subst ht; generalize t.heap = H at hP hS ⊢
  refine lv_pop hx hb dL_law_1683 rfl ?_
  refine lv_aload_n hx hb dL_law_1684 rfl (lv_at hl 2 rfl) ?_
  refine lv_aload_n hx hb dL_law_1685 rfl (lv_at hl 0 rfl) ?_
  refine lv_iload_n hx hb dL_law_1686 rfl (lv_at hl 3 rfl) ?_
  refine lv_iconst (v := 1) hx hb dL_law_1687 (by decide) ?_
  refine lv_iadd hx hb dL_law_1688 ?_
  refine lv_topi (fun z17 ez17 => ?_)
  have iz17 : z17.toInt = i.toInt + 1 := zi_add ez17 rfl (show (1 : Int32).toInt = 1 from rfl) (by omega) (by omega)
  refine va_sld hx hb hX hbl hbA hS (vp_in_iff.mpr ⟨by omega, by omega⟩) dL_law_1689 ?_
  refine lv_topi (fun y18 ey18 => ?_)
  obtain rfl : y18 = xs (9 * k + 1) := ey18.trans (congrArg xs (show z17.toInt.toNat = 9 * k + 1 by omega))
  refine tgk_13 hG hmo (fun y19 y20 y21 y22 y23 y24 y25 y26 y27 y28 y29 y30 y31 y32 y33 y34 y35 y36 y37 y38 y39 y40 y41 y42 y43 => ?_)
  refine tpk_13 hT hmo (fun o44_x0 o44_x1 o44_x7 o44_x9 o44_x10 o44_x11 o44_x12 o44_x13 o44_x14 o44_x15 o44_x16 o44_x17 o44_x18 o44_x19 o44_x20 o44_x22 o44_x25 o44_x28 o44_x29 o44_x32 o44_x33 o44_x34 o44_x35 o44_x36 o44_x37 o44_x38 o44_x47 o44_x48 hf_o44 ro44_0 ro44_1 ro44_2 ro44_3 ro44_4 ro44_5 ro44_6 ro44_7 ro44_8 ro44_9 ro44_10 ro44_11 ro44_12 ro44_13 ro44_14 => ?_)
  refine tpk_pos (tp_in hG hmo (by decide)) hf_o44 (fun q45 eq45 => ?_)
  have hFc := tp_fr hD hS hA
  have hRe_50 : R_16 = mo_R (mo_i (f14 (ρ mo 2))) := hRe.symm
  refine va_calli (va_runV (As := [.int (xs (9 * k + 1))]) (rest := []) ⟨hx, hb, hml, hown, hts⟩ (t_X12_count l dC dI _ κ mo_n τ ν ρ L f14 hG hT mo (xs (9 * k + 1)) hmo hJ) (cwV 1 hts gz_X12_count rfl rfl rfl ⟨rfl, pd_X12_count⟩ ⟨Nat.le_of_ble_eq_true rfl, Nat.le_of_ble_eq_true rfl⟩) ⟨pz_blind, va_recv hK hP (ci := 12) (q0 := q45) rfl eq45, pz_pre hP hK hD hN⟩ rfl rfl hl.1 rfl (lv_room (Nat.le_of_ble_eq_true rfl)) dL_law_1690 ⟨by show _ ≤ 600000; omega, by show _ ≤ 7302249; omega⟩) hS (fun q _ h => hFc q h) hFc (fun r46 f48 t H1 locs ht hvm hw47 hB hz1 hk1 hS => ?_)
  refine tn_4 hw47 (fun hT1 hF49 hw47r hw47p => ?_); clear hw47
  obtain ⟨hw_t, hw_l⟩ := (tpg_12 hG hxo).1
  obtain ⟨-, -, -, -, -, -, ⟨ht13, -, hl13⟩, ⟨ht14, -, hl14⟩, ⟨ht15, -, -, hl15⟩, -, -, ⟨ht18, -, -, hl18⟩⟩ := tpg_11 hG hw_t
  have hJ : mo_RI (-1) 0 (mo_R (mo_i (f48 (ρ mo 2)))) := by rw [hF49 _ (by rw [hrow]; decide)]; exact hJ
  have hRn : R_16 = mo_R (mo_i (f48 (ρ mo 2))) := by rw [hF49 _ (by rw [hrow]; decide)]; exact hRe_50
  have hIM : mo_IM (mo_R (mo_i (f48 (ρ mo 3)))) := by rw [hF49 _ (by rw [hims]; decide)]; exact hIM
  have m0 : tp_fld (f48 (ρ xo 0)) 0 = R_16 (11) := ((congrArg (fun q => tp_fld q 0) (hF49 (ρ xo 0) (by rw [hw_t]; decide))).trans l0)
  have m1 : tp_fld (f48 (ρ xo 0)) 4 = R_16 (0) := ((congrArg (fun q => tp_fld q 4) (hF49 (ρ xo 0) (by rw [hw_t]; decide))).trans l1)
  have m2 : tp_fld (f48 (ρ xo 0)) 5 = R_16 (1) := ((congrArg (fun q => tp_fld q 5) (hF49 (ρ xo 0) (by rw [hw_t]; decide))).trans l2)
  have m3 : tp_fld (f48 (ρ (ρ xo 0) 13)) 3 = R_16 (3) := ((congrArg (fun q => tp_fld q 3) (hF49 (ρ (ρ xo 0) 13) (by rw [ht13]; decide))).trans l3)
  have m4 : tp_fld (f48 (ρ (ρ xo 0) 14)) 3 = R_16 (7) := ((congrArg (fun q => tp_fld q 3) (hF49 (ρ (ρ xo 0) 14) (by rw [ht14]; decide))).trans l4)
  have m5 : tp_fld (f48 (ρ (ρ xo 0) 15)) 2 = R_16 (6) := ((congrArg (fun q => tp_fld q 2) (hF49 (ρ (ρ xo 0) 15) (by rw [ht15]; decide))).trans l5)
  have m6 : tp_fld (f48 (ρ (ρ xo 0) 18)) 2 = R_16 (10) := ((congrArg (fun q => tp_fld q 2) (hF49 (ρ (ρ xo 0) 18) (by rw [ht18]; decide))).trans l6)
  have l0 := m0
  have l1 := m1
  have l2 := m2
  have l3 := m3
  have l4 := m4
  have l5 := m5
  have l6 := m6
  rw [hRn] at l0 l1 l2 l3 l4 l5 l6
  have hPm := lz_P.keep hG hT hxo (tp_X.of (E := fun _ => False) hF49 (by decide)) (fun n q9 => False.elim q9) (hF49 _ (by rw [(tpg_12 hG hxo).2.1]; decide)) (by rw [hF49 _ (by rw [hims]; decide)]) (by rw [hF49 _ (by rw [hkep]; decide)]) hPm
  have hT := hT1
  have hP := hB.1; rw [ht] at hP; have hD := tp_ad f48 hD; clear hB hFc hz1 hk1; subst ht; generalize t.heap = H at hP hS ⊢
  refine lv_pop hx hb dL_law_1693 rfl ?_
  refine lv_goto (tgt := 1710) hx hb dL_law_1694 (by decide) ?_
  refine tp_widen (cells + 110) (slots + 2634) (by omega) (by omega) ?_
  exact kk τ ν ρ L f48 _ _ _ ⟨hG, hT, hxo, hmo, hJ, hIM, ⟨l0, l1, l2, l3, l4, l5, l6⟩, hPm⟩ hP hD hS (lv_sub hl [0, 1, 2, 3] rfl)
end
section
set_option maxHeartbeats 8000000 in
set_option maxRecDepth 100000 in
theorem law_case_39 {p : Program} {l : Launch} {e : Env} {s : State} {m : MethodId} {below : List Frame} {meth : Method} {c : Code} {b N9 : Nat} {xs : Nat → Int32} {dC : Nat → ClassId} {dI : Nat → Nat → Nat} {κ : Nat → ClassId} {adK adV : Nat → Nat} {zv : Option Nat} {xo mo : Nat} {k cells slots : Nat} {i : Int32} (C0 : lw_At p s m meth c b N9 xs) (hN9 : N9 ≤ 4608) (hN : nz_ok s) (hZ : pw_Z adK adV zv (fun q : Nat => s.heap.size ≤ q) s s.heap) (hK : va_K (dC, dI) vwCl (tp_K κ) s) (hk : 9 * k + 9 ≤ N9) (hi : i.toInt = 9 * (k : Int)) (hc : cells + 110 ≤ 600000) (hs : slots + 2634 ≤ 7302249) (kk : ∀ (τ ν : Nat → Nat) (ρ : Nat → Nat → Nat) (L : List Nat) (f : Nat → va_E) (H : Heap) (locs : List Loc) (ls : Array Slot), lz_I κ xo mo τ ν ρ L f → va_P (dC, dI) vwCl (va_pl L f) H → va_D (fun q : Nat => s.heap.size ≤ q) (va_pl L f) → va_S (fun q : Nat => s.heap.size ≤ q) s.heap H locs → lv_has ls 4 [(0, .ref b), (1, .ref xo), (2, .ref mo), (3, .int i)] → W p l e room_1 s m #[Value.ref b] below meth c H locs (cells + 110) (slots + 2634) (lw_Z below #[Value.ref b] s) (F0 m 1710 ls [])) {τ ν : Nat → Nat} {ρ : Nat → Nat → Nat} {L : List Nat} {f : Nat → va_E} {H : Heap} {locs : List Loc} {ls : Array Slot}  (hI : lz_I κ xo mo τ ν ρ L f) (hP : va_P (dC, dI) vwCl (va_pl L f) H) (hD : va_D (fun q : Nat => s.heap.size ≤ q) (va_pl L f)) (hS : va_S (fun q : Nat => s.heap.size ≤ q) s.heap H locs) (hl : lv_has ls 4 [(0, .ref b), (1, .ref xo), (2, .ref mo), (3, .int i)]) : W p l e room_1 s m #[Value.ref b] below meth c H locs cells slots (lw_Z below #[Value.ref b] s) (F0 m 1697 ls []) := by
  obtain ⟨hx, hb, hr, hml, hown, hts, hX, hbl, hlocks, hgv⟩ := id C0
  have hown : s.vm.findClass RL = some m.cls := hown
  have hA : ∀ q : Nat, s.heap.size ≤ q → (fun q : Nat => s.heap.size ≤ q) q := fun _ h => h
  have hbA : ¬ (fun q : Nat => s.heap.size ≤ q) b := Nat.not_le.mpr hbl
  obtain ⟨hG, hT, hxo, hmo, hJ, hIM, ⟨l0, l1, l2, l3, l4, l5, l6⟩, hPm⟩ := hI
  have hrow := (tpg_13 hG hmo).1; have hims := (tpg_13 hG hmo).2.1; have hkep := (tpg_13 hG hmo).2.2.1
  refine lv_aload_n hx hb dL_law_1697 rfl (lv_at hl 1 rfl) ?_
  refine tgk_12 hG hxo (fun y1 y1l y2 y3 y4 y5 y6 y7a y7b y7c => ?_)
  refine tpk_12 hT hxo (fun o8_x6 hf_o8 => ?_)
  refine tpk_pos (tp_in hG hxo (by decide)) hf_o8 (fun q9 eq9 => ?_)
  have hFc := tp_fr hD hS hA
  obtain ⟨R_14, hRe_14⟩ : ∃ R, R = mo_R (mo_i (f (ρ mo 2))) := ⟨_, rfl⟩; rw [← hRe_14] at l0 l1 l2 l3 l4 l5 l6
  refine va_calli (va_runV (As := []) (rest := []) ⟨hx, hb, hml, hown, hts⟩ (t_X11_status l dC dI _ (mo_O κ mo_n) κ τ ν ρ L f hG hT xo hxo) (cwV 0 hts gz_X11_status rfl rfl rfl ⟨rfl, pd_X11_status⟩ ⟨Nat.le_of_ble_eq_true rfl, Nat.le_of_ble_eq_true rfl⟩) ⟨pz_blind, va_recv hK hP (ci := 11) (q0 := q9) rfl eq9, pz_pre hP hK hD hN⟩ rfl rfl hl.1 rfl (lv_room (Nat.le_of_ble_eq_true rfl)) dL_law_1698 ⟨by show _ ≤ 600000; omega, by show _ ≤ 7302249; omega⟩) hS (fun q _ h => hFc q h) hFc (fun r10 f12 t H1 locs ht hvm hw11 hB hz1 hk1 hS => ?_)
  refine tn_4 hw11 (fun hT1 hF13 hw11r hw11p => ?_); clear hw11
  obtain ⟨hw_t, hw_l⟩ := (tpg_12 hG hxo).1
  obtain ⟨-, -, -, -, -, -, ⟨ht13, -, hl13⟩, ⟨ht14, -, hl14⟩, ⟨ht15, -, -, hl15⟩, -, -, ⟨ht18, -, -, hl18⟩⟩ := tpg_11 hG hw_t
  have hJ : mo_RI (-1) 0 (mo_R (mo_i (f12 (ρ mo 2)))) := by rw [hF13 _ (by rw [hrow]; decide)]; exact hJ
  have hIM : mo_IM (mo_R (mo_i (f12 (ρ mo 3)))) := by rw [hF13 _ (by rw [hims]; decide)]; exact hIM
  have hXE : tp_X τ ρ (fun n => False) f f12 := tp_X.of hF13 (by decide)
  have m0 : tp_fld (f12 (ρ xo 0)) 0 = R_14 (11) := (congrArg (fun q => tp_fld q 0) (hXE (ρ xo 0) (Or.inr (Or.inr hw_t)) (fun q9 => q9))).trans l0
  have m1 : tp_fld (f12 (ρ xo 0)) 4 = R_14 (0) := (congrArg (fun q => tp_fld q 4) (hXE (ρ xo 0) (Or.inr (Or.inr hw_t)) (fun q9 => q9))).trans l1
  have m2 : tp_fld (f12 (ρ xo 0)) 5 = R_14 (1) := (congrArg (fun q => tp_fld q 5) (hXE (ρ xo 0) (Or.inr (Or.inr hw_t)) (fun q9 => q9))).trans l2
  have m3 : tp_fld (f12 (ρ (ρ xo 0) 13)) 3 = R_14 (3) := (congrArg (fun q => tp_fld q 3) (hXE (ρ (ρ xo 0) 13) (Or.inr (Or.inl ht13)) (fun q9 => q9))).trans l3
  have m4 : tp_fld (f12 (ρ (ρ xo 0) 14)) 3 = R_14 (7) := (congrArg (fun q => tp_fld q 3) (hXE (ρ (ρ xo 0) 14) (Or.inr (Or.inl ht14)) (fun q9 => q9))).trans l4
  have m5 : tp_fld (f12 (ρ (ρ xo 0) 15)) 2 = R_14 (6) := (congrArg (fun q => tp_fld q 2) (hXE (ρ (ρ xo 0) 15) (Or.inl ht15) (fun q9 => q9))).trans l5
  have m6 : tp_fld (f12 (ρ (ρ xo 0) 18)) 2 = R_14 (10) := (congrArg (fun q => tp_fld q 2) (hXE (ρ (ρ xo 0) 18) (Or.inl ht18) (fun q9 => q9))).trans l6
  have hPm := lz_P.keep hG hT hxo hXE (fun n q9 => by have q8 : False := q9; first | exact q8.elim | omega) (hF13 _ (by rw [(tpg_12 hG hxo).2.1]; decide)) (by rw [hF13 _ (by rw [hims]; decide)]) (by rw [hF13 _ (by rw [hkep]; decide)]) hPm
  have l0 := m0
  have l1 := m1
  have l2 := m2
  have l3 := m3
  have l4 := m4
  have l5 := m5
  have l6 := m6
  have hRe : mo_R (mo_i (f12 (ρ mo 2))) = R_14 := by rw [hF13 _ (by rw [hrow]; decide)]; exact hRe_14.symm
  have hT := hT1
  have hP := hB.1; rw [ht] at hP; have hD := tp_ad f12 hD; clear hB hFc hz1 hk1; subst ht; generalize t.heap = H at hP hS ⊢
  refine lv_pop hx hb dL_law_1701 rfl ?_
  refine lv_aload_n hx hb dL_law_1702 rfl (lv_at hl 2 rfl) ?_
  refine tgk_13 hG hmo (fun y15 y16 y17 y18 y19 y20 y21 y22 y23 y24 y25 y26 y27 y28 y29 y30 y31 y32 y33 y34 y35 y36 y37 y38 y39 => ?_)
  refine tpk_13 hT hmo (fun o40_x0 o40_x1 o40_x7 o40_x9 o40_x10 o40_x11 o40_x12 o40_x13 o40_x14 o40_x15 o40_x16 o40_x17 o40_x18 o40_x19 o40_x20 o40_x22 o40_x25 o40_x28 o40_x29 o40_x32 o40_x33 o40_x34 o40_x35 o40_x36 o40_x37 o40_x38 o40_x47 o40_x48 hf_o40 ro40_0 ro40_1 ro40_2 ro40_3 ro40_4 ro40_5 ro40_6 ro40_7 ro40_8 ro40_9 ro40_10 ro40_11 ro40_12 ro40_13 ro40_14 => ?_)
  refine tpk_pos (tp_in hG hmo (by decide)) hf_o40 (fun q41 eq41 => ?_)
  have hFc := tp_fr hD hS hA
  have hRe_46 : R_14 = mo_R (mo_i (f12 (ρ mo 2))) := hRe.symm
  refine va_calli (va_runV (As := []) (rest := []) ⟨hx, hb, hml, hown, hts⟩ (t_X12_status l dC dI _ κ mo_n τ ν ρ L f12 hG hT mo hmo hJ) (cwV 0 hts gz_X12_status rfl rfl rfl ⟨rfl, pd_X12_status⟩ ⟨Nat.le_of_ble_eq_true rfl, Nat.le_of_ble_eq_true rfl⟩) ⟨pz_blind, va_recv hK hP (ci := 12) (q0 := q41) rfl eq41, pz_pre hP hK hD hN⟩ rfl rfl hl.1 rfl (lv_room (Nat.le_of_ble_eq_true rfl)) dL_law_1703 ⟨by show _ ≤ 600000; omega, by show _ ≤ 7302249; omega⟩) hS (fun q _ h => hFc q h) hFc (fun r42 f44 t H1 locs ht hvm hw43 hB hz1 hk1 hS => ?_)
  refine tn_4 hw43 (fun hT1 hF45 hw43r hw43p => ?_); clear hw43
  obtain ⟨hw_t, hw_l⟩ := (tpg_12 hG hxo).1
  obtain ⟨-, -, -, -, -, -, ⟨ht13, -, hl13⟩, ⟨ht14, -, hl14⟩, ⟨ht15, -, -, hl15⟩, -, -, ⟨ht18, -, -, hl18⟩⟩ := tpg_11 hG hw_t
  have hJ : mo_RI (-1) 0 (mo_R (mo_i (f44 (ρ mo 2)))) := by rw [hF45 _ (by rw [hrow]; decide)]; exact hJ
  have hRn : R_14 = mo_R (mo_i (f44 (ρ mo 2))) := by rw [hF45 _ (by rw [hrow]; decide)]; exact hRe_46
  have hIM : mo_IM (mo_R (mo_i (f44 (ρ mo 3)))) := by rw [hF45 _ (by rw [hims]; decide)]; exact hIM
  have m0 : tp_fld (f44 (ρ xo 0)) 0 = R_14 (11) := ((congrArg (fun q => tp_fld q 0) (hF45 (ρ xo 0) (by rw [hw_t]; decide))).trans l0)
  have m1 : tp_fld (f44 (ρ xo 0)) 4 = R_14 (0) := ((congrArg (fun q => tp_fld q 4) (hF45 (ρ xo 0) (by rw [hw_t]; decide))).trans l1)
  have m2 : tp_fld (f44 (ρ xo 0)) 5 = R_14 (1) := ((congrArg (fun q => tp_fld q 5) (hF45 (ρ xo 0) (by rw [hw_t]; decide))).trans l2)
  have m3 : tp_fld (f44 (ρ (ρ xo 0) 13)) 3 = R_14 (3) := ((congrArg (fun q => tp_fld q 3) (hF45 (ρ (ρ xo 0) 13) (by rw [ht13]; decide))).trans l3)
  have m4 : tp_fld (f44 (ρ (ρ xo 0) 14)) 3 = R_14 (7) := ((congrArg (fun q => tp_fld q 3) (hF45 (ρ (ρ xo 0) 14) (by rw [ht14]; decide))).trans l4)
  have m5 : tp_fld (f44 (ρ (ρ xo 0) 15)) 2 = R_14 (6) := ((congrArg (fun q => tp_fld q 2) (hF45 (ρ (ρ xo 0) 15) (by rw [ht15]; decide))).trans l5)
  have m6 : tp_fld (f44 (ρ (ρ xo 0) 18)) 2 = R_14 (10) := ((congrArg (fun q => tp_fld q 2) (hF45 (ρ (ρ xo 0) 18) (by rw [ht18]; decide))).trans l6)
  have l0 := m0
  have l1 := m1
  have l2 := m2
  have l3 := m3
  have l4 := m4
  have l5 := m5
  have l6 := m6
  rw [hRn] at l0 l1 l2 l3 l4 l5 l6
  have hPm := lz_P.keep hG hT hxo (tp_X.of (E := fun _ => False) hF45 (by decide)) (fun n q9 => False.elim q9) (hF45 _ (by rw [(tpg_12 hG hxo).2.1]; decide)) (by rw [hF45 _ (by rw [hims]; decide)]) (by rw [hF45 _ (by rw [hkep]; decide)]) hPm
  have hT := hT1
  have hP := hB.1; rw [ht] at hP; have hD := tp_ad f44 hD; clear hB hFc hz1 hk1; subst ht; generalize t.heap = H at hP hS ⊢
  refine lv_pop hx hb dL_law_1706 rfl ?_
  refine lv_goto (tgt := 1710) hx hb dL_law_1707 (by decide) ?_
  refine tp_widen (cells + 110) (slots + 2634) (by omega) (by omega) ?_
  exact kk τ ν ρ L f44 _ _ _ ⟨hG, hT, hxo, hmo, hJ, hIM, ⟨l0, l1, l2, l3, l4, l5, l6⟩, hPm⟩ hP hD hS (lv_sub hl [0, 1, 2, 3] rfl)
end
section
set_option maxHeartbeats 8000000 in
set_option maxRecDepth 100000 in
theorem law_head {p : Program} {l : Launch} {e : Env} {s : State} {m : MethodId} {below : List Frame} {meth : Method} {c : Code} {b N9 : Nat} {xs : Nat → Int32} {dC : Nat → ClassId} {dI : Nat → Nat → Nat} {κ : Nat → ClassId} {adK adV : Nat → Nat} {zv : Option Nat} {xo mo : Nat} {k cells slots : Nat} {i : Int32} (C0 : lw_At p s m meth c b N9 xs) (hN9 : N9 ≤ 4608) (hN : nz_ok s) (hZ : pw_Z adK adV zv (fun q : Nat => s.heap.size ≤ q) s s.heap) (hK : va_K (dC, dI) vwCl (tp_K κ) s) (hi : i.toInt = 9 * (k : Int)) (hk : 9 * k ≤ 4608) (hc : cells ≤ 600000) (hs : slots ≤ 7302249) {τ ν : Nat → Nat} {ρ : Nat → Nat → Nat} {L : List Nat} {f : Nat → va_E} {H : Heap} {locs : List Loc} {ls : Array Slot} (hI : lz_I κ xo mo τ ν ρ L f) (hP : va_P (dC, dI) vwCl (va_pl L f) H) (hD : va_D (fun q : Nat => s.heap.size ≤ q) (va_pl L f)) (hS : va_S (fun q : Nat => s.heap.size ≤ q) s.heap H locs) (hl : lv_has ls 4 [(0, .ref b), (1, .ref xo), (2, .ref mo), (3, .int i)]) (kk : 9 * k + 9 ≤ N9 → W p l e room_1 s m #[Value.ref b] below meth c H locs cells slots (lw_Z below #[Value.ref b] s) (F0 m 27 ls [])) : W p l e room_1 s m #[Value.ref b] below meth c H locs cells slots (lw_Z below #[Value.ref b] s) (F0 m 18 ls []) := by
  obtain ⟨hx, hb, hr, hml, hown, hts, hX, hbl, hlocks, hgv⟩ := id C0
  have hown : s.vm.findClass RL = some m.cls := hown
  have hA : ∀ q : Nat, s.heap.size ≤ q → (fun q : Nat => s.heap.size ≤ q) q := fun _ h => h
  have hbA : ¬ (fun q : Nat => s.heap.size ≤ q) b := Nat.not_le.mpr hbl
  refine lv_iload_n hx hb dL_law_18 rfl (lv_at hl 3 rfl) ?_
  refine lv_aload_n hx hb dL_law_19 rfl (lv_at hl 0 rfl) ?_
  refine va_slen hx hb hX hbl hbA hS dL_law_20 ?_
  refine lv_topi (fun z1 ez1 => ?_)
  have iz1 : z1.toInt = (N9 : Int) := zi_ofNat ez1 (by omega)
  refine lv_bipush (v := 9) hx hb dL_law_21 (by decide) ?_
  refine lv_isub hx hb dL_law_23 ?_
  refine lv_topi (fun z2 ez2 => ?_)
  have iz2 : z2.toInt = (N9 : Int) - 9 := zi_sub ez2 iz1 (show (9 : Int32).toInt = 9 from rfl) (by omega) (by omega)
  refine lv_icmp_gt (tgt := 1716) hx hb dL_law_24 (by decide) (fun c1 => ?_) (fun c1 => ?_)
  · refine lv_iconst (v := 1) hx hb dL_law_1716 (by decide) ?_
    refine va_forget (fun q hq => hS.2.2 q hq) ?_
    refine W.widen (k := 600000) (n := 7302249) hc hs ?_
    exact lw_ret hx hb hr hlocks dL_law_1717
  · have ic1 : 9 * (k : Int) ≤ (N9 : Int) - 9 := zi_gtf hi iz2 c1
    exact kk (by omega)
set_option maxHeartbeats 8000000 in
set_option maxRecDepth 100000 in
theorem law_body {p : Program} {l : Launch} {e : Env} {s : State} {m : MethodId} {below : List Frame} {meth : Method} {c : Code} {b N9 : Nat} {xs : Nat → Int32} {dC : Nat → ClassId} {dI : Nat → Nat → Nat} {κ : Nat → ClassId} {adK adV : Nat → Nat} {zv : Option Nat} {xo mo : Nat} {k cells slots : Nat} {i : Int32} (C0 : lw_At p s m meth c b N9 xs) (hN9 : N9 ≤ 4608) (hN : nz_ok s) (hZ : pw_Z adK adV zv (fun q : Nat => s.heap.size ≤ q) s s.heap) (hK : va_K (dC, dI) vwCl (tp_K κ) s) (hk : 9 * k + 9 ≤ N9) (hi : i.toInt = 9 * (k : Int)) (hc : cells + 110 ≤ 600000) (hs : slots + 2634 ≤ 7302249) (kk : ∀ (τ ν : Nat → Nat) (ρ : Nat → Nat → Nat) (L : List Nat) (f : Nat → va_E) (H : Heap) (locs : List Loc) (ls : Array Slot), lz_I κ xo mo τ ν ρ L f → va_P (dC, dI) vwCl (va_pl L f) H → va_D (fun q : Nat => s.heap.size ≤ q) (va_pl L f) → va_S (fun q : Nat => s.heap.size ≤ q) s.heap H locs → lv_has ls 4 [(0, .ref b), (1, .ref xo), (2, .ref mo), (3, .int i)] → W p l e room_1 s m #[Value.ref b] below meth c H locs (cells + 110) (slots + 2634) (lw_Z below #[Value.ref b] s) (F0 m 1710 ls [])) {τ ν : Nat → Nat} {ρ : Nat → Nat → Nat} {L : List Nat} {f : Nat → va_E} {H : Heap} {locs : List Loc} {ls : Array Slot} (hI : lz_I κ xo mo τ ν ρ L f) (hP : va_P (dC, dI) vwCl (va_pl L f) H) (hD : va_D (fun q : Nat => s.heap.size ≤ q) (va_pl L f)) (hS : va_S (fun q : Nat => s.heap.size ≤ q) s.heap H locs) (hl : lv_has ls 4 [(0, .ref b), (1, .ref xo), (2, .ref mo), (3, .int i)]) : W p l e room_1 s m #[Value.ref b] below meth c H locs cells slots (lw_Z below #[Value.ref b] s) (F0 m 27 ls []) := by
  obtain ⟨hx, hb, hr, hml, hown, hts, hX, hbl, hlocks, hgv⟩ := id C0
  have hown : s.vm.findClass RL = some m.cls := hown
  have hA : ∀ q : Nat, s.heap.size ≤ q → (fun q : Nat => s.heap.size ≤ q) q := fun _ h => h
  have hbA : ¬ (fun q : Nat => s.heap.size ≤ q) b := Nat.not_le.mpr hbl
  refine lv_aload_n hx hb dL_law_27 rfl (lv_at hl 0 rfl) ?_
  refine lv_iload_n hx hb dL_law_28 rfl (lv_at hl 3 rfl) ?_
  refine va_sld hx hb hX hbl hbA hS (vp_in_iff.mpr ⟨by omega, by omega⟩) dL_law_29 ?_
  refine lv_bipush (v := 63) hx hb dL_law_30 (by decide) ?_
  refine lv_iand hx hb dL_law_32 ?_
  refine lv_topi (fun z3 ez3 => ?_)
  rcases zi_sw z3 0 39 with h1 | h1
  · refine lv_tableOut (tgt := 1710) hx hb dL_law_33 h1 (by decide) ?_
    refine tp_widen (cells + 110) (slots + 2634) (by omega) (by omega) ?_
    exact kk _ _ _ _ _ _ _ _ hI hP hD hS hl
  · rcases (show z3.toInt = 0 ∨ z3.toInt = 1 ∨ z3.toInt = 2 ∨ z3.toInt = 3 ∨ z3.toInt = 4 ∨ z3.toInt = 5 ∨ z3.toInt = 6 ∨ z3.toInt = 7 ∨ z3.toInt = 8 ∨ z3.toInt = 9 ∨ z3.toInt = 10 ∨ z3.toInt = 11 ∨ z3.toInt = 12 ∨ z3.toInt = 13 ∨ z3.toInt = 14 ∨ z3.toInt = 15 ∨ z3.toInt = 16 ∨ z3.toInt = 17 ∨ z3.toInt = 18 ∨ z3.toInt = 19 ∨ z3.toInt = 20 ∨ z3.toInt = 21 ∨ z3.toInt = 22 ∨ z3.toInt = 23 ∨ z3.toInt = 24 ∨ z3.toInt = 25 ∨ z3.toInt = 26 ∨ z3.toInt = 27 ∨ z3.toInt = 28 ∨ z3.toInt = 29 ∨ z3.toInt = 30 ∨ z3.toInt = 31 ∨ z3.toInt = 32 ∨ z3.toInt = 33 ∨ z3.toInt = 34 ∨ z3.toInt = 35 ∨ z3.toInt = 36 ∨ z3.toInt = 37 ∨ z3.toInt = 38 ∨ z3.toInt = 39 by omega) with h1k | h1k | h1k | h1k | h1k | h1k | h1k | h1k | h1k | h1k | h1k | h1k | h1k | h1k | h1k | h1k | h1k | h1k | h1k | h1k | h1k | h1k | h1k | h1k | h1k | h1k | h1k | h1k | h1k | h1k | h1k | h1k | h1k | h1k | h1k | h1k | h1k | h1k | h1k | h1k
    · refine lv_tableIn (tgt := 208) hx hb dL_law_33 (by omega) (by omega) (by rw [h1k]; rfl) (by decide) ?_
      exact law_case_0 C0 hN9 hN hZ hK hk hi hc hs kk hI hP hD hS hl
    · refine lv_tableIn (tgt := 261) hx hb dL_law_33 (by omega) (by omega) (by rw [h1k]; rfl) (by decide) ?_
      exact law_case_1 C0 hN9 hN hZ hK hk hi hc hs kk hI hP hD hS hl
    · refine lv_tableIn (tgt := 304) hx hb dL_law_33 (by omega) (by omega) (by rw [h1k]; rfl) (by decide) ?_
      exact law_case_2 C0 hN9 hN hZ hK hk hi hc hs kk hI hP hD hS hl
    · refine lv_tableIn (tgt := 373) hx hb dL_law_33 (by omega) (by omega) (by rw [h1k]; rfl) (by decide) ?_
      exact law_case_3 C0 hN9 hN hZ hK hk hi hc hs kk hI hP hD hS hl
    · refine lv_tableIn (tgt := 406) hx hb dL_law_33 (by omega) (by omega) (by rw [h1k]; rfl) (by decide) ?_
      exact law_case_4 C0 hN9 hN hZ hK hk hi hc hs kk hI hP hD hS hl
    · refine lv_tableIn (tgt := 439) hx hb dL_law_33 (by omega) (by omega) (by rw [h1k]; rfl) (by decide) ?_
      exact law_case_5 C0 hN9 hN hZ hK hk hi hc hs kk hI hP hD hS hl
    · refine lv_tableIn (tgt := 492) hx hb dL_law_33 (by omega) (by omega) (by rw [h1k]; rfl) (by decide) ?_
      exact law_case_6 C0 hN9 hN hZ hK hk hi hc hs kk hI hP hD hS hl
    · refine lv_tableIn (tgt := 535) hx hb dL_law_33 (by omega) (by omega) (by rw [h1k]; rfl) (by decide) ?_
      exact law_case_7 C0 hN9 hN hZ hK hk hi hc hs kk hI hP hD hS hl
    · refine lv_tableIn (tgt := 568) hx hb dL_law_33 (by omega) (by omega) (by rw [h1k]; rfl) (by decide) ?_
      exact law_case_8 C0 hN9 hN hZ hK hk hi hc hs kk hI hP hD hS hl
    · refine lv_tableIn (tgt := 611) hx hb dL_law_33 (by omega) (by omega) (by rw [h1k]; rfl) (by decide) ?_
      exact law_case_9 C0 hN9 hN hZ hK hk hi hc hs kk hI hP hD hS hl
    · refine lv_tableIn (tgt := 634) hx hb dL_law_33 (by omega) (by omega) (by rw [h1k]; rfl) (by decide) ?_
      exact law_case_10 C0 hN9 hN hZ hK hk hi hc hs kk hI hP hD hS hl
    · refine lv_tableIn (tgt := 667) hx hb dL_law_33 (by omega) (by omega) (by rw [h1k]; rfl) (by decide) ?_
      exact law_case_11 C0 hN9 hN hZ hK hk hi hc hs kk hI hP hD hS hl
    · refine lv_tableIn (tgt := 700) hx hb dL_law_33 (by omega) (by omega) (by rw [h1k]; rfl) (by decide) ?_
      exact law_case_12 C0 hN9 hN hZ hK hk hi hc hs kk hI hP hD hS hl
    · refine lv_tableIn (tgt := 733) hx hb dL_law_33 (by omega) (by omega) (by rw [h1k]; rfl) (by decide) ?_
      exact law_case_13 C0 hN9 hN hZ hK hk hi hc hs kk hI hP hD hS hl
    · refine lv_tableIn (tgt := 756) hx hb dL_law_33 (by omega) (by omega) (by rw [h1k]; rfl) (by decide) ?_
      exact law_case_14 C0 hN9 hN hZ hK hk hi hc hs kk hI hP hD hS hl
    · refine lv_tableIn (tgt := 789) hx hb dL_law_33 (by omega) (by omega) (by rw [h1k]; rfl) (by decide) ?_
      exact law_case_15 C0 hN9 hN hZ hK hk hi hc hs kk hI hP hD hS hl
    · refine lv_tableIn (tgt := 822) hx hb dL_law_33 (by omega) (by omega) (by rw [h1k]; rfl) (by decide) ?_
      exact law_case_16 C0 hN9 hN hZ hK hk hi hc hs kk hI hP hD hS hl
    · refine lv_tableIn (tgt := 855) hx hb dL_law_33 (by omega) (by omega) (by rw [h1k]; rfl) (by decide) ?_
      exact law_case_17 C0 hN9 hN hZ hK hk hi hc hs kk hI hP hD hS hl
    · refine lv_tableIn (tgt := 898) hx hb dL_law_33 (by omega) (by omega) (by rw [h1k]; rfl) (by decide) ?_
      exact law_case_18 C0 hN9 hN hZ hK hk hi hc hs kk hI hP hD hS hl
    · refine lv_tableIn (tgt := 941) hx hb dL_law_33 (by omega) (by omega) (by rw [h1k]; rfl) (by decide) ?_
      exact law_case_19 C0 hN9 hN hZ hK hk hi hc hs kk hI hP hD hS hl
    · refine lv_tableIn (tgt := 974) hx hb dL_law_33 (by omega) (by omega) (by rw [h1k]; rfl) (by decide) ?_
      exact law_case_20 C0 hN9 hN hZ hK hk hi hc hs kk hI hP hD hS hl
    · refine lv_tableIn (tgt := 1037) hx hb dL_law_33 (by omega) (by omega) (by rw [h1k]; rfl) (by decide) ?_
      exact law_case_21 C0 hN9 hN hZ hK hk hi hc hs kk hI hP hD hS hl
    · refine lv_tableIn (tgt := 1060) hx hb dL_law_33 (by omega) (by omega) (by rw [h1k]; rfl) (by decide) ?_
      exact law_case_22 C0 hN9 hN hZ hK hk hi hc hs kk hI hP hD hS hl
    · refine lv_tableIn (tgt := 1073) hx hb dL_law_33 (by omega) (by omega) (by rw [h1k]; rfl) (by decide) ?_
      exact law_case_23 C0 hN9 hN hZ hK hk hi hc hs kk hI hP hD hS hl
    · refine lv_tableIn (tgt := 1086) hx hb dL_law_33 (by omega) (by omega) (by rw [h1k]; rfl) (by decide) ?_
      exact law_case_24 C0 hN9 hN hZ hK hk hi hc hs kk hI hP hD hS hl
    · refine lv_tableIn (tgt := 1139) hx hb dL_law_33 (by omega) (by omega) (by rw [h1k]; rfl) (by decide) ?_
      exact law_case_25 C0 hN9 hN hZ hK hk hi hc hs kk hI hP hD hS hl
    · refine lv_tableIn (tgt := 1172) hx hb dL_law_33 (by omega) (by omega) (by rw [h1k]; rfl) (by decide) ?_
      exact law_case_26 C0 hN9 hN hZ hK hk hi hc hs kk hI hP hD hS hl
    · refine lv_tableIn (tgt := 1205) hx hb dL_law_33 (by omega) (by omega) (by rw [h1k]; rfl) (by decide) ?_
      exact law_case_27 C0 hN9 hN hZ hK hk hi hc hs kk hI hP hD hS hl
    · refine lv_tableIn (tgt := 1258) hx hb dL_law_33 (by omega) (by omega) (by rw [h1k]; rfl) (by decide) ?_
      exact law_case_28 C0 hN9 hN hZ hK hk hi hc hs kk hI hP hD hS hl
    · refine lv_tableIn (tgt := 1291) hx hb dL_law_33 (by omega) (by omega) (by rw [h1k]; rfl) (by decide) ?_
      exact law_case_29 C0 hN9 hN hZ hK hk hi hc hs kk hI hP hD hS hl
    · refine lv_tableIn (tgt := 1354) hx hb dL_law_33 (by omega) (by omega) (by rw [h1k]; rfl) (by decide) ?_
      exact law_case_30 C0 hN9 hN hZ hK hk hi hc hs kk hI hP hD hS hl
    · refine lv_tableIn (tgt := 1397) hx hb dL_law_33 (by omega) (by omega) (by rw [h1k]; rfl) (by decide) ?_
      exact law_case_31 C0 hN9 hN hZ hK hk hi hc hs kk hI hP hD hS hl
    · refine lv_tableIn (tgt := 1496) hx hb dL_law_33 (by omega) (by omega) (by rw [h1k]; rfl) (by decide) ?_
      exact law_case_32 C0 hN9 hN hZ hK hk hi hc hs kk hI hP hD hS hl
    · refine lv_tableIn (tgt := 1509) hx hb dL_law_33 (by omega) (by omega) (by rw [h1k]; rfl) (by decide) ?_
      exact law_case_33 C0 hN9 hN hZ hK hk hi hc hs kk hI hP hD hS hl
    · refine lv_tableIn (tgt := 1532) hx hb dL_law_33 (by omega) (by omega) (by rw [h1k]; rfl) (by decide) ?_
      exact law_case_34 C0 hN9 hN hZ hK hk hi hc hs kk hI hP hD hS hl
    · refine lv_tableIn (tgt := 1565) hx hb dL_law_33 (by omega) (by omega) (by rw [h1k]; rfl) (by decide) ?_
      exact law_case_35 C0 hN9 hN hZ hK hk hi hc hs kk hI hP hD hS hl
    · refine lv_tableIn (tgt := 1628) hx hb dL_law_33 (by omega) (by omega) (by rw [h1k]; rfl) (by decide) ?_
      exact law_case_36 C0 hN9 hN hZ hK hk hi hc hs kk hI hP hD hS hl
    · refine lv_tableIn (tgt := 1651) hx hb dL_law_33 (by omega) (by omega) (by rw [h1k]; rfl) (by decide) ?_
      exact law_case_37 C0 hN9 hN hZ hK hk hi hc hs kk hI hP hD hS hl
    · refine lv_tableIn (tgt := 1674) hx hb dL_law_33 (by omega) (by omega) (by rw [h1k]; rfl) (by decide) ?_
      exact law_case_38 C0 hN9 hN hZ hK hk hi hc hs kk hI hP hD hS hl
    · refine lv_tableIn (tgt := 1697) hx hb dL_law_33 (by omega) (by omega) (by rw [h1k]; rfl) (by decide) ?_
      exact law_case_39 C0 hN9 hN hZ hK hk hi hc hs kk hI hP hD hS hl
set_option maxHeartbeats 8000000 in
set_option maxRecDepth 100000 in
theorem law_main {p : Program} {l : Launch} {e : Env} {s : State} {m : MethodId} {below : List Frame} {meth : Method} {c : Code} {b N9 : Nat} {xs : Nat → Int32} {dC : Nat → ClassId} {dI : Nat → Nat → Nat} {κ : Nat → ClassId} {adK adV : Nat → Nat} {zv : Option Nat} {xo mo : Nat} (C0 : lw_At p s m meth c b N9 xs) (hN9 : N9 ≤ 4608) (hN : nz_ok s) (hZ : pw_Z adK adV zv (fun q : Nat => s.heap.size ≤ q) s s.heap) (hK : va_K (dC, dI) vwCl (tp_K κ) s) (CC SS : Nat) (hCC : CC ≤ 1000) (hSS : SS ≤ 100000) : ∀ (n k : Nat) {i : Int32} {τ ν : Nat → Nat} {ρ : Nat → Nat → Nat} {L : List Nat} {f : Nat → va_E} {H : Heap} {locs : List Loc} {ls : Array Slot}, 512 ≤ k + n → k ≤ 512 → i.toInt = 9 * (k : Int) → lz_I κ xo mo τ ν ρ L f → va_P (dC, dI) vwCl (va_pl L f) H → va_D (fun q : Nat => s.heap.size ≤ q) (va_pl L f) → va_S (fun q : Nat => s.heap.size ≤ q) s.heap H locs → lv_has ls 4 [(0, .ref b), (1, .ref xo), (2, .ref mo), (3, .int i)] → W p l e room_1 s m #[Value.ref b] below meth c H locs (CC + 110 * k) (SS + 2634 * k) (lw_Z below #[Value.ref b] s) (F0 m 18 ls []) := by
  intro n
  induction n with
  | zero =>
    intro k i τ ν ρ L f H locs ls h1 h2 hi hI hP hD hS hl
    exact law_head C0 hN9 hN hZ hK hi (by omega) (by omega) (by omega) hI hP hD hS hl (fun h => by exfalso; omega)
  | succ n ih =>
    intro k i τ ν ρ L f H locs ls h1 h2 hi hI hP hD hS hl
    refine law_head C0 hN9 hN hZ hK hi (by omega) (by omega) (by omega) hI hP hD hS hl (fun hk => ?_)
    refine law_body C0 hN9 hN hZ hK hk hi (by omega) (by omega) ?_ hI hP hD hS hl
    intro τ ν ρ L f H locs ls hI hP hD hS hl
    obtain ⟨hx, hb, hr, hml, hown, hts, hX, hbl, hlocks, hgv⟩ := id C0
    obtain ⟨i2, ei2⟩ : ∃ y : Int32, y = i + 9 := ⟨_, rfl⟩
    refine lv_iinc (v := i2) (lv' := [(3, .int i2), (0, .ref b), (1, .ref xo), (2, .ref mo)]) hx hb dL_law_1710 hl (k := 3) rfl (by rw [ei2]; rfl) (by decide) rfl (fun ls hl => ?_)
    refine lv_goto (tgt := 18) hx hb dL_law_1713 (by decide) ?_
    have hi2 : i2.toInt = 9 * ((k + 1 : Nat) : Int) := by
      have q9 := zi_add ei2 hi (show (9 : Int32).toInt = 9 from rfl) (by omega) (by omega)
      omega
    refine tp_widen (CC + 110 * (k + 1)) (SS + 2634 * (k + 1)) (by omega) (by omega) ?_
    exact ih (k + 1) (by omega) (by omega) hi2 hI hP hD hS (lv_sub hl [1, 2, 3, 0] rfl)
end

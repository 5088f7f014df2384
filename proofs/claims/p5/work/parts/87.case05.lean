set_option maxHeartbeats 8000000 in
set_option maxRecDepth 100000 in
theorem law_case_36 {p : Program} {l : Launch} {e : Env} {s : State} {m : MethodId} {below : List Frame} {meth : Method} {c : Code} {b N9 : Nat} {xs : Nat → Int32} {dC : Nat → ClassId} {dI : Nat → Nat → Nat} {κ : Nat → ClassId} {adK adV : Nat → Nat} {zv : Option Nat} {xo mo : Nat} {k cells slots : Nat} {i : Int32} (C0 : lw_At p s m meth c b N9 xs) (hN9 : N9 ≤ 4608) (hN : nz_ok s) (hZ : pw_Z adK adV zv (fun q : Nat => s.heap.size ≤ q) s s.heap) (hK : va_K (dC, dI) vwCl (tp_K κ) s) (hk : 9 * k + 9 ≤ N9) (hi : i.toInt = 9 * (k : Int)) (hc : cells + 110 ≤ 600000) (hs : slots + 2634 ≤ 7302249) (kk : ∀ (τ ν : Nat → Nat) (ρ : Nat → Nat → Nat) (L : List Nat) (f : Nat → va_E) (H : Heap) (locs : List Loc) (ls : Array Slot), lz_I κ xo mo τ ν ρ L f → va_P (dC, dI) vwCl (va_pl L f) H → va_D (fun q : Nat => s.heap.size ≤ q) (va_pl L f) → va_S (fun q : Nat => s.heap.size ≤ q) s.heap H locs → lv_has ls 4 [(0, .ref b), (1, .ref xo), (2, .ref mo), (3, .int i)] → W p l e room_1 s m #[Value.ref b] below meth c H locs (cells + 110) (slots + 2634) (lw_Z below #[Value.ref b] s) (F0 m 1710 ls [])) {τ ν : Nat → Nat} {ρ : Nat → Nat → Nat} {L : List Nat} {f : Nat → va_E} {H : Heap} {locs : List Loc} {ls : Array Slot}  (hI : lz_I κ xo mo τ ν ρ L f) (hP : va_P (dC, dI) vwCl (va_pl L f) H) (hD : va_D (fun q : Nat => s.heap.size ≤ q) (va_pl L f)) (hS : va_S (fun q : Nat => s.heap.size ≤ q) s.heap H locs) (hl : lv_has ls 4 [(0, .ref b), (1, .ref xo), (2, .ref mo), (3, .int i)]) : W p l e room_1 s m #[Value.ref b] below meth c H locs cells slots (lw_Z below #[Value.ref b] s) (F0 m 1628 ls []) := by
  obtain ⟨hx, hb, hr, hml, hown, hts, hX, hbl, hlocks, hgv⟩ := id C0
  have hown : s.vm.findClass RL = some m.cls := hown
  have hA : ∀ q : Nat, s.heap.size ≤ q → (fun q : Nat => s.heap.size ≤ q) q := fun _ h => h
  have hbA : ¬ (fun q : Nat => s.heap.size ≤ q) b := Nat.not_le.mpr hbl
  refine tn_6 hI (fun hG hT hxo hmo hJ hIM => ?_)
  clear hI
  have hrow := (tpg_13 hG hmo).1; have hims := (tpg_13 hG hmo).2.1
  refine lv_aload_n hx hb dL_law_1628 rfl (lv_at hl 1 rfl) ?_
  refine lv_aload_n hx hb dL_law_1629 rfl (lv_at hl 0 rfl) ?_
  refine lv_iload_n hx hb dL_law_1630 rfl (lv_at hl 3 rfl) ?_
  refine lv_iconst (v := 1) hx hb dL_law_1631 (by decide) ?_
  refine lv_iadd hx hb dL_law_1632 ?_
  refine lv_topi (fun z1 ez1 => ?_)
  have iz1 : z1.toInt = i.toInt + 1 := zi_add ez1 rfl (show (1 : Int32).toInt = 1 from rfl) (by omega) (by omega)
  refine va_sld hx hb hX hbl hbA hS (vp_in_iff.mpr ⟨by omega, by omega⟩) dL_law_1633 ?_
  refine lv_topi (fun y2 ey2 => ?_)
  obtain rfl : y2 = xs (9 * k + 1) := ey2.trans (congrArg xs (show z1.toInt.toNat = 9 * k + 1 by omega))
  refine tgk_12 hG hxo (fun y3 y4 y5 y6 y7 y8 => ?_)
  refine tpk_12 hT hxo (fun o9_x6 hf_o9 => ?_)
  refine tpk_pos (tp_in hG hxo (by decide)) hf_o9 (fun q10 eq10 => ?_)
  have hFc := tp_fr hD hS hA
  refine va_calli (va_runV (As := [.int (xs (9 * k + 1))]) (rest := []) ⟨hx, hb, hml, hown, hts⟩ (t_X11_image l dC dI _ (mo_O κ) κ τ ν ρ L f hG hT xo (xs (9 * k + 1)) hxo) (cwV 1 hts gz_X11_image rfl rfl rfl ⟨rfl, pd_X11_image⟩ ⟨Nat.le_of_ble_eq_true rfl, Nat.le_of_ble_eq_true rfl⟩) ⟨pz_blind, va_recv hK hP (ci := 11) (q0 := q10) rfl eq10, pz_pre hP hK hD hN⟩ rfl rfl hl.1 rfl (lv_room (Nat.le_of_ble_eq_true rfl)) dL_law_1634 ⟨by show _ ≤ 600000; omega, by show _ ≤ 7302249; omega⟩) hS (fun q _ h => hFc q h) hFc (fun r11 x9 t H1 locs ht hvm hw12 hB hz1 hk1 hS => ?_)
  obtain ⟨τ_15, ν_15, ρ_15, L_15, f13⟩ := x9; obtain ⟨⟨hG9, hT9, hH9⟩, hw12p⟩ := hw12
  have h9_hmo := hH9.2 mo (tp_in hG hmo (by decide)) (fun z => by cases z)
  have h9_hxo := hH9.2 xo (tp_in hG hxo (by decide)) (fun z => by cases z)
  have h9_hrow := hH9.2 (ρ mo 2) (tp_in hG hrow (by decide)) (fun z => by cases z)
  have h9_hims := hH9.2 (ρ mo 3) (tp_in hG hims (by decide)) (fun z => by cases z)
  have hJ : mo_RI (-1) 0 (mo_R (mo_i (f13 (ρ_15 mo 2)))) := by have q9 : ρ_15 mo = ρ mo := h9_hmo.2.2.1; rw [q9]; have q8 : f13 (ρ mo 2) = f (ρ mo 2) := h9_hrow.2.2.2 (by rw [hrow]; decide); rw [q8]; exact hJ
  have hIM : mo_IM (mo_R (mo_i (f13 (ρ_15 mo 3)))) := by have q9 : ρ_15 mo = ρ mo := h9_hmo.2.2.1; rw [q9]; have q8 : f13 (ρ mo 3) = f (ρ mo 3) := h9_hims.2.2.2 (by rw [hims]; decide); rw [q8]; exact hIM
  have hmo : τ_15 mo = 13 := h9_hmo.1.trans hmo; have hxo : τ_15 xo = 12 := h9_hxo.1.trans hxo
  have hG : tp_G τ_15 ν_15 ρ_15 L_15 := hG9; have hT : tp_T (mo_O κ) κ τ_15 ν_15 ρ_15 f13 := hT9
  have hP := hB.1; rw [ht] at hP; have hD := tp_Dw hB.2.2 hFc; clear hB hFc hz1 hk1 h9_hmo h9_hxo h9_hrow h9_hims hH9 hG9 hT9; subst ht; generalize t.heap = H at hP hS ⊢
  have hP : va_P (dC, dI) vwCl (va_pl L_15 f13) H := hP; have hD : va_D (fun q : Nat => s.heap.size ≤ q) (va_pl L_15 f13) := hD
  have hrow := (tpg_13 hG hmo).1; have hims := (tpg_13 hG hmo).2.1
  refine lv_pop hx hb dL_law_1637 rfl ?_
  refine lv_aload_n hx hb dL_law_1638 rfl (lv_at hl 2 rfl) ?_
  refine lv_aload_n hx hb dL_law_1639 rfl (lv_at hl 0 rfl) ?_
  refine lv_iload_n hx hb dL_law_1640 rfl (lv_at hl 3 rfl) ?_
  refine lv_iconst (v := 1) hx hb dL_law_1641 (by decide) ?_
  refine lv_iadd hx hb dL_law_1642 ?_
  refine lv_topi (fun z16 ez16 => ?_)
  have iz16 : z16.toInt = i.toInt + 1 := zi_add ez16 rfl (show (1 : Int32).toInt = 1 from rfl) (by omega) (by omega)
  refine va_sld hx hb hX hbl hbA hS (vp_in_iff.mpr ⟨by omega, by omega⟩) dL_law_1643 ?_
  refine lv_topi (fun y17 ey17 => ?_)
  obtain rfl : y17 = xs (9 * k + 1) := ey17.trans (congrArg xs (show z16.toInt.toNat = 9 * k + 1 by omega))
  refine tgk_13 hG hmo (fun y18 y19 y20 y21 y22 y23 y24 y25 y26 y27 y28 y29 y30 y31 y32 y33 y34 y35 y36 y37 y38 y39 y40 y41 y42 => ?_)
  refine tpk_13 hT hmo (fun o43_x0 o43_x1 o43_x7 o43_x9 o43_x10 o43_x11 o43_x12 o43_x13 o43_x14 o43_x15 o43_x16 o43_x17 o43_x18 o43_x19 o43_x20 o43_x22 o43_x25 o43_x28 o43_x29 o43_x32 o43_x33 o43_x34 o43_x35 o43_x36 o43_x37 o43_x38 o43_x47 o43_x48 hf_o43 ro43_0 ro43_1 ro43_2 ro43_3 ro43_4 ro43_5 ro43_6 ro43_7 ro43_8 ro43_9 ro43_10 ro43_11 ro43_12 ro43_13 => ?_)
  refine tpk_pos (tp_in hG hmo (by decide)) hf_o43 (fun q44 eq44 => ?_)
  have hFc := tp_fr hD hS hA
  refine va_calli (va_runV (As := [.int (xs (9 * k + 1))]) (rest := []) ⟨hx, hb, hml, hown, hts⟩ (t_X12_image l dC dI _ κ τ_15 ν_15 ρ_15 L_15 f13 hG hT mo (xs (9 * k + 1)) hmo hJ hIM) (cwV 1 hts gz_X12_image rfl rfl rfl ⟨rfl, pd_X12_image⟩ ⟨Nat.le_of_ble_eq_true rfl, Nat.le_of_ble_eq_true rfl⟩) ⟨pz_blind, va_recv hK hP (ci := 12) (q0 := q44) rfl eq44, pz_pre hP hK hD hN⟩ rfl rfl hl.1 rfl (lv_room (Nat.le_of_ble_eq_true rfl)) dL_law_1644 ⟨by show _ ≤ 600000; omega, by show _ ≤ 7302249; omega⟩) hS (fun q _ h => hFc q h) hFc (fun r45 f47 t H1 locs ht hvm hw46 hB hz1 hk1 hS => ?_)
  refine tn_4 hw46 (fun hT hF48 hw46r hw46p => ?_); clear hw46
  have hJ : mo_RI (-1) 0 (mo_R (mo_i (f47 (ρ_15 mo 2)))) := by rw [hF48 _ (by rw [hrow]; decide)]; exact hJ
  have hIM : mo_IM (mo_R (mo_i (f47 (ρ_15 mo 3)))) := hw46p.1
  have hP := hB.1; rw [ht] at hP; have hD := tp_ad f47 hD; clear hB hFc hz1 hk1; subst ht; generalize t.heap = H at hP hS ⊢
  refine lv_pop hx hb dL_law_1647 rfl ?_
  refine lv_goto (tgt := 1710) hx hb dL_law_1648 (by decide) ?_
  refine tp_widen (cells + 110) (slots + 2634) (by omega) (by omega) ?_
  exact kk τ_15 ν_15 ρ_15 L_15 f47 _ _ _ ⟨hG, hT, hxo, hmo, hJ, hIM⟩ hP hD hS (lv_sub hl [0, 1, 2, 3] rfl)
set_option maxHeartbeats 8000000 in
set_option maxRecDepth 100000 in
theorem law_case_37 {p : Program} {l : Launch} {e : Env} {s : State} {m : MethodId} {below : List Frame} {meth : Method} {c : Code} {b N9 : Nat} {xs : Nat → Int32} {dC : Nat → ClassId} {dI : Nat → Nat → Nat} {κ : Nat → ClassId} {adK adV : Nat → Nat} {zv : Option Nat} {xo mo : Nat} {k cells slots : Nat} {i : Int32} (C0 : lw_At p s m meth c b N9 xs) (hN9 : N9 ≤ 4608) (hN : nz_ok s) (hZ : pw_Z adK adV zv (fun q : Nat => s.heap.size ≤ q) s s.heap) (hK : va_K (dC, dI) vwCl (tp_K κ) s) (hk : 9 * k + 9 ≤ N9) (hi : i.toInt = 9 * (k : Int)) (hc : cells + 110 ≤ 600000) (hs : slots + 2634 ≤ 7302249) (kk : ∀ (τ ν : Nat → Nat) (ρ : Nat → Nat → Nat) (L : List Nat) (f : Nat → va_E) (H : Heap) (locs : List Loc) (ls : Array Slot), lz_I κ xo mo τ ν ρ L f → va_P (dC, dI) vwCl (va_pl L f) H → va_D (fun q : Nat => s.heap.size ≤ q) (va_pl L f) → va_S (fun q : Nat => s.heap.size ≤ q) s.heap H locs → lv_has ls 4 [(0, .ref b), (1, .ref xo), (2, .ref mo), (3, .int i)] → W p l e room_1 s m #[Value.ref b] below meth c H locs (cells + 110) (slots + 2634) (lw_Z below #[Value.ref b] s) (F0 m 1710 ls [])) {τ ν : Nat → Nat} {ρ : Nat → Nat → Nat} {L : List Nat} {f : Nat → va_E} {H : Heap} {locs : List Loc} {ls : Array Slot}  (hI : lz_I κ xo mo τ ν ρ L f) (hP : va_P (dC, dI) vwCl (va_pl L f) H) (hD : va_D (fun q : Nat => s.heap.size ≤ q) (va_pl L f)) (hS : va_S (fun q : Nat => s.heap.size ≤ q) s.heap H locs) (hl : lv_has ls 4 [(0, .ref b), (1, .ref xo), (2, .ref mo), (3, .int i)]) : W p l e room_1 s m #[Value.ref b] below meth c H locs cells slots (lw_Z below #[Value.ref b] s) (F0 m 1651 ls []) := by
  obtain ⟨hx, hb, hr, hml, hown, hts, hX, hbl, hlocks, hgv⟩ := id C0
  have hown : s.vm.findClass RL = some m.cls := hown
  have hA : ∀ q : Nat, s.heap.size ≤ q → (fun q : Nat => s.heap.size ≤ q) q := fun _ h => h
  have hbA : ¬ (fun q : Nat => s.heap.size ≤ q) b := Nat.not_le.mpr hbl
  refine tn_6 hI (fun hG hT hxo hmo hJ hIM => ?_)
  clear hI
  have hrow := (tpg_13 hG hmo).1; have hims := (tpg_13 hG hmo).2.1
  refine lv_aload_n hx hb dL_law_1651 rfl (lv_at hl 1 rfl) ?_
  refine lv_aload_n hx hb dL_law_1652 rfl (lv_at hl 0 rfl) ?_
  refine lv_iload_n hx hb dL_law_1653 rfl (lv_at hl 3 rfl) ?_
  refine lv_iconst (v := 1) hx hb dL_law_1654 (by decide) ?_
  refine lv_iadd hx hb dL_law_1655 ?_
  refine lv_topi (fun z1 ez1 => ?_)
  have iz1 : z1.toInt = i.toInt + 1 := zi_add ez1 rfl (show (1 : Int32).toInt = 1 from rfl) (by omega) (by omega)
  refine va_sld hx hb hX hbl hbA hS (vp_in_iff.mpr ⟨by omega, by omega⟩) dL_law_1656 ?_
  refine lv_topi (fun y2 ey2 => ?_)
  obtain rfl : y2 = xs (9 * k + 1) := ey2.trans (congrArg xs (show z1.toInt.toNat = 9 * k + 1 by omega))
  refine tgk_12 hG hxo (fun y3 y4 y5 y6 y7 y8 => ?_)
  refine tpk_12 hT hxo (fun o9_x6 hf_o9 => ?_)
  refine tpk_pos (tp_in hG hxo (by decide)) hf_o9 (fun q10 eq10 => ?_)
  have hFc := tp_fr hD hS hA
  refine va_calli (va_runV (As := [.int (xs (9 * k + 1))]) (rest := []) ⟨hx, hb, hml, hown, hts⟩ (t_X11_back l dC dI _ (mo_O κ) κ τ ν ρ L f hG hT xo (xs (9 * k + 1)) hxo) (cwV 1 hts gz_X11_back rfl rfl rfl ⟨rfl, pd_X11_back⟩ ⟨Nat.le_of_ble_eq_true rfl, Nat.le_of_ble_eq_true rfl⟩) ⟨pz_blind, va_recv hK hP (ci := 11) (q0 := q10) rfl eq10, pz_pre hP hK hD hN⟩ rfl rfl hl.1 rfl (lv_room (Nat.le_of_ble_eq_true rfl)) dL_law_1657 ⟨by show _ ≤ 600000; omega, by show _ ≤ 7302249; omega⟩) hS (fun q _ h => hFc q h) hFc (fun r11 f13 t H1 locs ht hvm hw12 hB hz1 hk1 hS => ?_)
  refine tn_4 hw12 (fun hT hF14 hw12r hw12p => ?_); clear hw12
  have hJ : mo_RI (-1) 0 (mo_R (mo_i (f13 (ρ mo 2)))) := by rw [hF14 _ (by rw [hrow]; decide)]; exact hJ
  have hIM : mo_IM (mo_R (mo_i (f13 (ρ mo 3)))) := by rw [hF14 _ (by rw [hims]; decide)]; exact hIM
  have hP := hB.1; rw [ht] at hP; have hD := tp_ad f13 hD; clear hB hFc hz1 hk1; subst ht; generalize t.heap = H at hP hS ⊢
  refine lv_pop hx hb dL_law_1660 rfl ?_
  refine lv_aload_n hx hb dL_law_1661 rfl (lv_at hl 2 rfl) ?_
  refine lv_aload_n hx hb dL_law_1662 rfl (lv_at hl 0 rfl) ?_
  refine lv_iload_n hx hb dL_law_1663 rfl (lv_at hl 3 rfl) ?_
  refine lv_iconst (v := 1) hx hb dL_law_1664 (by decide) ?_
  refine lv_iadd hx hb dL_law_1665 ?_
  refine lv_topi (fun z16 ez16 => ?_)
  have iz16 : z16.toInt = i.toInt + 1 := zi_add ez16 rfl (show (1 : Int32).toInt = 1 from rfl) (by omega) (by omega)
  refine va_sld hx hb hX hbl hbA hS (vp_in_iff.mpr ⟨by omega, by omega⟩) dL_law_1666 ?_
  refine lv_topi (fun y17 ey17 => ?_)
  obtain rfl : y17 = xs (9 * k + 1) := ey17.trans (congrArg xs (show z16.toInt.toNat = 9 * k + 1 by omega))
  refine tgk_13 hG hmo (fun y18 y19 y20 y21 y22 y23 y24 y25 y26 y27 y28 y29 y30 y31 y32 y33 y34 y35 y36 y37 y38 y39 y40 y41 y42 => ?_)
  refine tpk_13 hT hmo (fun o43_x0 o43_x1 o43_x7 o43_x9 o43_x10 o43_x11 o43_x12 o43_x13 o43_x14 o43_x15 o43_x16 o43_x17 o43_x18 o43_x19 o43_x20 o43_x22 o43_x25 o43_x28 o43_x29 o43_x32 o43_x33 o43_x34 o43_x35 o43_x36 o43_x37 o43_x38 o43_x47 o43_x48 hf_o43 ro43_0 ro43_1 ro43_2 ro43_3 ro43_4 ro43_5 ro43_6 ro43_7 ro43_8 ro43_9 ro43_10 ro43_11 ro43_12 ro43_13 => ?_)
  refine tpk_pos (tp_in hG hmo (by decide)) hf_o43 (fun q44 eq44 => ?_)
  have hFc := tp_fr hD hS hA
  refine va_calli (va_runV (As := [.int (xs (9 * k + 1))]) (rest := []) ⟨hx, hb, hml, hown, hts⟩ (t_X12_back l dC dI _ κ τ ν ρ L f13 hG hT mo (xs (9 * k + 1)) hmo hJ hIM) (cwV 1 hts gz_X12_back rfl rfl rfl ⟨rfl, pd_X12_back⟩ ⟨Nat.le_of_ble_eq_true rfl, Nat.le_of_ble_eq_true rfl⟩) ⟨pz_blind, va_recv hK hP (ci := 12) (q0 := q44) rfl eq44, pz_pre hP hK hD hN⟩ rfl rfl hl.1 rfl (lv_room (Nat.le_of_ble_eq_true rfl)) dL_law_1667 ⟨by show _ ≤ 600000; omega, by show _ ≤ 7302249; omega⟩) hS (fun q _ h => hFc q h) hFc (fun r45 f47 t H1 locs ht hvm hw46 hB hz1 hk1 hS => ?_)
  refine tn_4 hw46 (fun hT hF48 hw46r hw46p => ?_); clear hw46
  have hJ : mo_RI (-1) 0 (mo_R (mo_i (f47 (ρ mo 2)))) := hw46p
  have hIM : mo_IM (mo_R (mo_i (f47 (ρ mo 3)))) := by rw [hF48 _ (by rw [hims]; decide)]; exact hIM
  have hP := hB.1; rw [ht] at hP; have hD := tp_ad f47 hD; clear hB hFc hz1 hk1; subst ht; generalize t.heap = H at hP hS ⊢
  refine lv_pop hx hb dL_law_1670 rfl ?_
  refine lv_goto (tgt := 1710) hx hb dL_law_1671 (by decide) ?_
  refine tp_widen (cells + 110) (slots + 2634) (by omega) (by omega) ?_
  exact kk τ ν ρ L f47 _ _ _ ⟨hG, hT, hxo, hmo, hJ, hIM⟩ hP hD hS (lv_sub hl [0, 1, 2, 3] rfl)
set_option maxHeartbeats 8000000 in
set_option maxRecDepth 100000 in
theorem law_case_38 {p : Program} {l : Launch} {e : Env} {s : State} {m : MethodId} {below : List Frame} {meth : Method} {c : Code} {b N9 : Nat} {xs : Nat → Int32} {dC : Nat → ClassId} {dI : Nat → Nat → Nat} {κ : Nat → ClassId} {adK adV : Nat → Nat} {zv : Option Nat} {xo mo : Nat} {k cells slots : Nat} {i : Int32} (C0 : lw_At p s m meth c b N9 xs) (hN9 : N9 ≤ 4608) (hN : nz_ok s) (hZ : pw_Z adK adV zv (fun q : Nat => s.heap.size ≤ q) s s.heap) (hK : va_K (dC, dI) vwCl (tp_K κ) s) (hk : 9 * k + 9 ≤ N9) (hi : i.toInt = 9 * (k : Int)) (hc : cells + 110 ≤ 600000) (hs : slots + 2634 ≤ 7302249) (kk : ∀ (τ ν : Nat → Nat) (ρ : Nat → Nat → Nat) (L : List Nat) (f : Nat → va_E) (H : Heap) (locs : List Loc) (ls : Array Slot), lz_I κ xo mo τ ν ρ L f → va_P (dC, dI) vwCl (va_pl L f) H → va_D (fun q : Nat => s.heap.size ≤ q) (va_pl L f) → va_S (fun q : Nat => s.heap.size ≤ q) s.heap H locs → lv_has ls 4 [(0, .ref b), (1, .ref xo), (2, .ref mo), (3, .int i)] → W p l e room_1 s m #[Value.ref b] below meth c H locs (cells + 110) (slots + 2634) (lw_Z below #[Value.ref b] s) (F0 m 1710 ls [])) {τ ν : Nat → Nat} {ρ : Nat → Nat → Nat} {L : List Nat} {f : Nat → va_E} {H : Heap} {locs : List Loc} {ls : Array Slot}  (hI : lz_I κ xo mo τ ν ρ L f) (hP : va_P (dC, dI) vwCl (va_pl L f) H) (hD : va_D (fun q : Nat => s.heap.size ≤ q) (va_pl L f)) (hS : va_S (fun q : Nat => s.heap.size ≤ q) s.heap H locs) (hl : lv_has ls 4 [(0, .ref b), (1, .ref xo), (2, .ref mo), (3, .int i)]) : W p l e room_1 s m #[Value.ref b] below meth c H locs cells slots (lw_Z below #[Value.ref b] s) (F0 m 1674 ls []) := by
  obtain ⟨hx, hb, hr, hml, hown, hts, hX, hbl, hlocks, hgv⟩ := id C0
  have hown : s.vm.findClass RL = some m.cls := hown
  have hA : ∀ q : Nat, s.heap.size ≤ q → (fun q : Nat => s.heap.size ≤ q) q := fun _ h => h
  have hbA : ¬ (fun q : Nat => s.heap.size ≤ q) b := Nat.not_le.mpr hbl
  refine tn_6 hI (fun hG hT hxo hmo hJ hIM => ?_)
  clear hI
  have hrow := (tpg_13 hG hmo).1; have hims := (tpg_13 hG hmo).2.1
  refine lv_aload_n hx hb dL_law_1674 rfl (lv_at hl 1 rfl) ?_
  refine lv_aload_n hx hb dL_law_1675 rfl (lv_at hl 0 rfl) ?_
  refine lv_iload_n hx hb dL_law_1676 rfl (lv_at hl 3 rfl) ?_
  refine lv_iconst (v := 1) hx hb dL_law_1677 (by decide) ?_
  refine lv_iadd hx hb dL_law_1678 ?_
  refine lv_topi (fun z1 ez1 => ?_)
  have iz1 : z1.toInt = i.toInt + 1 := zi_add ez1 rfl (show (1 : Int32).toInt = 1 from rfl) (by omega) (by omega)
  refine va_sld hx hb hX hbl hbA hS (vp_in_iff.mpr ⟨by omega, by omega⟩) dL_law_1679 ?_
  refine lv_topi (fun y2 ey2 => ?_)
  obtain rfl : y2 = xs (9 * k + 1) := ey2.trans (congrArg xs (show z1.toInt.toNat = 9 * k + 1 by omega))
  refine tgk_12 hG hxo (fun y3 y4 y5 y6 y7 y8 => ?_)
  refine tpk_12 hT hxo (fun o9_x6 hf_o9 => ?_)
  refine tpk_pos (tp_in hG hxo (by decide)) hf_o9 (fun q10 eq10 => ?_)
  have hFc := tp_fr hD hS hA
  refine va_calli (va_runV (As := [.int (xs (9 * k + 1))]) (rest := []) ⟨hx, hb, hml, hown, hts⟩ (t_X11_count l dC dI _ (mo_O κ) κ τ ν ρ L f hG hT xo (xs (9 * k + 1)) hxo) (cwV 1 hts gz_X11_count rfl rfl rfl ⟨rfl, pd_X11_count⟩ ⟨Nat.le_of_ble_eq_true rfl, Nat.le_of_ble_eq_true rfl⟩) ⟨pz_blind, va_recv hK hP (ci := 11) (q0 := q10) rfl eq10, pz_pre hP hK hD hN⟩ rfl rfl hl.1 rfl (lv_room (Nat.le_of_ble_eq_true rfl)) dL_law_1680 ⟨by show _ ≤ 600000; omega, by show _ ≤ 7302249; omega⟩) hS (fun q _ h => hFc q h) hFc (fun r11 f13 t H1 locs ht hvm hw12 hB hz1 hk1 hS => ?_)
  refine tn_4 hw12 (fun hT hF14 hw12r hw12p => ?_); clear hw12
  have hJ : mo_RI (-1) 0 (mo_R (mo_i (f13 (ρ mo 2)))) := by rw [hF14 _ (by rw [hrow]; decide)]; exact hJ
  have hIM : mo_IM (mo_R (mo_i (f13 (ρ mo 3)))) := by rw [hF14 _ (by rw [hims]; decide)]; exact hIM
  have hP := hB.1; rw [ht] at hP; have hD := tp_ad f13 hD; clear hB hFc hz1 hk1; subst ht; generalize t.heap = H at hP hS ⊢
  refine lv_pop hx hb dL_law_1683 rfl ?_
  refine lv_aload_n hx hb dL_law_1684 rfl (lv_at hl 2 rfl) ?_
  refine lv_aload_n hx hb dL_law_1685 rfl (lv_at hl 0 rfl) ?_
  refine lv_iload_n hx hb dL_law_1686 rfl (lv_at hl 3 rfl) ?_
  refine lv_iconst (v := 1) hx hb dL_law_1687 (by decide) ?_
  refine lv_iadd hx hb dL_law_1688 ?_
  refine lv_topi (fun z16 ez16 => ?_)
  have iz16 : z16.toInt = i.toInt + 1 := zi_add ez16 rfl (show (1 : Int32).toInt = 1 from rfl) (by omega) (by omega)
  refine va_sld hx hb hX hbl hbA hS (vp_in_iff.mpr ⟨by omega, by omega⟩) dL_law_1689 ?_
  refine lv_topi (fun y17 ey17 => ?_)
  obtain rfl : y17 = xs (9 * k + 1) := ey17.trans (congrArg xs (show z16.toInt.toNat = 9 * k + 1 by omega))
  refine tgk_13 hG hmo (fun y18 y19 y20 y21 y22 y23 y24 y25 y26 y27 y28 y29 y30 y31 y32 y33 y34 y35 y36 y37 y38 y39 y40 y41 y42 => ?_)
  refine tpk_13 hT hmo (fun o43_x0 o43_x1 o43_x7 o43_x9 o43_x10 o43_x11 o43_x12 o43_x13 o43_x14 o43_x15 o43_x16 o43_x17 o43_x18 o43_x19 o43_x20 o43_x22 o43_x25 o43_x28 o43_x29 o43_x32 o43_x33 o43_x34 o43_x35 o43_x36 o43_x37 o43_x38 o43_x47 o43_x48 hf_o43 ro43_0 ro43_1 ro43_2 ro43_3 ro43_4 ro43_5 ro43_6 ro43_7 ro43_8 ro43_9 ro43_10 ro43_11 ro43_12 ro43_13 => ?_)
  refine tpk_pos (tp_in hG hmo (by decide)) hf_o43 (fun q44 eq44 => ?_)
  have hFc := tp_fr hD hS hA
  refine va_calli (va_runV (As := [.int (xs (9 * k + 1))]) (rest := []) ⟨hx, hb, hml, hown, hts⟩ (t_X12_count l dC dI _ κ τ ν ρ L f13 hG hT mo (xs (9 * k + 1)) hmo hJ) (cwV 1 hts gz_X12_count rfl rfl rfl ⟨rfl, pd_X12_count⟩ ⟨Nat.le_of_ble_eq_true rfl, Nat.le_of_ble_eq_true rfl⟩) ⟨pz_blind, va_recv hK hP (ci := 12) (q0 := q44) rfl eq44, pz_pre hP hK hD hN⟩ rfl rfl hl.1 rfl (lv_room (Nat.le_of_ble_eq_true rfl)) dL_law_1690 ⟨by show _ ≤ 600000; omega, by show _ ≤ 7302249; omega⟩) hS (fun q _ h => hFc q h) hFc (fun r45 f47 t H1 locs ht hvm hw46 hB hz1 hk1 hS => ?_)
  refine tn_4 hw46 (fun hT hF48 hw46r hw46p => ?_); clear hw46
  have hJ : mo_RI (-1) 0 (mo_R (mo_i (f47 (ρ mo 2)))) := by rw [hF48 _ (by rw [hrow]; decide)]; exact hJ
  have hIM : mo_IM (mo_R (mo_i (f47 (ρ mo 3)))) := by rw [hF48 _ (by rw [hims]; decide)]; exact hIM
  have hP := hB.1; rw [ht] at hP; have hD := tp_ad f47 hD; clear hB hFc hz1 hk1; subst ht; generalize t.heap = H at hP hS ⊢
  refine lv_pop hx hb dL_law_1693 rfl ?_
  refine lv_goto (tgt := 1710) hx hb dL_law_1694 (by decide) ?_
  refine tp_widen (cells + 110) (slots + 2634) (by omega) (by omega) ?_
  exact kk τ ν ρ L f47 _ _ _ ⟨hG, hT, hxo, hmo, hJ, hIM⟩ hP hD hS (lv_sub hl [0, 1, 2, 3] rfl)
set_option maxHeartbeats 8000000 in
set_option maxRecDepth 100000 in
theorem law_case_39 {p : Program} {l : Launch} {e : Env} {s : State} {m : MethodId} {below : List Frame} {meth : Method} {c : Code} {b N9 : Nat} {xs : Nat → Int32} {dC : Nat → ClassId} {dI : Nat → Nat → Nat} {κ : Nat → ClassId} {adK adV : Nat → Nat} {zv : Option Nat} {xo mo : Nat} {k cells slots : Nat} {i : Int32} (C0 : lw_At p s m meth c b N9 xs) (hN9 : N9 ≤ 4608) (hN : nz_ok s) (hZ : pw_Z adK adV zv (fun q : Nat => s.heap.size ≤ q) s s.heap) (hK : va_K (dC, dI) vwCl (tp_K κ) s) (hk : 9 * k + 9 ≤ N9) (hi : i.toInt = 9 * (k : Int)) (hc : cells + 110 ≤ 600000) (hs : slots + 2634 ≤ 7302249) (kk : ∀ (τ ν : Nat → Nat) (ρ : Nat → Nat → Nat) (L : List Nat) (f : Nat → va_E) (H : Heap) (locs : List Loc) (ls : Array Slot), lz_I κ xo mo τ ν ρ L f → va_P (dC, dI) vwCl (va_pl L f) H → va_D (fun q : Nat => s.heap.size ≤ q) (va_pl L f) → va_S (fun q : Nat => s.heap.size ≤ q) s.heap H locs → lv_has ls 4 [(0, .ref b), (1, .ref xo), (2, .ref mo), (3, .int i)] → W p l e room_1 s m #[Value.ref b] below meth c H locs (cells + 110) (slots + 2634) (lw_Z below #[Value.ref b] s) (F0 m 1710 ls [])) {τ ν : Nat → Nat} {ρ : Nat → Nat → Nat} {L : List Nat} {f : Nat → va_E} {H : Heap} {locs : List Loc} {ls : Array Slot}  (hI : lz_I κ xo mo τ ν ρ L f) (hP : va_P (dC, dI) vwCl (va_pl L f) H) (hD : va_D (fun q : Nat => s.heap.size ≤ q) (va_pl L f)) (hS : va_S (fun q : Nat => s.heap.size ≤ q) s.heap H locs) (hl : lv_has ls 4 [(0, .ref b), (1, .ref xo), (2, .ref mo), (3, .int i)]) : W p l e room_1 s m #[Value.ref b] below meth c H locs cells slots (lw_Z below #[Value.ref b] s) (F0 m 1697 ls []) := by
  obtain ⟨hx, hb, hr, hml, hown, hts, hX, hbl, hlocks, hgv⟩ := id C0
  have hown : s.vm.findClass RL = some m.cls := hown
  have hA : ∀ q : Nat, s.heap.size ≤ q → (fun q : Nat => s.heap.size ≤ q) q := fun _ h => h
  have hbA : ¬ (fun q : Nat => s.heap.size ≤ q) b := Nat.not_le.mpr hbl
  refine tn_6 hI (fun hG hT hxo hmo hJ hIM => ?_)
  clear hI
  have hrow := (tpg_13 hG hmo).1; have hims := (tpg_13 hG hmo).2.1
  refine lv_aload_n hx hb dL_law_1697 rfl (lv_at hl 1 rfl) ?_
  refine tgk_12 hG hxo (fun y1 y2 y3 y4 y5 y6 => ?_)
  refine tpk_12 hT hxo (fun o7_x6 hf_o7 => ?_)
  refine tpk_pos (tp_in hG hxo (by decide)) hf_o7 (fun q8 eq8 => ?_)
  have hFc := tp_fr hD hS hA
  refine va_calli (va_runV (As := []) (rest := []) ⟨hx, hb, hml, hown, hts⟩ (t_X11_status l dC dI _ (mo_O κ) κ τ ν ρ L f hG hT xo hxo) (cwV 0 hts gz_X11_status rfl rfl rfl ⟨rfl, pd_X11_status⟩ ⟨Nat.le_of_ble_eq_true rfl, Nat.le_of_ble_eq_true rfl⟩) ⟨pz_blind, va_recv hK hP (ci := 11) (q0 := q8) rfl eq8, pz_pre hP hK hD hN⟩ rfl rfl hl.1 rfl (lv_room (Nat.le_of_ble_eq_true rfl)) dL_law_1698 ⟨by show _ ≤ 600000; omega, by show _ ≤ 7302249; omega⟩) hS (fun q _ h => hFc q h) hFc (fun r9 f11 t H1 locs ht hvm hw10 hB hz1 hk1 hS => ?_)
  refine tn_4 hw10 (fun hT hF12 hw10r hw10p => ?_); clear hw10
  have hJ : mo_RI (-1) 0 (mo_R (mo_i (f11 (ρ mo 2)))) := by rw [hF12 _ (by rw [hrow]; decide)]; exact hJ
  have hIM : mo_IM (mo_R (mo_i (f11 (ρ mo 3)))) := by rw [hF12 _ (by rw [hims]; decide)]; exact hIM
  have hP := hB.1; rw [ht] at hP; have hD := tp_ad f11 hD; clear hB hFc hz1 hk1; subst ht; generalize t.heap = H at hP hS ⊢
  refine lv_pop hx hb dL_law_1701 rfl ?_
  refine lv_aload_n hx hb dL_law_1702 rfl (lv_at hl 2 rfl) ?_
  refine tgk_13 hG hmo (fun y14 y15 y16 y17 y18 y19 y20 y21 y22 y23 y24 y25 y26 y27 y28 y29 y30 y31 y32 y33 y34 y35 y36 y37 y38 => ?_)
  refine tpk_13 hT hmo (fun o39_x0 o39_x1 o39_x7 o39_x9 o39_x10 o39_x11 o39_x12 o39_x13 o39_x14 o39_x15 o39_x16 o39_x17 o39_x18 o39_x19 o39_x20 o39_x22 o39_x25 o39_x28 o39_x29 o39_x32 o39_x33 o39_x34 o39_x35 o39_x36 o39_x37 o39_x38 o39_x47 o39_x48 hf_o39 ro39_0 ro39_1 ro39_2 ro39_3 ro39_4 ro39_5 ro39_6 ro39_7 ro39_8 ro39_9 ro39_10 ro39_11 ro39_12 ro39_13 => ?_)
  refine tpk_pos (tp_in hG hmo (by decide)) hf_o39 (fun q40 eq40 => ?_)
  have hFc := tp_fr hD hS hA
  refine va_calli (va_runV (As := []) (rest := []) ⟨hx, hb, hml, hown, hts⟩ (t_X12_status l dC dI _ κ τ ν ρ L f11 hG hT mo hmo hJ) (cwV 0 hts gz_X12_status rfl rfl rfl ⟨rfl, pd_X12_status⟩ ⟨Nat.le_of_ble_eq_true rfl, Nat.le_of_ble_eq_true rfl⟩) ⟨pz_blind, va_recv hK hP (ci := 12) (q0 := q40) rfl eq40, pz_pre hP hK hD hN⟩ rfl rfl hl.1 rfl (lv_room (Nat.le_of_ble_eq_true rfl)) dL_law_1703 ⟨by show _ ≤ 600000; omega, by show _ ≤ 7302249; omega⟩) hS (fun q _ h => hFc q h) hFc (fun r41 f43 t H1 locs ht hvm hw42 hB hz1 hk1 hS => ?_)
  refine tn_4 hw42 (fun hT hF44 hw42r hw42p => ?_); clear hw42
  have hJ : mo_RI (-1) 0 (mo_R (mo_i (f43 (ρ mo 2)))) := by rw [hF44 _ (by rw [hrow]; decide)]; exact hJ
  have hIM : mo_IM (mo_R (mo_i (f43 (ρ mo 3)))) := by rw [hF44 _ (by rw [hims]; decide)]; exact hIM
  have hP := hB.1; rw [ht] at hP; have hD := tp_ad f43 hD; clear hB hFc hz1 hk1; subst ht; generalize t.heap = H at hP hS ⊢
  refine lv_pop hx hb dL_law_1706 rfl ?_
  refine lv_goto (tgt := 1710) hx hb dL_law_1707 (by decide) ?_
  refine tp_widen (cells + 110) (slots + 2634) (by omega) (by omega) ?_
  exact kk τ ν ρ L f43 _ _ _ ⟨hG, hT, hxo, hmo, hJ, hIM⟩ hP hD hS (lv_sub hl [0, 1, 2, 3] rfl)

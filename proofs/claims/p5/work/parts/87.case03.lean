set_option maxHeartbeats 8000000 in
set_option maxRecDepth 100000 in
theorem law_case_21 {p : Program} {l : Launch} {e : Env} {s : State} {m : MethodId} {below : List Frame} {meth : Method} {c : Code} {b N9 : Nat} {xs : Nat → Int32} {dC : Nat → ClassId} {dI : Nat → Nat → Nat} {κ : Nat → ClassId} {adK adV : Nat → Nat} {zv : Option Nat} {xo mo : Nat} {k cells slots : Nat} {i : Int32} (C0 : lw_At p s m meth c b N9 xs) (hN9 : N9 ≤ 4608) (hN : nz_ok s) (hZ : pw_Z adK adV zv (fun q : Nat => s.heap.size ≤ q) s s.heap) (hK : va_K (dC, dI) vwCl (tp_K κ) s) (hk : 9 * k + 9 ≤ N9) (hi : i.toInt = 9 * (k : Int)) (hc : cells + 110 ≤ 600000) (hs : slots + 2634 ≤ 7302249) (kk : ∀ (τ ν : Nat → Nat) (ρ : Nat → Nat → Nat) (L : List Nat) (f : Nat → va_E) (H : Heap) (locs : List Loc) (ls : Array Slot), lz_I κ xo mo τ ν ρ L f → va_P (dC, dI) vwCl (va_pl L f) H → va_D (fun q : Nat => s.heap.size ≤ q) (va_pl L f) → va_S (fun q : Nat => s.heap.size ≤ q) s.heap H locs → lv_has ls 4 [(0, .ref b), (1, .ref xo), (2, .ref mo), (3, .int i)] → W p l e room_1 s m #[Value.ref b] below meth c H locs (cells + 110) (slots + 2634) (lw_Z below #[Value.ref b] s) (F0 m 1710 ls [])) {τ ν : Nat → Nat} {ρ : Nat → Nat → Nat} {L : List Nat} {f : Nat → va_E} {H : Heap} {locs : List Loc} {ls : Array Slot}  (hI : lz_I κ xo mo τ ν ρ L f) (hP : va_P (dC, dI) vwCl (va_pl L f) H) (hD : va_D (fun q : Nat => s.heap.size ≤ q) (va_pl L f)) (hS : va_S (fun q : Nat => s.heap.size ≤ q) s.heap H locs) (hl : lv_has ls 4 [(0, .ref b), (1, .ref xo), (2, .ref mo), (3, .int i)]) : W p l e room_1 s m #[Value.ref b] below meth c H locs cells slots (lw_Z below #[Value.ref b] s) (F0 m 1037 ls []) := by
  obtain ⟨hx, hb, hr, hml, hown, hts, hX, hbl, hlocks, hgv⟩ := id C0
  have hown : s.vm.findClass RL = some m.cls := hown
  have hA : ∀ q : Nat, s.heap.size ≤ q → (fun q : Nat => s.heap.size ≤ q) q := fun _ h => h
  have hbA : ¬ (fun q : Nat => s.heap.size ≤ q) b := Nat.not_le.mpr hbl
  refine tn_6 hI (fun hG hT hxo hmo hJ hIM => ?_)
  clear hI
  have hrow := (tpg_13 hG hmo).1; have hims := (tpg_13 hG hmo).2.1
  refine lv_aload_n hx hb dL_law_1037 rfl (lv_at hl 1 rfl) ?_
  refine lv_aload_n hx hb dL_law_1038 rfl (lv_at hl 0 rfl) ?_
  refine lv_iload_n hx hb dL_law_1039 rfl (lv_at hl 3 rfl) ?_
  refine lv_iconst (v := 1) hx hb dL_law_1040 (by decide) ?_
  refine lv_iadd hx hb dL_law_1041 ?_
  refine lv_topi (fun z1 ez1 => ?_)
  have iz1 : z1.toInt = i.toInt + 1 := zi_add ez1 rfl (show (1 : Int32).toInt = 1 from rfl) (by omega) (by omega)
  refine va_sld hx hb hX hbl hbA hS (vp_in_iff.mpr ⟨by omega, by omega⟩) dL_law_1042 ?_
  refine lv_topi (fun y2 ey2 => ?_)
  obtain rfl : y2 = xs (9 * k + 1) := ey2.trans (congrArg xs (show z1.toInt.toNat = 9 * k + 1 by omega))
  refine tgk_12 hG hxo (fun y3 y4 y5 y6 y7 y8 => ?_)
  refine tpk_12 hT hxo (fun o9_x6 hf_o9 => ?_)
  refine tpk_pos (tp_in hG hxo (by decide)) hf_o9 (fun q10 eq10 => ?_)
  have hFc := tp_fr hD hS hA
  refine va_calli (va_runV (As := [.int (xs (9 * k + 1))]) (rest := []) ⟨hx, hb, hml, hown, hts⟩ (t_X11_end l dC dI _ (mo_O κ) κ τ ν ρ L f hG hT xo (xs (9 * k + 1)) hxo) (cwV 1 hts gz_X11_end rfl rfl rfl ⟨rfl, pd_X11_end⟩ ⟨Nat.le_of_ble_eq_true rfl, Nat.le_of_ble_eq_true rfl⟩) ⟨pz_blind, va_recv hK hP (ci := 11) (q0 := q10) rfl eq10, pz_pre hP hK hD hN⟩ rfl rfl hl.1 rfl (lv_room (Nat.le_of_ble_eq_true rfl)) dL_law_1043 ⟨by show _ ≤ 600000; omega, by show _ ≤ 7302249; omega⟩) hS (fun q _ h => hFc q h) hFc (fun r11 f13 t H1 locs ht hvm hw12 hB hz1 hk1 hS => ?_)
  refine tn_4 hw12 (fun hT hF14 hw12r hw12p => ?_); clear hw12
  have hJ : mo_RI (-1) 0 (mo_R (mo_i (f13 (ρ mo 2)))) := by rw [hF14 _ (by rw [hrow]; decide)]; exact hJ
  have hIM : mo_IM (mo_R (mo_i (f13 (ρ mo 3)))) := by rw [hF14 _ (by rw [hims]; decide)]; exact hIM
  have hP := hB.1; rw [ht] at hP; have hD := tp_ad f13 hD; clear hB hFc hz1 hk1; subst ht; generalize t.heap = H at hP hS ⊢
  refine lv_pop hx hb dL_law_1046 rfl ?_
  refine lv_aload_n hx hb dL_law_1047 rfl (lv_at hl 2 rfl) ?_
  refine lv_aload_n hx hb dL_law_1048 rfl (lv_at hl 0 rfl) ?_
  refine lv_iload_n hx hb dL_law_1049 rfl (lv_at hl 3 rfl) ?_
  refine lv_iconst (v := 1) hx hb dL_law_1050 (by decide) ?_
  refine lv_iadd hx hb dL_law_1051 ?_
  refine lv_topi (fun z16 ez16 => ?_)
  have iz16 : z16.toInt = i.toInt + 1 := zi_add ez16 rfl (show (1 : Int32).toInt = 1 from rfl) (by omega) (by omega)
  refine va_sld hx hb hX hbl hbA hS (vp_in_iff.mpr ⟨by omega, by omega⟩) dL_law_1052 ?_
  refine lv_topi (fun y17 ey17 => ?_)
  obtain rfl : y17 = xs (9 * k + 1) := ey17.trans (congrArg xs (show z16.toInt.toNat = 9 * k + 1 by omega))
  refine tgk_13 hG hmo (fun y18 y19 y20 y21 y22 y23 y24 y25 y26 y27 y28 y29 y30 y31 y32 y33 y34 y35 y36 y37 y38 y39 y40 y41 y42 => ?_)
  refine tpk_13 hT hmo (fun o43_x0 o43_x1 o43_x7 o43_x9 o43_x10 o43_x11 o43_x12 o43_x13 o43_x14 o43_x15 o43_x16 o43_x17 o43_x18 o43_x19 o43_x20 o43_x22 o43_x25 o43_x28 o43_x29 o43_x32 o43_x33 o43_x34 o43_x35 o43_x36 o43_x37 o43_x38 o43_x47 o43_x48 hf_o43 ro43_0 ro43_1 ro43_2 ro43_3 ro43_4 ro43_5 ro43_6 ro43_7 ro43_8 ro43_9 ro43_10 ro43_11 ro43_12 ro43_13 => ?_)
  refine tpk_pos (tp_in hG hmo (by decide)) hf_o43 (fun q44 eq44 => ?_)
  have hFc := tp_fr hD hS hA
  refine va_calli (va_runV (As := [.int (xs (9 * k + 1))]) (rest := []) ⟨hx, hb, hml, hown, hts⟩ (t_X12_end l dC dI _ κ τ ν ρ L f13 hG hT mo (xs (9 * k + 1)) hmo hJ) (cwV 1 hts gz_X12_end rfl rfl rfl ⟨rfl, pd_X12_end⟩ ⟨Nat.le_of_ble_eq_true rfl, Nat.le_of_ble_eq_true rfl⟩) ⟨pz_blind, va_recv hK hP (ci := 12) (q0 := q44) rfl eq44, pz_pre hP hK hD hN⟩ rfl rfl hl.1 rfl (lv_room (Nat.le_of_ble_eq_true rfl)) dL_law_1053 ⟨by show _ ≤ 600000; omega, by show _ ≤ 7302249; omega⟩) hS (fun q _ h => hFc q h) hFc (fun r45 f47 t H1 locs ht hvm hw46 hB hz1 hk1 hS => ?_)
  refine tn_4 hw46 (fun hT hF48 hw46r hw46p => ?_); clear hw46
  have hJ : mo_RI (-1) 0 (mo_R (mo_i (f47 (ρ mo 2)))) := by rw [hF48 _ (by rw [hrow]; decide)]; exact hJ
  have hIM : mo_IM (mo_R (mo_i (f47 (ρ mo 3)))) := by rw [hF48 _ (by rw [hims]; decide)]; exact hIM
  have hP := hB.1; rw [ht] at hP; have hD := tp_ad f47 hD; clear hB hFc hz1 hk1; subst ht; generalize t.heap = H at hP hS ⊢
  refine lv_pop hx hb dL_law_1056 rfl ?_
  refine lv_goto (tgt := 1710) hx hb dL_law_1057 (by decide) ?_
  refine tp_widen (cells + 110) (slots + 2634) (by omega) (by omega) ?_
  exact kk τ ν ρ L f47 _ _ _ ⟨hG, hT, hxo, hmo, hJ, hIM⟩ hP hD hS (lv_sub hl [0, 1, 2, 3] rfl)
set_option maxHeartbeats 8000000 in
set_option maxRecDepth 100000 in
theorem law_case_22 {p : Program} {l : Launch} {e : Env} {s : State} {m : MethodId} {below : List Frame} {meth : Method} {c : Code} {b N9 : Nat} {xs : Nat → Int32} {dC : Nat → ClassId} {dI : Nat → Nat → Nat} {κ : Nat → ClassId} {adK adV : Nat → Nat} {zv : Option Nat} {xo mo : Nat} {k cells slots : Nat} {i : Int32} (C0 : lw_At p s m meth c b N9 xs) (hN9 : N9 ≤ 4608) (hN : nz_ok s) (hZ : pw_Z adK adV zv (fun q : Nat => s.heap.size ≤ q) s s.heap) (hK : va_K (dC, dI) vwCl (tp_K κ) s) (hk : 9 * k + 9 ≤ N9) (hi : i.toInt = 9 * (k : Int)) (hc : cells + 110 ≤ 600000) (hs : slots + 2634 ≤ 7302249) (kk : ∀ (τ ν : Nat → Nat) (ρ : Nat → Nat → Nat) (L : List Nat) (f : Nat → va_E) (H : Heap) (locs : List Loc) (ls : Array Slot), lz_I κ xo mo τ ν ρ L f → va_P (dC, dI) vwCl (va_pl L f) H → va_D (fun q : Nat => s.heap.size ≤ q) (va_pl L f) → va_S (fun q : Nat => s.heap.size ≤ q) s.heap H locs → lv_has ls 4 [(0, .ref b), (1, .ref xo), (2, .ref mo), (3, .int i)] → W p l e room_1 s m #[Value.ref b] below meth c H locs (cells + 110) (slots + 2634) (lw_Z below #[Value.ref b] s) (F0 m 1710 ls [])) {τ ν : Nat → Nat} {ρ : Nat → Nat → Nat} {L : List Nat} {f : Nat → va_E} {H : Heap} {locs : List Loc} {ls : Array Slot}  (hI : lz_I κ xo mo τ ν ρ L f) (hP : va_P (dC, dI) vwCl (va_pl L f) H) (hD : va_D (fun q : Nat => s.heap.size ≤ q) (va_pl L f)) (hS : va_S (fun q : Nat => s.heap.size ≤ q) s.heap H locs) (hl : lv_has ls 4 [(0, .ref b), (1, .ref xo), (2, .ref mo), (3, .int i)]) : W p l e room_1 s m #[Value.ref b] below meth c H locs cells slots (lw_Z below #[Value.ref b] s) (F0 m 1060 ls []) := by
  obtain ⟨hx, hb, hr, hml, hown, hts, hX, hbl, hlocks, hgv⟩ := id C0
  have hown : s.vm.findClass RL = some m.cls := hown
  have hA : ∀ q : Nat, s.heap.size ≤ q → (fun q : Nat => s.heap.size ≤ q) q := fun _ h => h
  have hbA : ¬ (fun q : Nat => s.heap.size ≤ q) b := Nat.not_le.mpr hbl
  refine tn_6 hI (fun hG hT hxo hmo hJ hIM => ?_)
  clear hI
  have hrow := (tpg_13 hG hmo).1; have hims := (tpg_13 hG hmo).2.1
  refine lv_aload_n hx hb dL_law_1060 rfl (lv_at hl 1 rfl) ?_
  refine tgk_12 hG hxo (fun y1 y2 y3 y4 y5 y6 => ?_)
  refine tpk_12 hT hxo (fun o7_x6 hf_o7 => ?_)
  refine tpk_pos (tp_in hG hxo (by decide)) hf_o7 (fun q8 eq8 => ?_)
  have hFc := tp_fr hD hS hA
  refine va_calli (va_runV (As := []) (rest := []) ⟨hx, hb, hml, hown, hts⟩ (t_X11_contract l dC dI _ (mo_O κ) κ τ ν ρ L f hG hT adK adV zv xo hxo) (cwV 0 hts gz_X11_contract rfl rfl rfl ⟨rfl, pd_X11_contract⟩ ⟨Nat.le_of_ble_eq_true rfl, Nat.le_of_ble_eq_true rfl⟩) ⟨pw_blindZ, va_recv hK hP (ci := 11) (q0 := q8) rfl eq8, pw_preZ hP hK hD hN hZ hS (tp_fr hD hS hA)⟩ rfl rfl hl.1 rfl (lv_room (Nat.le_of_ble_eq_true rfl)) dL_law_1061 ⟨by show _ ≤ 600000; omega, by show _ ≤ 7302249; omega⟩) hS (fun q _ h => hFc q h) hFc (fun r9 x9 t H1 locs ht hvm hw10 hB hz1 hk1 hS => ?_)
  obtain ⟨τ_13, ν_13, ρ_13, L_13, f11⟩ := x9; obtain ⟨⟨hG9, hT9, hH9⟩, hw10p⟩ := hw10
  have h9_hmo := hH9.2 mo (tp_in hG hmo (by decide)) (fun z => by cases z)
  have h9_hxo := hH9.2 xo (tp_in hG hxo (by decide)) (fun z => by cases z)
  have h9_hrow := hH9.2 (ρ mo 2) (tp_in hG hrow (by decide)) (fun z => by cases z)
  have h9_hims := hH9.2 (ρ mo 3) (tp_in hG hims (by decide)) (fun z => by cases z)
  have hJ : mo_RI (-1) 0 (mo_R (mo_i (f11 (ρ_13 mo 2)))) := by have q9 : ρ_13 mo = ρ mo := h9_hmo.2.2.1; rw [q9]; have q8 : f11 (ρ mo 2) = f (ρ mo 2) := h9_hrow.2.2.2 (by rw [hrow]; decide); rw [q8]; exact hJ
  have hIM : mo_IM (mo_R (mo_i (f11 (ρ_13 mo 3)))) := by have q9 : ρ_13 mo = ρ mo := h9_hmo.2.2.1; rw [q9]; have q8 : f11 (ρ mo 3) = f (ρ mo 3) := h9_hims.2.2.2 (by rw [hims]; decide); rw [q8]; exact hIM
  have hmo : τ_13 mo = 13 := h9_hmo.1.trans hmo; have hxo : τ_13 xo = 12 := h9_hxo.1.trans hxo
  have hG : tp_G τ_13 ν_13 ρ_13 L_13 := hG9; have hT : tp_T (mo_O κ) κ τ_13 ν_13 ρ_13 f11 := hT9
  have hP := hB.1; rw [ht] at hP; have hD := tp_Dw hB.2.2 hFc; clear hB hFc hz1 hk1 h9_hmo h9_hxo h9_hrow h9_hims hH9 hG9 hT9; subst ht; generalize t.heap = H at hP hS ⊢
  have hP : va_P (dC, dI) vwCl (va_pl L_13 f11) H := hP; have hD : va_D (fun q : Nat => s.heap.size ≤ q) (va_pl L_13 f11) := hD
  have hrow := (tpg_13 hG hmo).1; have hims := (tpg_13 hG hmo).2.1
  refine lv_pop hx hb dL_law_1064 rfl ?_
  refine lv_aload_n hx hb dL_law_1065 rfl (lv_at hl 2 rfl) ?_
  refine tgk_13 hG hmo (fun y14 y15 y16 y17 y18 y19 y20 y21 y22 y23 y24 y25 y26 y27 y28 y29 y30 y31 y32 y33 y34 y35 y36 y37 y38 => ?_)
  refine tpk_13 hT hmo (fun o39_x0 o39_x1 o39_x7 o39_x9 o39_x10 o39_x11 o39_x12 o39_x13 o39_x14 o39_x15 o39_x16 o39_x17 o39_x18 o39_x19 o39_x20 o39_x22 o39_x25 o39_x28 o39_x29 o39_x32 o39_x33 o39_x34 o39_x35 o39_x36 o39_x37 o39_x38 o39_x47 o39_x48 hf_o39 ro39_0 ro39_1 ro39_2 ro39_3 ro39_4 ro39_5 ro39_6 ro39_7 ro39_8 ro39_9 ro39_10 ro39_11 ro39_12 ro39_13 => ?_)
  refine tpk_pos (tp_in hG hmo (by decide)) hf_o39 (fun q40 eq40 => ?_)
  have hFc := tp_fr hD hS hA
  refine va_calli (va_runV (As := []) (rest := []) ⟨hx, hb, hml, hown, hts⟩ (t_X12_contract l dC dI _ κ τ_13 ν_13 ρ_13 L_13 f11 hG hT mo hmo hJ) (cwV 0 hts gz_X12_contract rfl rfl rfl ⟨rfl, pd_X12_contract⟩ ⟨Nat.le_of_ble_eq_true rfl, Nat.le_of_ble_eq_true rfl⟩) ⟨pz_blind, va_recv hK hP (ci := 12) (q0 := q40) rfl eq40, pz_pre hP hK hD hN⟩ rfl rfl hl.1 rfl (lv_room (Nat.le_of_ble_eq_true rfl)) dL_law_1066 ⟨by show _ ≤ 600000; omega, by show _ ≤ 7302249; omega⟩) hS (fun q _ h => hFc q h) hFc (fun r41 f43 t H1 locs ht hvm hw42 hB hz1 hk1 hS => ?_)
  refine tn_4 hw42 (fun hT hF44 hw42r hw42p => ?_); clear hw42
  have hJ : mo_RI (-1) 0 (mo_R (mo_i (f43 (ρ_13 mo 2)))) := hw42p
  have hIM : mo_IM (mo_R (mo_i (f43 (ρ_13 mo 3)))) := by rw [hF44 _ (by rw [hims]; decide)]; exact hIM
  have hP := hB.1; rw [ht] at hP; have hD := tp_ad f43 hD; clear hB hFc hz1 hk1; subst ht; generalize t.heap = H at hP hS ⊢
  refine lv_pop hx hb dL_law_1069 rfl ?_
  refine lv_goto (tgt := 1710) hx hb dL_law_1070 (by decide) ?_
  refine tp_widen (cells + 110) (slots + 2634) (by omega) (by omega) ?_
  exact kk τ_13 ν_13 ρ_13 L_13 f43 _ _ _ ⟨hG, hT, hxo, hmo, hJ, hIM⟩ hP hD hS (lv_sub hl [0, 1, 2, 3] rfl)
set_option maxHeartbeats 8000000 in
set_option maxRecDepth 100000 in
theorem law_case_23 {p : Program} {l : Launch} {e : Env} {s : State} {m : MethodId} {below : List Frame} {meth : Method} {c : Code} {b N9 : Nat} {xs : Nat → Int32} {dC : Nat → ClassId} {dI : Nat → Nat → Nat} {κ : Nat → ClassId} {adK adV : Nat → Nat} {zv : Option Nat} {xo mo : Nat} {k cells slots : Nat} {i : Int32} (C0 : lw_At p s m meth c b N9 xs) (hN9 : N9 ≤ 4608) (hN : nz_ok s) (hZ : pw_Z adK adV zv (fun q : Nat => s.heap.size ≤ q) s s.heap) (hK : va_K (dC, dI) vwCl (tp_K κ) s) (hk : 9 * k + 9 ≤ N9) (hi : i.toInt = 9 * (k : Int)) (hc : cells + 110 ≤ 600000) (hs : slots + 2634 ≤ 7302249) (kk : ∀ (τ ν : Nat → Nat) (ρ : Nat → Nat → Nat) (L : List Nat) (f : Nat → va_E) (H : Heap) (locs : List Loc) (ls : Array Slot), lz_I κ xo mo τ ν ρ L f → va_P (dC, dI) vwCl (va_pl L f) H → va_D (fun q : Nat => s.heap.size ≤ q) (va_pl L f) → va_S (fun q : Nat => s.heap.size ≤ q) s.heap H locs → lv_has ls 4 [(0, .ref b), (1, .ref xo), (2, .ref mo), (3, .int i)] → W p l e room_1 s m #[Value.ref b] below meth c H locs (cells + 110) (slots + 2634) (lw_Z below #[Value.ref b] s) (F0 m 1710 ls [])) {τ ν : Nat → Nat} {ρ : Nat → Nat → Nat} {L : List Nat} {f : Nat → va_E} {H : Heap} {locs : List Loc} {ls : Array Slot}  (hI : lz_I κ xo mo τ ν ρ L f) (hP : va_P (dC, dI) vwCl (va_pl L f) H) (hD : va_D (fun q : Nat => s.heap.size ≤ q) (va_pl L f)) (hS : va_S (fun q : Nat => s.heap.size ≤ q) s.heap H locs) (hl : lv_has ls 4 [(0, .ref b), (1, .ref xo), (2, .ref mo), (3, .int i)]) : W p l e room_1 s m #[Value.ref b] below meth c H locs cells slots (lw_Z below #[Value.ref b] s) (F0 m 1073 ls []) := by
  obtain ⟨hx, hb, hr, hml, hown, hts, hX, hbl, hlocks, hgv⟩ := id C0
  have hown : s.vm.findClass RL = some m.cls := hown
  have hA : ∀ q : Nat, s.heap.size ≤ q → (fun q : Nat => s.heap.size ≤ q) q := fun _ h => h
  have hbA : ¬ (fun q : Nat => s.heap.size ≤ q) b := Nat.not_le.mpr hbl
  refine tn_6 hI (fun hG hT hxo hmo hJ hIM => ?_)
  clear hI
  have hrow := (tpg_13 hG hmo).1; have hims := (tpg_13 hG hmo).2.1
  refine lv_aload_n hx hb dL_law_1073 rfl (lv_at hl 1 rfl) ?_
  refine tgk_12 hG hxo (fun y1 y2 y3 y4 y5 y6 => ?_)
  refine tpk_12 hT hxo (fun o7_x6 hf_o7 => ?_)
  refine tpk_pos (tp_in hG hxo (by decide)) hf_o7 (fun q8 eq8 => ?_)
  have hFc := tp_fr hD hS hA
  refine va_calli (va_runV (As := []) (rest := []) ⟨hx, hb, hml, hown, hts⟩ (t_X11_fault l dC dI _ (mo_O κ) κ τ ν ρ L f hG hT xo hxo) (cwV 0 hts gz_X11_fault rfl rfl rfl ⟨rfl, pd_X11_fault⟩ ⟨Nat.le_of_ble_eq_true rfl, Nat.le_of_ble_eq_true rfl⟩) ⟨pz_blind, va_recv hK hP (ci := 11) (q0 := q8) rfl eq8, pz_pre hP hK hD hN⟩ rfl rfl hl.1 rfl (lv_room (Nat.le_of_ble_eq_true rfl)) dL_law_1074 ⟨by show _ ≤ 600000; omega, by show _ ≤ 7302249; omega⟩) hS (fun q _ h => hFc q h) hFc (fun r9 f11 t H1 locs ht hvm hw10 hB hz1 hk1 hS => ?_)
  refine tn_4 hw10 (fun hT hF12 hw10r hw10p => ?_); clear hw10
  have hJ : mo_RI (-1) 0 (mo_R (mo_i (f11 (ρ mo 2)))) := by rw [hF12 _ (by rw [hrow]; decide)]; exact hJ
  have hIM : mo_IM (mo_R (mo_i (f11 (ρ mo 3)))) := by rw [hF12 _ (by rw [hims]; decide)]; exact hIM
  have hP := hB.1; rw [ht] at hP; have hD := tp_ad f11 hD; clear hB hFc hz1 hk1; subst ht; generalize t.heap = H at hP hS ⊢
  refine lv_pop hx hb dL_law_1077 rfl ?_
  refine lv_aload_n hx hb dL_law_1078 rfl (lv_at hl 2 rfl) ?_
  refine tgk_13 hG hmo (fun y14 y15 y16 y17 y18 y19 y20 y21 y22 y23 y24 y25 y26 y27 y28 y29 y30 y31 y32 y33 y34 y35 y36 y37 y38 => ?_)
  refine tpk_13 hT hmo (fun o39_x0 o39_x1 o39_x7 o39_x9 o39_x10 o39_x11 o39_x12 o39_x13 o39_x14 o39_x15 o39_x16 o39_x17 o39_x18 o39_x19 o39_x20 o39_x22 o39_x25 o39_x28 o39_x29 o39_x32 o39_x33 o39_x34 o39_x35 o39_x36 o39_x37 o39_x38 o39_x47 o39_x48 hf_o39 ro39_0 ro39_1 ro39_2 ro39_3 ro39_4 ro39_5 ro39_6 ro39_7 ro39_8 ro39_9 ro39_10 ro39_11 ro39_12 ro39_13 => ?_)
  refine tpk_pos (tp_in hG hmo (by decide)) hf_o39 (fun q40 eq40 => ?_)
  have hFc := tp_fr hD hS hA
  refine va_calli (va_runV (As := []) (rest := []) ⟨hx, hb, hml, hown, hts⟩ (t_X12_fault l dC dI _ κ τ ν ρ L f11 hG hT mo hmo hJ) (cwV 0 hts gz_X12_fault rfl rfl rfl ⟨rfl, pd_X12_fault⟩ ⟨Nat.le_of_ble_eq_true rfl, Nat.le_of_ble_eq_true rfl⟩) ⟨pz_blind, va_recv hK hP (ci := 12) (q0 := q40) rfl eq40, pz_pre hP hK hD hN⟩ rfl rfl hl.1 rfl (lv_room (Nat.le_of_ble_eq_true rfl)) dL_law_1079 ⟨by show _ ≤ 600000; omega, by show _ ≤ 7302249; omega⟩) hS (fun q _ h => hFc q h) hFc (fun r41 f43 t H1 locs ht hvm hw42 hB hz1 hk1 hS => ?_)
  refine tn_4 hw42 (fun hT hF44 hw42r hw42p => ?_); clear hw42
  have hJ : mo_RI (-1) 0 (mo_R (mo_i (f43 (ρ mo 2)))) := by rw [hF44 _ (by rw [hrow]; decide)]; exact hJ
  have hIM : mo_IM (mo_R (mo_i (f43 (ρ mo 3)))) := by rw [hF44 _ (by rw [hims]; decide)]; exact hIM
  have hP := hB.1; rw [ht] at hP; have hD := tp_ad f43 hD; clear hB hFc hz1 hk1; subst ht; generalize t.heap = H at hP hS ⊢
  refine lv_pop hx hb dL_law_1082 rfl ?_
  refine lv_goto (tgt := 1710) hx hb dL_law_1083 (by decide) ?_
  refine tp_widen (cells + 110) (slots + 2634) (by omega) (by omega) ?_
  exact kk τ ν ρ L f43 _ _ _ ⟨hG, hT, hxo, hmo, hJ, hIM⟩ hP hD hS (lv_sub hl [0, 1, 2, 3] rfl)
set_option maxHeartbeats 8000000 in
set_option maxRecDepth 100000 in
theorem law_case_24 {p : Program} {l : Launch} {e : Env} {s : State} {m : MethodId} {below : List Frame} {meth : Method} {c : Code} {b N9 : Nat} {xs : Nat → Int32} {dC : Nat → ClassId} {dI : Nat → Nat → Nat} {κ : Nat → ClassId} {adK adV : Nat → Nat} {zv : Option Nat} {xo mo : Nat} {k cells slots : Nat} {i : Int32} (C0 : lw_At p s m meth c b N9 xs) (hN9 : N9 ≤ 4608) (hN : nz_ok s) (hZ : pw_Z adK adV zv (fun q : Nat => s.heap.size ≤ q) s s.heap) (hK : va_K (dC, dI) vwCl (tp_K κ) s) (hk : 9 * k + 9 ≤ N9) (hi : i.toInt = 9 * (k : Int)) (hc : cells + 110 ≤ 600000) (hs : slots + 2634 ≤ 7302249) (kk : ∀ (τ ν : Nat → Nat) (ρ : Nat → Nat → Nat) (L : List Nat) (f : Nat → va_E) (H : Heap) (locs : List Loc) (ls : Array Slot), lz_I κ xo mo τ ν ρ L f → va_P (dC, dI) vwCl (va_pl L f) H → va_D (fun q : Nat => s.heap.size ≤ q) (va_pl L f) → va_S (fun q : Nat => s.heap.size ≤ q) s.heap H locs → lv_has ls 4 [(0, .ref b), (1, .ref xo), (2, .ref mo), (3, .int i)] → W p l e room_1 s m #[Value.ref b] below meth c H locs (cells + 110) (slots + 2634) (lw_Z below #[Value.ref b] s) (F0 m 1710 ls [])) {τ ν : Nat → Nat} {ρ : Nat → Nat → Nat} {L : List Nat} {f : Nat → va_E} {H : Heap} {locs : List Loc} {ls : Array Slot}  (hI : lz_I κ xo mo τ ν ρ L f) (hP : va_P (dC, dI) vwCl (va_pl L f) H) (hD : va_D (fun q : Nat => s.heap.size ≤ q) (va_pl L f)) (hS : va_S (fun q : Nat => s.heap.size ≤ q) s.heap H locs) (hl : lv_has ls 4 [(0, .ref b), (1, .ref xo), (2, .ref mo), (3, .int i)]) : W p l e room_1 s m #[Value.ref b] below meth c H locs cells slots (lw_Z below #[Value.ref b] s) (F0 m 1086 ls []) := by
  obtain ⟨hx, hb, hr, hml, hown, hts, hX, hbl, hlocks, hgv⟩ := id C0
  have hown : s.vm.findClass RL = some m.cls := hown
  have hA : ∀ q : Nat, s.heap.size ≤ q → (fun q : Nat => s.heap.size ≤ q) q := fun _ h => h
  have hbA : ¬ (fun q : Nat => s.heap.size ≤ q) b := Nat.not_le.mpr hbl
  refine tn_6 hI (fun hG hT hxo hmo hJ hIM => ?_)
  clear hI
  have hrow := (tpg_13 hG hmo).1; have hims := (tpg_13 hG hmo).2.1
  refine lv_aload_n hx hb dL_law_1086 rfl (lv_at hl 1 rfl) ?_
  refine lv_aload_n hx hb dL_law_1087 rfl (lv_at hl 0 rfl) ?_
  refine lv_iload_n hx hb dL_law_1088 rfl (lv_at hl 3 rfl) ?_
  refine lv_iconst (v := 1) hx hb dL_law_1089 (by decide) ?_
  refine lv_iadd hx hb dL_law_1090 ?_
  refine lv_topi (fun z1 ez1 => ?_)
  have iz1 : z1.toInt = i.toInt + 1 := zi_add ez1 rfl (show (1 : Int32).toInt = 1 from rfl) (by omega) (by omega)
  refine va_sld hx hb hX hbl hbA hS (vp_in_iff.mpr ⟨by omega, by omega⟩) dL_law_1091 ?_
  refine lv_topi (fun y2 ey2 => ?_)
  obtain rfl : y2 = xs (9 * k + 1) := ey2.trans (congrArg xs (show z1.toInt.toNat = 9 * k + 1 by omega))
  refine lv_aload_n hx hb dL_law_1092 rfl (lv_at hl 0 rfl) ?_
  refine lv_iload_n hx hb dL_law_1093 rfl (lv_at hl 3 rfl) ?_
  refine lv_iconst (v := 2) hx hb dL_law_1094 (by decide) ?_
  refine lv_iadd hx hb dL_law_1095 ?_
  refine lv_topi (fun z3 ez3 => ?_)
  have iz3 : z3.toInt = i.toInt + 2 := zi_add ez3 rfl (show (2 : Int32).toInt = 2 from rfl) (by omega) (by omega)
  refine va_sld hx hb hX hbl hbA hS (vp_in_iff.mpr ⟨by omega, by omega⟩) dL_law_1096 ?_
  refine lv_topi (fun y4 ey4 => ?_)
  obtain rfl : y4 = xs (9 * k + 2) := ey4.trans (congrArg xs (show z3.toInt.toNat = 9 * k + 2 by omega))
  refine lv_aload_n hx hb dL_law_1097 rfl (lv_at hl 0 rfl) ?_
  refine lv_iload_n hx hb dL_law_1098 rfl (lv_at hl 3 rfl) ?_
  refine lv_iconst (v := 3) hx hb dL_law_1099 (by decide) ?_
  refine lv_iadd hx hb dL_law_1100 ?_
  refine lv_topi (fun z5 ez5 => ?_)
  have iz5 : z5.toInt = i.toInt + 3 := zi_add ez5 rfl (show (3 : Int32).toInt = 3 from rfl) (by omega) (by omega)
  refine va_sld hx hb hX hbl hbA hS (vp_in_iff.mpr ⟨by omega, by omega⟩) dL_law_1101 ?_
  refine lv_topi (fun y6 ey6 => ?_)
  obtain rfl : y6 = xs (9 * k + 3) := ey6.trans (congrArg xs (show z5.toInt.toNat = 9 * k + 3 by omega))
  refine lv_aload_n hx hb dL_law_1102 rfl (lv_at hl 0 rfl) ?_
  refine lv_iload_n hx hb dL_law_1103 rfl (lv_at hl 3 rfl) ?_
  refine lv_iconst (v := 4) hx hb dL_law_1104 (by decide) ?_
  refine lv_iadd hx hb dL_law_1105 ?_
  refine lv_topi (fun z7 ez7 => ?_)
  have iz7 : z7.toInt = i.toInt + 4 := zi_add ez7 rfl (show (4 : Int32).toInt = 4 from rfl) (by omega) (by omega)
  refine va_sld hx hb hX hbl hbA hS (vp_in_iff.mpr ⟨by omega, by omega⟩) dL_law_1106 ?_
  refine lv_topi (fun y8 ey8 => ?_)
  obtain rfl : y8 = xs (9 * k + 4) := ey8.trans (congrArg xs (show z7.toInt.toNat = 9 * k + 4 by omega))
  refine tgk_12 hG hxo (fun y9 y10 y11 y12 y13 y14 => ?_)
  refine tpk_12 hT hxo (fun o15_x6 hf_o15 => ?_)
  refine tpk_pos (tp_in hG hxo (by decide)) hf_o15 (fun q16 eq16 => ?_)
  have hFc := tp_fr hD hS hA
  refine va_calll (va_runV (As := [.int (xs (9 * k + 1)), .int (xs (9 * k + 2)), .int (xs (9 * k + 3)), .int (xs (9 * k + 4))]) (rest := []) ⟨hx, hb, hml, hown, hts⟩ (t_X11_due l dC dI _ (mo_O κ) κ τ ν ρ L f hG hT xo (xs (9 * k + 1)) (xs (9 * k + 2)) (xs (9 * k + 3)) (xs (9 * k + 4)) hxo) (cwV 4 hts gz_X11_due rfl rfl rfl ⟨rfl, pd_X11_due⟩ ⟨Nat.le_of_ble_eq_true rfl, Nat.le_of_ble_eq_true rfl⟩) ⟨pz_blind, va_recv hK hP (ci := 11) (q0 := q16) rfl eq16, pz_pre hP hK hD hN⟩ rfl rfl hl.1 rfl (lv_room (Nat.le_of_ble_eq_true rfl)) dL_law_1107 ⟨by show _ ≤ 600000; omega, by show _ ≤ 7302249; omega⟩) hS (fun q _ h => hFc q h) hFc (fun r17 f19 t H1 locs ht hvm hw18 hB hz1 hk1 hS => ?_)
  refine tn_4 hw18 (fun hT hF20 hw18r hw18p => ?_); clear hw18
  have hJ : mo_RI (-1) 0 (mo_R (mo_i (f19 (ρ mo 2)))) := by rw [hF20 _ (by rw [hrow]; decide)]; exact hJ
  have hIM : mo_IM (mo_R (mo_i (f19 (ρ mo 3)))) := by rw [hF20 _ (by rw [hims]; decide)]; exact hIM
  have hP := hB.1; rw [ht] at hP; have hD := tp_ad f19 hD; clear hB hFc hz1 hk1; subst ht; generalize t.heap = H at hP hS ⊢
  refine lv_pop2_2 hx hb dL_law_1110 rfl ?_
  refine lv_aload_n hx hb dL_law_1111 rfl (lv_at hl 2 rfl) ?_
  refine lv_aload_n hx hb dL_law_1112 rfl (lv_at hl 0 rfl) ?_
  refine lv_iload_n hx hb dL_law_1113 rfl (lv_at hl 3 rfl) ?_
  refine lv_iconst (v := 1) hx hb dL_law_1114 (by decide) ?_
  refine lv_iadd hx hb dL_law_1115 ?_
  refine lv_topi (fun z22 ez22 => ?_)
  have iz22 : z22.toInt = i.toInt + 1 := zi_add ez22 rfl (show (1 : Int32).toInt = 1 from rfl) (by omega) (by omega)
  refine va_sld hx hb hX hbl hbA hS (vp_in_iff.mpr ⟨by omega, by omega⟩) dL_law_1116 ?_
  refine lv_topi (fun y23 ey23 => ?_)
  obtain rfl : y23 = xs (9 * k + 1) := ey23.trans (congrArg xs (show z22.toInt.toNat = 9 * k + 1 by omega))
  refine lv_aload_n hx hb dL_law_1117 rfl (lv_at hl 0 rfl) ?_
  refine lv_iload_n hx hb dL_law_1118 rfl (lv_at hl 3 rfl) ?_
  refine lv_iconst (v := 2) hx hb dL_law_1119 (by decide) ?_
  refine lv_iadd hx hb dL_law_1120 ?_
  refine lv_topi (fun z24 ez24 => ?_)
  have iz24 : z24.toInt = i.toInt + 2 := zi_add ez24 rfl (show (2 : Int32).toInt = 2 from rfl) (by omega) (by omega)
  refine va_sld hx hb hX hbl hbA hS (vp_in_iff.mpr ⟨by omega, by omega⟩) dL_law_1121 ?_
  refine lv_topi (fun y25 ey25 => ?_)
  obtain rfl : y25 = xs (9 * k + 2) := ey25.trans (congrArg xs (show z24.toInt.toNat = 9 * k + 2 by omega))
  refine lv_aload_n hx hb dL_law_1122 rfl (lv_at hl 0 rfl) ?_
  refine lv_iload_n hx hb dL_law_1123 rfl (lv_at hl 3 rfl) ?_
  refine lv_iconst (v := 3) hx hb dL_law_1124 (by decide) ?_
  refine lv_iadd hx hb dL_law_1125 ?_
  refine lv_topi (fun z26 ez26 => ?_)
  have iz26 : z26.toInt = i.toInt + 3 := zi_add ez26 rfl (show (3 : Int32).toInt = 3 from rfl) (by omega) (by omega)
  refine va_sld hx hb hX hbl hbA hS (vp_in_iff.mpr ⟨by omega, by omega⟩) dL_law_1126 ?_
  refine lv_topi (fun y27 ey27 => ?_)
  obtain rfl : y27 = xs (9 * k + 3) := ey27.trans (congrArg xs (show z26.toInt.toNat = 9 * k + 3 by omega))
  refine lv_aload_n hx hb dL_law_1127 rfl (lv_at hl 0 rfl) ?_
  refine lv_iload_n hx hb dL_law_1128 rfl (lv_at hl 3 rfl) ?_
  refine lv_iconst (v := 4) hx hb dL_law_1129 (by decide) ?_
  refine lv_iadd hx hb dL_law_1130 ?_
  refine lv_topi (fun z28 ez28 => ?_)
  have iz28 : z28.toInt = i.toInt + 4 := zi_add ez28 rfl (show (4 : Int32).toInt = 4 from rfl) (by omega) (by omega)
  refine va_sld hx hb hX hbl hbA hS (vp_in_iff.mpr ⟨by omega, by omega⟩) dL_law_1131 ?_
  refine lv_topi (fun y29 ey29 => ?_)
  obtain rfl : y29 = xs (9 * k + 4) := ey29.trans (congrArg xs (show z28.toInt.toNat = 9 * k + 4 by omega))
  refine tgk_13 hG hmo (fun y30 y31 y32 y33 y34 y35 y36 y37 y38 y39 y40 y41 y42 y43 y44 y45 y46 y47 y48 y49 y50 y51 y52 y53 y54 => ?_)
  refine tpk_13 hT hmo (fun o55_x0 o55_x1 o55_x7 o55_x9 o55_x10 o55_x11 o55_x12 o55_x13 o55_x14 o55_x15 o55_x16 o55_x17 o55_x18 o55_x19 o55_x20 o55_x22 o55_x25 o55_x28 o55_x29 o55_x32 o55_x33 o55_x34 o55_x35 o55_x36 o55_x37 o55_x38 o55_x47 o55_x48 hf_o55 ro55_0 ro55_1 ro55_2 ro55_3 ro55_4 ro55_5 ro55_6 ro55_7 ro55_8 ro55_9 ro55_10 ro55_11 ro55_12 ro55_13 => ?_)
  refine tpk_pos (tp_in hG hmo (by decide)) hf_o55 (fun q56 eq56 => ?_)
  have hFc := tp_fr hD hS hA
  refine va_calll (va_runV (As := [.int (xs (9 * k + 1)), .int (xs (9 * k + 2)), .int (xs (9 * k + 3)), .int (xs (9 * k + 4))]) (rest := []) ⟨hx, hb, hml, hown, hts⟩ (t_X12_due l dC dI _ κ τ ν ρ L f19 hG hT mo (xs (9 * k + 1)) (xs (9 * k + 2)) (xs (9 * k + 3)) (xs (9 * k + 4)) hmo hJ) (cwV 4 hts gz_X12_due rfl rfl rfl ⟨rfl, pd_X12_due⟩ ⟨Nat.le_of_ble_eq_true rfl, Nat.le_of_ble_eq_true rfl⟩) ⟨pz_blind, va_recv hK hP (ci := 12) (q0 := q56) rfl eq56, pz_pre hP hK hD hN⟩ rfl rfl hl.1 rfl (lv_room (Nat.le_of_ble_eq_true rfl)) dL_law_1132 ⟨by show _ ≤ 600000; omega, by show _ ≤ 7302249; omega⟩) hS (fun q _ h => hFc q h) hFc (fun r57 f59 t H1 locs ht hvm hw58 hB hz1 hk1 hS => ?_)
  refine tn_4 hw58 (fun hT hF60 hw58r hw58p => ?_); clear hw58
  have hJ : mo_RI (-1) 0 (mo_R (mo_i (f59 (ρ mo 2)))) := by rw [hF60 _ (by rw [hrow]; decide)]; exact hJ
  have hIM : mo_IM (mo_R (mo_i (f59 (ρ mo 3)))) := by rw [hF60 _ (by rw [hims]; decide)]; exact hIM
  have hP := hB.1; rw [ht] at hP; have hD := tp_ad f59 hD; clear hB hFc hz1 hk1; subst ht; generalize t.heap = H at hP hS ⊢
  refine lv_pop2_2 hx hb dL_law_1135 rfl ?_
  refine lv_goto (tgt := 1710) hx hb dL_law_1136 (by decide) ?_
  refine tp_widen (cells + 110) (slots + 2634) (by omega) (by omega) ?_
  exact kk τ ν ρ L f59 _ _ _ ⟨hG, hT, hxo, hmo, hJ, hIM⟩ hP hD hS (lv_sub hl [0, 1, 2, 3] rfl)
set_option maxHeartbeats 8000000 in
set_option maxRecDepth 100000 in
theorem law_case_25 {p : Program} {l : Launch} {e : Env} {s : State} {m : MethodId} {below : List Frame} {meth : Method} {c : Code} {b N9 : Nat} {xs : Nat → Int32} {dC : Nat → ClassId} {dI : Nat → Nat → Nat} {κ : Nat → ClassId} {adK adV : Nat → Nat} {zv : Option Nat} {xo mo : Nat} {k cells slots : Nat} {i : Int32} (C0 : lw_At p s m meth c b N9 xs) (hN9 : N9 ≤ 4608) (hN : nz_ok s) (hZ : pw_Z adK adV zv (fun q : Nat => s.heap.size ≤ q) s s.heap) (hK : va_K (dC, dI) vwCl (tp_K κ) s) (hk : 9 * k + 9 ≤ N9) (hi : i.toInt = 9 * (k : Int)) (hc : cells + 110 ≤ 600000) (hs : slots + 2634 ≤ 7302249) (kk : ∀ (τ ν : Nat → Nat) (ρ : Nat → Nat → Nat) (L : List Nat) (f : Nat → va_E) (H : Heap) (locs : List Loc) (ls : Array Slot), lz_I κ xo mo τ ν ρ L f → va_P (dC, dI) vwCl (va_pl L f) H → va_D (fun q : Nat => s.heap.size ≤ q) (va_pl L f) → va_S (fun q : Nat => s.heap.size ≤ q) s.heap H locs → lv_has ls 4 [(0, .ref b), (1, .ref xo), (2, .ref mo), (3, .int i)] → W p l e room_1 s m #[Value.ref b] below meth c H locs (cells + 110) (slots + 2634) (lw_Z below #[Value.ref b] s) (F0 m 1710 ls [])) {τ ν : Nat → Nat} {ρ : Nat → Nat → Nat} {L : List Nat} {f : Nat → va_E} {H : Heap} {locs : List Loc} {ls : Array Slot}  (hI : lz_I κ xo mo τ ν ρ L f) (hP : va_P (dC, dI) vwCl (va_pl L f) H) (hD : va_D (fun q : Nat => s.heap.size ≤ q) (va_pl L f)) (hS : va_S (fun q : Nat => s.heap.size ≤ q) s.heap H locs) (hl : lv_has ls 4 [(0, .ref b), (1, .ref xo), (2, .ref mo), (3, .int i)]) : W p l e room_1 s m #[Value.ref b] below meth c H locs cells slots (lw_Z below #[Value.ref b] s) (F0 m 1139 ls []) := by
  obtain ⟨hx, hb, hr, hml, hown, hts, hX, hbl, hlocks, hgv⟩ := id C0
  have hown : s.vm.findClass RL = some m.cls := hown
  have hA : ∀ q : Nat, s.heap.size ≤ q → (fun q : Nat => s.heap.size ≤ q) q := fun _ h => h
  have hbA : ¬ (fun q : Nat => s.heap.size ≤ q) b := Nat.not_le.mpr hbl
  refine tn_6 hI (fun hG hT hxo hmo hJ hIM => ?_)
  clear hI
  have hrow := (tpg_13 hG hmo).1; have hims := (tpg_13 hG hmo).2.1
  refine lv_aload_n hx hb dL_law_1139 rfl (lv_at hl 1 rfl) ?_
  refine lv_aload_n hx hb dL_law_1140 rfl (lv_at hl 0 rfl) ?_
  refine lv_iload_n hx hb dL_law_1141 rfl (lv_at hl 3 rfl) ?_
  refine lv_iconst (v := 1) hx hb dL_law_1142 (by decide) ?_
  refine lv_iadd hx hb dL_law_1143 ?_
  refine lv_topi (fun z1 ez1 => ?_)
  have iz1 : z1.toInt = i.toInt + 1 := zi_add ez1 rfl (show (1 : Int32).toInt = 1 from rfl) (by omega) (by omega)
  refine va_sld hx hb hX hbl hbA hS (vp_in_iff.mpr ⟨by omega, by omega⟩) dL_law_1144 ?_
  refine lv_topi (fun y2 ey2 => ?_)
  obtain rfl : y2 = xs (9 * k + 1) := ey2.trans (congrArg xs (show z1.toInt.toNat = 9 * k + 1 by omega))
  refine lv_aload_n hx hb dL_law_1145 rfl (lv_at hl 0 rfl) ?_
  refine lv_iload_n hx hb dL_law_1146 rfl (lv_at hl 3 rfl) ?_
  refine lv_iconst (v := 2) hx hb dL_law_1147 (by decide) ?_
  refine lv_iadd hx hb dL_law_1148 ?_
  refine lv_topi (fun z3 ez3 => ?_)
  have iz3 : z3.toInt = i.toInt + 2 := zi_add ez3 rfl (show (2 : Int32).toInt = 2 from rfl) (by omega) (by omega)
  refine va_sld hx hb hX hbl hbA hS (vp_in_iff.mpr ⟨by omega, by omega⟩) dL_law_1149 ?_
  refine lv_topi (fun y4 ey4 => ?_)
  obtain rfl : y4 = xs (9 * k + 2) := ey4.trans (congrArg xs (show z3.toInt.toNat = 9 * k + 2 by omega))
  refine tgk_12 hG hxo (fun y5 y6 y7 y8 y9 y10 => ?_)
  refine tpk_12 hT hxo (fun o11_x6 hf_o11 => ?_)
  refine tpk_pos (tp_in hG hxo (by decide)) hf_o11 (fun q12 eq12 => ?_)
  have hFc := tp_fr hD hS hA
  refine va_calli (va_runV (As := [.int (xs (9 * k + 1)), .int (xs (9 * k + 2))]) (rest := []) ⟨hx, hb, hml, hown, hts⟩ (t_X11_settle l dC dI _ (mo_O κ) κ τ ν ρ L f hG hT xo (xs (9 * k + 1)) (xs (9 * k + 2)) hxo) (cwV 2 hts gz_X11_settle rfl rfl rfl ⟨rfl, pd_X11_settle⟩ ⟨Nat.le_of_ble_eq_true rfl, Nat.le_of_ble_eq_true rfl⟩) ⟨pz_blind, va_recv hK hP (ci := 11) (q0 := q12) rfl eq12, pz_pre hP hK hD hN⟩ rfl rfl hl.1 rfl (lv_room (Nat.le_of_ble_eq_true rfl)) dL_law_1150 ⟨by show _ ≤ 600000; omega, by show _ ≤ 7302249; omega⟩) hS (fun q _ h => hFc q h) hFc (fun r13 f15 t H1 locs ht hvm hw14 hB hz1 hk1 hS => ?_)
  refine tn_4 hw14 (fun hT hF16 hw14r hw14p => ?_); clear hw14
  have hJ : mo_RI (-1) 0 (mo_R (mo_i (f15 (ρ mo 2)))) := by rw [hF16 _ (by rw [hrow]; decide)]; exact hJ
  have hIM : mo_IM (mo_R (mo_i (f15 (ρ mo 3)))) := by rw [hF16 _ (by rw [hims]; decide)]; exact hIM
  have hP := hB.1; rw [ht] at hP; have hD := tp_ad f15 hD; clear hB hFc hz1 hk1; subst ht; generalize t.heap = H at hP hS ⊢
  refine lv_pop hx hb dL_law_1153 rfl ?_
  refine lv_aload_n hx hb dL_law_1154 rfl (lv_at hl 2 rfl) ?_
  refine lv_aload_n hx hb dL_law_1155 rfl (lv_at hl 0 rfl) ?_
  refine lv_iload_n hx hb dL_law_1156 rfl (lv_at hl 3 rfl) ?_
  refine lv_iconst (v := 1) hx hb dL_law_1157 (by decide) ?_
  refine lv_iadd hx hb dL_law_1158 ?_
  refine lv_topi (fun z18 ez18 => ?_)
  have iz18 : z18.toInt = i.toInt + 1 := zi_add ez18 rfl (show (1 : Int32).toInt = 1 from rfl) (by omega) (by omega)
  refine va_sld hx hb hX hbl hbA hS (vp_in_iff.mpr ⟨by omega, by omega⟩) dL_law_1159 ?_
  refine lv_topi (fun y19 ey19 => ?_)
  obtain rfl : y19 = xs (9 * k + 1) := ey19.trans (congrArg xs (show z18.toInt.toNat = 9 * k + 1 by omega))
  refine lv_aload_n hx hb dL_law_1160 rfl (lv_at hl 0 rfl) ?_
  refine lv_iload_n hx hb dL_law_1161 rfl (lv_at hl 3 rfl) ?_
  refine lv_iconst (v := 2) hx hb dL_law_1162 (by decide) ?_
  refine lv_iadd hx hb dL_law_1163 ?_
  refine lv_topi (fun z20 ez20 => ?_)
  have iz20 : z20.toInt = i.toInt + 2 := zi_add ez20 rfl (show (2 : Int32).toInt = 2 from rfl) (by omega) (by omega)
  refine va_sld hx hb hX hbl hbA hS (vp_in_iff.mpr ⟨by omega, by omega⟩) dL_law_1164 ?_
  refine lv_topi (fun y21 ey21 => ?_)
  obtain rfl : y21 = xs (9 * k + 2) := ey21.trans (congrArg xs (show z20.toInt.toNat = 9 * k + 2 by omega))
  refine tgk_13 hG hmo (fun y22 y23 y24 y25 y26 y27 y28 y29 y30 y31 y32 y33 y34 y35 y36 y37 y38 y39 y40 y41 y42 y43 y44 y45 y46 => ?_)
  refine tpk_13 hT hmo (fun o47_x0 o47_x1 o47_x7 o47_x9 o47_x10 o47_x11 o47_x12 o47_x13 o47_x14 o47_x15 o47_x16 o47_x17 o47_x18 o47_x19 o47_x20 o47_x22 o47_x25 o47_x28 o47_x29 o47_x32 o47_x33 o47_x34 o47_x35 o47_x36 o47_x37 o47_x38 o47_x47 o47_x48 hf_o47 ro47_0 ro47_1 ro47_2 ro47_3 ro47_4 ro47_5 ro47_6 ro47_7 ro47_8 ro47_9 ro47_10 ro47_11 ro47_12 ro47_13 => ?_)
  refine tpk_pos (tp_in hG hmo (by decide)) hf_o47 (fun q48 eq48 => ?_)
  have hFc := tp_fr hD hS hA
  refine va_calli (va_runV (As := [.int (xs (9 * k + 1)), .int (xs (9 * k + 2))]) (rest := []) ⟨hx, hb, hml, hown, hts⟩ (t_X12_settle l dC dI _ κ τ ν ρ L f15 hG hT mo (xs (9 * k + 1)) (xs (9 * k + 2)) hmo hJ) (cwV 2 hts gz_X12_settle rfl rfl rfl ⟨rfl, pd_X12_settle⟩ ⟨Nat.le_of_ble_eq_true rfl, Nat.le_of_ble_eq_true rfl⟩) ⟨pz_blind, va_recv hK hP (ci := 12) (q0 := q48) rfl eq48, pz_pre hP hK hD hN⟩ rfl rfl hl.1 rfl (lv_room (Nat.le_of_ble_eq_true rfl)) dL_law_1165 ⟨by show _ ≤ 600000; omega, by show _ ≤ 7302249; omega⟩) hS (fun q _ h => hFc q h) hFc (fun r49 f51 t H1 locs ht hvm hw50 hB hz1 hk1 hS => ?_)
  refine tn_4 hw50 (fun hT hF52 hw50r hw50p => ?_); clear hw50
  have hJ : mo_RI (-1) 0 (mo_R (mo_i (f51 (ρ mo 2)))) := hw50p
  have hIM : mo_IM (mo_R (mo_i (f51 (ρ mo 3)))) := by rw [hF52 _ (by rw [hims]; decide)]; exact hIM
  have hP := hB.1; rw [ht] at hP; have hD := tp_ad f51 hD; clear hB hFc hz1 hk1; subst ht; generalize t.heap = H at hP hS ⊢
  refine lv_pop hx hb dL_law_1168 rfl ?_
  refine lv_goto (tgt := 1710) hx hb dL_law_1169 (by decide) ?_
  refine tp_widen (cells + 110) (slots + 2634) (by omega) (by omega) ?_
  exact kk τ ν ρ L f51 _ _ _ ⟨hG, hT, hxo, hmo, hJ, hIM⟩ hP hD hS (lv_sub hl [0, 1, 2, 3] rfl)
set_option maxHeartbeats 8000000 in
set_option maxRecDepth 100000 in
theorem law_case_26 {p : Program} {l : Launch} {e : Env} {s : State} {m : MethodId} {below : List Frame} {meth : Method} {c : Code} {b N9 : Nat} {xs : Nat → Int32} {dC : Nat → ClassId} {dI : Nat → Nat → Nat} {κ : Nat → ClassId} {adK adV : Nat → Nat} {zv : Option Nat} {xo mo : Nat} {k cells slots : Nat} {i : Int32} (C0 : lw_At p s m meth c b N9 xs) (hN9 : N9 ≤ 4608) (hN : nz_ok s) (hZ : pw_Z adK adV zv (fun q : Nat => s.heap.size ≤ q) s s.heap) (hK : va_K (dC, dI) vwCl (tp_K κ) s) (hk : 9 * k + 9 ≤ N9) (hi : i.toInt = 9 * (k : Int)) (hc : cells + 110 ≤ 600000) (hs : slots + 2634 ≤ 7302249) (kk : ∀ (τ ν : Nat → Nat) (ρ : Nat → Nat → Nat) (L : List Nat) (f : Nat → va_E) (H : Heap) (locs : List Loc) (ls : Array Slot), lz_I κ xo mo τ ν ρ L f → va_P (dC, dI) vwCl (va_pl L f) H → va_D (fun q : Nat => s.heap.size ≤ q) (va_pl L f) → va_S (fun q : Nat => s.heap.size ≤ q) s.heap H locs → lv_has ls 4 [(0, .ref b), (1, .ref xo), (2, .ref mo), (3, .int i)] → W p l e room_1 s m #[Value.ref b] below meth c H locs (cells + 110) (slots + 2634) (lw_Z below #[Value.ref b] s) (F0 m 1710 ls [])) {τ ν : Nat → Nat} {ρ : Nat → Nat → Nat} {L : List Nat} {f : Nat → va_E} {H : Heap} {locs : List Loc} {ls : Array Slot}  (hI : lz_I κ xo mo τ ν ρ L f) (hP : va_P (dC, dI) vwCl (va_pl L f) H) (hD : va_D (fun q : Nat => s.heap.size ≤ q) (va_pl L f)) (hS : va_S (fun q : Nat => s.heap.size ≤ q) s.heap H locs) (hl : lv_has ls 4 [(0, .ref b), (1, .ref xo), (2, .ref mo), (3, .int i)]) : W p l e room_1 s m #[Value.ref b] below meth c H locs cells slots (lw_Z below #[Value.ref b] s) (F0 m 1172 ls []) := by
  obtain ⟨hx, hb, hr, hml, hown, hts, hX, hbl, hlocks, hgv⟩ := id C0
  have hown : s.vm.findClass RL = some m.cls := hown
  have hA : ∀ q : Nat, s.heap.size ≤ q → (fun q : Nat => s.heap.size ≤ q) q := fun _ h => h
  have hbA : ¬ (fun q : Nat => s.heap.size ≤ q) b := Nat.not_le.mpr hbl
  refine tn_6 hI (fun hG hT hxo hmo hJ hIM => ?_)
  clear hI
  have hrow := (tpg_13 hG hmo).1; have hims := (tpg_13 hG hmo).2.1
  refine lv_aload_n hx hb dL_law_1172 rfl (lv_at hl 1 rfl) ?_
  refine lv_aload_n hx hb dL_law_1173 rfl (lv_at hl 0 rfl) ?_
  refine lv_iload_n hx hb dL_law_1174 rfl (lv_at hl 3 rfl) ?_
  refine lv_iconst (v := 1) hx hb dL_law_1175 (by decide) ?_
  refine lv_iadd hx hb dL_law_1176 ?_
  refine lv_topi (fun z1 ez1 => ?_)
  have iz1 : z1.toInt = i.toInt + 1 := zi_add ez1 rfl (show (1 : Int32).toInt = 1 from rfl) (by omega) (by omega)
  refine va_sld hx hb hX hbl hbA hS (vp_in_iff.mpr ⟨by omega, by omega⟩) dL_law_1177 ?_
  refine lv_topi (fun y2 ey2 => ?_)
  obtain rfl : y2 = xs (9 * k + 1) := ey2.trans (congrArg xs (show z1.toInt.toNat = 9 * k + 1 by omega))
  refine lv_aload_n hx hb dL_law_1178 rfl (lv_at hl 0 rfl) ?_
  refine lv_iload_n hx hb dL_law_1179 rfl (lv_at hl 3 rfl) ?_
  refine lv_iconst (v := 2) hx hb dL_law_1180 (by decide) ?_
  refine lv_iadd hx hb dL_law_1181 ?_
  refine lv_topi (fun z3 ez3 => ?_)
  have iz3 : z3.toInt = i.toInt + 2 := zi_add ez3 rfl (show (2 : Int32).toInt = 2 from rfl) (by omega) (by omega)
  refine va_sld hx hb hX hbl hbA hS (vp_in_iff.mpr ⟨by omega, by omega⟩) dL_law_1182 ?_
  refine lv_topi (fun y4 ey4 => ?_)
  obtain rfl : y4 = xs (9 * k + 2) := ey4.trans (congrArg xs (show z3.toInt.toNat = 9 * k + 2 by omega))
  refine tgk_12 hG hxo (fun y5 y6 y7 y8 y9 y10 => ?_)
  refine tpk_12 hT hxo (fun o11_x6 hf_o11 => ?_)
  refine tpk_pos (tp_in hG hxo (by decide)) hf_o11 (fun q12 eq12 => ?_)
  have hFc := tp_fr hD hS hA
  refine va_calll (va_runV (As := [.int (xs (9 * k + 1)), .int (xs (9 * k + 2))]) (rest := []) ⟨hx, hb, hml, hown, hts⟩ (t_X11_settled l dC dI _ (mo_O κ) κ τ ν ρ L f hG hT xo (xs (9 * k + 1)) (xs (9 * k + 2)) hxo) (cwV 2 hts gz_X11_settled rfl rfl rfl ⟨rfl, pd_X11_settled⟩ ⟨Nat.le_of_ble_eq_true rfl, Nat.le_of_ble_eq_true rfl⟩) ⟨pz_blind, va_recv hK hP (ci := 11) (q0 := q12) rfl eq12, pz_pre hP hK hD hN⟩ rfl rfl hl.1 rfl (lv_room (Nat.le_of_ble_eq_true rfl)) dL_law_1183 ⟨by show _ ≤ 600000; omega, by show _ ≤ 7302249; omega⟩) hS (fun q _ h => hFc q h) hFc (fun r13 f15 t H1 locs ht hvm hw14 hB hz1 hk1 hS => ?_)
  refine tn_4 hw14 (fun hT hF16 hw14r hw14p => ?_); clear hw14
  have hJ : mo_RI (-1) 0 (mo_R (mo_i (f15 (ρ mo 2)))) := by rw [hF16 _ (by rw [hrow]; decide)]; exact hJ
  have hIM : mo_IM (mo_R (mo_i (f15 (ρ mo 3)))) := by rw [hF16 _ (by rw [hims]; decide)]; exact hIM
  have hP := hB.1; rw [ht] at hP; have hD := tp_ad f15 hD; clear hB hFc hz1 hk1; subst ht; generalize t.heap = H at hP hS ⊢
  refine lv_pop2_2 hx hb dL_law_1186 rfl ?_
  refine lv_aload_n hx hb dL_law_1187 rfl (lv_at hl 2 rfl) ?_
  refine lv_aload_n hx hb dL_law_1188 rfl (lv_at hl 0 rfl) ?_
  refine lv_iload_n hx hb dL_law_1189 rfl (lv_at hl 3 rfl) ?_
  refine lv_iconst (v := 1) hx hb dL_law_1190 (by decide) ?_
  refine lv_iadd hx hb dL_law_1191 ?_
  refine lv_topi (fun z18 ez18 => ?_)
  have iz18 : z18.toInt = i.toInt + 1 := zi_add ez18 rfl (show (1 : Int32).toInt = 1 from rfl) (by omega) (by omega)
  refine va_sld hx hb hX hbl hbA hS (vp_in_iff.mpr ⟨by omega, by omega⟩) dL_law_1192 ?_
  refine lv_topi (fun y19 ey19 => ?_)
  obtain rfl : y19 = xs (9 * k + 1) := ey19.trans (congrArg xs (show z18.toInt.toNat = 9 * k + 1 by omega))
  refine lv_aload_n hx hb dL_law_1193 rfl (lv_at hl 0 rfl) ?_
  refine lv_iload_n hx hb dL_law_1194 rfl (lv_at hl 3 rfl) ?_
  refine lv_iconst (v := 2) hx hb dL_law_1195 (by decide) ?_
  refine lv_iadd hx hb dL_law_1196 ?_
  refine lv_topi (fun z20 ez20 => ?_)
  have iz20 : z20.toInt = i.toInt + 2 := zi_add ez20 rfl (show (2 : Int32).toInt = 2 from rfl) (by omega) (by omega)
  refine va_sld hx hb hX hbl hbA hS (vp_in_iff.mpr ⟨by omega, by omega⟩) dL_law_1197 ?_
  refine lv_topi (fun y21 ey21 => ?_)
  obtain rfl : y21 = xs (9 * k + 2) := ey21.trans (congrArg xs (show z20.toInt.toNat = 9 * k + 2 by omega))
  refine tgk_13 hG hmo (fun y22 y23 y24 y25 y26 y27 y28 y29 y30 y31 y32 y33 y34 y35 y36 y37 y38 y39 y40 y41 y42 y43 y44 y45 y46 => ?_)
  refine tpk_13 hT hmo (fun o47_x0 o47_x1 o47_x7 o47_x9 o47_x10 o47_x11 o47_x12 o47_x13 o47_x14 o47_x15 o47_x16 o47_x17 o47_x18 o47_x19 o47_x20 o47_x22 o47_x25 o47_x28 o47_x29 o47_x32 o47_x33 o47_x34 o47_x35 o47_x36 o47_x37 o47_x38 o47_x47 o47_x48 hf_o47 ro47_0 ro47_1 ro47_2 ro47_3 ro47_4 ro47_5 ro47_6 ro47_7 ro47_8 ro47_9 ro47_10 ro47_11 ro47_12 ro47_13 => ?_)
  refine tpk_pos (tp_in hG hmo (by decide)) hf_o47 (fun q48 eq48 => ?_)
  have hFc := tp_fr hD hS hA
  refine va_calll (va_runV (As := [.int (xs (9 * k + 1)), .int (xs (9 * k + 2))]) (rest := []) ⟨hx, hb, hml, hown, hts⟩ (t_X12_settled l dC dI _ κ τ ν ρ L f15 hG hT mo (xs (9 * k + 1)) (xs (9 * k + 2)) hmo hJ) (cwV 2 hts gz_X12_settled rfl rfl rfl ⟨rfl, pd_X12_settled⟩ ⟨Nat.le_of_ble_eq_true rfl, Nat.le_of_ble_eq_true rfl⟩) ⟨pz_blind, va_recv hK hP (ci := 12) (q0 := q48) rfl eq48, pz_pre hP hK hD hN⟩ rfl rfl hl.1 rfl (lv_room (Nat.le_of_ble_eq_true rfl)) dL_law_1198 ⟨by show _ ≤ 600000; omega, by show _ ≤ 7302249; omega⟩) hS (fun q _ h => hFc q h) hFc (fun r49 f51 t H1 locs ht hvm hw50 hB hz1 hk1 hS => ?_)
  refine tn_4 hw50 (fun hT hF52 hw50r hw50p => ?_); clear hw50
  have hJ : mo_RI (-1) 0 (mo_R (mo_i (f51 (ρ mo 2)))) := by rw [hF52 _ (by rw [hrow]; decide)]; exact hJ
  have hIM : mo_IM (mo_R (mo_i (f51 (ρ mo 3)))) := by rw [hF52 _ (by rw [hims]; decide)]; exact hIM
  have hP := hB.1; rw [ht] at hP; have hD := tp_ad f51 hD; clear hB hFc hz1 hk1; subst ht; generalize t.heap = H at hP hS ⊢
  refine lv_pop2_2 hx hb dL_law_1201 rfl ?_
  refine lv_goto (tgt := 1710) hx hb dL_law_1202 (by decide) ?_
  refine tp_widen (cells + 110) (slots + 2634) (by omega) (by omega) ?_
  exact kk τ ν ρ L f51 _ _ _ ⟨hG, hT, hxo, hmo, hJ, hIM⟩ hP hD hS (lv_sub hl [0, 1, 2, 3] rfl)
set_option maxHeartbeats 8000000 in
set_option maxRecDepth 100000 in
theorem law_case_27 {p : Program} {l : Launch} {e : Env} {s : State} {m : MethodId} {below : List Frame} {meth : Method} {c : Code} {b N9 : Nat} {xs : Nat → Int32} {dC : Nat → ClassId} {dI : Nat → Nat → Nat} {κ : Nat → ClassId} {adK adV : Nat → Nat} {zv : Option Nat} {xo mo : Nat} {k cells slots : Nat} {i : Int32} (C0 : lw_At p s m meth c b N9 xs) (hN9 : N9 ≤ 4608) (hN : nz_ok s) (hZ : pw_Z adK adV zv (fun q : Nat => s.heap.size ≤ q) s s.heap) (hK : va_K (dC, dI) vwCl (tp_K κ) s) (hk : 9 * k + 9 ≤ N9) (hi : i.toInt = 9 * (k : Int)) (hc : cells + 110 ≤ 600000) (hs : slots + 2634 ≤ 7302249) (kk : ∀ (τ ν : Nat → Nat) (ρ : Nat → Nat → Nat) (L : List Nat) (f : Nat → va_E) (H : Heap) (locs : List Loc) (ls : Array Slot), lz_I κ xo mo τ ν ρ L f → va_P (dC, dI) vwCl (va_pl L f) H → va_D (fun q : Nat => s.heap.size ≤ q) (va_pl L f) → va_S (fun q : Nat => s.heap.size ≤ q) s.heap H locs → lv_has ls 4 [(0, .ref b), (1, .ref xo), (2, .ref mo), (3, .int i)] → W p l e room_1 s m #[Value.ref b] below meth c H locs (cells + 110) (slots + 2634) (lw_Z below #[Value.ref b] s) (F0 m 1710 ls [])) {τ ν : Nat → Nat} {ρ : Nat → Nat → Nat} {L : List Nat} {f : Nat → va_E} {H : Heap} {locs : List Loc} {ls : Array Slot}  (hI : lz_I κ xo mo τ ν ρ L f) (hP : va_P (dC, dI) vwCl (va_pl L f) H) (hD : va_D (fun q : Nat => s.heap.size ≤ q) (va_pl L f)) (hS : va_S (fun q : Nat => s.heap.size ≤ q) s.heap H locs) (hl : lv_has ls 4 [(0, .ref b), (1, .ref xo), (2, .ref mo), (3, .int i)]) : W p l e room_1 s m #[Value.ref b] below meth c H locs cells slots (lw_Z below #[Value.ref b] s) (F0 m 1205 ls []) := by
  obtain ⟨hx, hb, hr, hml, hown, hts, hX, hbl, hlocks, hgv⟩ := id C0
  have hown : s.vm.findClass RL = some m.cls := hown
  have hA : ∀ q : Nat, s.heap.size ≤ q → (fun q : Nat => s.heap.size ≤ q) q := fun _ h => h
  have hbA : ¬ (fun q : Nat => s.heap.size ≤ q) b := Nat.not_le.mpr hbl
  refine tn_6 hI (fun hG hT hxo hmo hJ hIM => ?_)
  clear hI
  have hrow := (tpg_13 hG hmo).1; have hims := (tpg_13 hG hmo).2.1
  refine lv_aload_n hx hb dL_law_1205 rfl (lv_at hl 1 rfl) ?_
  refine lv_aload_n hx hb dL_law_1206 rfl (lv_at hl 0 rfl) ?_
  refine lv_iload_n hx hb dL_law_1207 rfl (lv_at hl 3 rfl) ?_
  refine lv_iconst (v := 1) hx hb dL_law_1208 (by decide) ?_
  refine lv_iadd hx hb dL_law_1209 ?_
  refine lv_topi (fun z1 ez1 => ?_)
  have iz1 : z1.toInt = i.toInt + 1 := zi_add ez1 rfl (show (1 : Int32).toInt = 1 from rfl) (by omega) (by omega)
  refine va_sld hx hb hX hbl hbA hS (vp_in_iff.mpr ⟨by omega, by omega⟩) dL_law_1210 ?_
  refine lv_topi (fun y2 ey2 => ?_)
  obtain rfl : y2 = xs (9 * k + 1) := ey2.trans (congrArg xs (show z1.toInt.toNat = 9 * k + 1 by omega))
  refine lv_aload_n hx hb dL_law_1211 rfl (lv_at hl 0 rfl) ?_
  refine lv_iload_n hx hb dL_law_1212 rfl (lv_at hl 3 rfl) ?_
  refine lv_iconst (v := 2) hx hb dL_law_1213 (by decide) ?_
  refine lv_iadd hx hb dL_law_1214 ?_
  refine lv_topi (fun z3 ez3 => ?_)
  have iz3 : z3.toInt = i.toInt + 2 := zi_add ez3 rfl (show (2 : Int32).toInt = 2 from rfl) (by omega) (by omega)
  refine va_sld hx hb hX hbl hbA hS (vp_in_iff.mpr ⟨by omega, by omega⟩) dL_law_1215 ?_
  refine lv_topi (fun y4 ey4 => ?_)
  obtain rfl : y4 = xs (9 * k + 2) := ey4.trans (congrArg xs (show z3.toInt.toNat = 9 * k + 2 by omega))
  refine lv_aload_n hx hb dL_law_1216 rfl (lv_at hl 0 rfl) ?_
  refine lv_iload_n hx hb dL_law_1217 rfl (lv_at hl 3 rfl) ?_
  refine lv_iconst (v := 3) hx hb dL_law_1218 (by decide) ?_
  refine lv_iadd hx hb dL_law_1219 ?_
  refine lv_topi (fun z5 ez5 => ?_)
  have iz5 : z5.toInt = i.toInt + 3 := zi_add ez5 rfl (show (3 : Int32).toInt = 3 from rfl) (by omega) (by omega)
  refine va_sld hx hb hX hbl hbA hS (vp_in_iff.mpr ⟨by omega, by omega⟩) dL_law_1220 ?_
  refine lv_topi (fun y6 ey6 => ?_)
  obtain rfl : y6 = xs (9 * k + 3) := ey6.trans (congrArg xs (show z5.toInt.toNat = 9 * k + 3 by omega))
  refine lv_aload_n hx hb dL_law_1221 rfl (lv_at hl 0 rfl) ?_
  refine lv_iload_n hx hb dL_law_1222 rfl (lv_at hl 3 rfl) ?_
  refine lv_iconst (v := 4) hx hb dL_law_1223 (by decide) ?_
  refine lv_iadd hx hb dL_law_1224 ?_
  refine lv_topi (fun z7 ez7 => ?_)
  have iz7 : z7.toInt = i.toInt + 4 := zi_add ez7 rfl (show (4 : Int32).toInt = 4 from rfl) (by omega) (by omega)
  refine va_sld hx hb hX hbl hbA hS (vp_in_iff.mpr ⟨by omega, by omega⟩) dL_law_1225 ?_
  refine lv_topi (fun y8 ey8 => ?_)
  obtain rfl : y8 = xs (9 * k + 4) := ey8.trans (congrArg xs (show z7.toInt.toNat = 9 * k + 4 by omega))
  refine tgk_12 hG hxo (fun y9 y10 y11 y12 y13 y14 => ?_)
  refine tpk_12 hT hxo (fun o15_x6 hf_o15 => ?_)
  refine tpk_pos (tp_in hG hxo (by decide)) hf_o15 (fun q16 eq16 => ?_)
  have hFc := tp_fr hD hS hA
  refine va_calli (va_runV (As := [.int (xs (9 * k + 1)), .int (xs (9 * k + 2)), .int (xs (9 * k + 3)), .int (xs (9 * k + 4))]) (rest := []) ⟨hx, hb, hml, hown, hts⟩ (t_X11_table l dC dI _ (mo_O κ) κ τ ν ρ L f hG hT xo (xs (9 * k + 1)) (xs (9 * k + 2)) (xs (9 * k + 3)) (xs (9 * k + 4)) hxo) (cwV 4 hts gz_X11_table rfl rfl rfl ⟨rfl, pd_X11_table⟩ ⟨Nat.le_of_ble_eq_true rfl, Nat.le_of_ble_eq_true rfl⟩) ⟨pz_blind, va_recv hK hP (ci := 11) (q0 := q16) rfl eq16, pz_pre hP hK hD hN⟩ rfl rfl hl.1 rfl (lv_room (Nat.le_of_ble_eq_true rfl)) dL_law_1226 ⟨by show _ ≤ 600000; omega, by show _ ≤ 7302249; omega⟩) hS (fun q _ h => hFc q h) hFc (fun r17 f19 t H1 locs ht hvm hw18 hB hz1 hk1 hS => ?_)
  refine tn_4 hw18 (fun hT hF20 hw18r hw18p => ?_); clear hw18
  have hJ : mo_RI (-1) 0 (mo_R (mo_i (f19 (ρ mo 2)))) := by rw [hF20 _ (by rw [hrow]; decide)]; exact hJ
  have hIM : mo_IM (mo_R (mo_i (f19 (ρ mo 3)))) := by rw [hF20 _ (by rw [hims]; decide)]; exact hIM
  have hP := hB.1; rw [ht] at hP; have hD := tp_ad f19 hD; clear hB hFc hz1 hk1; subst ht; generalize t.heap = H at hP hS ⊢
  refine lv_pop hx hb dL_law_1229 rfl ?_
  refine lv_aload_n hx hb dL_law_1230 rfl (lv_at hl 2 rfl) ?_
  refine lv_aload_n hx hb dL_law_1231 rfl (lv_at hl 0 rfl) ?_
  refine lv_iload_n hx hb dL_law_1232 rfl (lv_at hl 3 rfl) ?_
  refine lv_iconst (v := 1) hx hb dL_law_1233 (by decide) ?_
  refine lv_iadd hx hb dL_law_1234 ?_
  refine lv_topi (fun z22 ez22 => ?_)
  have iz22 : z22.toInt = i.toInt + 1 := zi_add ez22 rfl (show (1 : Int32).toInt = 1 from rfl) (by omega) (by omega)
  refine va_sld hx hb hX hbl hbA hS (vp_in_iff.mpr ⟨by omega, by omega⟩) dL_law_1235 ?_
  refine lv_topi (fun y23 ey23 => ?_)
  obtain rfl : y23 = xs (9 * k + 1) := ey23.trans (congrArg xs (show z22.toInt.toNat = 9 * k + 1 by omega))
  refine lv_aload_n hx hb dL_law_1236 rfl (lv_at hl 0 rfl) ?_
  refine lv_iload_n hx hb dL_law_1237 rfl (lv_at hl 3 rfl) ?_
  refine lv_iconst (v := 2) hx hb dL_law_1238 (by decide) ?_
  refine lv_iadd hx hb dL_law_1239 ?_
  refine lv_topi (fun z24 ez24 => ?_)
  have iz24 : z24.toInt = i.toInt + 2 := zi_add ez24 rfl (show (2 : Int32).toInt = 2 from rfl) (by omega) (by omega)
  refine va_sld hx hb hX hbl hbA hS (vp_in_iff.mpr ⟨by omega, by omega⟩) dL_law_1240 ?_
  refine lv_topi (fun y25 ey25 => ?_)
  obtain rfl : y25 = xs (9 * k + 2) := ey25.trans (congrArg xs (show z24.toInt.toNat = 9 * k + 2 by omega))
  refine lv_aload_n hx hb dL_law_1241 rfl (lv_at hl 0 rfl) ?_
  refine lv_iload_n hx hb dL_law_1242 rfl (lv_at hl 3 rfl) ?_
  refine lv_iconst (v := 3) hx hb dL_law_1243 (by decide) ?_
  refine lv_iadd hx hb dL_law_1244 ?_
  refine lv_topi (fun z26 ez26 => ?_)
  have iz26 : z26.toInt = i.toInt + 3 := zi_add ez26 rfl (show (3 : Int32).toInt = 3 from rfl) (by omega) (by omega)
  refine va_sld hx hb hX hbl hbA hS (vp_in_iff.mpr ⟨by omega, by omega⟩) dL_law_1245 ?_
  refine lv_topi (fun y27 ey27 => ?_)
  obtain rfl : y27 = xs (9 * k + 3) := ey27.trans (congrArg xs (show z26.toInt.toNat = 9 * k + 3 by omega))
  refine lv_aload_n hx hb dL_law_1246 rfl (lv_at hl 0 rfl) ?_
  refine lv_iload_n hx hb dL_law_1247 rfl (lv_at hl 3 rfl) ?_
  refine lv_iconst (v := 4) hx hb dL_law_1248 (by decide) ?_
  refine lv_iadd hx hb dL_law_1249 ?_
  refine lv_topi (fun z28 ez28 => ?_)
  have iz28 : z28.toInt = i.toInt + 4 := zi_add ez28 rfl (show (4 : Int32).toInt = 4 from rfl) (by omega) (by omega)
  refine va_sld hx hb hX hbl hbA hS (vp_in_iff.mpr ⟨by omega, by omega⟩) dL_law_1250 ?_
  refine lv_topi (fun y29 ey29 => ?_)
  obtain rfl : y29 = xs (9 * k + 4) := ey29.trans (congrArg xs (show z28.toInt.toNat = 9 * k + 4 by omega))
  refine tgk_13 hG hmo (fun y30 y31 y32 y33 y34 y35 y36 y37 y38 y39 y40 y41 y42 y43 y44 y45 y46 y47 y48 y49 y50 y51 y52 y53 y54 => ?_)
  refine tpk_13 hT hmo (fun o55_x0 o55_x1 o55_x7 o55_x9 o55_x10 o55_x11 o55_x12 o55_x13 o55_x14 o55_x15 o55_x16 o55_x17 o55_x18 o55_x19 o55_x20 o55_x22 o55_x25 o55_x28 o55_x29 o55_x32 o55_x33 o55_x34 o55_x35 o55_x36 o55_x37 o55_x38 o55_x47 o55_x48 hf_o55 ro55_0 ro55_1 ro55_2 ro55_3 ro55_4 ro55_5 ro55_6 ro55_7 ro55_8 ro55_9 ro55_10 ro55_11 ro55_12 ro55_13 => ?_)
  refine tpk_pos (tp_in hG hmo (by decide)) hf_o55 (fun q56 eq56 => ?_)
  have hFc := tp_fr hD hS hA
  refine va_calli (va_runV (As := [.int (xs (9 * k + 1)), .int (xs (9 * k + 2)), .int (xs (9 * k + 3)), .int (xs (9 * k + 4))]) (rest := []) ⟨hx, hb, hml, hown, hts⟩ (t_X12_table l dC dI _ κ τ ν ρ L f19 hG hT mo (xs (9 * k + 1)) (xs (9 * k + 2)) (xs (9 * k + 3)) (xs (9 * k + 4)) hmo hJ) (cwV 4 hts gz_X12_table rfl rfl rfl ⟨rfl, pd_X12_table⟩ ⟨Nat.le_of_ble_eq_true rfl, Nat.le_of_ble_eq_true rfl⟩) ⟨pz_blind, va_recv hK hP (ci := 12) (q0 := q56) rfl eq56, pz_pre hP hK hD hN⟩ rfl rfl hl.1 rfl (lv_room (Nat.le_of_ble_eq_true rfl)) dL_law_1251 ⟨by show _ ≤ 600000; omega, by show _ ≤ 7302249; omega⟩) hS (fun q _ h => hFc q h) hFc (fun r57 f59 t H1 locs ht hvm hw58 hB hz1 hk1 hS => ?_)
  refine tn_4 hw58 (fun hT hF60 hw58r hw58p => ?_); clear hw58
  have hJ : mo_RI (-1) 0 (mo_R (mo_i (f59 (ρ mo 2)))) := hw58p
  have hIM : mo_IM (mo_R (mo_i (f59 (ρ mo 3)))) := by rw [hF60 _ (by rw [hims]; decide)]; exact hIM
  have hP := hB.1; rw [ht] at hP; have hD := tp_ad f59 hD; clear hB hFc hz1 hk1; subst ht; generalize t.heap = H at hP hS ⊢
  refine lv_pop hx hb dL_law_1254 rfl ?_
  refine lv_goto (tgt := 1710) hx hb dL_law_1255 (by decide) ?_
  refine tp_widen (cells + 110) (slots + 2634) (by omega) (by omega) ?_
  exact kk τ ν ρ L f59 _ _ _ ⟨hG, hT, hxo, hmo, hJ, hIM⟩ hP hD hS (lv_sub hl [0, 1, 2, 3] rfl)
set_option maxHeartbeats 8000000 in
set_option maxRecDepth 100000 in
theorem law_case_28 {p : Program} {l : Launch} {e : Env} {s : State} {m : MethodId} {below : List Frame} {meth : Method} {c : Code} {b N9 : Nat} {xs : Nat → Int32} {dC : Nat → ClassId} {dI : Nat → Nat → Nat} {κ : Nat → ClassId} {adK adV : Nat → Nat} {zv : Option Nat} {xo mo : Nat} {k cells slots : Nat} {i : Int32} (C0 : lw_At p s m meth c b N9 xs) (hN9 : N9 ≤ 4608) (hN : nz_ok s) (hZ : pw_Z adK adV zv (fun q : Nat => s.heap.size ≤ q) s s.heap) (hK : va_K (dC, dI) vwCl (tp_K κ) s) (hk : 9 * k + 9 ≤ N9) (hi : i.toInt = 9 * (k : Int)) (hc : cells + 110 ≤ 600000) (hs : slots + 2634 ≤ 7302249) (kk : ∀ (τ ν : Nat → Nat) (ρ : Nat → Nat → Nat) (L : List Nat) (f : Nat → va_E) (H : Heap) (locs : List Loc) (ls : Array Slot), lz_I κ xo mo τ ν ρ L f → va_P (dC, dI) vwCl (va_pl L f) H → va_D (fun q : Nat => s.heap.size ≤ q) (va_pl L f) → va_S (fun q : Nat => s.heap.size ≤ q) s.heap H locs → lv_has ls 4 [(0, .ref b), (1, .ref xo), (2, .ref mo), (3, .int i)] → W p l e room_1 s m #[Value.ref b] below meth c H locs (cells + 110) (slots + 2634) (lw_Z below #[Value.ref b] s) (F0 m 1710 ls [])) {τ ν : Nat → Nat} {ρ : Nat → Nat → Nat} {L : List Nat} {f : Nat → va_E} {H : Heap} {locs : List Loc} {ls : Array Slot}  (hI : lz_I κ xo mo τ ν ρ L f) (hP : va_P (dC, dI) vwCl (va_pl L f) H) (hD : va_D (fun q : Nat => s.heap.size ≤ q) (va_pl L f)) (hS : va_S (fun q : Nat => s.heap.size ≤ q) s.heap H locs) (hl : lv_has ls 4 [(0, .ref b), (1, .ref xo), (2, .ref mo), (3, .int i)]) : W p l e room_1 s m #[Value.ref b] below meth c H locs cells slots (lw_Z below #[Value.ref b] s) (F0 m 1258 ls []) := by
  obtain ⟨hx, hb, hr, hml, hown, hts, hX, hbl, hlocks, hgv⟩ := id C0
  have hown : s.vm.findClass RL = some m.cls := hown
  have hA : ∀ q : Nat, s.heap.size ≤ q → (fun q : Nat => s.heap.size ≤ q) q := fun _ h => h
  have hbA : ¬ (fun q : Nat => s.heap.size ≤ q) b := Nat.not_le.mpr hbl
  refine tn_6 hI (fun hG hT hxo hmo hJ hIM => ?_)
  clear hI
  have hrow := (tpg_13 hG hmo).1; have hims := (tpg_13 hG hmo).2.1
  refine lv_aload_n hx hb dL_law_1258 rfl (lv_at hl 1 rfl) ?_
  refine lv_aload_n hx hb dL_law_1259 rfl (lv_at hl 0 rfl) ?_
  refine lv_iload_n hx hb dL_law_1260 rfl (lv_at hl 3 rfl) ?_
  refine lv_iconst (v := 1) hx hb dL_law_1261 (by decide) ?_
  refine lv_iadd hx hb dL_law_1262 ?_
  refine lv_topi (fun z1 ez1 => ?_)
  have iz1 : z1.toInt = i.toInt + 1 := zi_add ez1 rfl (show (1 : Int32).toInt = 1 from rfl) (by omega) (by omega)
  refine va_sld hx hb hX hbl hbA hS (vp_in_iff.mpr ⟨by omega, by omega⟩) dL_law_1263 ?_
  refine lv_topi (fun y2 ey2 => ?_)
  obtain rfl : y2 = xs (9 * k + 1) := ey2.trans (congrArg xs (show z1.toInt.toNat = 9 * k + 1 by omega))
  refine lv_aload_n hx hb dL_law_1264 rfl (lv_at hl 0 rfl) ?_
  refine lv_iload_n hx hb dL_law_1265 rfl (lv_at hl 3 rfl) ?_
  refine lv_iconst (v := 2) hx hb dL_law_1266 (by decide) ?_
  refine lv_iadd hx hb dL_law_1267 ?_
  refine lv_topi (fun z3 ez3 => ?_)
  have iz3 : z3.toInt = i.toInt + 2 := zi_add ez3 rfl (show (2 : Int32).toInt = 2 from rfl) (by omega) (by omega)
  refine va_sld hx hb hX hbl hbA hS (vp_in_iff.mpr ⟨by omega, by omega⟩) dL_law_1268 ?_
  refine lv_topi (fun y4 ey4 => ?_)
  obtain rfl : y4 = xs (9 * k + 2) := ey4.trans (congrArg xs (show z3.toInt.toNat = 9 * k + 2 by omega))
  refine tgk_12 hG hxo (fun y5 y6 y7 y8 y9 y10 => ?_)
  refine tpk_12 hT hxo (fun o11_x6 hf_o11 => ?_)
  refine tpk_pos (tp_in hG hxo (by decide)) hf_o11 (fun q12 eq12 => ?_)
  have hFc := tp_fr hD hS hA
  refine va_calli (va_runV (As := [.int (xs (9 * k + 1)), .int (xs (9 * k + 2))]) (rest := []) ⟨hx, hb, hml, hown, hts⟩ (t_X11_list l dC dI _ (mo_O κ) κ τ ν ρ L f hG hT xo (xs (9 * k + 1)) (xs (9 * k + 2)) hxo) (cwV 2 hts gz_X11_list rfl rfl rfl ⟨rfl, pd_X11_list⟩ ⟨Nat.le_of_ble_eq_true rfl, Nat.le_of_ble_eq_true rfl⟩) ⟨pz_blind, va_recv hK hP (ci := 11) (q0 := q12) rfl eq12, pz_pre hP hK hD hN⟩ rfl rfl hl.1 rfl (lv_room (Nat.le_of_ble_eq_true rfl)) dL_law_1269 ⟨by show _ ≤ 600000; omega, by show _ ≤ 7302249; omega⟩) hS (fun q _ h => hFc q h) hFc (fun r13 f15 t H1 locs ht hvm hw14 hB hz1 hk1 hS => ?_)
  refine tn_4 hw14 (fun hT hF16 hw14r hw14p => ?_); clear hw14
  have hJ : mo_RI (-1) 0 (mo_R (mo_i (f15 (ρ mo 2)))) := by rw [hF16 _ (by rw [hrow]; decide)]; exact hJ
  have hIM : mo_IM (mo_R (mo_i (f15 (ρ mo 3)))) := by rw [hF16 _ (by rw [hims]; decide)]; exact hIM
  have hP := hB.1; rw [ht] at hP; have hD := tp_ad f15 hD; clear hB hFc hz1 hk1; subst ht; generalize t.heap = H at hP hS ⊢
  refine lv_pop hx hb dL_law_1272 rfl ?_
  refine lv_aload_n hx hb dL_law_1273 rfl (lv_at hl 2 rfl) ?_
  refine lv_aload_n hx hb dL_law_1274 rfl (lv_at hl 0 rfl) ?_
  refine lv_iload_n hx hb dL_law_1275 rfl (lv_at hl 3 rfl) ?_
  refine lv_iconst (v := 1) hx hb dL_law_1276 (by decide) ?_
  refine lv_iadd hx hb dL_law_1277 ?_
  refine lv_topi (fun z18 ez18 => ?_)
  have iz18 : z18.toInt = i.toInt + 1 := zi_add ez18 rfl (show (1 : Int32).toInt = 1 from rfl) (by omega) (by omega)
  refine va_sld hx hb hX hbl hbA hS (vp_in_iff.mpr ⟨by omega, by omega⟩) dL_law_1278 ?_
  refine lv_topi (fun y19 ey19 => ?_)
  obtain rfl : y19 = xs (9 * k + 1) := ey19.trans (congrArg xs (show z18.toInt.toNat = 9 * k + 1 by omega))
  refine lv_aload_n hx hb dL_law_1279 rfl (lv_at hl 0 rfl) ?_
  refine lv_iload_n hx hb dL_law_1280 rfl (lv_at hl 3 rfl) ?_
  refine lv_iconst (v := 2) hx hb dL_law_1281 (by decide) ?_
  refine lv_iadd hx hb dL_law_1282 ?_
  refine lv_topi (fun z20 ez20 => ?_)
  have iz20 : z20.toInt = i.toInt + 2 := zi_add ez20 rfl (show (2 : Int32).toInt = 2 from rfl) (by omega) (by omega)
  refine va_sld hx hb hX hbl hbA hS (vp_in_iff.mpr ⟨by omega, by omega⟩) dL_law_1283 ?_
  refine lv_topi (fun y21 ey21 => ?_)
  obtain rfl : y21 = xs (9 * k + 2) := ey21.trans (congrArg xs (show z20.toInt.toNat = 9 * k + 2 by omega))
  refine tgk_13 hG hmo (fun y22 y23 y24 y25 y26 y27 y28 y29 y30 y31 y32 y33 y34 y35 y36 y37 y38 y39 y40 y41 y42 y43 y44 y45 y46 => ?_)
  refine tpk_13 hT hmo (fun o47_x0 o47_x1 o47_x7 o47_x9 o47_x10 o47_x11 o47_x12 o47_x13 o47_x14 o47_x15 o47_x16 o47_x17 o47_x18 o47_x19 o47_x20 o47_x22 o47_x25 o47_x28 o47_x29 o47_x32 o47_x33 o47_x34 o47_x35 o47_x36 o47_x37 o47_x38 o47_x47 o47_x48 hf_o47 ro47_0 ro47_1 ro47_2 ro47_3 ro47_4 ro47_5 ro47_6 ro47_7 ro47_8 ro47_9 ro47_10 ro47_11 ro47_12 ro47_13 => ?_)
  refine tpk_pos (tp_in hG hmo (by decide)) hf_o47 (fun q48 eq48 => ?_)
  have hFc := tp_fr hD hS hA
  refine va_calli (va_runV (As := [.int (xs (9 * k + 1)), .int (xs (9 * k + 2))]) (rest := []) ⟨hx, hb, hml, hown, hts⟩ (t_X12_list l dC dI _ κ τ ν ρ L f15 hG hT mo (xs (9 * k + 1)) (xs (9 * k + 2)) hmo hJ) (cwV 2 hts gz_X12_list rfl rfl rfl ⟨rfl, pd_X12_list⟩ ⟨Nat.le_of_ble_eq_true rfl, Nat.le_of_ble_eq_true rfl⟩) ⟨pz_blind, va_recv hK hP (ci := 12) (q0 := q48) rfl eq48, pz_pre hP hK hD hN⟩ rfl rfl hl.1 rfl (lv_room (Nat.le_of_ble_eq_true rfl)) dL_law_1284 ⟨by show _ ≤ 600000; omega, by show _ ≤ 7302249; omega⟩) hS (fun q _ h => hFc q h) hFc (fun r49 f51 t H1 locs ht hvm hw50 hB hz1 hk1 hS => ?_)
  refine tn_4 hw50 (fun hT hF52 hw50r hw50p => ?_); clear hw50
  have hJ : mo_RI (-1) 0 (mo_R (mo_i (f51 (ρ mo 2)))) := hw50p
  have hIM : mo_IM (mo_R (mo_i (f51 (ρ mo 3)))) := by rw [hF52 _ (by rw [hims]; decide)]; exact hIM
  have hP := hB.1; rw [ht] at hP; have hD := tp_ad f51 hD; clear hB hFc hz1 hk1; subst ht; generalize t.heap = H at hP hS ⊢
  refine lv_pop hx hb dL_law_1287 rfl ?_
  refine lv_goto (tgt := 1710) hx hb dL_law_1288 (by decide) ?_
  refine tp_widen (cells + 110) (slots + 2634) (by omega) (by omega) ?_
  exact kk τ ν ρ L f51 _ _ _ ⟨hG, hT, hxo, hmo, hJ, hIM⟩ hP hD hS (lv_sub hl [0, 1, 2, 3] rfl)

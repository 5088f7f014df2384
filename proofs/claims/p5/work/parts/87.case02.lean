set_option maxHeartbeats 8000000 in
set_option maxRecDepth 100000 in
theorem law_case_14 {p : Program} {l : Launch} {e : Env} {s : State} {m : MethodId} {below : List Frame} {meth : Method} {c : Code} {b N9 : Nat} {xs : Nat → Int32} {dC : Nat → ClassId} {dI : Nat → Nat → Nat} {κ : Nat → ClassId} {adK adV : Nat → Nat} {zv : Option Nat} {xo mo : Nat} {k cells slots : Nat} {i : Int32} (C0 : lw_At p s m meth c b N9 xs) (hN9 : N9 ≤ 4608) (hN : nz_ok s) (hZ : pw_Z adK adV zv (fun q : Nat => s.heap.size ≤ q) s s.heap) (hK : va_K (dC, dI) vwCl (tp_K κ) s) (hk : 9 * k + 9 ≤ N9) (hi : i.toInt = 9 * (k : Int)) (hc : cells + 110 ≤ 600000) (hs : slots + 2634 ≤ 7302249) (kk : ∀ (τ ν : Nat → Nat) (ρ : Nat → Nat → Nat) (L : List Nat) (f : Nat → va_E) (H : Heap) (locs : List Loc) (ls : Array Slot), lz_I κ xo mo τ ν ρ L f → va_P (dC, dI) vwCl (va_pl L f) H → va_D (fun q : Nat => s.heap.size ≤ q) (va_pl L f) → va_S (fun q : Nat => s.heap.size ≤ q) s.heap H locs → lv_has ls 4 [(0, .ref b), (1, .ref xo), (2, .ref mo), (3, .int i)] → W p l e room_1 s m #[Value.ref b] below meth c H locs (cells + 110) (slots + 2634) (lw_Z below #[Value.ref b] s) (F0 m 1710 ls [])) {τ ν : Nat → Nat} {ρ : Nat → Nat → Nat} {L : List Nat} {f : Nat → va_E} {H : Heap} {locs : List Loc} {ls : Array Slot}  (hI : lz_I κ xo mo τ ν ρ L f) (hP : va_P (dC, dI) vwCl (va_pl L f) H) (hD : va_D (fun q : Nat => s.heap.size ≤ q) (va_pl L f)) (hS : va_S (fun q : Nat => s.heap.size ≤ q) s.heap H locs) (hl : lv_has ls 4 [(0, .ref b), (1, .ref xo), (2, .ref mo), (3, .int i)]) : W p l e room_1 s m #[Value.ref b] below meth c H locs cells slots (lw_Z below #[Value.ref b] s) (F0 m 756 ls []) := by
  obtain ⟨hx, hb, hr, hml, hown, hts, hX, hbl, hlocks, hgv⟩ := id C0
  have hown : s.vm.findClass RL = some m.cls := hown
  have hA : ∀ q : Nat, s.heap.size ≤ q → (fun q : Nat => s.heap.size ≤ q) q := fun _ h => h
  have hbA : ¬ (fun q : Nat => s.heap.size ≤ q) b := Nat.not_le.mpr hbl
  refine tn_6 hI (fun hG hT hxo hmo hJ hIM => ?_)
  clear hI
  have hrow := (tpg_13 hG hmo).1; have hims := (tpg_13 hG hmo).2.1
  refine lv_aload_n hx hb dL_law_756 rfl (lv_at hl 1 rfl) ?_
  refine lv_aload_n hx hb dL_law_757 rfl (lv_at hl 0 rfl) ?_
  refine lv_iload_n hx hb dL_law_758 rfl (lv_at hl 3 rfl) ?_
  refine lv_iconst (v := 1) hx hb dL_law_759 (by decide) ?_
  refine lv_iadd hx hb dL_law_760 ?_
  refine lv_topi (fun z1 ez1 => ?_)
  have iz1 : z1.toInt = i.toInt + 1 := zi_add ez1 rfl (show (1 : Int32).toInt = 1 from rfl) (by omega) (by omega)
  refine va_sld hx hb hX hbl hbA hS (vp_in_iff.mpr ⟨by omega, by omega⟩) dL_law_761 ?_
  refine lv_topi (fun y2 ey2 => ?_)
  obtain rfl : y2 = xs (9 * k + 1) := ey2.trans (congrArg xs (show z1.toInt.toNat = 9 * k + 1 by omega))
  refine lv_aload_n hx hb dL_law_762 rfl (lv_at hl 0 rfl) ?_
  refine lv_iload_n hx hb dL_law_763 rfl (lv_at hl 3 rfl) ?_
  refine lv_iconst (v := 2) hx hb dL_law_764 (by decide) ?_
  refine lv_iadd hx hb dL_law_765 ?_
  refine lv_topi (fun z3 ez3 => ?_)
  have iz3 : z3.toInt = i.toInt + 2 := zi_add ez3 rfl (show (2 : Int32).toInt = 2 from rfl) (by omega) (by omega)
  refine va_sld hx hb hX hbl hbA hS (vp_in_iff.mpr ⟨by omega, by omega⟩) dL_law_766 ?_
  refine lv_topi (fun y4 ey4 => ?_)
  obtain rfl : y4 = xs (9 * k + 2) := ey4.trans (congrArg xs (show z3.toInt.toNat = 9 * k + 2 by omega))
  refine tgk_12 hG hxo (fun y5 y6 y7 y8 y9 y10 => ?_)
  refine tpk_12 hT hxo (fun o11_x6 hf_o11 => ?_)
  refine tpk_pos (tp_in hG hxo (by decide)) hf_o11 (fun q12 eq12 => ?_)
  have hFc := tp_fr hD hS hA
  refine va_calli (va_runV (As := [.int (xs (9 * k + 1)), .int (xs (9 * k + 2))]) (rest := []) ⟨hx, hb, hml, hown, hts⟩ (t_X11_landing l dC dI _ (mo_O κ) κ τ ν ρ L f hG hT xo (xs (9 * k + 1)) (xs (9 * k + 2)) hxo) (cwV 2 hts gz_X11_landing rfl rfl rfl ⟨rfl, pd_X11_landing⟩ ⟨Nat.le_of_ble_eq_true rfl, Nat.le_of_ble_eq_true rfl⟩) ⟨pz_blind, va_recv hK hP (ci := 11) (q0 := q12) rfl eq12, pz_pre hP hK hD hN⟩ rfl rfl hl.1 rfl (lv_room (Nat.le_of_ble_eq_true rfl)) dL_law_767 ⟨by show _ ≤ 600000; omega, by show _ ≤ 7302249; omega⟩) hS (fun q _ h => hFc q h) hFc (fun r13 f15 t H1 locs ht hvm hw14 hB hz1 hk1 hS => ?_)
  refine tn_4 hw14 (fun hT hF16 hw14r hw14p => ?_); clear hw14
  have hJ : mo_RI (-1) 0 (mo_R (mo_i (f15 (ρ mo 2)))) := by rw [hF16 _ (by rw [hrow]; decide)]; exact hJ
  have hIM : mo_IM (mo_R (mo_i (f15 (ρ mo 3)))) := by rw [hF16 _ (by rw [hims]; decide)]; exact hIM
  have hP := hB.1; rw [ht] at hP; have hD := tp_ad f15 hD; clear hB hFc hz1 hk1; subst ht; generalize t.heap = H at hP hS ⊢
  refine lv_pop hx hb dL_law_770 rfl ?_
  refine lv_aload_n hx hb dL_law_771 rfl (lv_at hl 2 rfl) ?_
  refine lv_aload_n hx hb dL_law_772 rfl (lv_at hl 0 rfl) ?_
  refine lv_iload_n hx hb dL_law_773 rfl (lv_at hl 3 rfl) ?_
  refine lv_iconst (v := 1) hx hb dL_law_774 (by decide) ?_
  refine lv_iadd hx hb dL_law_775 ?_
  refine lv_topi (fun z18 ez18 => ?_)
  have iz18 : z18.toInt = i.toInt + 1 := zi_add ez18 rfl (show (1 : Int32).toInt = 1 from rfl) (by omega) (by omega)
  refine va_sld hx hb hX hbl hbA hS (vp_in_iff.mpr ⟨by omega, by omega⟩) dL_law_776 ?_
  refine lv_topi (fun y19 ey19 => ?_)
  obtain rfl : y19 = xs (9 * k + 1) := ey19.trans (congrArg xs (show z18.toInt.toNat = 9 * k + 1 by omega))
  refine lv_aload_n hx hb dL_law_777 rfl (lv_at hl 0 rfl) ?_
  refine lv_iload_n hx hb dL_law_778 rfl (lv_at hl 3 rfl) ?_
  refine lv_iconst (v := 2) hx hb dL_law_779 (by decide) ?_
  refine lv_iadd hx hb dL_law_780 ?_
  refine lv_topi (fun z20 ez20 => ?_)
  have iz20 : z20.toInt = i.toInt + 2 := zi_add ez20 rfl (show (2 : Int32).toInt = 2 from rfl) (by omega) (by omega)
  refine va_sld hx hb hX hbl hbA hS (vp_in_iff.mpr ⟨by omega, by omega⟩) dL_law_781 ?_
  refine lv_topi (fun y21 ey21 => ?_)
  obtain rfl : y21 = xs (9 * k + 2) := ey21.trans (congrArg xs (show z20.toInt.toNat = 9 * k + 2 by omega))
  refine tgk_13 hG hmo (fun y22 y23 y24 y25 y26 y27 y28 y29 y30 y31 y32 y33 y34 y35 y36 y37 y38 y39 y40 y41 y42 y43 y44 y45 y46 => ?_)
  refine tpk_13 hT hmo (fun o47_x0 o47_x1 o47_x7 o47_x9 o47_x10 o47_x11 o47_x12 o47_x13 o47_x14 o47_x15 o47_x16 o47_x17 o47_x18 o47_x19 o47_x20 o47_x22 o47_x25 o47_x28 o47_x29 o47_x32 o47_x33 o47_x34 o47_x35 o47_x36 o47_x37 o47_x38 o47_x47 o47_x48 hf_o47 ro47_0 ro47_1 ro47_2 ro47_3 ro47_4 ro47_5 ro47_6 ro47_7 ro47_8 ro47_9 ro47_10 ro47_11 ro47_12 ro47_13 => ?_)
  refine tpk_pos (tp_in hG hmo (by decide)) hf_o47 (fun q48 eq48 => ?_)
  have hFc := tp_fr hD hS hA
  refine va_calli (va_runV (As := [.int (xs (9 * k + 1)), .int (xs (9 * k + 2))]) (rest := []) ⟨hx, hb, hml, hown, hts⟩ (t_X12_landing l dC dI _ κ τ ν ρ L f15 hG hT mo (xs (9 * k + 1)) (xs (9 * k + 2)) hmo hJ) (cwV 2 hts gz_X12_landing rfl rfl rfl ⟨rfl, pd_X12_landing⟩ ⟨Nat.le_of_ble_eq_true rfl, Nat.le_of_ble_eq_true rfl⟩) ⟨pz_blind, va_recv hK hP (ci := 12) (q0 := q48) rfl eq48, pz_pre hP hK hD hN⟩ rfl rfl hl.1 rfl (lv_room (Nat.le_of_ble_eq_true rfl)) dL_law_782 ⟨by show _ ≤ 600000; omega, by show _ ≤ 7302249; omega⟩) hS (fun q _ h => hFc q h) hFc (fun r49 f51 t H1 locs ht hvm hw50 hB hz1 hk1 hS => ?_)
  refine tn_4 hw50 (fun hT hF52 hw50r hw50p => ?_); clear hw50
  have hJ : mo_RI (-1) 0 (mo_R (mo_i (f51 (ρ mo 2)))) := by rw [hF52 _ (by rw [hrow]; decide)]; exact hJ
  have hIM : mo_IM (mo_R (mo_i (f51 (ρ mo 3)))) := by rw [hF52 _ (by rw [hims]; decide)]; exact hIM
  have hP := hB.1; rw [ht] at hP; have hD := tp_ad f51 hD; clear hB hFc hz1 hk1; subst ht; generalize t.heap = H at hP hS ⊢
  refine lv_pop hx hb dL_law_785 rfl ?_
  refine lv_goto (tgt := 1710) hx hb dL_law_786 (by decide) ?_
  refine tp_widen (cells + 110) (slots + 2634) (by omega) (by omega) ?_
  exact kk τ ν ρ L f51 _ _ _ ⟨hG, hT, hxo, hmo, hJ, hIM⟩ hP hD hS (lv_sub hl [0, 1, 2, 3] rfl)
set_option maxHeartbeats 8000000 in
set_option maxRecDepth 100000 in
theorem law_case_15 {p : Program} {l : Launch} {e : Env} {s : State} {m : MethodId} {below : List Frame} {meth : Method} {c : Code} {b N9 : Nat} {xs : Nat → Int32} {dC : Nat → ClassId} {dI : Nat → Nat → Nat} {κ : Nat → ClassId} {adK adV : Nat → Nat} {zv : Option Nat} {xo mo : Nat} {k cells slots : Nat} {i : Int32} (C0 : lw_At p s m meth c b N9 xs) (hN9 : N9 ≤ 4608) (hN : nz_ok s) (hZ : pw_Z adK adV zv (fun q : Nat => s.heap.size ≤ q) s s.heap) (hK : va_K (dC, dI) vwCl (tp_K κ) s) (hk : 9 * k + 9 ≤ N9) (hi : i.toInt = 9 * (k : Int)) (hc : cells + 110 ≤ 600000) (hs : slots + 2634 ≤ 7302249) (kk : ∀ (τ ν : Nat → Nat) (ρ : Nat → Nat → Nat) (L : List Nat) (f : Nat → va_E) (H : Heap) (locs : List Loc) (ls : Array Slot), lz_I κ xo mo τ ν ρ L f → va_P (dC, dI) vwCl (va_pl L f) H → va_D (fun q : Nat => s.heap.size ≤ q) (va_pl L f) → va_S (fun q : Nat => s.heap.size ≤ q) s.heap H locs → lv_has ls 4 [(0, .ref b), (1, .ref xo), (2, .ref mo), (3, .int i)] → W p l e room_1 s m #[Value.ref b] below meth c H locs (cells + 110) (slots + 2634) (lw_Z below #[Value.ref b] s) (F0 m 1710 ls [])) {τ ν : Nat → Nat} {ρ : Nat → Nat → Nat} {L : List Nat} {f : Nat → va_E} {H : Heap} {locs : List Loc} {ls : Array Slot}  (hI : lz_I κ xo mo τ ν ρ L f) (hP : va_P (dC, dI) vwCl (va_pl L f) H) (hD : va_D (fun q : Nat => s.heap.size ≤ q) (va_pl L f)) (hS : va_S (fun q : Nat => s.heap.size ≤ q) s.heap H locs) (hl : lv_has ls 4 [(0, .ref b), (1, .ref xo), (2, .ref mo), (3, .int i)]) : W p l e room_1 s m #[Value.ref b] below meth c H locs cells slots (lw_Z below #[Value.ref b] s) (F0 m 789 ls []) := by
  obtain ⟨hx, hb, hr, hml, hown, hts, hX, hbl, hlocks, hgv⟩ := id C0
  have hown : s.vm.findClass RL = some m.cls := hown
  have hA : ∀ q : Nat, s.heap.size ≤ q → (fun q : Nat => s.heap.size ≤ q) q := fun _ h => h
  have hbA : ¬ (fun q : Nat => s.heap.size ≤ q) b := Nat.not_le.mpr hbl
  refine tn_6 hI (fun hG hT hxo hmo hJ hIM => ?_)
  clear hI
  have hrow := (tpg_13 hG hmo).1; have hims := (tpg_13 hG hmo).2.1
  refine lv_aload_n hx hb dL_law_789 rfl (lv_at hl 1 rfl) ?_
  refine lv_aload_n hx hb dL_law_790 rfl (lv_at hl 0 rfl) ?_
  refine lv_iload_n hx hb dL_law_791 rfl (lv_at hl 3 rfl) ?_
  refine lv_iconst (v := 1) hx hb dL_law_792 (by decide) ?_
  refine lv_iadd hx hb dL_law_793 ?_
  refine lv_topi (fun z1 ez1 => ?_)
  have iz1 : z1.toInt = i.toInt + 1 := zi_add ez1 rfl (show (1 : Int32).toInt = 1 from rfl) (by omega) (by omega)
  refine va_sld hx hb hX hbl hbA hS (vp_in_iff.mpr ⟨by omega, by omega⟩) dL_law_794 ?_
  refine lv_topi (fun y2 ey2 => ?_)
  obtain rfl : y2 = xs (9 * k + 1) := ey2.trans (congrArg xs (show z1.toInt.toNat = 9 * k + 1 by omega))
  refine lv_aload_n hx hb dL_law_795 rfl (lv_at hl 0 rfl) ?_
  refine lv_iload_n hx hb dL_law_796 rfl (lv_at hl 3 rfl) ?_
  refine lv_iconst (v := 2) hx hb dL_law_797 (by decide) ?_
  refine lv_iadd hx hb dL_law_798 ?_
  refine lv_topi (fun z3 ez3 => ?_)
  have iz3 : z3.toInt = i.toInt + 2 := zi_add ez3 rfl (show (2 : Int32).toInt = 2 from rfl) (by omega) (by omega)
  refine va_sld hx hb hX hbl hbA hS (vp_in_iff.mpr ⟨by omega, by omega⟩) dL_law_799 ?_
  refine lv_topi (fun y4 ey4 => ?_)
  obtain rfl : y4 = xs (9 * k + 2) := ey4.trans (congrArg xs (show z3.toInt.toNat = 9 * k + 2 by omega))
  refine tgk_12 hG hxo (fun y5 y6 y7 y8 y9 y10 => ?_)
  refine tpk_12 hT hxo (fun o11_x6 hf_o11 => ?_)
  refine tpk_pos (tp_in hG hxo (by decide)) hf_o11 (fun q12 eq12 => ?_)
  have hFc := tp_fr hD hS hA
  refine va_calli (va_runV (As := [.int (xs (9 * k + 1)), .int (xs (9 * k + 2))]) (rest := []) ⟨hx, hb, hml, hown, hts⟩ (t_X11_led l dC dI _ (mo_O κ) κ τ ν ρ L f hG hT xo (xs (9 * k + 1)) (xs (9 * k + 2)) hxo) (cwV 2 hts gz_X11_led rfl rfl rfl ⟨rfl, pd_X11_led⟩ ⟨Nat.le_of_ble_eq_true rfl, Nat.le_of_ble_eq_true rfl⟩) ⟨pz_blind, va_recv hK hP (ci := 11) (q0 := q12) rfl eq12, pz_pre hP hK hD hN⟩ rfl rfl hl.1 rfl (lv_room (Nat.le_of_ble_eq_true rfl)) dL_law_800 ⟨by show _ ≤ 600000; omega, by show _ ≤ 7302249; omega⟩) hS (fun q _ h => hFc q h) hFc (fun r13 f15 t H1 locs ht hvm hw14 hB hz1 hk1 hS => ?_)
  refine tn_4 hw14 (fun hT hF16 hw14r hw14p => ?_); clear hw14
  have hJ : mo_RI (-1) 0 (mo_R (mo_i (f15 (ρ mo 2)))) := by rw [hF16 _ (by rw [hrow]; decide)]; exact hJ
  have hIM : mo_IM (mo_R (mo_i (f15 (ρ mo 3)))) := by rw [hF16 _ (by rw [hims]; decide)]; exact hIM
  have hP := hB.1; rw [ht] at hP; have hD := tp_ad f15 hD; clear hB hFc hz1 hk1; subst ht; generalize t.heap = H at hP hS ⊢
  refine lv_pop hx hb dL_law_803 rfl ?_
  refine lv_aload_n hx hb dL_law_804 rfl (lv_at hl 2 rfl) ?_
  refine lv_aload_n hx hb dL_law_805 rfl (lv_at hl 0 rfl) ?_
  refine lv_iload_n hx hb dL_law_806 rfl (lv_at hl 3 rfl) ?_
  refine lv_iconst (v := 1) hx hb dL_law_807 (by decide) ?_
  refine lv_iadd hx hb dL_law_808 ?_
  refine lv_topi (fun z18 ez18 => ?_)
  have iz18 : z18.toInt = i.toInt + 1 := zi_add ez18 rfl (show (1 : Int32).toInt = 1 from rfl) (by omega) (by omega)
  refine va_sld hx hb hX hbl hbA hS (vp_in_iff.mpr ⟨by omega, by omega⟩) dL_law_809 ?_
  refine lv_topi (fun y19 ey19 => ?_)
  obtain rfl : y19 = xs (9 * k + 1) := ey19.trans (congrArg xs (show z18.toInt.toNat = 9 * k + 1 by omega))
  refine lv_aload_n hx hb dL_law_810 rfl (lv_at hl 0 rfl) ?_
  refine lv_iload_n hx hb dL_law_811 rfl (lv_at hl 3 rfl) ?_
  refine lv_iconst (v := 2) hx hb dL_law_812 (by decide) ?_
  refine lv_iadd hx hb dL_law_813 ?_
  refine lv_topi (fun z20 ez20 => ?_)
  have iz20 : z20.toInt = i.toInt + 2 := zi_add ez20 rfl (show (2 : Int32).toInt = 2 from rfl) (by omega) (by omega)
  refine va_sld hx hb hX hbl hbA hS (vp_in_iff.mpr ⟨by omega, by omega⟩) dL_law_814 ?_
  refine lv_topi (fun y21 ey21 => ?_)
  obtain rfl : y21 = xs (9 * k + 2) := ey21.trans (congrArg xs (show z20.toInt.toNat = 9 * k + 2 by omega))
  refine tgk_13 hG hmo (fun y22 y23 y24 y25 y26 y27 y28 y29 y30 y31 y32 y33 y34 y35 y36 y37 y38 y39 y40 y41 y42 y43 y44 y45 y46 => ?_)
  refine tpk_13 hT hmo (fun o47_x0 o47_x1 o47_x7 o47_x9 o47_x10 o47_x11 o47_x12 o47_x13 o47_x14 o47_x15 o47_x16 o47_x17 o47_x18 o47_x19 o47_x20 o47_x22 o47_x25 o47_x28 o47_x29 o47_x32 o47_x33 o47_x34 o47_x35 o47_x36 o47_x37 o47_x38 o47_x47 o47_x48 hf_o47 ro47_0 ro47_1 ro47_2 ro47_3 ro47_4 ro47_5 ro47_6 ro47_7 ro47_8 ro47_9 ro47_10 ro47_11 ro47_12 ro47_13 => ?_)
  refine tpk_pos (tp_in hG hmo (by decide)) hf_o47 (fun q48 eq48 => ?_)
  have hFc := tp_fr hD hS hA
  refine va_calli (va_runV (As := [.int (xs (9 * k + 1)), .int (xs (9 * k + 2))]) (rest := []) ⟨hx, hb, hml, hown, hts⟩ (t_X12_led l dC dI _ κ τ ν ρ L f15 hG hT mo (xs (9 * k + 1)) (xs (9 * k + 2)) hmo hJ) (cwV 2 hts gz_X12_led rfl rfl rfl ⟨rfl, pd_X12_led⟩ ⟨Nat.le_of_ble_eq_true rfl, Nat.le_of_ble_eq_true rfl⟩) ⟨pz_blind, va_recv hK hP (ci := 12) (q0 := q48) rfl eq48, pz_pre hP hK hD hN⟩ rfl rfl hl.1 rfl (lv_room (Nat.le_of_ble_eq_true rfl)) dL_law_815 ⟨by show _ ≤ 600000; omega, by show _ ≤ 7302249; omega⟩) hS (fun q _ h => hFc q h) hFc (fun r49 f51 t H1 locs ht hvm hw50 hB hz1 hk1 hS => ?_)
  refine tn_4 hw50 (fun hT hF52 hw50r hw50p => ?_); clear hw50
  have hJ : mo_RI (-1) 0 (mo_R (mo_i (f51 (ρ mo 2)))) := by rw [hF52 _ (by rw [hrow]; decide)]; exact hJ
  have hIM : mo_IM (mo_R (mo_i (f51 (ρ mo 3)))) := by rw [hF52 _ (by rw [hims]; decide)]; exact hIM
  have hP := hB.1; rw [ht] at hP; have hD := tp_ad f51 hD; clear hB hFc hz1 hk1; subst ht; generalize t.heap = H at hP hS ⊢
  refine lv_pop hx hb dL_law_818 rfl ?_
  refine lv_goto (tgt := 1710) hx hb dL_law_819 (by decide) ?_
  refine tp_widen (cells + 110) (slots + 2634) (by omega) (by omega) ?_
  exact kk τ ν ρ L f51 _ _ _ ⟨hG, hT, hxo, hmo, hJ, hIM⟩ hP hD hS (lv_sub hl [0, 1, 2, 3] rfl)
set_option maxHeartbeats 8000000 in
set_option maxRecDepth 100000 in
theorem law_case_16 {p : Program} {l : Launch} {e : Env} {s : State} {m : MethodId} {below : List Frame} {meth : Method} {c : Code} {b N9 : Nat} {xs : Nat → Int32} {dC : Nat → ClassId} {dI : Nat → Nat → Nat} {κ : Nat → ClassId} {adK adV : Nat → Nat} {zv : Option Nat} {xo mo : Nat} {k cells slots : Nat} {i : Int32} (C0 : lw_At p s m meth c b N9 xs) (hN9 : N9 ≤ 4608) (hN : nz_ok s) (hZ : pw_Z adK adV zv (fun q : Nat => s.heap.size ≤ q) s s.heap) (hK : va_K (dC, dI) vwCl (tp_K κ) s) (hk : 9 * k + 9 ≤ N9) (hi : i.toInt = 9 * (k : Int)) (hc : cells + 110 ≤ 600000) (hs : slots + 2634 ≤ 7302249) (kk : ∀ (τ ν : Nat → Nat) (ρ : Nat → Nat → Nat) (L : List Nat) (f : Nat → va_E) (H : Heap) (locs : List Loc) (ls : Array Slot), lz_I κ xo mo τ ν ρ L f → va_P (dC, dI) vwCl (va_pl L f) H → va_D (fun q : Nat => s.heap.size ≤ q) (va_pl L f) → va_S (fun q : Nat => s.heap.size ≤ q) s.heap H locs → lv_has ls 4 [(0, .ref b), (1, .ref xo), (2, .ref mo), (3, .int i)] → W p l e room_1 s m #[Value.ref b] below meth c H locs (cells + 110) (slots + 2634) (lw_Z below #[Value.ref b] s) (F0 m 1710 ls [])) {τ ν : Nat → Nat} {ρ : Nat → Nat → Nat} {L : List Nat} {f : Nat → va_E} {H : Heap} {locs : List Loc} {ls : Array Slot}  (hI : lz_I κ xo mo τ ν ρ L f) (hP : va_P (dC, dI) vwCl (va_pl L f) H) (hD : va_D (fun q : Nat => s.heap.size ≤ q) (va_pl L f)) (hS : va_S (fun q : Nat => s.heap.size ≤ q) s.heap H locs) (hl : lv_has ls 4 [(0, .ref b), (1, .ref xo), (2, .ref mo), (3, .int i)]) : W p l e room_1 s m #[Value.ref b] below meth c H locs cells slots (lw_Z below #[Value.ref b] s) (F0 m 822 ls []) := by
  obtain ⟨hx, hb, hr, hml, hown, hts, hX, hbl, hlocks, hgv⟩ := id C0
  have hown : s.vm.findClass RL = some m.cls := hown
  have hA : ∀ q : Nat, s.heap.size ≤ q → (fun q : Nat => s.heap.size ≤ q) q := fun _ h => h
  have hbA : ¬ (fun q : Nat => s.heap.size ≤ q) b := Nat.not_le.mpr hbl
  refine tn_6 hI (fun hG hT hxo hmo hJ hIM => ?_)
  clear hI
  have hrow := (tpg_13 hG hmo).1; have hims := (tpg_13 hG hmo).2.1
  refine lv_aload_n hx hb dL_law_822 rfl (lv_at hl 1 rfl) ?_
  refine lv_aload_n hx hb dL_law_823 rfl (lv_at hl 0 rfl) ?_
  refine lv_iload_n hx hb dL_law_824 rfl (lv_at hl 3 rfl) ?_
  refine lv_iconst (v := 1) hx hb dL_law_825 (by decide) ?_
  refine lv_iadd hx hb dL_law_826 ?_
  refine lv_topi (fun z1 ez1 => ?_)
  have iz1 : z1.toInt = i.toInt + 1 := zi_add ez1 rfl (show (1 : Int32).toInt = 1 from rfl) (by omega) (by omega)
  refine va_sld hx hb hX hbl hbA hS (vp_in_iff.mpr ⟨by omega, by omega⟩) dL_law_827 ?_
  refine lv_topi (fun y2 ey2 => ?_)
  obtain rfl : y2 = xs (9 * k + 1) := ey2.trans (congrArg xs (show z1.toInt.toNat = 9 * k + 1 by omega))
  refine lv_aload_n hx hb dL_law_828 rfl (lv_at hl 0 rfl) ?_
  refine lv_iload_n hx hb dL_law_829 rfl (lv_at hl 3 rfl) ?_
  refine lv_iconst (v := 2) hx hb dL_law_830 (by decide) ?_
  refine lv_iadd hx hb dL_law_831 ?_
  refine lv_topi (fun z3 ez3 => ?_)
  have iz3 : z3.toInt = i.toInt + 2 := zi_add ez3 rfl (show (2 : Int32).toInt = 2 from rfl) (by omega) (by omega)
  refine va_sld hx hb hX hbl hbA hS (vp_in_iff.mpr ⟨by omega, by omega⟩) dL_law_832 ?_
  refine lv_topi (fun y4 ey4 => ?_)
  obtain rfl : y4 = xs (9 * k + 2) := ey4.trans (congrArg xs (show z3.toInt.toNat = 9 * k + 2 by omega))
  refine tgk_12 hG hxo (fun y5 y6 y7 y8 y9 y10 => ?_)
  refine tpk_12 hT hxo (fun o11_x6 hf_o11 => ?_)
  refine tpk_pos (tp_in hG hxo (by decide)) hf_o11 (fun q12 eq12 => ?_)
  have hFc := tp_fr hD hS hA
  refine va_calli (va_runV (As := [.int (xs (9 * k + 1)), .int (xs (9 * k + 2))]) (rest := []) ⟨hx, hb, hml, hown, hts⟩ (t_X11_heat l dC dI _ (mo_O κ) κ τ ν ρ L f hG hT xo (xs (9 * k + 1)) (xs (9 * k + 2)) hxo) (cwV 2 hts gz_X11_heat rfl rfl rfl ⟨rfl, pd_X11_heat⟩ ⟨Nat.le_of_ble_eq_true rfl, Nat.le_of_ble_eq_true rfl⟩) ⟨pz_blind, va_recv hK hP (ci := 11) (q0 := q12) rfl eq12, pz_pre hP hK hD hN⟩ rfl rfl hl.1 rfl (lv_room (Nat.le_of_ble_eq_true rfl)) dL_law_833 ⟨by show _ ≤ 600000; omega, by show _ ≤ 7302249; omega⟩) hS (fun q _ h => hFc q h) hFc (fun r13 f15 t H1 locs ht hvm hw14 hB hz1 hk1 hS => ?_)
  refine tn_4 hw14 (fun hT hF16 hw14r hw14p => ?_); clear hw14
  have hJ : mo_RI (-1) 0 (mo_R (mo_i (f15 (ρ mo 2)))) := by rw [hF16 _ (by rw [hrow]; decide)]; exact hJ
  have hIM : mo_IM (mo_R (mo_i (f15 (ρ mo 3)))) := by rw [hF16 _ (by rw [hims]; decide)]; exact hIM
  have hP := hB.1; rw [ht] at hP; have hD := tp_ad f15 hD; clear hB hFc hz1 hk1; subst ht; generalize t.heap = H at hP hS ⊢
  refine lv_pop hx hb dL_law_836 rfl ?_
  refine lv_aload_n hx hb dL_law_837 rfl (lv_at hl 2 rfl) ?_
  refine lv_aload_n hx hb dL_law_838 rfl (lv_at hl 0 rfl) ?_
  refine lv_iload_n hx hb dL_law_839 rfl (lv_at hl 3 rfl) ?_
  refine lv_iconst (v := 1) hx hb dL_law_840 (by decide) ?_
  refine lv_iadd hx hb dL_law_841 ?_
  refine lv_topi (fun z18 ez18 => ?_)
  have iz18 : z18.toInt = i.toInt + 1 := zi_add ez18 rfl (show (1 : Int32).toInt = 1 from rfl) (by omega) (by omega)
  refine va_sld hx hb hX hbl hbA hS (vp_in_iff.mpr ⟨by omega, by omega⟩) dL_law_842 ?_
  refine lv_topi (fun y19 ey19 => ?_)
  obtain rfl : y19 = xs (9 * k + 1) := ey19.trans (congrArg xs (show z18.toInt.toNat = 9 * k + 1 by omega))
  refine lv_aload_n hx hb dL_law_843 rfl (lv_at hl 0 rfl) ?_
  refine lv_iload_n hx hb dL_law_844 rfl (lv_at hl 3 rfl) ?_
  refine lv_iconst (v := 2) hx hb dL_law_845 (by decide) ?_
  refine lv_iadd hx hb dL_law_846 ?_
  refine lv_topi (fun z20 ez20 => ?_)
  have iz20 : z20.toInt = i.toInt + 2 := zi_add ez20 rfl (show (2 : Int32).toInt = 2 from rfl) (by omega) (by omega)
  refine va_sld hx hb hX hbl hbA hS (vp_in_iff.mpr ⟨by omega, by omega⟩) dL_law_847 ?_
  refine lv_topi (fun y21 ey21 => ?_)
  obtain rfl : y21 = xs (9 * k + 2) := ey21.trans (congrArg xs (show z20.toInt.toNat = 9 * k + 2 by omega))
  refine tgk_13 hG hmo (fun y22 y23 y24 y25 y26 y27 y28 y29 y30 y31 y32 y33 y34 y35 y36 y37 y38 y39 y40 y41 y42 y43 y44 y45 y46 => ?_)
  refine tpk_13 hT hmo (fun o47_x0 o47_x1 o47_x7 o47_x9 o47_x10 o47_x11 o47_x12 o47_x13 o47_x14 o47_x15 o47_x16 o47_x17 o47_x18 o47_x19 o47_x20 o47_x22 o47_x25 o47_x28 o47_x29 o47_x32 o47_x33 o47_x34 o47_x35 o47_x36 o47_x37 o47_x38 o47_x47 o47_x48 hf_o47 ro47_0 ro47_1 ro47_2 ro47_3 ro47_4 ro47_5 ro47_6 ro47_7 ro47_8 ro47_9 ro47_10 ro47_11 ro47_12 ro47_13 => ?_)
  refine tpk_pos (tp_in hG hmo (by decide)) hf_o47 (fun q48 eq48 => ?_)
  have hFc := tp_fr hD hS hA
  refine va_calli (va_runV (As := [.int (xs (9 * k + 1)), .int (xs (9 * k + 2))]) (rest := []) ⟨hx, hb, hml, hown, hts⟩ (t_X12_heat l dC dI _ κ τ ν ρ L f15 hG hT mo (xs (9 * k + 1)) (xs (9 * k + 2)) hmo hJ) (cwV 2 hts gz_X12_heat rfl rfl rfl ⟨rfl, pd_X12_heat⟩ ⟨Nat.le_of_ble_eq_true rfl, Nat.le_of_ble_eq_true rfl⟩) ⟨pz_blind, va_recv hK hP (ci := 12) (q0 := q48) rfl eq48, pz_pre hP hK hD hN⟩ rfl rfl hl.1 rfl (lv_room (Nat.le_of_ble_eq_true rfl)) dL_law_848 ⟨by show _ ≤ 600000; omega, by show _ ≤ 7302249; omega⟩) hS (fun q _ h => hFc q h) hFc (fun r49 f51 t H1 locs ht hvm hw50 hB hz1 hk1 hS => ?_)
  refine tn_4 hw50 (fun hT hF52 hw50r hw50p => ?_); clear hw50
  have hJ : mo_RI (-1) 0 (mo_R (mo_i (f51 (ρ mo 2)))) := hw50p
  have hIM : mo_IM (mo_R (mo_i (f51 (ρ mo 3)))) := by rw [hF52 _ (by rw [hims]; decide)]; exact hIM
  have hP := hB.1; rw [ht] at hP; have hD := tp_ad f51 hD; clear hB hFc hz1 hk1; subst ht; generalize t.heap = H at hP hS ⊢
  refine lv_pop hx hb dL_law_851 rfl ?_
  refine lv_goto (tgt := 1710) hx hb dL_law_852 (by decide) ?_
  refine tp_widen (cells + 110) (slots + 2634) (by omega) (by omega) ?_
  exact kk τ ν ρ L f51 _ _ _ ⟨hG, hT, hxo, hmo, hJ, hIM⟩ hP hD hS (lv_sub hl [0, 1, 2, 3] rfl)
set_option maxHeartbeats 8000000 in
set_option maxRecDepth 100000 in
theorem law_case_17 {p : Program} {l : Launch} {e : Env} {s : State} {m : MethodId} {below : List Frame} {meth : Method} {c : Code} {b N9 : Nat} {xs : Nat → Int32} {dC : Nat → ClassId} {dI : Nat → Nat → Nat} {κ : Nat → ClassId} {adK adV : Nat → Nat} {zv : Option Nat} {xo mo : Nat} {k cells slots : Nat} {i : Int32} (C0 : lw_At p s m meth c b N9 xs) (hN9 : N9 ≤ 4608) (hN : nz_ok s) (hZ : pw_Z adK adV zv (fun q : Nat => s.heap.size ≤ q) s s.heap) (hK : va_K (dC, dI) vwCl (tp_K κ) s) (hk : 9 * k + 9 ≤ N9) (hi : i.toInt = 9 * (k : Int)) (hc : cells + 110 ≤ 600000) (hs : slots + 2634 ≤ 7302249) (kk : ∀ (τ ν : Nat → Nat) (ρ : Nat → Nat → Nat) (L : List Nat) (f : Nat → va_E) (H : Heap) (locs : List Loc) (ls : Array Slot), lz_I κ xo mo τ ν ρ L f → va_P (dC, dI) vwCl (va_pl L f) H → va_D (fun q : Nat => s.heap.size ≤ q) (va_pl L f) → va_S (fun q : Nat => s.heap.size ≤ q) s.heap H locs → lv_has ls 4 [(0, .ref b), (1, .ref xo), (2, .ref mo), (3, .int i)] → W p l e room_1 s m #[Value.ref b] below meth c H locs (cells + 110) (slots + 2634) (lw_Z below #[Value.ref b] s) (F0 m 1710 ls [])) {τ ν : Nat → Nat} {ρ : Nat → Nat → Nat} {L : List Nat} {f : Nat → va_E} {H : Heap} {locs : List Loc} {ls : Array Slot}  (hI : lz_I κ xo mo τ ν ρ L f) (hP : va_P (dC, dI) vwCl (va_pl L f) H) (hD : va_D (fun q : Nat => s.heap.size ≤ q) (va_pl L f)) (hS : va_S (fun q : Nat => s.heap.size ≤ q) s.heap H locs) (hl : lv_has ls 4 [(0, .ref b), (1, .ref xo), (2, .ref mo), (3, .int i)]) : W p l e room_1 s m #[Value.ref b] below meth c H locs cells slots (lw_Z below #[Value.ref b] s) (F0 m 855 ls []) := by
  obtain ⟨hx, hb, hr, hml, hown, hts, hX, hbl, hlocks, hgv⟩ := id C0
  have hown : s.vm.findClass RL = some m.cls := hown
  have hA : ∀ q : Nat, s.heap.size ≤ q → (fun q : Nat => s.heap.size ≤ q) q := fun _ h => h
  have hbA : ¬ (fun q : Nat => s.heap.size ≤ q) b := Nat.not_le.mpr hbl
  refine tn_6 hI (fun hG hT hxo hmo hJ hIM => ?_)
  clear hI
  have hrow := (tpg_13 hG hmo).1; have hims := (tpg_13 hG hmo).2.1
  refine lv_aload_n hx hb dL_law_855 rfl (lv_at hl 1 rfl) ?_
  refine lv_aload_n hx hb dL_law_856 rfl (lv_at hl 0 rfl) ?_
  refine lv_iload_n hx hb dL_law_857 rfl (lv_at hl 3 rfl) ?_
  refine lv_iconst (v := 1) hx hb dL_law_858 (by decide) ?_
  refine lv_iadd hx hb dL_law_859 ?_
  refine lv_topi (fun z1 ez1 => ?_)
  have iz1 : z1.toInt = i.toInt + 1 := zi_add ez1 rfl (show (1 : Int32).toInt = 1 from rfl) (by omega) (by omega)
  refine va_sld hx hb hX hbl hbA hS (vp_in_iff.mpr ⟨by omega, by omega⟩) dL_law_860 ?_
  refine lv_topi (fun y2 ey2 => ?_)
  obtain rfl : y2 = xs (9 * k + 1) := ey2.trans (congrArg xs (show z1.toInt.toNat = 9 * k + 1 by omega))
  refine lv_aload_n hx hb dL_law_861 rfl (lv_at hl 0 rfl) ?_
  refine lv_iload_n hx hb dL_law_862 rfl (lv_at hl 3 rfl) ?_
  refine lv_iconst (v := 2) hx hb dL_law_863 (by decide) ?_
  refine lv_iadd hx hb dL_law_864 ?_
  refine lv_topi (fun z3 ez3 => ?_)
  have iz3 : z3.toInt = i.toInt + 2 := zi_add ez3 rfl (show (2 : Int32).toInt = 2 from rfl) (by omega) (by omega)
  refine va_sld hx hb hX hbl hbA hS (vp_in_iff.mpr ⟨by omega, by omega⟩) dL_law_865 ?_
  refine lv_topi (fun y4 ey4 => ?_)
  obtain rfl : y4 = xs (9 * k + 2) := ey4.trans (congrArg xs (show z3.toInt.toNat = 9 * k + 2 by omega))
  refine lv_aload_n hx hb dL_law_866 rfl (lv_at hl 0 rfl) ?_
  refine lv_iload_n hx hb dL_law_867 rfl (lv_at hl 3 rfl) ?_
  refine lv_iconst (v := 3) hx hb dL_law_868 (by decide) ?_
  refine lv_iadd hx hb dL_law_869 ?_
  refine lv_topi (fun z5 ez5 => ?_)
  have iz5 : z5.toInt = i.toInt + 3 := zi_add ez5 rfl (show (3 : Int32).toInt = 3 from rfl) (by omega) (by omega)
  refine va_sld hx hb hX hbl hbA hS (vp_in_iff.mpr ⟨by omega, by omega⟩) dL_law_870 ?_
  refine lv_topi (fun y6 ey6 => ?_)
  obtain rfl : y6 = xs (9 * k + 3) := ey6.trans (congrArg xs (show z5.toInt.toNat = 9 * k + 3 by omega))
  refine tgk_12 hG hxo (fun y7 y8 y9 y10 y11 y12 => ?_)
  refine tpk_12 hT hxo (fun o13_x6 hf_o13 => ?_)
  refine tpk_pos (tp_in hG hxo (by decide)) hf_o13 (fun q14 eq14 => ?_)
  have hFc := tp_fr hD hS hA
  refine va_calli (va_runV (As := [.int (xs (9 * k + 1)), .int (xs (9 * k + 2)), .int (xs (9 * k + 3))]) (rest := []) ⟨hx, hb, hml, hown, hts⟩ (t_X11_price l dC dI _ (mo_O κ) κ τ ν ρ L f hG hT xo (xs (9 * k + 1)) (xs (9 * k + 2)) (xs (9 * k + 3)) hxo) (cwV 3 hts gz_X11_price rfl rfl rfl ⟨rfl, pd_X11_price⟩ ⟨Nat.le_of_ble_eq_true rfl, Nat.le_of_ble_eq_true rfl⟩) ⟨pz_blind, va_recv hK hP (ci := 11) (q0 := q14) rfl eq14, pz_pre hP hK hD hN⟩ rfl rfl hl.1 rfl (lv_room (Nat.le_of_ble_eq_true rfl)) dL_law_871 ⟨by show _ ≤ 600000; omega, by show _ ≤ 7302249; omega⟩) hS (fun q _ h => hFc q h) hFc (fun r15 f17 t H1 locs ht hvm hw16 hB hz1 hk1 hS => ?_)
  refine tn_4 hw16 (fun hT hF18 hw16r hw16p => ?_); clear hw16
  have hJ : mo_RI (-1) 0 (mo_R (mo_i (f17 (ρ mo 2)))) := by rw [hF18 _ (by rw [hrow]; decide)]; exact hJ
  have hIM : mo_IM (mo_R (mo_i (f17 (ρ mo 3)))) := by rw [hF18 _ (by rw [hims]; decide)]; exact hIM
  have hP := hB.1; rw [ht] at hP; have hD := tp_ad f17 hD; clear hB hFc hz1 hk1; subst ht; generalize t.heap = H at hP hS ⊢
  refine lv_pop hx hb dL_law_874 rfl ?_
  refine lv_aload_n hx hb dL_law_875 rfl (lv_at hl 2 rfl) ?_
  refine lv_aload_n hx hb dL_law_876 rfl (lv_at hl 0 rfl) ?_
  refine lv_iload_n hx hb dL_law_877 rfl (lv_at hl 3 rfl) ?_
  refine lv_iconst (v := 1) hx hb dL_law_878 (by decide) ?_
  refine lv_iadd hx hb dL_law_879 ?_
  refine lv_topi (fun z20 ez20 => ?_)
  have iz20 : z20.toInt = i.toInt + 1 := zi_add ez20 rfl (show (1 : Int32).toInt = 1 from rfl) (by omega) (by omega)
  refine va_sld hx hb hX hbl hbA hS (vp_in_iff.mpr ⟨by omega, by omega⟩) dL_law_880 ?_
  refine lv_topi (fun y21 ey21 => ?_)
  obtain rfl : y21 = xs (9 * k + 1) := ey21.trans (congrArg xs (show z20.toInt.toNat = 9 * k + 1 by omega))
  refine lv_aload_n hx hb dL_law_881 rfl (lv_at hl 0 rfl) ?_
  refine lv_iload_n hx hb dL_law_882 rfl (lv_at hl 3 rfl) ?_
  refine lv_iconst (v := 2) hx hb dL_law_883 (by decide) ?_
  refine lv_iadd hx hb dL_law_884 ?_
  refine lv_topi (fun z22 ez22 => ?_)
  have iz22 : z22.toInt = i.toInt + 2 := zi_add ez22 rfl (show (2 : Int32).toInt = 2 from rfl) (by omega) (by omega)
  refine va_sld hx hb hX hbl hbA hS (vp_in_iff.mpr ⟨by omega, by omega⟩) dL_law_885 ?_
  refine lv_topi (fun y23 ey23 => ?_)
  obtain rfl : y23 = xs (9 * k + 2) := ey23.trans (congrArg xs (show z22.toInt.toNat = 9 * k + 2 by omega))
  refine lv_aload_n hx hb dL_law_886 rfl (lv_at hl 0 rfl) ?_
  refine lv_iload_n hx hb dL_law_887 rfl (lv_at hl 3 rfl) ?_
  refine lv_iconst (v := 3) hx hb dL_law_888 (by decide) ?_
  refine lv_iadd hx hb dL_law_889 ?_
  refine lv_topi (fun z24 ez24 => ?_)
  have iz24 : z24.toInt = i.toInt + 3 := zi_add ez24 rfl (show (3 : Int32).toInt = 3 from rfl) (by omega) (by omega)
  refine va_sld hx hb hX hbl hbA hS (vp_in_iff.mpr ⟨by omega, by omega⟩) dL_law_890 ?_
  refine lv_topi (fun y25 ey25 => ?_)
  obtain rfl : y25 = xs (9 * k + 3) := ey25.trans (congrArg xs (show z24.toInt.toNat = 9 * k + 3 by omega))
  refine tgk_13 hG hmo (fun y26 y27 y28 y29 y30 y31 y32 y33 y34 y35 y36 y37 y38 y39 y40 y41 y42 y43 y44 y45 y46 y47 y48 y49 y50 => ?_)
  refine tpk_13 hT hmo (fun o51_x0 o51_x1 o51_x7 o51_x9 o51_x10 o51_x11 o51_x12 o51_x13 o51_x14 o51_x15 o51_x16 o51_x17 o51_x18 o51_x19 o51_x20 o51_x22 o51_x25 o51_x28 o51_x29 o51_x32 o51_x33 o51_x34 o51_x35 o51_x36 o51_x37 o51_x38 o51_x47 o51_x48 hf_o51 ro51_0 ro51_1 ro51_2 ro51_3 ro51_4 ro51_5 ro51_6 ro51_7 ro51_8 ro51_9 ro51_10 ro51_11 ro51_12 ro51_13 => ?_)
  refine tpk_pos (tp_in hG hmo (by decide)) hf_o51 (fun q52 eq52 => ?_)
  have hFc := tp_fr hD hS hA
  refine va_calli (va_runV (As := [.int (xs (9 * k + 1)), .int (xs (9 * k + 2)), .int (xs (9 * k + 3))]) (rest := []) ⟨hx, hb, hml, hown, hts⟩ (t_X12_price l dC dI _ κ τ ν ρ L f17 hG hT mo (xs (9 * k + 1)) (xs (9 * k + 2)) (xs (9 * k + 3)) hmo hJ) (cwV 3 hts gz_X12_price rfl rfl rfl ⟨rfl, pd_X12_price⟩ ⟨Nat.le_of_ble_eq_true rfl, Nat.le_of_ble_eq_true rfl⟩) ⟨pz_blind, va_recv hK hP (ci := 12) (q0 := q52) rfl eq52, pz_pre hP hK hD hN⟩ rfl rfl hl.1 rfl (lv_room (Nat.le_of_ble_eq_true rfl)) dL_law_891 ⟨by show _ ≤ 600000; omega, by show _ ≤ 7302249; omega⟩) hS (fun q _ h => hFc q h) hFc (fun r53 f55 t H1 locs ht hvm hw54 hB hz1 hk1 hS => ?_)
  refine tn_4 hw54 (fun hT hF56 hw54r hw54p => ?_); clear hw54
  have hJ : mo_RI (-1) 0 (mo_R (mo_i (f55 (ρ mo 2)))) := hw54p
  have hIM : mo_IM (mo_R (mo_i (f55 (ρ mo 3)))) := by rw [hF56 _ (by rw [hims]; decide)]; exact hIM
  have hP := hB.1; rw [ht] at hP; have hD := tp_ad f55 hD; clear hB hFc hz1 hk1; subst ht; generalize t.heap = H at hP hS ⊢
  refine lv_pop hx hb dL_law_894 rfl ?_
  refine lv_goto (tgt := 1710) hx hb dL_law_895 (by decide) ?_
  refine tp_widen (cells + 110) (slots + 2634) (by omega) (by omega) ?_
  exact kk τ ν ρ L f55 _ _ _ ⟨hG, hT, hxo, hmo, hJ, hIM⟩ hP hD hS (lv_sub hl [0, 1, 2, 3] rfl)
set_option maxHeartbeats 8000000 in
set_option maxRecDepth 100000 in
theorem law_case_18 {p : Program} {l : Launch} {e : Env} {s : State} {m : MethodId} {below : List Frame} {meth : Method} {c : Code} {b N9 : Nat} {xs : Nat → Int32} {dC : Nat → ClassId} {dI : Nat → Nat → Nat} {κ : Nat → ClassId} {adK adV : Nat → Nat} {zv : Option Nat} {xo mo : Nat} {k cells slots : Nat} {i : Int32} (C0 : lw_At p s m meth c b N9 xs) (hN9 : N9 ≤ 4608) (hN : nz_ok s) (hZ : pw_Z adK adV zv (fun q : Nat => s.heap.size ≤ q) s s.heap) (hK : va_K (dC, dI) vwCl (tp_K κ) s) (hk : 9 * k + 9 ≤ N9) (hi : i.toInt = 9 * (k : Int)) (hc : cells + 110 ≤ 600000) (hs : slots + 2634 ≤ 7302249) (kk : ∀ (τ ν : Nat → Nat) (ρ : Nat → Nat → Nat) (L : List Nat) (f : Nat → va_E) (H : Heap) (locs : List Loc) (ls : Array Slot), lz_I κ xo mo τ ν ρ L f → va_P (dC, dI) vwCl (va_pl L f) H → va_D (fun q : Nat => s.heap.size ≤ q) (va_pl L f) → va_S (fun q : Nat => s.heap.size ≤ q) s.heap H locs → lv_has ls 4 [(0, .ref b), (1, .ref xo), (2, .ref mo), (3, .int i)] → W p l e room_1 s m #[Value.ref b] below meth c H locs (cells + 110) (slots + 2634) (lw_Z below #[Value.ref b] s) (F0 m 1710 ls [])) {τ ν : Nat → Nat} {ρ : Nat → Nat → Nat} {L : List Nat} {f : Nat → va_E} {H : Heap} {locs : List Loc} {ls : Array Slot}  (hI : lz_I κ xo mo τ ν ρ L f) (hP : va_P (dC, dI) vwCl (va_pl L f) H) (hD : va_D (fun q : Nat => s.heap.size ≤ q) (va_pl L f)) (hS : va_S (fun q : Nat => s.heap.size ≤ q) s.heap H locs) (hl : lv_has ls 4 [(0, .ref b), (1, .ref xo), (2, .ref mo), (3, .int i)]) : W p l e room_1 s m #[Value.ref b] below meth c H locs cells slots (lw_Z below #[Value.ref b] s) (F0 m 898 ls []) := by
  obtain ⟨hx, hb, hr, hml, hown, hts, hX, hbl, hlocks, hgv⟩ := id C0
  have hown : s.vm.findClass RL = some m.cls := hown
  have hA : ∀ q : Nat, s.heap.size ≤ q → (fun q : Nat => s.heap.size ≤ q) q := fun _ h => h
  have hbA : ¬ (fun q : Nat => s.heap.size ≤ q) b := Nat.not_le.mpr hbl
  refine tn_6 hI (fun hG hT hxo hmo hJ hIM => ?_)
  clear hI
  have hrow := (tpg_13 hG hmo).1; have hims := (tpg_13 hG hmo).2.1
  refine lv_aload_n hx hb dL_law_898 rfl (lv_at hl 1 rfl) ?_
  refine lv_aload_n hx hb dL_law_899 rfl (lv_at hl 0 rfl) ?_
  refine lv_iload_n hx hb dL_law_900 rfl (lv_at hl 3 rfl) ?_
  refine lv_iconst (v := 1) hx hb dL_law_901 (by decide) ?_
  refine lv_iadd hx hb dL_law_902 ?_
  refine lv_topi (fun z1 ez1 => ?_)
  have iz1 : z1.toInt = i.toInt + 1 := zi_add ez1 rfl (show (1 : Int32).toInt = 1 from rfl) (by omega) (by omega)
  refine va_sld hx hb hX hbl hbA hS (vp_in_iff.mpr ⟨by omega, by omega⟩) dL_law_903 ?_
  refine lv_topi (fun y2 ey2 => ?_)
  obtain rfl : y2 = xs (9 * k + 1) := ey2.trans (congrArg xs (show z1.toInt.toNat = 9 * k + 1 by omega))
  refine lv_aload_n hx hb dL_law_904 rfl (lv_at hl 0 rfl) ?_
  refine lv_iload_n hx hb dL_law_905 rfl (lv_at hl 3 rfl) ?_
  refine lv_iconst (v := 2) hx hb dL_law_906 (by decide) ?_
  refine lv_iadd hx hb dL_law_907 ?_
  refine lv_topi (fun z3 ez3 => ?_)
  have iz3 : z3.toInt = i.toInt + 2 := zi_add ez3 rfl (show (2 : Int32).toInt = 2 from rfl) (by omega) (by omega)
  refine va_sld hx hb hX hbl hbA hS (vp_in_iff.mpr ⟨by omega, by omega⟩) dL_law_908 ?_
  refine lv_topi (fun y4 ey4 => ?_)
  obtain rfl : y4 = xs (9 * k + 2) := ey4.trans (congrArg xs (show z3.toInt.toNat = 9 * k + 2 by omega))
  refine lv_aload_n hx hb dL_law_909 rfl (lv_at hl 0 rfl) ?_
  refine lv_iload_n hx hb dL_law_910 rfl (lv_at hl 3 rfl) ?_
  refine lv_iconst (v := 3) hx hb dL_law_911 (by decide) ?_
  refine lv_iadd hx hb dL_law_912 ?_
  refine lv_topi (fun z5 ez5 => ?_)
  have iz5 : z5.toInt = i.toInt + 3 := zi_add ez5 rfl (show (3 : Int32).toInt = 3 from rfl) (by omega) (by omega)
  refine va_sld hx hb hX hbl hbA hS (vp_in_iff.mpr ⟨by omega, by omega⟩) dL_law_913 ?_
  refine lv_topi (fun y6 ey6 => ?_)
  obtain rfl : y6 = xs (9 * k + 3) := ey6.trans (congrArg xs (show z5.toInt.toNat = 9 * k + 3 by omega))
  refine tgk_12 hG hxo (fun y7 y8 y9 y10 y11 y12 => ?_)
  refine tpk_12 hT hxo (fun o13_x6 hf_o13 => ?_)
  refine tpk_pos (tp_in hG hxo (by decide)) hf_o13 (fun q14 eq14 => ?_)
  have hFc := tp_fr hD hS hA
  refine va_calli (va_runV (As := [.int (xs (9 * k + 1)), .int (xs (9 * k + 2)), .int (xs (9 * k + 3))]) (rest := []) ⟨hx, hb, hml, hown, hts⟩ (t_X11_force l dC dI _ (mo_O κ) κ τ ν ρ L f hG hT xo (xs (9 * k + 1)) (xs (9 * k + 2)) (xs (9 * k + 3)) hxo) (cwV 3 hts gz_X11_force rfl rfl rfl ⟨rfl, pd_X11_force⟩ ⟨Nat.le_of_ble_eq_true rfl, Nat.le_of_ble_eq_true rfl⟩) ⟨pz_blind, va_recv hK hP (ci := 11) (q0 := q14) rfl eq14, pz_pre hP hK hD hN⟩ rfl rfl hl.1 rfl (lv_room (Nat.le_of_ble_eq_true rfl)) dL_law_914 ⟨by show _ ≤ 600000; omega, by show _ ≤ 7302249; omega⟩) hS (fun q _ h => hFc q h) hFc (fun r15 f17 t H1 locs ht hvm hw16 hB hz1 hk1 hS => ?_)
  refine tn_4 hw16 (fun hT hF18 hw16r hw16p => ?_); clear hw16
  have hJ : mo_RI (-1) 0 (mo_R (mo_i (f17 (ρ mo 2)))) := by rw [hF18 _ (by rw [hrow]; decide)]; exact hJ
  have hIM : mo_IM (mo_R (mo_i (f17 (ρ mo 3)))) := by rw [hF18 _ (by rw [hims]; decide)]; exact hIM
  have hP := hB.1; rw [ht] at hP; have hD := tp_ad f17 hD; clear hB hFc hz1 hk1; subst ht; generalize t.heap = H at hP hS ⊢
  refine lv_pop hx hb dL_law_917 rfl ?_
  refine lv_aload_n hx hb dL_law_918 rfl (lv_at hl 2 rfl) ?_
  refine lv_aload_n hx hb dL_law_919 rfl (lv_at hl 0 rfl) ?_
  refine lv_iload_n hx hb dL_law_920 rfl (lv_at hl 3 rfl) ?_
  refine lv_iconst (v := 1) hx hb dL_law_921 (by decide) ?_
  refine lv_iadd hx hb dL_law_922 ?_
  refine lv_topi (fun z20 ez20 => ?_)
  have iz20 : z20.toInt = i.toInt + 1 := zi_add ez20 rfl (show (1 : Int32).toInt = 1 from rfl) (by omega) (by omega)
  refine va_sld hx hb hX hbl hbA hS (vp_in_iff.mpr ⟨by omega, by omega⟩) dL_law_923 ?_
  refine lv_topi (fun y21 ey21 => ?_)
  obtain rfl : y21 = xs (9 * k + 1) := ey21.trans (congrArg xs (show z20.toInt.toNat = 9 * k + 1 by omega))
  refine lv_aload_n hx hb dL_law_924 rfl (lv_at hl 0 rfl) ?_
  refine lv_iload_n hx hb dL_law_925 rfl (lv_at hl 3 rfl) ?_
  refine lv_iconst (v := 2) hx hb dL_law_926 (by decide) ?_
  refine lv_iadd hx hb dL_law_927 ?_
  refine lv_topi (fun z22 ez22 => ?_)
  have iz22 : z22.toInt = i.toInt + 2 := zi_add ez22 rfl (show (2 : Int32).toInt = 2 from rfl) (by omega) (by omega)
  refine va_sld hx hb hX hbl hbA hS (vp_in_iff.mpr ⟨by omega, by omega⟩) dL_law_928 ?_
  refine lv_topi (fun y23 ey23 => ?_)
  obtain rfl : y23 = xs (9 * k + 2) := ey23.trans (congrArg xs (show z22.toInt.toNat = 9 * k + 2 by omega))
  refine lv_aload_n hx hb dL_law_929 rfl (lv_at hl 0 rfl) ?_
  refine lv_iload_n hx hb dL_law_930 rfl (lv_at hl 3 rfl) ?_
  refine lv_iconst (v := 3) hx hb dL_law_931 (by decide) ?_
  refine lv_iadd hx hb dL_law_932 ?_
  refine lv_topi (fun z24 ez24 => ?_)
  have iz24 : z24.toInt = i.toInt + 3 := zi_add ez24 rfl (show (3 : Int32).toInt = 3 from rfl) (by omega) (by omega)
  refine va_sld hx hb hX hbl hbA hS (vp_in_iff.mpr ⟨by omega, by omega⟩) dL_law_933 ?_
  refine lv_topi (fun y25 ey25 => ?_)
  obtain rfl : y25 = xs (9 * k + 3) := ey25.trans (congrArg xs (show z24.toInt.toNat = 9 * k + 3 by omega))
  refine tgk_13 hG hmo (fun y26 y27 y28 y29 y30 y31 y32 y33 y34 y35 y36 y37 y38 y39 y40 y41 y42 y43 y44 y45 y46 y47 y48 y49 y50 => ?_)
  refine tpk_13 hT hmo (fun o51_x0 o51_x1 o51_x7 o51_x9 o51_x10 o51_x11 o51_x12 o51_x13 o51_x14 o51_x15 o51_x16 o51_x17 o51_x18 o51_x19 o51_x20 o51_x22 o51_x25 o51_x28 o51_x29 o51_x32 o51_x33 o51_x34 o51_x35 o51_x36 o51_x37 o51_x38 o51_x47 o51_x48 hf_o51 ro51_0 ro51_1 ro51_2 ro51_3 ro51_4 ro51_5 ro51_6 ro51_7 ro51_8 ro51_9 ro51_10 ro51_11 ro51_12 ro51_13 => ?_)
  refine tpk_pos (tp_in hG hmo (by decide)) hf_o51 (fun q52 eq52 => ?_)
  have hFc := tp_fr hD hS hA
  refine va_calli (va_runV (As := [.int (xs (9 * k + 1)), .int (xs (9 * k + 2)), .int (xs (9 * k + 3))]) (rest := []) ⟨hx, hb, hml, hown, hts⟩ (t_X12_force l dC dI _ κ τ ν ρ L f17 hG hT mo (xs (9 * k + 1)) (xs (9 * k + 2)) (xs (9 * k + 3)) hmo hJ) (cwV 3 hts gz_X12_force rfl rfl rfl ⟨rfl, pd_X12_force⟩ ⟨Nat.le_of_ble_eq_true rfl, Nat.le_of_ble_eq_true rfl⟩) ⟨pz_blind, va_recv hK hP (ci := 12) (q0 := q52) rfl eq52, pz_pre hP hK hD hN⟩ rfl rfl hl.1 rfl (lv_room (Nat.le_of_ble_eq_true rfl)) dL_law_934 ⟨by show _ ≤ 600000; omega, by show _ ≤ 7302249; omega⟩) hS (fun q _ h => hFc q h) hFc (fun r53 f55 t H1 locs ht hvm hw54 hB hz1 hk1 hS => ?_)
  refine tn_4 hw54 (fun hT hF56 hw54r hw54p => ?_); clear hw54
  have hJ : mo_RI (-1) 0 (mo_R (mo_i (f55 (ρ mo 2)))) := hw54p
  have hIM : mo_IM (mo_R (mo_i (f55 (ρ mo 3)))) := by rw [hF56 _ (by rw [hims]; decide)]; exact hIM
  have hP := hB.1; rw [ht] at hP; have hD := tp_ad f55 hD; clear hB hFc hz1 hk1; subst ht; generalize t.heap = H at hP hS ⊢
  refine lv_pop hx hb dL_law_937 rfl ?_
  refine lv_goto (tgt := 1710) hx hb dL_law_938 (by decide) ?_
  refine tp_widen (cells + 110) (slots + 2634) (by omega) (by omega) ?_
  exact kk τ ν ρ L f55 _ _ _ ⟨hG, hT, hxo, hmo, hJ, hIM⟩ hP hD hS (lv_sub hl [0, 1, 2, 3] rfl)
set_option maxHeartbeats 8000000 in
set_option maxRecDepth 100000 in
theorem law_case_19 {p : Program} {l : Launch} {e : Env} {s : State} {m : MethodId} {below : List Frame} {meth : Method} {c : Code} {b N9 : Nat} {xs : Nat → Int32} {dC : Nat → ClassId} {dI : Nat → Nat → Nat} {κ : Nat → ClassId} {adK adV : Nat → Nat} {zv : Option Nat} {xo mo : Nat} {k cells slots : Nat} {i : Int32} (C0 : lw_At p s m meth c b N9 xs) (hN9 : N9 ≤ 4608) (hN : nz_ok s) (hZ : pw_Z adK adV zv (fun q : Nat => s.heap.size ≤ q) s s.heap) (hK : va_K (dC, dI) vwCl (tp_K κ) s) (hk : 9 * k + 9 ≤ N9) (hi : i.toInt = 9 * (k : Int)) (hc : cells + 110 ≤ 600000) (hs : slots + 2634 ≤ 7302249) (kk : ∀ (τ ν : Nat → Nat) (ρ : Nat → Nat → Nat) (L : List Nat) (f : Nat → va_E) (H : Heap) (locs : List Loc) (ls : Array Slot), lz_I κ xo mo τ ν ρ L f → va_P (dC, dI) vwCl (va_pl L f) H → va_D (fun q : Nat => s.heap.size ≤ q) (va_pl L f) → va_S (fun q : Nat => s.heap.size ≤ q) s.heap H locs → lv_has ls 4 [(0, .ref b), (1, .ref xo), (2, .ref mo), (3, .int i)] → W p l e room_1 s m #[Value.ref b] below meth c H locs (cells + 110) (slots + 2634) (lw_Z below #[Value.ref b] s) (F0 m 1710 ls [])) {τ ν : Nat → Nat} {ρ : Nat → Nat → Nat} {L : List Nat} {f : Nat → va_E} {H : Heap} {locs : List Loc} {ls : Array Slot}  (hI : lz_I κ xo mo τ ν ρ L f) (hP : va_P (dC, dI) vwCl (va_pl L f) H) (hD : va_D (fun q : Nat => s.heap.size ≤ q) (va_pl L f)) (hS : va_S (fun q : Nat => s.heap.size ≤ q) s.heap H locs) (hl : lv_has ls 4 [(0, .ref b), (1, .ref xo), (2, .ref mo), (3, .int i)]) : W p l e room_1 s m #[Value.ref b] below meth c H locs cells slots (lw_Z below #[Value.ref b] s) (F0 m 941 ls []) := by
  obtain ⟨hx, hb, hr, hml, hown, hts, hX, hbl, hlocks, hgv⟩ := id C0
  have hown : s.vm.findClass RL = some m.cls := hown
  have hA : ∀ q : Nat, s.heap.size ≤ q → (fun q : Nat => s.heap.size ≤ q) q := fun _ h => h
  have hbA : ¬ (fun q : Nat => s.heap.size ≤ q) b := Nat.not_le.mpr hbl
  refine tn_6 hI (fun hG hT hxo hmo hJ hIM => ?_)
  clear hI
  have hrow := (tpg_13 hG hmo).1; have hims := (tpg_13 hG hmo).2.1
  refine lv_aload_n hx hb dL_law_941 rfl (lv_at hl 1 rfl) ?_
  refine lv_aload_n hx hb dL_law_942 rfl (lv_at hl 0 rfl) ?_
  refine lv_iload_n hx hb dL_law_943 rfl (lv_at hl 3 rfl) ?_
  refine lv_iconst (v := 1) hx hb dL_law_944 (by decide) ?_
  refine lv_iadd hx hb dL_law_945 ?_
  refine lv_topi (fun z1 ez1 => ?_)
  have iz1 : z1.toInt = i.toInt + 1 := zi_add ez1 rfl (show (1 : Int32).toInt = 1 from rfl) (by omega) (by omega)
  refine va_sld hx hb hX hbl hbA hS (vp_in_iff.mpr ⟨by omega, by omega⟩) dL_law_946 ?_
  refine lv_topi (fun y2 ey2 => ?_)
  obtain rfl : y2 = xs (9 * k + 1) := ey2.trans (congrArg xs (show z1.toInt.toNat = 9 * k + 1 by omega))
  refine lv_aload_n hx hb dL_law_947 rfl (lv_at hl 0 rfl) ?_
  refine lv_iload_n hx hb dL_law_948 rfl (lv_at hl 3 rfl) ?_
  refine lv_iconst (v := 2) hx hb dL_law_949 (by decide) ?_
  refine lv_iadd hx hb dL_law_950 ?_
  refine lv_topi (fun z3 ez3 => ?_)
  have iz3 : z3.toInt = i.toInt + 2 := zi_add ez3 rfl (show (2 : Int32).toInt = 2 from rfl) (by omega) (by omega)
  refine va_sld hx hb hX hbl hbA hS (vp_in_iff.mpr ⟨by omega, by omega⟩) dL_law_951 ?_
  refine lv_topi (fun y4 ey4 => ?_)
  obtain rfl : y4 = xs (9 * k + 2) := ey4.trans (congrArg xs (show z3.toInt.toNat = 9 * k + 2 by omega))
  refine tgk_12 hG hxo (fun y5 y6 y7 y8 y9 y10 => ?_)
  refine tpk_12 hT hxo (fun o11_x6 hf_o11 => ?_)
  refine tpk_pos (tp_in hG hxo (by decide)) hf_o11 (fun q12 eq12 => ?_)
  have hFc := tp_fr hD hS hA
  refine va_calli (va_runV (As := [.int (xs (9 * k + 1)), .int (xs (9 * k + 2))]) (rest := []) ⟨hx, hb, hml, hown, hts⟩ (t_X11_bill l dC dI _ (mo_O κ) κ τ ν ρ L f hG hT xo (xs (9 * k + 1)) (xs (9 * k + 2)) hxo) (cwV 2 hts gz_X11_bill rfl rfl rfl ⟨rfl, pd_X11_bill⟩ ⟨Nat.le_of_ble_eq_true rfl, Nat.le_of_ble_eq_true rfl⟩) ⟨pz_blind, va_recv hK hP (ci := 11) (q0 := q12) rfl eq12, pz_pre hP hK hD hN⟩ rfl rfl hl.1 rfl (lv_room (Nat.le_of_ble_eq_true rfl)) dL_law_952 ⟨by show _ ≤ 600000; omega, by show _ ≤ 7302249; omega⟩) hS (fun q _ h => hFc q h) hFc (fun r13 f15 t H1 locs ht hvm hw14 hB hz1 hk1 hS => ?_)
  refine tn_4 hw14 (fun hT hF16 hw14r hw14p => ?_); clear hw14
  have hJ : mo_RI (-1) 0 (mo_R (mo_i (f15 (ρ mo 2)))) := by rw [hF16 _ (by rw [hrow]; decide)]; exact hJ
  have hIM : mo_IM (mo_R (mo_i (f15 (ρ mo 3)))) := by rw [hF16 _ (by rw [hims]; decide)]; exact hIM
  have hP := hB.1; rw [ht] at hP; have hD := tp_ad f15 hD; clear hB hFc hz1 hk1; subst ht; generalize t.heap = H at hP hS ⊢
  refine lv_pop hx hb dL_law_955 rfl ?_
  refine lv_aload_n hx hb dL_law_956 rfl (lv_at hl 2 rfl) ?_
  refine lv_aload_n hx hb dL_law_957 rfl (lv_at hl 0 rfl) ?_
  refine lv_iload_n hx hb dL_law_958 rfl (lv_at hl 3 rfl) ?_
  refine lv_iconst (v := 1) hx hb dL_law_959 (by decide) ?_
  refine lv_iadd hx hb dL_law_960 ?_
  refine lv_topi (fun z18 ez18 => ?_)
  have iz18 : z18.toInt = i.toInt + 1 := zi_add ez18 rfl (show (1 : Int32).toInt = 1 from rfl) (by omega) (by omega)
  refine va_sld hx hb hX hbl hbA hS (vp_in_iff.mpr ⟨by omega, by omega⟩) dL_law_961 ?_
  refine lv_topi (fun y19 ey19 => ?_)
  obtain rfl : y19 = xs (9 * k + 1) := ey19.trans (congrArg xs (show z18.toInt.toNat = 9 * k + 1 by omega))
  refine lv_aload_n hx hb dL_law_962 rfl (lv_at hl 0 rfl) ?_
  refine lv_iload_n hx hb dL_law_963 rfl (lv_at hl 3 rfl) ?_
  refine lv_iconst (v := 2) hx hb dL_law_964 (by decide) ?_
  refine lv_iadd hx hb dL_law_965 ?_
  refine lv_topi (fun z20 ez20 => ?_)
  have iz20 : z20.toInt = i.toInt + 2 := zi_add ez20 rfl (show (2 : Int32).toInt = 2 from rfl) (by omega) (by omega)
  refine va_sld hx hb hX hbl hbA hS (vp_in_iff.mpr ⟨by omega, by omega⟩) dL_law_966 ?_
  refine lv_topi (fun y21 ey21 => ?_)
  obtain rfl : y21 = xs (9 * k + 2) := ey21.trans (congrArg xs (show z20.toInt.toNat = 9 * k + 2 by omega))
  refine tgk_13 hG hmo (fun y22 y23 y24 y25 y26 y27 y28 y29 y30 y31 y32 y33 y34 y35 y36 y37 y38 y39 y40 y41 y42 y43 y44 y45 y46 => ?_)
  refine tpk_13 hT hmo (fun o47_x0 o47_x1 o47_x7 o47_x9 o47_x10 o47_x11 o47_x12 o47_x13 o47_x14 o47_x15 o47_x16 o47_x17 o47_x18 o47_x19 o47_x20 o47_x22 o47_x25 o47_x28 o47_x29 o47_x32 o47_x33 o47_x34 o47_x35 o47_x36 o47_x37 o47_x38 o47_x47 o47_x48 hf_o47 ro47_0 ro47_1 ro47_2 ro47_3 ro47_4 ro47_5 ro47_6 ro47_7 ro47_8 ro47_9 ro47_10 ro47_11 ro47_12 ro47_13 => ?_)
  refine tpk_pos (tp_in hG hmo (by decide)) hf_o47 (fun q48 eq48 => ?_)
  have hFc := tp_fr hD hS hA
  refine va_calli (va_runV (As := [.int (xs (9 * k + 1)), .int (xs (9 * k + 2))]) (rest := []) ⟨hx, hb, hml, hown, hts⟩ (t_X12_bill l dC dI _ κ τ ν ρ L f15 hG hT mo (xs (9 * k + 1)) (xs (9 * k + 2)) hmo hJ) (cwV 2 hts gz_X12_bill rfl rfl rfl ⟨rfl, pd_X12_bill⟩ ⟨Nat.le_of_ble_eq_true rfl, Nat.le_of_ble_eq_true rfl⟩) ⟨pz_blind, va_recv hK hP (ci := 12) (q0 := q48) rfl eq48, pz_pre hP hK hD hN⟩ rfl rfl hl.1 rfl (lv_room (Nat.le_of_ble_eq_true rfl)) dL_law_967 ⟨by show _ ≤ 600000; omega, by show _ ≤ 7302249; omega⟩) hS (fun q _ h => hFc q h) hFc (fun r49 f51 t H1 locs ht hvm hw50 hB hz1 hk1 hS => ?_)
  refine tn_4 hw50 (fun hT hF52 hw50r hw50p => ?_); clear hw50
  have hJ : mo_RI (-1) 0 (mo_R (mo_i (f51 (ρ mo 2)))) := hw50p
  have hIM : mo_IM (mo_R (mo_i (f51 (ρ mo 3)))) := by rw [hF52 _ (by rw [hims]; decide)]; exact hIM
  have hP := hB.1; rw [ht] at hP; have hD := tp_ad f51 hD; clear hB hFc hz1 hk1; subst ht; generalize t.heap = H at hP hS ⊢
  refine lv_pop hx hb dL_law_970 rfl ?_
  refine lv_goto (tgt := 1710) hx hb dL_law_971 (by decide) ?_
  refine tp_widen (cells + 110) (slots + 2634) (by omega) (by omega) ?_
  exact kk τ ν ρ L f51 _ _ _ ⟨hG, hT, hxo, hmo, hJ, hIM⟩ hP hD hS (lv_sub hl [0, 1, 2, 3] rfl)
set_option maxHeartbeats 8000000 in
set_option maxRecDepth 100000 in
theorem law_case_20 {p : Program} {l : Launch} {e : Env} {s : State} {m : MethodId} {below : List Frame} {meth : Method} {c : Code} {b N9 : Nat} {xs : Nat → Int32} {dC : Nat → ClassId} {dI : Nat → Nat → Nat} {κ : Nat → ClassId} {adK adV : Nat → Nat} {zv : Option Nat} {xo mo : Nat} {k cells slots : Nat} {i : Int32} (C0 : lw_At p s m meth c b N9 xs) (hN9 : N9 ≤ 4608) (hN : nz_ok s) (hZ : pw_Z adK adV zv (fun q : Nat => s.heap.size ≤ q) s s.heap) (hK : va_K (dC, dI) vwCl (tp_K κ) s) (hk : 9 * k + 9 ≤ N9) (hi : i.toInt = 9 * (k : Int)) (hc : cells + 110 ≤ 600000) (hs : slots + 2634 ≤ 7302249) (kk : ∀ (τ ν : Nat → Nat) (ρ : Nat → Nat → Nat) (L : List Nat) (f : Nat → va_E) (H : Heap) (locs : List Loc) (ls : Array Slot), lz_I κ xo mo τ ν ρ L f → va_P (dC, dI) vwCl (va_pl L f) H → va_D (fun q : Nat => s.heap.size ≤ q) (va_pl L f) → va_S (fun q : Nat => s.heap.size ≤ q) s.heap H locs → lv_has ls 4 [(0, .ref b), (1, .ref xo), (2, .ref mo), (3, .int i)] → W p l e room_1 s m #[Value.ref b] below meth c H locs (cells + 110) (slots + 2634) (lw_Z below #[Value.ref b] s) (F0 m 1710 ls [])) {τ ν : Nat → Nat} {ρ : Nat → Nat → Nat} {L : List Nat} {f : Nat → va_E} {H : Heap} {locs : List Loc} {ls : Array Slot}  (hI : lz_I κ xo mo τ ν ρ L f) (hP : va_P (dC, dI) vwCl (va_pl L f) H) (hD : va_D (fun q : Nat => s.heap.size ≤ q) (va_pl L f)) (hS : va_S (fun q : Nat => s.heap.size ≤ q) s.heap H locs) (hl : lv_has ls 4 [(0, .ref b), (1, .ref xo), (2, .ref mo), (3, .int i)]) : W p l e room_1 s m #[Value.ref b] below meth c H locs cells slots (lw_Z below #[Value.ref b] s) (F0 m 974 ls []) := by
  obtain ⟨hx, hb, hr, hml, hown, hts, hX, hbl, hlocks, hgv⟩ := id C0
  have hown : s.vm.findClass RL = some m.cls := hown
  have hA : ∀ q : Nat, s.heap.size ≤ q → (fun q : Nat => s.heap.size ≤ q) q := fun _ h => h
  have hbA : ¬ (fun q : Nat => s.heap.size ≤ q) b := Nat.not_le.mpr hbl
  refine tn_6 hI (fun hG hT hxo hmo hJ hIM => ?_)
  clear hI
  have hrow := (tpg_13 hG hmo).1; have hims := (tpg_13 hG hmo).2.1
  refine lv_aload_n hx hb dL_law_974 rfl (lv_at hl 1 rfl) ?_
  refine lv_aload_n hx hb dL_law_975 rfl (lv_at hl 0 rfl) ?_
  refine lv_iload_n hx hb dL_law_976 rfl (lv_at hl 3 rfl) ?_
  refine lv_iconst (v := 1) hx hb dL_law_977 (by decide) ?_
  refine lv_iadd hx hb dL_law_978 ?_
  refine lv_topi (fun z1 ez1 => ?_)
  have iz1 : z1.toInt = i.toInt + 1 := zi_add ez1 rfl (show (1 : Int32).toInt = 1 from rfl) (by omega) (by omega)
  refine va_sld hx hb hX hbl hbA hS (vp_in_iff.mpr ⟨by omega, by omega⟩) dL_law_979 ?_
  refine lv_topi (fun y2 ey2 => ?_)
  obtain rfl : y2 = xs (9 * k + 1) := ey2.trans (congrArg xs (show z1.toInt.toNat = 9 * k + 1 by omega))
  refine lv_aload_n hx hb dL_law_980 rfl (lv_at hl 0 rfl) ?_
  refine lv_iload_n hx hb dL_law_981 rfl (lv_at hl 3 rfl) ?_
  refine lv_iconst (v := 2) hx hb dL_law_982 (by decide) ?_
  refine lv_iadd hx hb dL_law_983 ?_
  refine lv_topi (fun z3 ez3 => ?_)
  have iz3 : z3.toInt = i.toInt + 2 := zi_add ez3 rfl (show (2 : Int32).toInt = 2 from rfl) (by omega) (by omega)
  refine va_sld hx hb hX hbl hbA hS (vp_in_iff.mpr ⟨by omega, by omega⟩) dL_law_984 ?_
  refine lv_topi (fun y4 ey4 => ?_)
  obtain rfl : y4 = xs (9 * k + 2) := ey4.trans (congrArg xs (show z3.toInt.toNat = 9 * k + 2 by omega))
  refine lv_aload_n hx hb dL_law_985 rfl (lv_at hl 0 rfl) ?_
  refine lv_iload_n hx hb dL_law_986 rfl (lv_at hl 3 rfl) ?_
  refine lv_iconst (v := 3) hx hb dL_law_987 (by decide) ?_
  refine lv_iadd hx hb dL_law_988 ?_
  refine lv_topi (fun z5 ez5 => ?_)
  have iz5 : z5.toInt = i.toInt + 3 := zi_add ez5 rfl (show (3 : Int32).toInt = 3 from rfl) (by omega) (by omega)
  refine va_sld hx hb hX hbl hbA hS (vp_in_iff.mpr ⟨by omega, by omega⟩) dL_law_989 ?_
  refine lv_topi (fun y6 ey6 => ?_)
  obtain rfl : y6 = xs (9 * k + 3) := ey6.trans (congrArg xs (show z5.toInt.toNat = 9 * k + 3 by omega))
  refine lv_aload_n hx hb dL_law_990 rfl (lv_at hl 0 rfl) ?_
  refine lv_iload_n hx hb dL_law_991 rfl (lv_at hl 3 rfl) ?_
  refine lv_iconst (v := 4) hx hb dL_law_992 (by decide) ?_
  refine lv_iadd hx hb dL_law_993 ?_
  refine lv_topi (fun z7 ez7 => ?_)
  have iz7 : z7.toInt = i.toInt + 4 := zi_add ez7 rfl (show (4 : Int32).toInt = 4 from rfl) (by omega) (by omega)
  refine va_sld hx hb hX hbl hbA hS (vp_in_iff.mpr ⟨by omega, by omega⟩) dL_law_994 ?_
  refine lv_topi (fun y8 ey8 => ?_)
  obtain rfl : y8 = xs (9 * k + 4) := ey8.trans (congrArg xs (show z7.toInt.toNat = 9 * k + 4 by omega))
  refine lv_aload_n hx hb dL_law_995 rfl (lv_at hl 0 rfl) ?_
  refine lv_iload_n hx hb dL_law_996 rfl (lv_at hl 3 rfl) ?_
  refine lv_iconst (v := 5) hx hb dL_law_997 (by decide) ?_
  refine lv_iadd hx hb dL_law_998 ?_
  refine lv_topi (fun z9 ez9 => ?_)
  have iz9 : z9.toInt = i.toInt + 5 := zi_add ez9 rfl (show (5 : Int32).toInt = 5 from rfl) (by omega) (by omega)
  refine va_sld hx hb hX hbl hbA hS (vp_in_iff.mpr ⟨by omega, by omega⟩) dL_law_999 ?_
  refine lv_topi (fun y10 ey10 => ?_)
  obtain rfl : y10 = xs (9 * k + 5) := ey10.trans (congrArg xs (show z9.toInt.toNat = 9 * k + 5 by omega))
  refine tgk_12 hG hxo (fun y11 y12 y13 y14 y15 y16 => ?_)
  refine tpk_12 hT hxo (fun o17_x6 hf_o17 => ?_)
  refine tpk_pos (tp_in hG hxo (by decide)) hf_o17 (fun q18 eq18 => ?_)
  have hFc := tp_fr hD hS hA
  refine va_calli (va_runV (As := [.int (xs (9 * k + 1)), .int (xs (9 * k + 2)), .int (xs (9 * k + 3)), .int (xs (9 * k + 4)), .int (xs (9 * k + 5))]) (rest := []) ⟨hx, hb, hml, hown, hts⟩ (t_X11_feed l dC dI _ (mo_O κ) κ τ ν ρ L f hG hT xo (xs (9 * k + 1)) (xs (9 * k + 2)) (xs (9 * k + 3)) (xs (9 * k + 4)) (xs (9 * k + 5)) hxo) (cwV 5 hts gz_X11_feed rfl rfl rfl ⟨rfl, pd_X11_feed⟩ ⟨Nat.le_of_ble_eq_true rfl, Nat.le_of_ble_eq_true rfl⟩) ⟨pz_blind, va_recv hK hP (ci := 11) (q0 := q18) rfl eq18, pz_pre hP hK hD hN⟩ rfl rfl hl.1 rfl (lv_room (Nat.le_of_ble_eq_true rfl)) dL_law_1000 ⟨by show _ ≤ 600000; omega, by show _ ≤ 7302249; omega⟩) hS (fun q _ h => hFc q h) hFc (fun r19 f21 t H1 locs ht hvm hw20 hB hz1 hk1 hS => ?_)
  refine tn_4 hw20 (fun hT hF22 hw20r hw20p => ?_); clear hw20
  have hJ : mo_RI (-1) 0 (mo_R (mo_i (f21 (ρ mo 2)))) := by rw [hF22 _ (by rw [hrow]; decide)]; exact hJ
  have hIM : mo_IM (mo_R (mo_i (f21 (ρ mo 3)))) := by rw [hF22 _ (by rw [hims]; decide)]; exact hIM
  have hP := hB.1; rw [ht] at hP; have hD := tp_ad f21 hD; clear hB hFc hz1 hk1; subst ht; generalize t.heap = H at hP hS ⊢
  refine lv_pop hx hb dL_law_1003 rfl ?_
  refine lv_aload_n hx hb dL_law_1004 rfl (lv_at hl 2 rfl) ?_
  refine lv_aload_n hx hb dL_law_1005 rfl (lv_at hl 0 rfl) ?_
  refine lv_iload_n hx hb dL_law_1006 rfl (lv_at hl 3 rfl) ?_
  refine lv_iconst (v := 1) hx hb dL_law_1007 (by decide) ?_
  refine lv_iadd hx hb dL_law_1008 ?_
  refine lv_topi (fun z24 ez24 => ?_)
  have iz24 : z24.toInt = i.toInt + 1 := zi_add ez24 rfl (show (1 : Int32).toInt = 1 from rfl) (by omega) (by omega)
  refine va_sld hx hb hX hbl hbA hS (vp_in_iff.mpr ⟨by omega, by omega⟩) dL_law_1009 ?_
  refine lv_topi (fun y25 ey25 => ?_)
  obtain rfl : y25 = xs (9 * k + 1) := ey25.trans (congrArg xs (show z24.toInt.toNat = 9 * k + 1 by omega))
  refine lv_aload_n hx hb dL_law_1010 rfl (lv_at hl 0 rfl) ?_
  refine lv_iload_n hx hb dL_law_1011 rfl (lv_at hl 3 rfl) ?_
  refine lv_iconst (v := 2) hx hb dL_law_1012 (by decide) ?_
  refine lv_iadd hx hb dL_law_1013 ?_
  refine lv_topi (fun z26 ez26 => ?_)
  have iz26 : z26.toInt = i.toInt + 2 := zi_add ez26 rfl (show (2 : Int32).toInt = 2 from rfl) (by omega) (by omega)
  refine va_sld hx hb hX hbl hbA hS (vp_in_iff.mpr ⟨by omega, by omega⟩) dL_law_1014 ?_
  refine lv_topi (fun y27 ey27 => ?_)
  obtain rfl : y27 = xs (9 * k + 2) := ey27.trans (congrArg xs (show z26.toInt.toNat = 9 * k + 2 by omega))
  refine lv_aload_n hx hb dL_law_1015 rfl (lv_at hl 0 rfl) ?_
  refine lv_iload_n hx hb dL_law_1016 rfl (lv_at hl 3 rfl) ?_
  refine lv_iconst (v := 3) hx hb dL_law_1017 (by decide) ?_
  refine lv_iadd hx hb dL_law_1018 ?_
  refine lv_topi (fun z28 ez28 => ?_)
  have iz28 : z28.toInt = i.toInt + 3 := zi_add ez28 rfl (show (3 : Int32).toInt = 3 from rfl) (by omega) (by omega)
  refine va_sld hx hb hX hbl hbA hS (vp_in_iff.mpr ⟨by omega, by omega⟩) dL_law_1019 ?_
  refine lv_topi (fun y29 ey29 => ?_)
  obtain rfl : y29 = xs (9 * k + 3) := ey29.trans (congrArg xs (show z28.toInt.toNat = 9 * k + 3 by omega))
  refine lv_aload_n hx hb dL_law_1020 rfl (lv_at hl 0 rfl) ?_
  refine lv_iload_n hx hb dL_law_1021 rfl (lv_at hl 3 rfl) ?_
  refine lv_iconst (v := 4) hx hb dL_law_1022 (by decide) ?_
  refine lv_iadd hx hb dL_law_1023 ?_
  refine lv_topi (fun z30 ez30 => ?_)
  have iz30 : z30.toInt = i.toInt + 4 := zi_add ez30 rfl (show (4 : Int32).toInt = 4 from rfl) (by omega) (by omega)
  refine va_sld hx hb hX hbl hbA hS (vp_in_iff.mpr ⟨by omega, by omega⟩) dL_law_1024 ?_
  refine lv_topi (fun y31 ey31 => ?_)
  obtain rfl : y31 = xs (9 * k + 4) := ey31.trans (congrArg xs (show z30.toInt.toNat = 9 * k + 4 by omega))
  refine lv_aload_n hx hb dL_law_1025 rfl (lv_at hl 0 rfl) ?_
  refine lv_iload_n hx hb dL_law_1026 rfl (lv_at hl 3 rfl) ?_
  refine lv_iconst (v := 5) hx hb dL_law_1027 (by decide) ?_
  refine lv_iadd hx hb dL_law_1028 ?_
  refine lv_topi (fun z32 ez32 => ?_)
  have iz32 : z32.toInt = i.toInt + 5 := zi_add ez32 rfl (show (5 : Int32).toInt = 5 from rfl) (by omega) (by omega)
  refine va_sld hx hb hX hbl hbA hS (vp_in_iff.mpr ⟨by omega, by omega⟩) dL_law_1029 ?_
  refine lv_topi (fun y33 ey33 => ?_)
  obtain rfl : y33 = xs (9 * k + 5) := ey33.trans (congrArg xs (show z32.toInt.toNat = 9 * k + 5 by omega))
  refine tgk_13 hG hmo (fun y34 y35 y36 y37 y38 y39 y40 y41 y42 y43 y44 y45 y46 y47 y48 y49 y50 y51 y52 y53 y54 y55 y56 y57 y58 => ?_)
  refine tpk_13 hT hmo (fun o59_x0 o59_x1 o59_x7 o59_x9 o59_x10 o59_x11 o59_x12 o59_x13 o59_x14 o59_x15 o59_x16 o59_x17 o59_x18 o59_x19 o59_x20 o59_x22 o59_x25 o59_x28 o59_x29 o59_x32 o59_x33 o59_x34 o59_x35 o59_x36 o59_x37 o59_x38 o59_x47 o59_x48 hf_o59 ro59_0 ro59_1 ro59_2 ro59_3 ro59_4 ro59_5 ro59_6 ro59_7 ro59_8 ro59_9 ro59_10 ro59_11 ro59_12 ro59_13 => ?_)
  refine tpk_pos (tp_in hG hmo (by decide)) hf_o59 (fun q60 eq60 => ?_)
  have hFc := tp_fr hD hS hA
  refine va_calli (va_runV (As := [.int (xs (9 * k + 1)), .int (xs (9 * k + 2)), .int (xs (9 * k + 3)), .int (xs (9 * k + 4)), .int (xs (9 * k + 5))]) (rest := []) ⟨hx, hb, hml, hown, hts⟩ (t_X12_feed l dC dI _ κ τ ν ρ L f21 hG hT mo (xs (9 * k + 1)) (xs (9 * k + 2)) (xs (9 * k + 3)) (xs (9 * k + 4)) (xs (9 * k + 5)) hmo hJ) (cwV 5 hts gz_X12_feed rfl rfl rfl ⟨rfl, pd_X12_feed⟩ ⟨Nat.le_of_ble_eq_true rfl, Nat.le_of_ble_eq_true rfl⟩) ⟨pz_blind, va_recv hK hP (ci := 12) (q0 := q60) rfl eq60, pz_pre hP hK hD hN⟩ rfl rfl hl.1 rfl (lv_room (Nat.le_of_ble_eq_true rfl)) dL_law_1030 ⟨by show _ ≤ 600000; omega, by show _ ≤ 7302249; omega⟩) hS (fun q _ h => hFc q h) hFc (fun r61 f63 t H1 locs ht hvm hw62 hB hz1 hk1 hS => ?_)
  refine tn_4 hw62 (fun hT hF64 hw62r hw62p => ?_); clear hw62
  have hJ : mo_RI (-1) 0 (mo_R (mo_i (f63 (ρ mo 2)))) := by rw [hF64 _ (by rw [hrow]; decide)]; exact hJ
  have hIM : mo_IM (mo_R (mo_i (f63 (ρ mo 3)))) := by rw [hF64 _ (by rw [hims]; decide)]; exact hIM
  have hP := hB.1; rw [ht] at hP; have hD := tp_ad f63 hD; clear hB hFc hz1 hk1; subst ht; generalize t.heap = H at hP hS ⊢
  refine lv_pop hx hb dL_law_1033 rfl ?_
  refine lv_goto (tgt := 1710) hx hb dL_law_1034 (by decide) ?_
  refine tp_widen (cells + 110) (slots + 2634) (by omega) (by omega) ?_
  exact kk τ ν ρ L f63 _ _ _ ⟨hG, hT, hxo, hmo, hJ, hIM⟩ hP hD hS (lv_sub hl [0, 1, 2, 3] rfl)

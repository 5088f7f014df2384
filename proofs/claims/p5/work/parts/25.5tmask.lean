set_option maxHeartbeats 4000000 in
set_option maxRecDepth 100000 in
theorem t_X12_feed (l : Launch) (dC : Nat → ClassId) (dI : Nat → Nat → Nat) (sz : Nat) (κ : Nat → ClassId) (τ ν : Nat → Nat) (ρ : Nat → Nat → Nat) (L : List Nat) (f : Nat → va_E) (hG : tp_G τ ν ρ L) (hT : tp_T (mo_O κ) κ τ ν ρ f) (h0 : Nat) (v : Int32) (u : Int32) (a : Int32) (a4 : Int32) (a5 : Int32) (ht_h0 : τ h0 = 13) (hJ : mo_RI (-1) 0 (mo_R (mo_i (f (ρ h0 2))))) : Met l yX12_feed wqX12_feed ({ frames := 3, cells := 0, slots := 0, locals := 800 }) (va_Pc [.ref h0, .int v, .int u, .int a, .int a4, .int a5] (pz_B dC dI (tp_K κ) (va_pl L f) sz)) (va_Qi (fun (r : Int32) (f1 : Nat → va_E) => tp_T (mo_O κ) κ τ ν ρ f1 ∧ tp_F τ [13, 38] f f1 ∧ True ∧ True) (fun (f1 : Nat → va_E) (t : State) => pz_E dC dI (tp_K κ) (va_A (va_pl L f) sz) (va_pl L f1) t) (va_A (va_pl L f) sz)) 0 0 (va_A (va_pl L f) sz) := by
  refine Met.ofW (cc := cX12_feed) (maxL := 6) (ret := some .int) (by decide) rfl ?_
  intro p e s m args below meth c s₁ B hml hv
  obtain ⟨rfl, hsz, hP, hK, hD0, hN⟩ := hv
  have hx := B.exec
  have hb := B.bytes
  have hr := B.returns
  have hts := fun (w : Cond) (h : w ∈ WALL) => atoms_spec (ws := wqX12_feed) B.pre w (List.mem_cons_of_mem _ h)
  have hown : s.vm.findClass RX12 = some m.cls := findClass_of_methodNamed B.named
  have hlocks := B.notSynchronized
  subst hsz
  have hD := hD0.self (sz := s.heap.size)
  generalize hAe : va_A (va_pl L f) s.heap.size = A at hD ⊢
  have hA : ∀ q : Nat, s.heap.size ≤ q → A q := fun q h => by rw [← hAe]; exact Or.inr h
  have hS : va_S A s.heap s.heap [] := va_S.rf
  have hR : tp_F τ [13, 38] f f := tp_F.rf
  have hl := lv_entry ([.ref h0, .int v, .int u, .int a, .int a4, .int a5]) (n := 6) (Nat.le_of_ble_eq_true rfl)
  rw [lg_entry_eq]
  generalize (lg_sl ([.ref h0, .int v, .int u, .int a, .int a4, .int a5]) ++ List.replicate (6 - (lg_sl ([.ref h0, .int v, .int u, .int a, .int a4, .int a5])).length) Slot.unset).toArray = ls at hl ⊢
  have hl : lv_has ls 6 [(0, .ref h0), (1, .int v), (2, .int u), (3, .int a), (4, .int a4), (5, .int a5)] := hl
  refine tgk_13 hG ht_h0 (fun y1 y2 y3 y4 y5 y6 y7 y8 y9 y10 y11 y12 y13 y14 y15 y16 y17 y18 y19 y20 y21 y22 y23 y24 y25 => ?_)
  refine tpk_32 hT y1 (fun g27 hf_o26 => ?_)
  have hI : mo_RI (-1) 0 (mo_R g27) := by have q9 := hJ; rw [hf_o26, mo_i1] at q9; exact q9
  refine lv_aload_n hx hb dX12_feed_0 rfl (lv_at hl 0 rfl) ?_
  refine lv_iconst (v := 0) hx hb dX12_feed_1 (by decide) ?_
  refine tpk_13 hT ht_h0 (fun o28_x0 o28_x1 o28_x7 o28_x9 o28_x10 o28_x11 o28_x12 o28_x13 o28_x14 o28_x15 o28_x16 o28_x17 o28_x18 o28_x19 o28_x20 o28_x22 o28_x25 o28_x28 o28_x29 o28_x32 o28_x33 o28_x34 o28_x35 o28_x36 o28_x37 o28_x38 o28_x47 o28_x48 hf_o28 ro28_0 ro28_1 ro28_2 ro28_3 ro28_4 ro28_5 ro28_6 ro28_7 ro28_8 ro28_9 ro28_10 ro28_11 ro28_12 ro28_13 => ?_)
  refine tpk_pos (tp_in hG ht_h0 (by decide)) hf_o28 (fun q29 eq29 => ?_)
  refine va_put (D := (dC, dI)) (ci := 12) (v := .int 0) (ty := .int) (C := RX12) (T := TX12) (N := 53) hx hb hts hfX12 tyX12 tyX12_ok nmX12 hown hK hP hD hS q29 eq29 rfl 0 (by decide) (hts (.fieldLink RX12 91 "ColdShipsModel" "thrown" "I") wa_209) (fun _ h9 => h9) rfl (tyX12_ok 0 (by decide)) rfl rfl (Nat.le_of_ble_eq_true rfl) dX12_feed_2 (tp_k (.inr (12, [.int 0, .int o28_x1, .ref (ρ h0 2), .ref (ρ h0 3), .ref (ρ h0 4), .ref (ρ h0 5), .ref (ρ h0 6), .int o28_x7, .ref (ρ h0 8), .int o28_x9, .int o28_x10, .int o28_x11, .int o28_x12, .long o28_x13, .int o28_x14, .int o28_x15, .int o28_x16, .int o28_x17, .int o28_x18, .int o28_x19, .int o28_x20, .ref (ρ h0 21), .int o28_x22, .ref (ρ h0 23), .ref (ρ h0 24), .int o28_x25, .ref (ρ h0 26), .ref (ρ h0 27), .int o28_x28, .int o28_x29, .ref (ρ h0 30), .ref (ρ h0 31), .int o28_x32, .long o28_x33, .long o28_x34, .long o28_x35, .int o28_x36, .int o28_x37, .int o28_x38, .ref (ρ h0 39), .ref (ρ h0 40), .ref (ρ h0 41), .ref (ρ h0 42), .ref (ρ h0 43), .ref (ρ h0 44), .ref (ρ h0 45), .ref (ρ h0 46), .int o28_x47, .int o28_x48, .ref (ρ h0 49), .ref (ρ h0 50), .ref (ρ h0 51), .ref (ρ h0 52)])) hD (tp_in hG ht_h0 (by decide)) eq29 (fun f30 H locs hP hD hS g32 k31 => ?_))
  have hT := hT.up ht_h0 g32 k31 ⟨_, _, _, _, _, _, _, _, _, _, _, _, _, _, _, _, _, _, _, _, _, _, _, _, _, _, _, _, rfl, ro28_0, ro28_1, ro28_2, ro28_3, ro28_4, ro28_5, ro28_6, ro28_7, ro28_8, ro28_9, ro28_10, ro28_11, ro28_12, ro28_13⟩
  have hR := hR.up ht_h0 (by decide) k31
  refine lv_aload_n hx hb dX12_feed_5 rfl (lv_at hl 0 rfl) ?_
  refine tpk_pos (tp_in hG ht_h0 (by decide)) g32 (fun q33 eq33 => ?_)
  refine va_get (D := (dC, dI)) (ci := 12) (v := .int o28_x9) (C := RX12) (T := TX12) (N := 53) hx hb hts hfX12 hown hK hP q33 eq33 rfl 9 (by decide) (hts (.fieldLink RX12 252 "ColdShipsModel" "taped" "I") wa_774) (fun _ h9 => h9) rfl dX12_feed_6 ?_
  refine lv_bipush (v := 20) hx hb dX12_feed_9 (by decide) ?_
  refine lv_iadd hx hb dX12_feed_11 ?_
  refine lv_topi (fun z34 ez34 => ?_)
  have iz34 : z34.toInt = o28_x9.toInt + 20 := zi_add ez34 rfl rfl (by omega) (by omega)
  refine lv_sipush (v := 400) hx hb dX12_feed_12 (by decide) ?_
  refine lv_icmp_le (tgt := 20) hx hb dX12_feed_15 (by decide) (fun c35 => ?_) (fun c35 => ?_)
  · have ic35 : z34.toInt ≤ 400 := zi_le rfl rfl c35
    refine lv_aload_n hx hb dX12_feed_20 rfl (lv_at hl 0 rfl) ?_
    refine lv_iload_n hx hb dX12_feed_21 rfl (lv_at hl 1 rfl) ?_
    have hf_36 : f30 (ρ h0 2) = .inl (κ 0, 12967, .inl g27) := (k31 _ (tp_ne y1 ht_h0 (by decide))).trans hf_o26
    have tf37 : mo_hd (tp_fld (f30 h0) 9 = o28_x9.toInt) := tff_9 g32
    have hFc := tp_fr hD hS hA
    refine va_callv (va_runV (As := [.int v]) (rest := []) ⟨hx, hb, hml, hown, hts⟩ (t_X12_four l dC dI _ κ τ ν ρ L f30 hG hT h0 v ht_h0 (by first | (simp only [(mo_un tf37), mo_i1, mo_l1]; exact (show o28_x9.toInt ≤ 396 from by first | omega | decide)) | (rw [(mo_un tf37)]; exact (show o28_x9.toInt ≤ 396 from by first | omega | decide)))) (cwV 1 hts gX12_feed_X12_four rfl rfl rfl ⟨rfl, pd_X12_four⟩ ⟨Nat.le_of_ble_eq_true rfl, Nat.le_of_ble_eq_true rfl⟩) ⟨pz_blind, va_recv hK hP (ci := 12) (q0 := q33) rfl eq33, pz_pre hP hK hD hN⟩ rfl rfl hl.1 rfl (lv_room (Nat.le_of_ble_eq_true rfl)) dX12_feed_22 ⟨Nat.le_of_ble_eq_true rfl, Nat.le_of_ble_eq_true rfl⟩) hS (fun q _ h => hFc q h) hFc (fun f40 t H1 locs ht hvm hw39 hB hz1 hk1 hS => ?_)
    refine tn_3 hw39 (fun hT hF41 hw39p => ?_); clear hw39
    have hR := hR.then hF41 (by decide)
    have hP := hB.1; rw [ht] at hP; have hD := tp_ad f40 hD; clear hB hFc hz1 hk1; subst ht; generalize t.heap = H at hP hS ⊢
    refine tpk_13 hT ht_h0 (fun o42_x0 o42_x1 o42_x7 o42_x9 o42_x10 o42_x11 o42_x12 o42_x13 o42_x14 o42_x15 o42_x16 o42_x17 o42_x18 o42_x19 o42_x20 o42_x22 o42_x25 o42_x28 o42_x29 o42_x32 o42_x33 o42_x34 o42_x35 o42_x36 o42_x37 o42_x38 o42_x47 o42_x48 hf_o42 ro42_0 ro42_1 ro42_2 ro42_3 ro42_4 ro42_5 ro42_6 ro42_7 ro42_8 ro42_9 ro42_10 ro42_11 ro42_12 ro42_13 => ?_)
    have tf43 : mo_hd (tp_fld (f40 h0) 9 = o42_x9.toInt) := tff_9 hf_o42
    have tk44 : o42_x9.toInt = o28_x9.toInt + 4 := by have q9 := hw39p; first | (simp only [(mo_un tf43), (mo_un tf37), mo_i1, mo_l1] at q9; exact q9) | (rw [(mo_un tf43), (mo_un tf37)] at q9; exact q9)
    clear hw39p
    refine lv_aload_n hx hb dX12_feed_25 rfl (lv_at hl 0 rfl) ?_
    refine lv_iload_n hx hb dX12_feed_26 rfl (lv_at hl 2 rfl) ?_
    have hf_45 : f40 (ρ h0 2) = .inl (κ 0, 12967, .inl g27) := (hF41 _ (by rw [y1]; decide)).trans hf_36
    refine tpk_pos (tp_in hG ht_h0 (by decide)) hf_o42 (fun q46 eq46 => ?_)
    have hFc := tp_fr hD hS hA
    refine va_callv (va_runV (As := [.int u]) (rest := []) ⟨hx, hb, hml, hown, hts⟩ (t_X12_four l dC dI _ κ τ ν ρ L f40 hG hT h0 u ht_h0 (by first | (simp only [(mo_un tf43), mo_i1, mo_l1]; exact (show o42_x9.toInt ≤ 396 from by first | omega | decide)) | (rw [(mo_un tf43)]; exact (show o42_x9.toInt ≤ 396 from by first | omega | decide)))) (cwV 1 hts gX12_feed_X12_four rfl rfl rfl ⟨rfl, pd_X12_four⟩ ⟨Nat.le_of_ble_eq_true rfl, Nat.le_of_ble_eq_true rfl⟩) ⟨pz_blind, va_recv hK hP (ci := 12) (q0 := q46) rfl eq46, pz_pre hP hK hD hN⟩ rfl rfl hl.1 rfl (lv_room (Nat.le_of_ble_eq_true rfl)) dX12_feed_27 ⟨Nat.le_of_ble_eq_true rfl, Nat.le_of_ble_eq_true rfl⟩) hS (fun q _ h => hFc q h) hFc (fun f49 t H1 locs ht hvm hw48 hB hz1 hk1 hS => ?_)
    refine tn_3 hw48 (fun hT hF50 hw48p => ?_); clear hw48
    have hR := hR.then hF50 (by decide)
    have hP := hB.1; rw [ht] at hP; have hD := tp_ad f49 hD; clear hB hFc hz1 hk1; subst ht; generalize t.heap = H at hP hS ⊢
    refine tpk_13 hT ht_h0 (fun o51_x0 o51_x1 o51_x7 o51_x9 o51_x10 o51_x11 o51_x12 o51_x13 o51_x14 o51_x15 o51_x16 o51_x17 o51_x18 o51_x19 o51_x20 o51_x22 o51_x25 o51_x28 o51_x29 o51_x32 o51_x33 o51_x34 o51_x35 o51_x36 o51_x37 o51_x38 o51_x47 o51_x48 hf_o51 ro51_0 ro51_1 ro51_2 ro51_3 ro51_4 ro51_5 ro51_6 ro51_7 ro51_8 ro51_9 ro51_10 ro51_11 ro51_12 ro51_13 => ?_)
    have tf52 : mo_hd (tp_fld (f49 h0) 9 = o51_x9.toInt) := tff_9 hf_o51
    have tk53 : o51_x9.toInt = o42_x9.toInt + 4 := by have q9 := hw48p; first | (simp only [(mo_un tf52), (mo_un tf43), mo_i1, mo_l1] at q9; exact q9) | (rw [(mo_un tf52), (mo_un tf43)] at q9; exact q9)
    clear hw48p
    refine lv_aload_n hx hb dX12_feed_30 rfl (lv_at hl 0 rfl) ?_
    refine lv_iload_n hx hb dX12_feed_31 rfl (lv_at hl 3 rfl) ?_
    have hf_54 : f49 (ρ h0 2) = .inl (κ 0, 12967, .inl g27) := (hF50 _ (by rw [y1]; decide)).trans hf_45
    refine tpk_pos (tp_in hG ht_h0 (by decide)) hf_o51 (fun q55 eq55 => ?_)
    have hFc := tp_fr hD hS hA
    refine va_callv (va_runV (As := [.int a]) (rest := []) ⟨hx, hb, hml, hown, hts⟩ (t_X12_four l dC dI _ κ τ ν ρ L f49 hG hT h0 a ht_h0 (by first | (simp only [(mo_un tf52), mo_i1, mo_l1]; exact (show o51_x9.toInt ≤ 396 from by first | omega | decide)) | (rw [(mo_un tf52)]; exact (show o51_x9.toInt ≤ 396 from by first | omega | decide)))) (cwV 1 hts gX12_feed_X12_four rfl rfl rfl ⟨rfl, pd_X12_four⟩ ⟨Nat.le_of_ble_eq_true rfl, Nat.le_of_ble_eq_true rfl⟩) ⟨pz_blind, va_recv hK hP (ci := 12) (q0 := q55) rfl eq55, pz_pre hP hK hD hN⟩ rfl rfl hl.1 rfl (lv_room (Nat.le_of_ble_eq_true rfl)) dX12_feed_32 ⟨Nat.le_of_ble_eq_true rfl, Nat.le_of_ble_eq_true rfl⟩) hS (fun q _ h => hFc q h) hFc (fun f58 t H1 locs ht hvm hw57 hB hz1 hk1 hS => ?_)
    refine tn_3 hw57 (fun hT hF59 hw57p => ?_); clear hw57
    have hR := hR.then hF59 (by decide)
    have hP := hB.1; rw [ht] at hP; have hD := tp_ad f58 hD; clear hB hFc hz1 hk1; subst ht; generalize t.heap = H at hP hS ⊢
    refine tpk_13 hT ht_h0 (fun o60_x0 o60_x1 o60_x7 o60_x9 o60_x10 o60_x11 o60_x12 o60_x13 o60_x14 o60_x15 o60_x16 o60_x17 o60_x18 o60_x19 o60_x20 o60_x22 o60_x25 o60_x28 o60_x29 o60_x32 o60_x33 o60_x34 o60_x35 o60_x36 o60_x37 o60_x38 o60_x47 o60_x48 hf_o60 ro60_0 ro60_1 ro60_2 ro60_3 ro60_4 ro60_5 ro60_6 ro60_7 ro60_8 ro60_9 ro60_10 ro60_11 ro60_12 ro60_13 => ?_)
    have tf61 : mo_hd (tp_fld (f58 h0) 9 = o60_x9.toInt) := tff_9 hf_o60
    have tk62 : o60_x9.toInt = o51_x9.toInt + 4 := by have q9 := hw57p; first | (simp only [(mo_un tf61), (mo_un tf52), mo_i1, mo_l1] at q9; exact q9) | (rw [(mo_un tf61), (mo_un tf52)] at q9; exact q9)
    clear hw57p
    refine lv_aload_n hx hb dX12_feed_35 rfl (lv_at hl 0 rfl) ?_
    refine lv_iload hx hb dX12_feed_36 (lv_at hl 4 rfl) ?_
    have hf_63 : f58 (ρ h0 2) = .inl (κ 0, 12967, .inl g27) := (hF59 _ (by rw [y1]; decide)).trans hf_54
    refine tpk_pos (tp_in hG ht_h0 (by decide)) hf_o60 (fun q64 eq64 => ?_)
    have hFc := tp_fr hD hS hA
    refine va_callv (va_runV (As := [.int a4]) (rest := []) ⟨hx, hb, hml, hown, hts⟩ (t_X12_four l dC dI _ κ τ ν ρ L f58 hG hT h0 a4 ht_h0 (by first | (simp only [(mo_un tf61), mo_i1, mo_l1]; exact (show o60_x9.toInt ≤ 396 from by first | omega | decide)) | (rw [(mo_un tf61)]; exact (show o60_x9.toInt ≤ 396 from by first | omega | decide)))) (cwV 1 hts gX12_feed_X12_four rfl rfl rfl ⟨rfl, pd_X12_four⟩ ⟨Nat.le_of_ble_eq_true rfl, Nat.le_of_ble_eq_true rfl⟩) ⟨pz_blind, va_recv hK hP (ci := 12) (q0 := q64) rfl eq64, pz_pre hP hK hD hN⟩ rfl rfl hl.1 rfl (lv_room (Nat.le_of_ble_eq_true rfl)) dX12_feed_38 ⟨Nat.le_of_ble_eq_true rfl, Nat.le_of_ble_eq_true rfl⟩) hS (fun q _ h => hFc q h) hFc (fun f67 t H1 locs ht hvm hw66 hB hz1 hk1 hS => ?_)
    refine tn_3 hw66 (fun hT hF68 hw66p => ?_); clear hw66
    have hR := hR.then hF68 (by decide)
    have hP := hB.1; rw [ht] at hP; have hD := tp_ad f67 hD; clear hB hFc hz1 hk1; subst ht; generalize t.heap = H at hP hS ⊢
    refine tpk_13 hT ht_h0 (fun o69_x0 o69_x1 o69_x7 o69_x9 o69_x10 o69_x11 o69_x12 o69_x13 o69_x14 o69_x15 o69_x16 o69_x17 o69_x18 o69_x19 o69_x20 o69_x22 o69_x25 o69_x28 o69_x29 o69_x32 o69_x33 o69_x34 o69_x35 o69_x36 o69_x37 o69_x38 o69_x47 o69_x48 hf_o69 ro69_0 ro69_1 ro69_2 ro69_3 ro69_4 ro69_5 ro69_6 ro69_7 ro69_8 ro69_9 ro69_10 ro69_11 ro69_12 ro69_13 => ?_)
    have tf70 : mo_hd (tp_fld (f67 h0) 9 = o69_x9.toInt) := tff_9 hf_o69
    have tk71 : o69_x9.toInt = o60_x9.toInt + 4 := by have q9 := hw66p; first | (simp only [(mo_un tf70), (mo_un tf61), mo_i1, mo_l1] at q9; exact q9) | (rw [(mo_un tf70), (mo_un tf61)] at q9; exact q9)
    clear hw66p
    refine lv_aload_n hx hb dX12_feed_41 rfl (lv_at hl 0 rfl) ?_
    refine lv_iload hx hb dX12_feed_42 (lv_at hl 5 rfl) ?_
    have hf_72 : f67 (ρ h0 2) = .inl (κ 0, 12967, .inl g27) := (hF68 _ (by rw [y1]; decide)).trans hf_63
    refine tpk_pos (tp_in hG ht_h0 (by decide)) hf_o69 (fun q73 eq73 => ?_)
    have hFc := tp_fr hD hS hA
    refine va_callv (va_runV (As := [.int a5]) (rest := []) ⟨hx, hb, hml, hown, hts⟩ (t_X12_four l dC dI _ κ τ ν ρ L f67 hG hT h0 a5 ht_h0 (by first | (simp only [(mo_un tf70), mo_i1, mo_l1]; exact (show o69_x9.toInt ≤ 396 from by first | omega | decide)) | (rw [(mo_un tf70)]; exact (show o69_x9.toInt ≤ 396 from by first | omega | decide)))) (cwV 1 hts gX12_feed_X12_four rfl rfl rfl ⟨rfl, pd_X12_four⟩ ⟨Nat.le_of_ble_eq_true rfl, Nat.le_of_ble_eq_true rfl⟩) ⟨pz_blind, va_recv hK hP (ci := 12) (q0 := q73) rfl eq73, pz_pre hP hK hD hN⟩ rfl rfl hl.1 rfl (lv_room (Nat.le_of_ble_eq_true rfl)) dX12_feed_44 ⟨Nat.le_of_ble_eq_true rfl, Nat.le_of_ble_eq_true rfl⟩) hS (fun q _ h => hFc q h) hFc (fun f76 t H1 locs ht hvm hw75 hB hz1 hk1 hS => ?_)
    refine tn_3 hw75 (fun hT hF77 hw75p => ?_); clear hw75
    have hR := hR.then hF77 (by decide)
    have hP := hB.1; rw [ht] at hP; have hD := tp_ad f76 hD; clear hB hFc hz1 hk1; subst ht; generalize t.heap = H at hP hS ⊢
    refine tpk_13 hT ht_h0 (fun o78_x0 o78_x1 o78_x7 o78_x9 o78_x10 o78_x11 o78_x12 o78_x13 o78_x14 o78_x15 o78_x16 o78_x17 o78_x18 o78_x19 o78_x20 o78_x22 o78_x25 o78_x28 o78_x29 o78_x32 o78_x33 o78_x34 o78_x35 o78_x36 o78_x37 o78_x38 o78_x47 o78_x48 hf_o78 ro78_0 ro78_1 ro78_2 ro78_3 ro78_4 ro78_5 ro78_6 ro78_7 ro78_8 ro78_9 ro78_10 ro78_11 ro78_12 ro78_13 => ?_)
    have tf79 : mo_hd (tp_fld (f76 h0) 9 = o78_x9.toInt) := tff_9 hf_o78
    have tk80 : o78_x9.toInt = o69_x9.toInt + 4 := by have q9 := hw75p; first | (simp only [(mo_un tf79), (mo_un tf70), mo_i1, mo_l1] at q9; exact q9) | (rw [(mo_un tf79), (mo_un tf70)] at q9; exact q9)
    clear hw75p
    refine lv_aload_n hx hb dX12_feed_47 rfl (lv_at hl 0 rfl) ?_
    refine tpk_pos (tp_in hG ht_h0 (by decide)) hf_o78 (fun q81 eq81 => ?_)
    refine va_get (D := (dC, dI)) (ci := 12) (v := .int o78_x9) (C := RX12) (T := TX12) (N := 53) hx hb hts hfX12 hown hK hP q81 eq81 rfl 9 (by decide) (hts (.fieldLink RX12 252 "ColdShipsModel" "taped" "I") wa_774) (fun _ h9 => h9) rfl dX12_feed_48 ?_
    exact W.iret (v := o78_x9) hx hb hr (fun t ht hW => ⟨⟨o78_x9, f76, rfl, ⟨hT, hR, trivial, trivial⟩, by rw [ht]; exact hP, va_K.moved hW.alike hK, hD⟩, hS.F ht⟩) hS.2.2 dX12_feed_51
  · have ic35 : z34.toInt > 400 := zi_lef rfl rfl c35
    refine lv_iconst (v := (-1)) hx hb dX12_feed_18 (by decide) ?_
    exact W.iret (v := (-1)) hx hb hr (fun t ht hW => ⟨⟨(-1), f30, rfl, ⟨hT, hR, trivial, trivial⟩, by rw [ht]; exact hP, va_K.moved hW.alike hK, hD⟩, hS.F ht⟩) hS.2.2 dX12_feed_19

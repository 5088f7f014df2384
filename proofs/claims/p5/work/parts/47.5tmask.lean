set_option maxHeartbeats 4000000 in
set_option maxRecDepth 100000 in
theorem t_X12_feed (l : Launch) (dC : Nat → ClassId) (dI : Nat → Nat → Nat) (sz : Nat) (κ : Nat → ClassId) (τ ν : Nat → Nat) (ρ : Nat → Nat → Nat) (L : List Nat) (f : Nat → va_E) (hG : tp_G τ ν ρ L) (hT : tp_T (mo_O κ) κ τ ν ρ f) (h0 : Nat) (v : Int32) (u : Int32) (a : Int32) (a4 : Int32) (a5 : Int32) (ht_h0 : τ h0 = 13) (hJ : mo_RI (-1) 0 (mo_R (mo_i (f (ρ h0 2))))) : Met l yX12_feed wqX12_feed ({ frames := 3, cells := 0, slots := 0, locals := 800 }) (va_Pc [.ref h0, .int v, .int u, .int a, .int a4, .int a5] (pz_B dC dI (tp_K κ) (va_pl L f) sz)) (va_Qi (fun (r : Int32) (f1 : Nat → va_E) => tp_T (mo_O κ) κ τ ν ρ f1 ∧ tp_F τ [13, 38] f f1 ∧ True ∧ True) (fun (f1 : Nat → va_E) (t : State) => pz_E dC dI (tp_K κ) (va_A (va_pl L f) sz) (va_pl L f1) t) (va_A (va_pl L f) sz)) 0 0 (va_A (va_pl L f) sz) := by
  refine Met.ofW (cc := cX12_feed) (maxL := 6) (ret := some .int) (by decide) rfl ?_
  intro p e s m args below meth c s₁ B hml hv
  obtain ⟨rfl, hsz, hP, hK, hD0, hN⟩ := hv
  have hx := B.exec
  have hb := B.bytes
  have hr := B.returns
  have hts := fun (w : Cond) (h : w ∈ WALL) => atoms_spec (ws := wqX12_feed) B.pre w (List.mem_cons_of_mem _ h)
  have hown : s.vm.findClass RX12 = some m.cls := findClass_of_methodNamed B.named
  have hlocks := B.notSynchronized
  subst hsz
  have hD := hD0.self (sz := s.heap.size)
  generalize hAe : va_A (va_pl L f) s.heap.size = A at hD ⊢
  have hA : ∀ q : Nat, s.heap.size ≤ q → A q := fun q h => by rw [← hAe]; exact Or.inr h
  have hS : va_S A s.heap s.heap [] := va_S.rf
  have hR : tp_F τ [13, 38] f f := tp_F.rf
  have hl := lv_entry ([.ref h0, .int v, .int u, .int a, .int a4, .int a5]) (n := 6) (Nat.le_of_ble_eq_true rfl)
  rw [lg_entry_eq]
  generalize (lg_sl ([.ref h0, .int v, .int u, .int a, .int a4, .int a5]) ++ List.replicate (6 - (lg_sl ([.ref h0, .int v, .int u, .int a, .int a4, .int a5])).length) Slot.unset).toArray = ls at hl ⊢
  have hl : lv_has ls 6 [(0, .ref h0), (1, .int v), (2, .int u), (3, .int a), (4, .int a4), (5, .int a5)] := hl
  obtain ⟨y1, y2, y3, y4, y5, y6, y7, y8, y9, y10, y11, y12, y13, y14, y15, y16, y17, y18, y19, y20, y21, y22, y23, y24, y25⟩ := tpg_13 hG ht_h0
  obtain ⟨g27, hf_o26⟩ := tpo_32 hT y1
  have hI : mo_RI (-1) 0 (mo_R g27) := by have q9 := hJ; rw [hf_o26, mo_i1] at q9; exact q9
  refine lv_aload_n hx hb dX12_feed_0 rfl (lv_at hl 0 rfl) ?_
  refine lv_iconst (v := 0) hx hb dX12_feed_1 (by decide) ?_
  obtain ⟨o28_x0, o28_x1, o28_x7, o28_x9, o28_x10, o28_x11, o28_x12, o28_x13, o28_x14, o28_x15, o28_x16, o28_x17, o28_x18, o28_x19, o28_x20, o28_x22, o28_x25, o28_x28, o28_x29, o28_x32, o28_x33, o28_x34, o28_x35, o28_x36, o28_x37, o28_x38, o28_x47, o28_x48, hf_o28, ro28_0, ro28_1, ro28_2, ro28_3, ro28_4, ro28_5, ro28_6, ro28_7, ro28_8, ro28_9, ro28_10, ro28_11, ro28_12, ro28_13⟩ := tpo_13 hT ht_h0
  obtain ⟨q29, eq29⟩ := tp_pos (tp_in hG ht_h0 (by decide)) hf_o28
  refine va_put (D := (dC, dI)) (ci := 12) (v := .int 0) (ty := .int) (C := RX12) (T := TX12) (N := 53) hx hb hts hfX12 tyX12 tyX12_ok nmX12 hown hK hP hD hS q29 eq29 rfl 0 (by decide) (hts (.fieldLink RX12 91 "ColdShipsModel" "thrown" "I") wa_209) (fun _ h9 => h9) rfl (tyX12_ok 0 (by decide)) rfl rfl (Nat.le_of_ble_eq_true rfl) dX12_feed_2 (tp_k (.inr (12, [.int 0, .int o28_x1, .ref (ρ h0 2), .ref (ρ h0 3), .ref (ρ h0 4), .ref (ρ h0 5), .ref (ρ h0 6), .int o28_x7, .ref (ρ h0 8), .int o28_x9, .int o28_x10, .int o28_x11, .int o28_x12, .long o28_x13, .int o28_x14, .int o28_x15, .int o28_x16, .int o28_x17, .int o28_x18, .int o28_x19, .int o28_x20, .ref (ρ h0 21), .int o28_x22, .ref (ρ h0 23), .ref (ρ h0 24), .int o28_x25, .ref (ρ h0 26), .ref (ρ h0 27), .int o28_x28, .int o28_x29, .ref (ρ h0 30), .ref (ρ h0 31), .int o28_x32, .long o28_x33, .long o28_x34, .long o28_x35, .int o28_x36, .int o28_x37, .int o28_x38, .ref (ρ h0 39), .ref (ρ h0 40), .ref (ρ h0 41), .ref (ρ h0 42), .ref (ρ h0 43), .ref (ρ h0 44), .ref (ρ h0 45), .ref (ρ h0 46), .int o28_x47, .int o28_x48, .ref (ρ h0 49), .ref (ρ h0 50), .ref (ρ h0 51), .ref (ρ h0 52)])) hD (tp_in hG ht_h0 (by decide)) eq29 (fun f30 H locs hP hD hS g32 k31 => ?_))
  have hT := hT.up ht_h0 g32 k31 ⟨_, _, _, _, _, _, _, _, _, _, _, _, _, _, _, _, _, _, _, _, _, _, _, _, _, _, _, _, rfl, ro28_0, ro28_1, ro28_2, ro28_3, ro28_4, ro28_5, ro28_6, ro28_7, ro28_8, ro28_9, ro28_10, ro28_11, ro28_12, ro28_13⟩
  have hR := hR.up ht_h0 (by decide) k31
  refine lv_aload_n hx hb dX12_feed_5 rfl (lv_at hl 0 rfl) ?_
  obtain ⟨q33, eq33⟩ := tp_pos (tp_in hG ht_h0 (by decide)) g32
  refine va_get (D := (dC, dI)) (ci := 12) (v := .int o28_x9) (C := RX12) (T := TX12) (N := 53) hx hb hts hfX12 hown hK hP q33 eq33 rfl 9 (by decide) (hts (.fieldLink RX12 252 "ColdShipsModel" "taped" "I") wa_774) (fun _ h9 => h9) rfl dX12_feed_6 ?_
  refine lv_bipush (v := 20) hx hb dX12_feed_9 (by decide) ?_
  refine lv_iadd hx hb dX12_feed_11 ?_
  refine lv_topi (fun z34 ez34 => ?_)
  have iz34 : z34.toInt = o28_x9.toInt + 20 := zi_add ez34 rfl rfl (by omega) (by omega)
  refine lv_sipush (v := 400) hx hb dX12_feed_12 (by decide) ?_
  refine lv_icmp_le (tgt := 20) hx hb dX12_feed_15 (by decide) (fun c35 => ?_) (fun c35 => ?_)
  · have ic35 : z34.toInt ≤ 400 := zi_le rfl rfl c35
    refine lv_aload_n hx hb dX12_feed_20 rfl (lv_at hl 0 rfl) ?_
    refine lv_iload_n hx hb dX12_feed_21 rfl (lv_at hl 1 rfl) ?_
    have hf_36 : f30 (ρ h0 2) = .inl (κ 0, 12967, .inl g27) := (k31 _ (tp_ne y1 ht_h0 (by decide))).trans hf_o26
    have hFc := tp_fr hD hS hA
    refine va_callv (va_runV (As := [.int v]) (rest := []) ⟨hx, hb, hml, hown, hts⟩ (t_X12_four l dC dI _ κ τ ν ρ L f30 hG hT h0 v ht_h0 (by simp only [g32, mo_i1, mo_l1]; exact (show o28_x9.toInt ≤ 396 from by first | omega | decide))) (cwV 1 hts gX12_feed_X12_four rfl rfl rfl ⟨rfl, pd_X12_four⟩ ⟨Nat.le_of_ble_eq_true rfl, Nat.le_of_ble_eq_true rfl⟩) ⟨pz_blind, va_recv hK hP (ci := 12) (q0 := q33) rfl eq33, pz_pre hP hK hD hN⟩ rfl rfl hl.1 rfl (lv_room (Nat.le_of_ble_eq_true rfl)) dX12_feed_22 ⟨Nat.le_of_ble_eq_true rfl, Nat.le_of_ble_eq_true rfl⟩) hS (fun q _ h => hFc q h) hFc (fun f39 t H1 locs ht hvm hw38 hB hz1 hk1 hS => ?_)
    obtain ⟨hT, hF40, hw38p⟩ := hw38
    have hR := hR.then hF40 (by decide)
    have hP := hB.1; rw [ht] at hP; have hD := tp_ad f39 hD; clear hB hFc hz1 hk1; subst ht; generalize t.heap = H at hP hS ⊢
    obtain ⟨o41_x0, o41_x1, o41_x7, o41_x9, o41_x10, o41_x11, o41_x12, o41_x13, o41_x14, o41_x15, o41_x16, o41_x17, o41_x18, o41_x19, o41_x20, o41_x22, o41_x25, o41_x28, o41_x29, o41_x32, o41_x33, o41_x34, o41_x35, o41_x36, o41_x37, o41_x38, o41_x47, o41_x48, hf_o41, ro41_0, ro41_1, ro41_2, ro41_3, ro41_4, ro41_5, ro41_6, ro41_7, ro41_8, ro41_9, ro41_10, ro41_11, ro41_12, ro41_13⟩ := tpo_13 hT ht_h0
    have tk42 : o41_x9.toInt = o28_x9.toInt + 4 := by have q9 := hw38p; simp only [hf_o41, g32, mo_i1, mo_l1] at q9; exact q9
    refine lv_aload_n hx hb dX12_feed_25 rfl (lv_at hl 0 rfl) ?_
    refine lv_iload_n hx hb dX12_feed_26 rfl (lv_at hl 2 rfl) ?_
    have hf_43 : f39 (ρ h0 2) = .inl (κ 0, 12967, .inl g27) := (hF40 _ (by rw [y1]; decide)).trans hf_36
    obtain ⟨q44, eq44⟩ := tp_pos (tp_in hG ht_h0 (by decide)) hf_o41
    have hFc := tp_fr hD hS hA
    refine va_callv (va_runV (As := [.int u]) (rest := []) ⟨hx, hb, hml, hown, hts⟩ (t_X12_four l dC dI _ κ τ ν ρ L f39 hG hT h0 u ht_h0 (by simp only [hf_o41, mo_i1, mo_l1]; exact (show o41_x9.toInt ≤ 396 from by first | omega | decide))) (cwV 1 hts gX12_feed_X12_four rfl rfl rfl ⟨rfl, pd_X12_four⟩ ⟨Nat.le_of_ble_eq_true rfl, Nat.le_of_ble_eq_true rfl⟩) ⟨pz_blind, va_recv hK hP (ci := 12) (q0 := q44) rfl eq44, pz_pre hP hK hD hN⟩ rfl rfl hl.1 rfl (lv_room (Nat.le_of_ble_eq_true rfl)) dX12_feed_27 ⟨Nat.le_of_ble_eq_true rfl, Nat.le_of_ble_eq_true rfl⟩) hS (fun q _ h => hFc q h) hFc (fun f47 t H1 locs ht hvm hw46 hB hz1 hk1 hS => ?_)
    obtain ⟨hT, hF48, hw46p⟩ := hw46
    have hR := hR.then hF48 (by decide)
    have hP := hB.1; rw [ht] at hP; have hD := tp_ad f47 hD; clear hB hFc hz1 hk1; subst ht; generalize t.heap = H at hP hS ⊢
    obtain ⟨o49_x0, o49_x1, o49_x7, o49_x9, o49_x10, o49_x11, o49_x12, o49_x13, o49_x14, o49_x15, o49_x16, o49_x17, o49_x18, o49_x19, o49_x20, o49_x22, o49_x25, o49_x28, o49_x29, o49_x32, o49_x33, o49_x34, o49_x35, o49_x36, o49_x37, o49_x38, o49_x47, o49_x48, hf_o49, ro49_0, ro49_1, ro49_2, ro49_3, ro49_4, ro49_5, ro49_6, ro49_7, ro49_8, ro49_9, ro49_10, ro49_11, ro49_12, ro49_13⟩ := tpo_13 hT ht_h0
    have tk50 : o49_x9.toInt = o41_x9.toInt + 4 := by have q9 := hw46p; simp only [hf_o49, hf_o41, mo_i1, mo_l1] at q9; exact q9
    refine lv_aload_n hx hb dX12_feed_30 rfl (lv_at hl 0 rfl) ?_
    refine lv_iload_n hx hb dX12_feed_31 rfl (lv_at hl 3 rfl) ?_
    have hf_51 : f47 (ρ h0 2) = .inl (κ 0, 12967, .inl g27) := (hF48 _ (by rw [y1]; decide)).trans hf_43
    obtain ⟨q52, eq52⟩ := tp_pos (tp_in hG ht_h0 (by decide)) hf_o49
    have hFc := tp_fr hD hS hA
    refine va_callv (va_runV (As := [.int a]) (rest := []) ⟨hx, hb, hml, hown, hts⟩ (t_X12_four l dC dI _ κ τ ν ρ L f47 hG hT h0 a ht_h0 (by simp only [hf_o49, mo_i1, mo_l1]; exact (show o49_x9.toInt ≤ 396 from by first | omega | decide))) (cwV 1 hts gX12_feed_X12_four rfl rfl rfl ⟨rfl, pd_X12_four⟩ ⟨Nat.le_of_ble_eq_true rfl, Nat.le_of_ble_eq_true rfl⟩) ⟨pz_blind, va_recv hK hP (ci := 12) (q0 := q52) rfl eq52, pz_pre hP hK hD hN⟩ rfl rfl hl.1 rfl (lv_room (Nat.le_of_ble_eq_true rfl)) dX12_feed_32 ⟨Nat.le_of_ble_eq_true rfl, Nat.le_of_ble_eq_true rfl⟩) hS (fun q _ h => hFc q h) hFc (fun f55 t H1 locs ht hvm hw54 hB hz1 hk1 hS => ?_)
    obtain ⟨hT, hF56, hw54p⟩ := hw54
    have hR := hR.then hF56 (by decide)
    have hP := hB.1; rw [ht] at hP; have hD := tp_ad f55 hD; clear hB hFc hz1 hk1; subst ht; generalize t.heap = H at hP hS ⊢
    obtain ⟨o57_x0, o57_x1, o57_x7, o57_x9, o57_x10, o57_x11, o57_x12, o57_x13, o57_x14, o57_x15, o57_x16, o57_x17, o57_x18, o57_x19, o57_x20, o57_x22, o57_x25, o57_x28, o57_x29, o57_x32, o57_x33, o57_x34, o57_x35, o57_x36, o57_x37, o57_x38, o57_x47, o57_x48, hf_o57, ro57_0, ro57_1, ro57_2, ro57_3, ro57_4, ro57_5, ro57_6, ro57_7, ro57_8, ro57_9, ro57_10, ro57_11, ro57_12, ro57_13⟩ := tpo_13 hT ht_h0
    have tk58 : o57_x9.toInt = o49_x9.toInt + 4 := by have q9 := hw54p; simp only [hf_o57, hf_o49, mo_i1, mo_l1] at q9; exact q9
    refine lv_aload_n hx hb dX12_feed_35 rfl (lv_at hl 0 rfl) ?_
    refine lv_iload hx hb dX12_feed_36 (lv_at hl 4 rfl) ?_
    have hf_59 : f55 (ρ h0 2) = .inl (κ 0, 12967, .inl g27) := (hF56 _ (by rw [y1]; decide)).trans hf_51
    obtain ⟨q60, eq60⟩ := tp_pos (tp_in hG ht_h0 (by decide)) hf_o57
    have hFc := tp_fr hD hS hA
    refine va_callv (va_runV (As := [.int a4]) (rest := []) ⟨hx, hb, hml, hown, hts⟩ (t_X12_four l dC dI _ κ τ ν ρ L f55 hG hT h0 a4 ht_h0 (by simp only [hf_o57, mo_i1, mo_l1]; exact (show o57_x9.toInt ≤ 396 from by first | omega | decide))) (cwV 1 hts gX12_feed_X12_four rfl rfl rfl ⟨rfl, pd_X12_four⟩ ⟨Nat.le_of_ble_eq_true rfl, Nat.le_of_ble_eq_true rfl⟩) ⟨pz_blind, va_recv hK hP (ci := 12) (q0 := q60) rfl eq60, pz_pre hP hK hD hN⟩ rfl rfl hl.1 rfl (lv_room (Nat.le_of_ble_eq_true rfl)) dX12_feed_38 ⟨Nat.le_of_ble_eq_true rfl, Nat.le_of_ble_eq_true rfl⟩) hS (fun q _ h => hFc q h) hFc (fun f63 t H1 locs ht hvm hw62 hB hz1 hk1 hS => ?_)
    obtain ⟨hT, hF64, hw62p⟩ := hw62
    have hR := hR.then hF64 (by decide)
    have hP := hB.1; rw [ht] at hP; have hD := tp_ad f63 hD; clear hB hFc hz1 hk1; subst ht; generalize t.heap = H at hP hS ⊢
    obtain ⟨o65_x0, o65_x1, o65_x7, o65_x9, o65_x10, o65_x11, o65_x12, o65_x13, o65_x14, o65_x15, o65_x16, o65_x17, o65_x18, o65_x19, o65_x20, o65_x22, o65_x25, o65_x28, o65_x29, o65_x32, o65_x33, o65_x34, o65_x35, o65_x36, o65_x37, o65_x38, o65_x47, o65_x48, hf_o65, ro65_0, ro65_1, ro65_2, ro65_3, ro65_4, ro65_5, ro65_6, ro65_7, ro65_8, ro65_9, ro65_10, ro65_11, ro65_12, ro65_13⟩ := tpo_13 hT ht_h0
    have tk66 : o65_x9.toInt = o57_x9.toInt + 4 := by have q9 := hw62p; simp only [hf_o65, hf_o57, mo_i1, mo_l1] at q9; exact q9
    refine lv_aload_n hx hb dX12_feed_41 rfl (lv_at hl 0 rfl) ?_
    refine lv_iload hx hb dX12_feed_42 (lv_at hl 5 rfl) ?_
    have hf_67 : f63 (ρ h0 2) = .inl (κ 0, 12967, .inl g27) := (hF64 _ (by rw [y1]; decide)).trans hf_59
    obtain ⟨q68, eq68⟩ := tp_pos (tp_in hG ht_h0 (by decide)) hf_o65
    have hFc := tp_fr hD hS hA
    refine va_callv (va_runV (As := [.int a5]) (rest := []) ⟨hx, hb, hml, hown, hts⟩ (t_X12_four l dC dI _ κ τ ν ρ L f63 hG hT h0 a5 ht_h0 (by simp only [hf_o65, mo_i1, mo_l1]; exact (show o65_x9.toInt ≤ 396 from by first | omega | decide))) (cwV 1 hts gX12_feed_X12_four rfl rfl rfl ⟨rfl, pd_X12_four⟩ ⟨Nat.le_of_ble_eq_true rfl, Nat.le_of_ble_eq_true rfl⟩) ⟨pz_blind, va_recv hK hP (ci := 12) (q0 := q68) rfl eq68, pz_pre hP hK hD hN⟩ rfl rfl hl.1 rfl (lv_room (Nat.le_of_ble_eq_true rfl)) dX12_feed_44 ⟨Nat.le_of_ble_eq_true rfl, Nat.le_of_ble_eq_true rfl⟩) hS (fun q _ h => hFc q h) hFc (fun f71 t H1 locs ht hvm hw70 hB hz1 hk1 hS => ?_)
    obtain ⟨hT, hF72, hw70p⟩ := hw70
    have hR := hR.then hF72 (by decide)
    have hP := hB.1; rw [ht] at hP; have hD := tp_ad f71 hD; clear hB hFc hz1 hk1; subst ht; generalize t.heap = H at hP hS ⊢
    obtain ⟨o73_x0, o73_x1, o73_x7, o73_x9, o73_x10, o73_x11, o73_x12, o73_x13, o73_x14, o73_x15, o73_x16, o73_x17, o73_x18, o73_x19, o73_x20, o73_x22, o73_x25, o73_x28, o73_x29, o73_x32, o73_x33, o73_x34, o73_x35, o73_x36, o73_x37, o73_x38, o73_x47, o73_x48, hf_o73, ro73_0, ro73_1, ro73_2, ro73_3, ro73_4, ro73_5, ro73_6, ro73_7, ro73_8, ro73_9, ro73_10, ro73_11, ro73_12, ro73_13⟩ := tpo_13 hT ht_h0
    have tk74 : o73_x9.toInt = o65_x9.toInt + 4 := by have q9 := hw70p; simp only [hf_o73, hf_o65, mo_i1, mo_l1] at q9; exact q9
    refine lv_aload_n hx hb dX12_feed_47 rfl (lv_at hl 0 rfl) ?_
    obtain ⟨q75, eq75⟩ := tp_pos (tp_in hG ht_h0 (by decide)) hf_o73
    refine va_get (D := (dC, dI)) (ci := 12) (v := .int o73_x9) (C := RX12) (T := TX12) (N := 53) hx hb hts hfX12 hown hK hP q75 eq75 rfl 9 (by decide) (hts (.fieldLink RX12 252 "ColdShipsModel" "taped" "I") wa_774) (fun _ h9 => h9) rfl dX12_feed_48 ?_
    exact W.iret (v := o73_x9) hx hb hr (fun t ht hW => ⟨⟨o73_x9, f71, rfl, ⟨hT, hR, trivial, trivial⟩, by rw [ht]; exact hP, va_K.moved hW.alike hK, hD⟩, hS.F ht⟩) hS.2.2 dX12_feed_51
  · have ic35 : z34.toInt > 400 := zi_lef rfl rfl c35
    refine lv_iconst (v := (-1)) hx hb dX12_feed_18 (by decide) ?_
    exact W.iret (v := (-1)) hx hb hr (fun t ht hW => ⟨⟨(-1), f30, rfl, ⟨hT, hR, trivial, trivial⟩, by rw [ht]; exact hP, va_K.moved hW.alike hK, hD⟩, hS.F ht⟩) hS.2.2 dX12_feed_19

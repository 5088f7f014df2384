set_option maxHeartbeats 4000000 in
set_option maxRecDepth 100000 in
theorem t_X12_open (l : Launch) (dC : Nat → ClassId) (dI : Nat → Nat → Nat) (sz : Nat) (κ : Nat → ClassId) (τ ν : Nat → Nat) (ρ : Nat → Nat → Nat) (L : List Nat) (f : Nat → va_E) (hG : tp_G τ ν ρ L) (hT : tp_T (mo_O κ) κ τ ν ρ f) (h0 : Nat) (v : Int32) (ht_h0 : τ h0 = 13) (hr_v : 30 ≤ v.toInt ∧ v.toInt ≤ 31) (h1 : ((tp_fld (f h0) 10) ≤ (tp_fld (f h0) 11) ∧ (tp_fld (f h0) 11) ≤ (tp_fld (f h0) 9) ∧ ((tp_fld (f h0) 12) = 0 ∨ (tp_fld (f h0) 10) < (tp_fld (f h0) 11)) ∧ ((tp_fld (f h0) 12) = 1 → (tp_fld (f h0) 11) = (tp_fld (f h0) 10) + 1 → (mo_fj (f h0) 13) ≤ 26))) (hb0 : (tp_fld (f h0) 15) = 0) (hs : (tp_fld (f h0) 10) < (tp_fld (f h0) 11)) (h2 : (tp_fld (f h0) 22) + (tp_fld (f h0) 28) ≤ (tp_fld (f h0) 10)) : Met l yX12_open wqX12_open ({ frames := 5, cells := 0, slots := 0, locals := 1600 }) (va_Pc [.ref h0, .int v] (pz_B dC dI (tp_K κ) (va_pl L f) sz)) (va_Qv (fun (f1 : Nat → va_E) => tp_T (mo_O κ) κ τ ν ρ f1 ∧ tp_F τ [13, 56, 57] f f1 ∧ ((tp_fld (f1 h0) 10) ≤ (tp_fld (f1 h0) 11) ∧ (tp_fld (f1 h0) 11) ≤ (tp_fld (f1 h0) 9) ∧ ((tp_fld (f1 h0) 12) = 0 ∨ (tp_fld (f1 h0) 10) < (tp_fld (f1 h0) 11)) ∧ ((tp_fld (f1 h0) 12) = 1 → (tp_fld (f1 h0) 11) = (tp_fld (f1 h0) 10) + 1 → (mo_fj (f1 h0) 13) ≤ 26)) ∧ ((tp_fld (f1 h0) 15) = 0 → mo_U (mo_R (mo_i (f (ρ h0 26)))) (mo_R (mo_i (f1 (ρ h0 26)))) (tp_fld (f h0) 28) v.toInt ∧ mo_U (mo_R (mo_i (f (ρ h0 27)))) (mo_R (mo_i (f1 (ρ h0 27)))) (tp_fld (f h0) 28) 0 ∧ (tp_fld (f1 h0) 28) = (tp_fld (f h0) 28) + 1 ∧ (tp_fld (f h0) 11) ≤ (tp_fld (f1 h0) 10)) ∧ ((tp_fld (f1 h0) 15) ≠ 0 → (mo_R (mo_i (f1 (ρ h0 26)))) = (mo_R (mo_i (f (ρ h0 26)))) ∧ (mo_R (mo_i (f1 (ρ h0 27)))) = (mo_R (mo_i (f (ρ h0 27)))) ∧ (tp_fld (f1 h0) 28) = (tp_fld (f h0) 28) ∧ (tp_fld (f1 h0) 10) = (tp_fld (f h0) 10)) ∧ (tp_fld (f1 h0) 9) = (tp_fld (f h0) 9) ∧ (tp_fld (f1 h0) 19) = (tp_fld (f h0) 19) ∧ (tp_fld (f1 h0) 20) = (tp_fld (f h0) 20) ∧ (tp_fld (f1 h0) 22) = (tp_fld (f h0) 22)) (fun (f1 : Nat → va_E) (t : State) => pz_E dC dI (tp_K κ) (va_A (va_pl L f) sz) (va_pl L f1) t) (va_A (va_pl L f) sz)) 0 0 (va_A (va_pl L f) sz) := by
  refine Met.ofW (cc := cX12_open) (maxL := 2) (ret := none) (by decide) rfl ?_
  intro p e s m args below meth c s₁ B hml hv
  obtain ⟨rfl, hsz, hP, hK, hD0, hN⟩ := hv
  have hx := B.exec
  have hb := B.bytes
  have hr := B.returns
  have hts := fun (w : Cond) (h : w ∈ WALL) => atoms_spec (ws := wqX12_open) B.pre w (List.mem_cons_of_mem _ h)
  have hown : s.vm.findClass RX12 = some m.cls := findClass_of_methodNamed B.named
  have hlocks := B.notSynchronized
  subst hsz
  have hD := hD0.self (sz := s.heap.size)
  generalize hAe : va_A (va_pl L f) s.heap.size = A at hD ⊢
  have hA : ∀ q : Nat, s.heap.size ≤ q → A q := fun q h => by rw [← hAe]; exact Or.inr h
  have hS : va_S A s.heap s.heap [] := va_S.rf
  have hR : tp_F τ [13, 56, 57] f f := tp_F.rf
  have hl := lv_entry ([.ref h0, .int v]) (n := 2) (Nat.le_of_ble_eq_true rfl)
  rw [lg_entry_eq]
  generalize (lg_sl ([.ref h0, .int v]) ++ List.replicate (2 - (lg_sl ([.ref h0, .int v])).length) Slot.unset).toArray = ls at hl ⊢
  have hl : lv_has ls 2 [(0, .ref h0), (1, .int v)] := hl
  obtain ⟨y1, y2, y3, y4, y5, y6, y7, y8, y9, y10, y11, y12, y13, y14, y15, y16, y17, y18, y19, y20, y21, y22, y23, y24, y25⟩ := tpg_13 hG ht_h0
  obtain ⟨g27, hf_o26⟩ := tpo_56 hT y10
  obtain ⟨g29, hf_o28⟩ := tpo_57 hT y11
  obtain ⟨o30_x0, o30_x1, o30_x7, o30_x9, o30_x10, o30_x11, o30_x12, o30_x13, o30_x14, o30_x15, o30_x16, o30_x17, o30_x18, o30_x19, o30_x20, o30_x22, o30_x25, o30_x28, o30_x29, o30_x32, o30_x33, o30_x34, o30_x35, o30_x36, o30_x37, o30_x38, o30_x47, o30_x48, hf_o30, ro30_0, ro30_1, ro30_2, ro30_3, ro30_4, ro30_5, ro30_6, ro30_7, ro30_8, ro30_9, ro30_10, ro30_11, ro30_12, ro30_13⟩ := tpo_13 hT ht_h0
  have h1 : (o30_x10.toInt ≤ o30_x11.toInt ∧ o30_x11.toInt ≤ o30_x9.toInt ∧ (o30_x12.toInt = 0 ∨ o30_x10.toInt < o30_x11.toInt) ∧ (o30_x12.toInt = 1 → o30_x11.toInt = o30_x10.toInt + 1 → o30_x13.toInt ≤ 26)) := by have q9 := h1; simp only [hf_o30, mo_i1, mo_l1] at q9; exact q9
  have hb0 : o30_x15.toInt = 0 := by have q9 := hb0; simp only [hf_o30, mo_i1, mo_l1] at q9; exact q9
  have hs : o30_x10.toInt < o30_x11.toInt := by have q9 := hs; simp only [hf_o30, mo_i1, mo_l1] at q9; exact q9
  have h2 : o30_x22.toInt + o30_x28.toInt ≤ o30_x10.toInt := by have q9 := h2; simp only [hf_o30, mo_i1, mo_l1] at q9; exact q9
  refine lv_aload_n hx hb dX12_open_0 rfl (lv_at hl 0 rfl) ?_
  refine lv_aload_n hx hb dX12_open_1 rfl (lv_at hl 0 rfl) ?_
  obtain ⟨q31, eq31⟩ := tp_pos (tp_in hG ht_h0 (by decide)) hf_o30
  refine va_get (D := (dC, dI)) (ci := 12) (v := .int o30_x29) (C := RX12) (T := TX12) (N := 53) hx hb hts hfX12 hown hK hP q31 eq31 rfl 29 (by decide) (hts (.fieldLink RX12 335 "ColdShipsModel" "opened" "I") wa_1046) (fun _ h9 => h9) rfl dX12_open_2 ?_
  refine lv_bipush (v := 8) hx hb dX12_open_5 (by decide) ?_
  refine lv_icmp_ge (tgt := 14) hx hb dX12_open_7 (by decide) (fun c32 => ?_) (fun c32 => ?_)
  · have ic32 : o30_x29.toInt ≥ 8 := zi_ge rfl rfl c32
    refine lv_iconst (v := 0) hx hb dX12_open_14 (by decide) ?_
    have hFc := tp_fr hD hS hA
    refine va_callv (va_runV (As := [.int 0]) (rest := []) ⟨hx, hb, hml, hown, hts⟩ (t_X12_must l dC dI _ κ τ ν ρ L f hG hT h0 (0) ht_h0 (by first | decide | omega) (by simp only [hf_o30, mo_i1, mo_l1]; exact (show (o30_x10.toInt ≤ o30_x11.toInt ∧ o30_x11.toInt ≤ o30_x9.toInt ∧ (o30_x12.toInt = 0 ∨ o30_x10.toInt < o30_x11.toInt) ∧ (o30_x12.toInt = 1 → o30_x11.toInt = o30_x10.toInt + 1 → o30_x13.toInt ≤ 26)) from by have : (0 : Int32).toInt = 0 := rfl; first | omega | decide))) (cwV 1 hts gX12_open_X12_must rfl rfl rfl ⟨rfl, pd_X12_must⟩ ⟨Nat.le_of_ble_eq_true rfl, Nat.le_of_ble_eq_true rfl⟩) ⟨pz_blind, va_recv hK hP (ci := 12) (q0 := q31) rfl eq31, pz_pre hP hK hD hN⟩ rfl rfl hl.1 rfl (lv_room (Nat.le_of_ble_eq_true rfl)) dX12_open_15 ⟨Nat.le_of_ble_eq_true rfl, Nat.le_of_ble_eq_true rfl⟩) hS (fun q _ h => hFc q h) hFc (fun f35 t H1 locs ht hvm hw34 hB hz1 hk1 hS => ?_)
    obtain ⟨hT, hF36, hw34p⟩ := hw34
    have hR := hR.then hF36 (by decide)
    have hP := hB.1; rw [ht] at hP; have hD := tp_ad f35 hD; clear hB hFc hz1 hk1; subst ht; generalize t.heap = H at hP hS ⊢
    obtain ⟨o37_x0, o37_x1, o37_x7, o37_x9, o37_x10, o37_x11, o37_x12, o37_x13, o37_x14, o37_x15, o37_x16, o37_x17, o37_x18, o37_x19, o37_x20, o37_x22, o37_x25, o37_x28, o37_x29, o37_x32, o37_x33, o37_x34, o37_x35, o37_x36, o37_x37, o37_x38, o37_x47, o37_x48, hf_o37, ro37_0, ro37_1, ro37_2, ro37_3, ro37_4, ro37_5, ro37_6, ro37_7, ro37_8, ro37_9, ro37_10, ro37_11, ro37_12, ro37_13⟩ := tpo_13 hT ht_h0
    have tk38 : (o37_x10.toInt ≤ o37_x11.toInt ∧ o37_x11.toInt ≤ o37_x9.toInt ∧ (o37_x12.toInt = 0 ∨ o37_x10.toInt < o37_x11.toInt) ∧ (o37_x12.toInt = 1 → o37_x11.toInt = o37_x10.toInt + 1 → o37_x13.toInt ≤ 26)) ∧ (o37_x15.toInt = 0 → o30_x15.toInt = 0 ∧ o30_x11.toInt ≤ o37_x10.toInt ∧ (0) ≠ 0) ∧ (o37_x15.toInt ≠ 0 → o37_x10.toInt = o30_x10.toInt) ∧ o37_x9.toInt = o30_x9.toInt ∧ o37_x19.toInt = o30_x19.toInt ∧ o37_x20.toInt = o30_x20.toInt ∧ o37_x22.toInt = o30_x22.toInt ∧ o37_x28.toInt = o30_x28.toInt := by have q9 := hw34p; simp only [hf_o37, hf_o30, mo_i1, mo_l1] at q9; exact q9
    refine lv_aload_n hx hb dX12_open_18 rfl (lv_at hl 0 rfl) ?_
    obtain ⟨q39, eq39⟩ := tp_pos (tp_in hG ht_h0 (by decide)) hf_o37
    refine va_get (D := (dC, dI)) (ci := 12) (v := .int o37_x15) (C := RX12) (T := TX12) (N := 53) hx hb hts hfX12 hown hK hP q39 eq39 rfl 15 (by decide) (hts (.fieldLink RX12 261 "ColdShipsModel" "bad" "Z") wa_994) (fun _ h9 => h9) rfl dX12_open_19 ?_
    refine lv_if_ne (tgt := 41) hx hb dX12_open_22 (by decide) (fun c40 => ?_) (fun c40 => ?_)
    · have ic40 : o37_x15.toInt ≠ 0 := zi_ne rfl rfl c40
      have hf_41 : f35 (ρ h0 26) = .inl (κ 0, 400, .inl g27) := (hF36 _ (by rw [y10]; decide)).trans hf_o26
      have hf_42 : f35 (ρ h0 27) = .inl (κ 0, 400, .inl g29) := (hF36 _ (by rw [y11]; decide)).trans hf_o28
      exact W.vret hx hb hr (fun t ht hW => ⟨⟨f35, rfl, ⟨hT, hR, (by simp only [hf_o37, hf_o26, hf_41, hf_o30, hf_o28, hf_42, mo_i1, mo_l1]; exact (show (o37_x10.toInt ≤ o37_x11.toInt ∧ o37_x11.toInt ≤ o37_x9.toInt ∧ (o37_x12.toInt = 0 ∨ o37_x10.toInt < o37_x11.toInt) ∧ (o37_x12.toInt = 1 → o37_x11.toInt = o37_x10.toInt + 1 → o37_x13.toInt ≤ 26)) ∧ (o37_x15.toInt = 0 → mo_U (mo_R g27) (mo_R g27) o30_x28.toInt v.toInt ∧ mo_U (mo_R g29) (mo_R g29) o30_x28.toInt 0 ∧ o37_x28.toInt = o30_x28.toInt + 1 ∧ o30_x11.toInt ≤ o37_x10.toInt) ∧ (o37_x15.toInt ≠ 0 → (mo_R g27) = (mo_R g27) ∧ (mo_R g29) = (mo_R g29) ∧ o37_x28.toInt = o30_x28.toInt ∧ o37_x10.toInt = o30_x10.toInt) ∧ o37_x9.toInt = o30_x9.toInt ∧ o37_x19.toInt = o30_x19.toInt ∧ o37_x20.toInt = o30_x20.toInt ∧ o37_x22.toInt = o30_x22.toInt from ⟨by omega, fun q9 => by exfalso; omega, fun _ => ⟨rfl, rfl, by omega, by omega⟩, by omega, by omega, by omega, by omega⟩))⟩, by rw [ht]; exact hP, va_K.moved hW.alike hK, hD⟩, hS.F ht⟩) hS.2.2 dX12_open_41
    · have ic40 : o37_x15.toInt = 0 := zi_nef rfl rfl c40
      refine lv_aload_n hx hb dX12_open_25 rfl (lv_at hl 0 rfl) ?_
      refine lv_dup hx hb dX12_open_26 rfl ?_
      refine va_get (D := (dC, dI)) (ci := 12) (v := .int o37_x29) (C := RX12) (T := TX12) (N := 53) hx hb hts hfX12 hown hK hP q39 eq39 rfl 29 (by decide) (hts (.fieldLink RX12 335 "ColdShipsModel" "opened" "I") wa_1046) (fun _ h9 => h9) rfl dX12_open_27 ?_
      refine lv_iconst (v := 1) hx hb dX12_open_30 (by decide) ?_
      refine lv_iadd hx hb dX12_open_31 ?_
      refine lv_topi (fun z43 ez43 => ?_)
      refine va_put (D := (dC, dI)) (ci := 12) (v := .int z43) (ty := .int) (C := RX12) (T := TX12) (N := 53) hx hb hts hfX12 tyX12 tyX12_ok nmX12 hown hK hP hD hS q39 eq39 rfl 29 (by decide) (hts (.fieldLink RX12 335 "ColdShipsModel" "opened" "I") wa_1046) (fun _ h9 => h9) rfl (tyX12_ok 29 (by decide)) rfl rfl (Nat.le_of_ble_eq_true rfl) dX12_open_32 (tp_k (.inr (12, [.int o37_x0, .int o37_x1, .ref (ρ h0 2), .ref (ρ h0 3), .ref (ρ h0 4), .ref (ρ h0 5), .ref (ρ h0 6), .int o37_x7, .ref (ρ h0 8), .int o37_x9, .int o37_x10, .int o37_x11, .int o37_x12, .long o37_x13, .int o37_x14, .int o37_x15, .int o37_x16, .int o37_x17, .int o37_x18, .int o37_x19, .int o37_x20, .ref (ρ h0 21), .int o37_x22, .ref (ρ h0 23), .ref (ρ h0 24), .int o37_x25, .ref (ρ h0 26), .ref (ρ h0 27), .int o37_x28, .int z43, .ref (ρ h0 30), .ref (ρ h0 31), .int o37_x32, .long o37_x33, .long o37_x34, .long o37_x35, .int o37_x36, .int o37_x37, .int o37_x38, .ref (ρ h0 39), .ref (ρ h0 40), .ref (ρ h0 41), .ref (ρ h0 42), .ref (ρ h0 43), .ref (ρ h0 44), .ref (ρ h0 45), .ref (ρ h0 46), .int o37_x47, .int o37_x48, .ref (ρ h0 49), .ref (ρ h0 50), .ref (ρ h0 51), .ref (ρ h0 52)])) hD (tp_in hG ht_h0 (by decide)) eq39 (fun f44 H locs hP hD hS g46 k45 => ?_))
      have hT := hT.up ht_h0 g46 k45 ⟨_, _, _, _, _, _, _, _, _, _, _, _, _, _, _, _, _, _, _, _, _, _, _, _, _, _, _, _, rfl, ro37_0, ro37_1, ro37_2, ro37_3, ro37_4, ro37_5, ro37_6, ro37_7, ro37_8, ro37_9, ro37_10, ro37_11, ro37_12, ro37_13⟩
      have hR := hR.up ht_h0 (by decide) k45
      refine lv_aload_n hx hb dX12_open_35 rfl (lv_at hl 0 rfl) ?_
      refine lv_iload_n hx hb dX12_open_36 rfl (lv_at hl 1 rfl) ?_
      refine lv_iconst (v := 0) hx hb dX12_open_37 (by decide) ?_
      have hf_47 : f35 (ρ h0 26) = .inl (κ 0, 400, .inl g27) := (hF36 _ (by rw [y10]; decide)).trans hf_o26
      have hf_48 : f44 (ρ h0 26) = .inl (κ 0, 400, .inl g27) := (k45 _ (tp_ne y10 ht_h0 (by decide))).trans hf_47
      have hf_49 : f35 (ρ h0 27) = .inl (κ 0, 400, .inl g29) := (hF36 _ (by rw [y11]; decide)).trans hf_o28
      have hf_50 : f44 (ρ h0 27) = .inl (κ 0, 400, .inl g29) := (k45 _ (tp_ne y11 ht_h0 (by decide))).trans hf_49
      obtain ⟨q51, eq51⟩ := tp_pos (tp_in hG ht_h0 (by decide)) g46
      have hFc := tp_fr hD hS hA
      refine va_callv (va_runV (As := [.int v, .int 0]) (rest := []) ⟨hx, hb, hml, hown, hts⟩ (t_X12_push l dC dI _ κ τ ν ρ L f44 hG hT h0 v (0) ht_h0 (by simp only [g46, mo_i1, mo_l1]; exact (show o37_x28.toInt < 400 from by have : (0 : Int32).toInt = 0 := rfl; first | omega | decide))) (cwV 2 hts gX12_open_X12_push rfl rfl rfl ⟨rfl, pd_X12_push⟩ ⟨Nat.le_of_ble_eq_true rfl, Nat.le_of_ble_eq_true rfl⟩) ⟨pz_blind, va_recv hK hP (ci := 12) (q0 := q51) rfl eq51, pz_pre hP hK hD hN⟩ rfl rfl hl.1 rfl (lv_room (Nat.le_of_ble_eq_true rfl)) dX12_open_38 ⟨Nat.le_of_ble_eq_true rfl, Nat.le_of_ble_eq_true rfl⟩) hS (fun q _ h => hFc q h) hFc (fun f54 t H1 locs ht hvm hw53 hB hz1 hk1 hS => ?_)
      obtain ⟨hT, hF55, hw53p⟩ := hw53
      have hR := hR.then hF55 (by decide)
      have hP := hB.1; rw [ht] at hP; have hD := tp_ad f54 hD; clear hB hFc hz1 hk1; subst ht; generalize t.heap = H at hP hS ⊢
      obtain ⟨g57, hf_o56⟩ := tpo_56 hT y10
      obtain ⟨g59, hf_o58⟩ := tpo_57 hT y11
      obtain ⟨o60_x0, o60_x1, o60_x7, o60_x9, o60_x10, o60_x11, o60_x12, o60_x13, o60_x14, o60_x15, o60_x16, o60_x17, o60_x18, o60_x19, o60_x20, o60_x22, o60_x25, o60_x28, o60_x29, o60_x32, o60_x33, o60_x34, o60_x35, o60_x36, o60_x37, o60_x38, o60_x47, o60_x48, hf_o60, ro60_0, ro60_1, ro60_2, ro60_3, ro60_4, ro60_5, ro60_6, ro60_7, ro60_8, ro60_9, ro60_10, ro60_11, ro60_12, ro60_13⟩ := tpo_13 hT ht_h0
      have tk61 : mo_U (mo_R g27) (mo_R g57) o37_x28.toInt v.toInt ∧ mo_U (mo_R g29) (mo_R g59) o37_x28.toInt (0) ∧ o60_x28.toInt = o37_x28.toInt + 1 ∧ o60_x9.toInt = o37_x9.toInt ∧ o60_x10.toInt = o37_x10.toInt ∧ o60_x11.toInt = o37_x11.toInt ∧ o60_x12.toInt = o37_x12.toInt ∧ o60_x13.toInt = o37_x13.toInt ∧ o60_x15.toInt = o37_x15.toInt ∧ o60_x19.toInt = o37_x19.toInt ∧ o60_x20.toInt = o37_x20.toInt ∧ o60_x22.toInt = o37_x22.toInt := by have q9 := hw53p; simp only [hf_48, hf_o56, g46, hf_50, hf_o58, hf_o60, mo_i1, mo_l1] at q9; exact q9
      exact W.vret hx hb hr (fun t ht hW => ⟨⟨f54, rfl, ⟨hT, hR, (by simp only [hf_o60, hf_o26, hf_o56, hf_o30, hf_o28, hf_o58, mo_i1, mo_l1]; exact (show (o60_x10.toInt ≤ o60_x11.toInt ∧ o60_x11.toInt ≤ o60_x9.toInt ∧ (o60_x12.toInt = 0 ∨ o60_x10.toInt < o60_x11.toInt) ∧ (o60_x12.toInt = 1 → o60_x11.toInt = o60_x10.toInt + 1 → o60_x13.toInt ≤ 26)) ∧ (o60_x15.toInt = 0 → mo_U (mo_R g27) (mo_R g57) o30_x28.toInt v.toInt ∧ mo_U (mo_R g29) (mo_R g59) o30_x28.toInt 0 ∧ o60_x28.toInt = o30_x28.toInt + 1 ∧ o30_x11.toInt ≤ o60_x10.toInt) ∧ (o60_x15.toInt ≠ 0 → (mo_R g57) = (mo_R g27) ∧ (mo_R g59) = (mo_R g29) ∧ o60_x28.toInt = o30_x28.toInt ∧ o60_x10.toInt = o30_x10.toInt) ∧ o60_x9.toInt = o30_x9.toInt ∧ o60_x19.toInt = o30_x19.toInt ∧ o60_x20.toInt = o30_x20.toInt ∧ o60_x22.toInt = o30_x22.toInt from ⟨by omega, fun _ => ⟨tk61.1, tk61.2.1, by omega, by omega⟩, fun q9 => by exfalso; omega, by omega, by omega, by omega, by omega⟩))⟩, by rw [ht]; exact hP, va_K.moved hW.alike hK, hD⟩, hS.F ht⟩) hS.2.2 dX12_open_41
  · have ic32 : o30_x29.toInt < 8 := zi_gef rfl rfl c32
    refine lv_iconst (v := 1) hx hb dX12_open_10 (by decide) ?_
    refine lv_goto (tgt := 15) hx hb dX12_open_11 (by decide) ?_
    have hFc := tp_fr hD hS hA
    refine va_callv (va_runV (As := [.int 1]) (rest := []) ⟨hx, hb, hml, hown, hts⟩ (t_X12_must l dC dI _ κ τ ν ρ L f hG hT h0 (1) ht_h0 (by first | decide | omega) (by simp only [hf_o30, mo_i1, mo_l1]; exact (show (o30_x10.toInt ≤ o30_x11.toInt ∧ o30_x11.toInt ≤ o30_x9.toInt ∧ (o30_x12.toInt = 0 ∨ o30_x10.toInt < o30_x11.toInt) ∧ (o30_x12.toInt = 1 → o30_x11.toInt = o30_x10.toInt + 1 → o30_x13.toInt ≤ 26)) from by have : (1 : Int32).toInt = 1 := rfl; first | omega | decide))) (cwV 1 hts gX12_open_X12_must rfl rfl rfl ⟨rfl, pd_X12_must⟩ ⟨Nat.le_of_ble_eq_true rfl, Nat.le_of_ble_eq_true rfl⟩) ⟨pz_blind, va_recv hK hP (ci := 12) (q0 := q31) rfl eq31, pz_pre hP hK hD hN⟩ rfl rfl hl.1 rfl (lv_room (Nat.le_of_ble_eq_true rfl)) dX12_open_15 ⟨Nat.le_of_ble_eq_true rfl, Nat.le_of_ble_eq_true rfl⟩) hS (fun q _ h => hFc q h) hFc (fun f64 t H1 locs ht hvm hw63 hB hz1 hk1 hS => ?_)
    obtain ⟨hT, hF65, hw63p⟩ := hw63
    have hR := hR.then hF65 (by decide)
    have hP := hB.1; rw [ht] at hP; have hD := tp_ad f64 hD; clear hB hFc hz1 hk1; subst ht; generalize t.heap = H at hP hS ⊢
    obtain ⟨o66_x0, o66_x1, o66_x7, o66_x9, o66_x10, o66_x11, o66_x12, o66_x13, o66_x14, o66_x15, o66_x16, o66_x17, o66_x18, o66_x19, o66_x20, o66_x22, o66_x25, o66_x28, o66_x29, o66_x32, o66_x33, o66_x34, o66_x35, o66_x36, o66_x37, o66_x38, o66_x47, o66_x48, hf_o66, ro66_0, ro66_1, ro66_2, ro66_3, ro66_4, ro66_5, ro66_6, ro66_7, ro66_8, ro66_9, ro66_10, ro66_11, ro66_12, ro66_13⟩ := tpo_13 hT ht_h0
    have tk67 : (o66_x10.toInt ≤ o66_x11.toInt ∧ o66_x11.toInt ≤ o66_x9.toInt ∧ (o66_x12.toInt = 0 ∨ o66_x10.toInt < o66_x11.toInt) ∧ (o66_x12.toInt = 1 → o66_x11.toInt = o66_x10.toInt + 1 → o66_x13.toInt ≤ 26)) ∧ (o66_x15.toInt = 0 → o30_x15.toInt = 0 ∧ o30_x11.toInt ≤ o66_x10.toInt ∧ (1) ≠ 0) ∧ (o66_x15.toInt ≠ 0 → o66_x10.toInt = o30_x10.toInt) ∧ o66_x9.toInt = o30_x9.toInt ∧ o66_x19.toInt = o30_x19.toInt ∧ o66_x20.toInt = o30_x20.toInt ∧ o66_x22.toInt = o30_x22.toInt ∧ o66_x28.toInt = o30_x28.toInt := by have q9 := hw63p; simp only [hf_o66, hf_o30, mo_i1, mo_l1] at q9; exact q9
    refine lv_aload_n hx hb dX12_open_18 rfl (lv_at hl 0 rfl) ?_
    obtain ⟨q68, eq68⟩ := tp_pos (tp_in hG ht_h0 (by decide)) hf_o66
    refine va_get (D := (dC, dI)) (ci := 12) (v := .int o66_x15) (C := RX12) (T := TX12) (N := 53) hx hb hts hfX12 hown hK hP q68 eq68 rfl 15 (by decide) (hts (.fieldLink RX12 261 "ColdShipsModel" "bad" "Z") wa_994) (fun _ h9 => h9) rfl dX12_open_19 ?_
    refine lv_if_ne (tgt := 41) hx hb dX12_open_22 (by decide) (fun c69 => ?_) (fun c69 => ?_)
    · have ic69 : o66_x15.toInt ≠ 0 := zi_ne rfl rfl c69
      have hf_70 : f64 (ρ h0 26) = .inl (κ 0, 400, .inl g27) := (hF65 _ (by rw [y10]; decide)).trans hf_o26
      have hf_71 : f64 (ρ h0 27) = .inl (κ 0, 400, .inl g29) := (hF65 _ (by rw [y11]; decide)).trans hf_o28
      exact W.vret hx hb hr (fun t ht hW => ⟨⟨f64, rfl, ⟨hT, hR, (by simp only [hf_o66, hf_o26, hf_70, hf_o30, hf_o28, hf_71, mo_i1, mo_l1]; exact (show (o66_x10.toInt ≤ o66_x11.toInt ∧ o66_x11.toInt ≤ o66_x9.toInt ∧ (o66_x12.toInt = 0 ∨ o66_x10.toInt < o66_x11.toInt) ∧ (o66_x12.toInt = 1 → o66_x11.toInt = o66_x10.toInt + 1 → o66_x13.toInt ≤ 26)) ∧ (o66_x15.toInt = 0 → mo_U (mo_R g27) (mo_R g27) o30_x28.toInt v.toInt ∧ mo_U (mo_R g29) (mo_R g29) o30_x28.toInt 0 ∧ o66_x28.toInt = o30_x28.toInt + 1 ∧ o30_x11.toInt ≤ o66_x10.toInt) ∧ (o66_x15.toInt ≠ 0 → (mo_R g27) = (mo_R g27) ∧ (mo_R g29) = (mo_R g29) ∧ o66_x28.toInt = o30_x28.toInt ∧ o66_x10.toInt = o30_x10.toInt) ∧ o66_x9.toInt = o30_x9.toInt ∧ o66_x19.toInt = o30_x19.toInt ∧ o66_x20.toInt = o30_x20.toInt ∧ o66_x22.toInt = o30_x22.toInt from ⟨by omega, fun q9 => by exfalso; omega, fun _ => ⟨rfl, rfl, by omega, by omega⟩, by omega, by omega, by omega, by omega⟩))⟩, by rw [ht]; exact hP, va_K.moved hW.alike hK, hD⟩, hS.F ht⟩) hS.2.2 dX12_open_41
    · have ic69 : o66_x15.toInt = 0 := zi_nef rfl rfl c69
      refine lv_aload_n hx hb dX12_open_25 rfl (lv_at hl 0 rfl) ?_
      refine lv_dup hx hb dX12_open_26 rfl ?_
      refine va_get (D := (dC, dI)) (ci := 12) (v := .int o66_x29) (C := RX12) (T := TX12) (N := 53) hx hb hts hfX12 hown hK hP q68 eq68 rfl 29 (by decide) (hts (.fieldLink RX12 335 "ColdShipsModel" "opened" "I") wa_1046) (fun _ h9 => h9) rfl dX12_open_27 ?_
      refine lv_iconst (v := 1) hx hb dX12_open_30 (by decide) ?_
      refine lv_iadd hx hb dX12_open_31 ?_
      refine lv_topi (fun z72 ez72 => ?_)
      refine va_put (D := (dC, dI)) (ci := 12) (v := .int z72) (ty := .int) (C := RX12) (T := TX12) (N := 53) hx hb hts hfX12 tyX12 tyX12_ok nmX12 hown hK hP hD hS q68 eq68 rfl 29 (by decide) (hts (.fieldLink RX12 335 "ColdShipsModel" "opened" "I") wa_1046) (fun _ h9 => h9) rfl (tyX12_ok 29 (by decide)) rfl rfl (Nat.le_of_ble_eq_true rfl) dX12_open_32 (tp_k (.inr (12, [.int o66_x0, .int o66_x1, .ref (ρ h0 2), .ref (ρ h0 3), .ref (ρ h0 4), .ref (ρ h0 5), .ref (ρ h0 6), .int o66_x7, .ref (ρ h0 8), .int o66_x9, .int o66_x10, .int o66_x11, .int o66_x12, .long o66_x13, .int o66_x14, .int o66_x15, .int o66_x16, .int o66_x17, .int o66_x18, .int o66_x19, .int o66_x20, .ref (ρ h0 21), .int o66_x22, .ref (ρ h0 23), .ref (ρ h0 24), .int o66_x25, .ref (ρ h0 26), .ref (ρ h0 27), .int o66_x28, .int z72, .ref (ρ h0 30), .ref (ρ h0 31), .int o66_x32, .long o66_x33, .long o66_x34, .long o66_x35, .int o66_x36, .int o66_x37, .int o66_x38, .ref (ρ h0 39), .ref (ρ h0 40), .ref (ρ h0 41), .ref (ρ h0 42), .ref (ρ h0 43), .ref (ρ h0 44), .ref (ρ h0 45), .ref (ρ h0 46), .int o66_x47, .int o66_x48, .ref (ρ h0 49), .ref (ρ h0 50), .ref (ρ h0 51), .ref (ρ h0 52)])) hD (tp_in hG ht_h0 (by decide)) eq68 (fun f73 H locs hP hD hS g75 k74 => ?_))
      have hT := hT.up ht_h0 g75 k74 ⟨_, _, _, _, _, _, _, _, _, _, _, _, _, _, _, _, _, _, _, _, _, _, _, _, _, _, _, _, rfl, ro66_0, ro66_1, ro66_2, ro66_3, ro66_4, ro66_5, ro66_6, ro66_7, ro66_8, ro66_9, ro66_10, ro66_11, ro66_12, ro66_13⟩
      have hR := hR.up ht_h0 (by decide) k74
      refine lv_aload_n hx hb dX12_open_35 rfl (lv_at hl 0 rfl) ?_
      refine lv_iload_n hx hb dX12_open_36 rfl (lv_at hl 1 rfl) ?_
      refine lv_iconst (v := 0) hx hb dX12_open_37 (by decide) ?_
      have hf_76 : f64 (ρ h0 26) = .inl (κ 0, 400, .inl g27) := (hF65 _ (by rw [y10]; decide)).trans hf_o26
      have hf_77 : f73 (ρ h0 26) = .inl (κ 0, 400, .inl g27) := (k74 _ (tp_ne y10 ht_h0 (by decide))).trans hf_76
      have hf_78 : f64 (ρ h0 27) = .inl (κ 0, 400, .inl g29) := (hF65 _ (by rw [y11]; decide)).trans hf_o28
      have hf_79 : f73 (ρ h0 27) = .inl (κ 0, 400, .inl g29) := (k74 _ (tp_ne y11 ht_h0 (by decide))).trans hf_78
      obtain ⟨q80, eq80⟩ := tp_pos (tp_in hG ht_h0 (by decide)) g75
      have hFc := tp_fr hD hS hA
      refine va_callv (va_runV (As := [.int v, .int 0]) (rest := []) ⟨hx, hb, hml, hown, hts⟩ (t_X12_push l dC dI _ κ τ ν ρ L f73 hG hT h0 v (0) ht_h0 (by simp only [g75, mo_i1, mo_l1]; exact (show o66_x28.toInt < 400 from by have : (0 : Int32).toInt = 0 := rfl; first | omega | decide))) (cwV 2 hts gX12_open_X12_push rfl rfl rfl ⟨rfl, pd_X12_push⟩ ⟨Nat.le_of_ble_eq_true rfl, Nat.le_of_ble_eq_true rfl⟩) ⟨pz_blind, va_recv hK hP (ci := 12) (q0 := q80) rfl eq80, pz_pre hP hK hD hN⟩ rfl rfl hl.1 rfl (lv_room (Nat.le_of_ble_eq_true rfl)) dX12_open_38 ⟨Nat.le_of_ble_eq_true rfl, Nat.le_of_ble_eq_true rfl⟩) hS (fun q _ h => hFc q h) hFc (fun f83 t H1 locs ht hvm hw82 hB hz1 hk1 hS => ?_)
      obtain ⟨hT, hF84, hw82p⟩ := hw82
      have hR := hR.then hF84 (by decide)
      have hP := hB.1; rw [ht] at hP; have hD := tp_ad f83 hD; clear hB hFc hz1 hk1; subst ht; generalize t.heap = H at hP hS ⊢
      obtain ⟨g86, hf_o85⟩ := tpo_56 hT y10
      obtain ⟨g88, hf_o87⟩ := tpo_57 hT y11
      obtain ⟨o89_x0, o89_x1, o89_x7, o89_x9, o89_x10, o89_x11, o89_x12, o89_x13, o89_x14, o89_x15, o89_x16, o89_x17, o89_x18, o89_x19, o89_x20, o89_x22, o89_x25, o89_x28, o89_x29, o89_x32, o89_x33, o89_x34, o89_x35, o89_x36, o89_x37, o89_x38, o89_x47, o89_x48, hf_o89, ro89_0, ro89_1, ro89_2, ro89_3, ro89_4, ro89_5, ro89_6, ro89_7, ro89_8, ro89_9, ro89_10, ro89_11, ro89_12, ro89_13⟩ := tpo_13 hT ht_h0
      have tk90 : mo_U (mo_R g27) (mo_R g86) o66_x28.toInt v.toInt ∧ mo_U (mo_R g29) (mo_R g88) o66_x28.toInt (0) ∧ o89_x28.toInt = o66_x28.toInt + 1 ∧ o89_x9.toInt = o66_x9.toInt ∧ o89_x10.toInt = o66_x10.toInt ∧ o89_x11.toInt = o66_x11.toInt ∧ o89_x12.toInt = o66_x12.toInt ∧ o89_x13.toInt = o66_x13.toInt ∧ o89_x15.toInt = o66_x15.toInt ∧ o89_x19.toInt = o66_x19.toInt ∧ o89_x20.toInt = o66_x20.toInt ∧ o89_x22.toInt = o66_x22.toInt := by have q9 := hw82p; simp only [hf_77, hf_o85, g75, hf_79, hf_o87, hf_o89, mo_i1, mo_l1] at q9; exact q9
      exact W.vret hx hb hr (fun t ht hW => ⟨⟨f83, rfl, ⟨hT, hR, (by simp only [hf_o89, hf_o26, hf_o85, hf_o30, hf_o28, hf_o87, mo_i1, mo_l1]; exact (show (o89_x10.toInt ≤ o89_x11.toInt ∧ o89_x11.toInt ≤ o89_x9.toInt ∧ (o89_x12.toInt = 0 ∨ o89_x10.toInt < o89_x11.toInt) ∧ (o89_x12.toInt = 1 → o89_x11.toInt = o89_x10.toInt + 1 → o89_x13.toInt ≤ 26)) ∧ (o89_x15.toInt = 0 → mo_U (mo_R g27) (mo_R g86) o30_x28.toInt v.toInt ∧ mo_U (mo_R g29) (mo_R g88) o30_x28.toInt 0 ∧ o89_x28.toInt = o30_x28.toInt + 1 ∧ o30_x11.toInt ≤ o89_x10.toInt) ∧ (o89_x15.toInt ≠ 0 → (mo_R g86) = (mo_R g27) ∧ (mo_R g88) = (mo_R g29) ∧ o89_x28.toInt = o30_x28.toInt ∧ o89_x10.toInt = o30_x10.toInt) ∧ o89_x9.toInt = o30_x9.toInt ∧ o89_x19.toInt = o30_x19.toInt ∧ o89_x20.toInt = o30_x20.toInt ∧ o89_x22.toInt = o30_x22.toInt from ⟨by omega, fun _ => ⟨tk90.1, tk90.2.1, by omega, by omega⟩, fun q9 => by exfalso; omega, by omega, by omega, by omega, by omega⟩))⟩, by rw [ht]; exact hP, va_K.moved hW.alike hK, hD⟩, hS.F ht⟩) hS.2.2 dX12_open_41
set_option maxHeartbeats 4000000 in
set_option maxRecDepth 100000 in
theorem t_X12_readPart (l : Launch) (dC : Nat → ClassId) (dI : Nat → Nat → Nat) (sz : Nat) (κ : Nat → ClassId) (τ ν : Nat → Nat) (ρ : Nat → Nat → Nat) (L : List Nat) (f : Nat → va_E) (hG : tp_G τ ν ρ L) (hT : tp_T (mo_O κ) κ τ ν ρ f) (h0 : Nat) (aa : Int) (ht_h0 : τ h0 = 13) (h1 : ((tp_fld (f h0) 10) ≤ (tp_fld (f h0) 11) ∧ (tp_fld (f h0) 11) ≤ (tp_fld (f h0) 9) ∧ ((tp_fld (f h0) 12) = 0 ∨ (tp_fld (f h0) 10) < (tp_fld (f h0) 11)) ∧ ((tp_fld (f h0) 12) = 1 → (tp_fld (f h0) 11) = (tp_fld (f h0) 10) + 1 → (mo_fj (f h0) 13) ≤ 26))) (hb0 : (tp_fld (f h0) 15) = 0) (h2 : (tp_fld (f h0) 22) + (tp_fld (f h0) 28) ≤ (tp_fld (f h0) 10)) (h3 : mo_PV (mo_R (mo_i (f (ρ h0 26)))) (mo_R (mo_i (f (ρ h0 27)))) (tp_fld (f h0) 28)) (h4 : mo_EX aa 1 (mo_R (mo_i (f (ρ h0 23)))) (mo_R (mo_i (f (ρ h0 24)))) (mo_R (mo_i (f (ρ h0 26)))) (mo_R (mo_i (f (ρ h0 27)))) (tp_fld (f h0) 22) (tp_fld (f h0) 28)) : Met l yX12_readPart wqX12_readPart ({ frames := 6, cells := 0, slots := 0, locals := 2000 }) (va_Pc [.ref h0] (pz_B dC dI (tp_K κ) (va_pl L f) sz)) (va_Qi (fun (r : Int32) (f1 : Nat → va_E) => tp_T (mo_O κ) κ τ ν ρ f1 ∧ tp_F τ [13, 53, 54, 56, 57] f f1 ∧ (0 ≤ r.toInt ∧ r.toInt ≤ 4) ∧ ((tp_fld (f1 h0) 10) ≤ (tp_fld (f1 h0) 11) ∧ (tp_fld (f1 h0) 11) ≤ (tp_fld (f1 h0) 9) ∧ ((tp_fld (f1 h0) 12) = 0 ∨ (tp_fld (f1 h0) 10) < (tp_fld (f1 h0) 11)) ∧ ((tp_fld (f1 h0) 12) = 1 → (tp_fld (f1 h0) 11) = (tp_fld (f1 h0) 10) + 1 → (mo_fj (f1 h0) 13) ≤ 26)) ∧ (tp_fld (f1 h0) 22) + (tp_fld (f1 h0) 28) ≤ (tp_fld (f1 h0) 10) ∧ mo_PV (mo_R (mo_i (f1 (ρ h0 26)))) (mo_R (mo_i (f1 (ρ h0 27)))) (tp_fld (f1 h0) 28) ∧ ((tp_fld (f1 h0) 15) = 0 → mo_EX aa r.toInt (mo_R (mo_i (f1 (ρ h0 23)))) (mo_R (mo_i (f1 (ρ h0 24)))) (mo_R (mo_i (f1 (ρ h0 26)))) (mo_R (mo_i (f1 (ρ h0 27)))) (tp_fld (f1 h0) 22) (tp_fld (f1 h0) 28) ∧ mo_FR aa (mo_R (mo_i (f (ρ h0 23)))) (mo_R (mo_i (f (ρ h0 24)))) (mo_R (mo_i (f1 (ρ h0 23)))) (mo_R (mo_i (f1 (ρ h0 24)))) ∧ (r.toInt = 4 ∨ (tp_fld (f h0) 10) < (tp_fld (f1 h0) 10) ∨ ((tp_fld (f1 h0) 10) = (tp_fld (f h0) 10) ∧ r.toInt = 2))) ∧ (tp_fld (f h0) 22) ≤ (tp_fld (f1 h0) 22) ∧ (tp_fld (f1 h0) 9) = (tp_fld (f h0) 9) ∧ (tp_fld (f1 h0) 19) = (tp_fld (f h0) 19) ∧ (tp_fld (f1 h0) 20) = (tp_fld (f h0) 20)) (fun (f1 : Nat → va_E) (t : State) => pz_E dC dI (tp_K κ) (va_A (va_pl L f) sz) (va_pl L f1) t) (va_A (va_pl L f) sz)) 0 0 (va_A (va_pl L f) sz) := by
  refine Met.ofW (cc := cX12_readPart) (maxL := 4) (ret := some .int) (by decide) rfl ?_
  intro p e s m args below meth c s₁ B hml hv
  obtain ⟨rfl, hsz, hP, hK, hD0, hN⟩ := hv
  have hx := B.exec
  have hb := B.bytes
  have hr := B.returns
  have hts := fun (w : Cond) (h : w ∈ WALL) => atoms_spec (ws := wqX12_readPart) B.pre w (List.mem_cons_of_mem _ h)
  have hown : s.vm.findClass RX12 = some m.cls := findClass_of_methodNamed B.named
  have hlocks := B.notSynchronized
  subst hsz
  have hD := hD0.self (sz := s.heap.size)
  generalize hAe : va_A (va_pl L f) s.heap.size = A at hD ⊢
  have hA : ∀ q : Nat, s.heap.size ≤ q → A q := fun q h => by rw [← hAe]; exact Or.inr h
  have hS : va_S A s.heap s.heap [] := va_S.rf
  have hR : tp_F τ [13, 53, 54, 56, 57] f f := tp_F.rf
  have hl := lv_entry ([.ref h0]) (n := 4) (Nat.le_of_ble_eq_true rfl)
  rw [lg_entry_eq]
  generalize (lg_sl ([.ref h0]) ++ List.replicate (4 - (lg_sl ([.ref h0])).length) Slot.unset).toArray = ls at hl ⊢
  have hl : lv_has ls 4 [(0, .ref h0)] := hl
  obtain ⟨y1, y2, y3, y4, y5, y6, y7, y8, y9, y10, y11, y12, y13, y14, y15, y16, y17, y18, y19, y20, y21, y22, y23, y24, y25⟩ := tpg_13 hG ht_h0
  obtain ⟨g27, hf_o26⟩ := tpo_53 hT y8
  obtain ⟨g29, hf_o28⟩ := tpo_54 hT y9
  obtain ⟨g31, hf_o30⟩ := tpo_56 hT y10
  obtain ⟨g33, hf_o32⟩ := tpo_57 hT y11
  obtain ⟨o34_x0, o34_x1, o34_x7, o34_x9, o34_x10, o34_x11, o34_x12, o34_x13, o34_x14, o34_x15, o34_x16, o34_x17, o34_x18, o34_x19, o34_x20, o34_x22, o34_x25, o34_x28, o34_x29, o34_x32, o34_x33, o34_x34, o34_x35, o34_x36, o34_x37, o34_x38, o34_x47, o34_x48, hf_o34, ro34_0, ro34_1, ro34_2, ro34_3, ro34_4, ro34_5, ro34_6, ro34_7, ro34_8, ro34_9, ro34_10, ro34_11, ro34_12, ro34_13⟩ := tpo_13 hT ht_h0
  have h1 : (o34_x10.toInt ≤ o34_x11.toInt ∧ o34_x11.toInt ≤ o34_x9.toInt ∧ (o34_x12.toInt = 0 ∨ o34_x10.toInt < o34_x11.toInt) ∧ (o34_x12.toInt = 1 → o34_x11.toInt = o34_x10.toInt + 1 → o34_x13.toInt ≤ 26)) := by have q9 := h1; simp only [hf_o34, mo_i1, mo_l1] at q9; exact q9
  have hb0 : o34_x15.toInt = 0 := by have q9 := hb0; simp only [hf_o34, mo_i1, mo_l1] at q9; exact q9
  have h2 : o34_x22.toInt + o34_x28.toInt ≤ o34_x10.toInt := by have q9 := h2; simp only [hf_o34, mo_i1, mo_l1] at q9; exact q9
  have h3 : mo_PV (mo_R g31) (mo_R g33) o34_x28.toInt := by have q9 := h3; simp only [hf_o30, hf_o32, hf_o34, mo_i1, mo_l1] at q9; exact q9
  have h4 : mo_EX aa 1 (mo_R g27) (mo_R g29) (mo_R g31) (mo_R g33) o34_x22.toInt o34_x28.toInt := by have q9 := h4; simp only [hf_o26, hf_o28, hf_o30, hf_o32, hf_o34, mo_i1, mo_l1] at q9; exact q9
  refine lv_aload_n hx hb dX12_readPart_0 rfl (lv_at hl 0 rfl) ?_
  refine lv_bipush (v := 91) hx hb dX12_readPart_1 (by decide) ?_
  obtain ⟨q35, eq35⟩ := tp_pos (tp_in hG ht_h0 (by decide)) hf_o34
  refine pz_calli (va_runV (As := [.int 91]) (rest := []) ⟨hx, hb, hml, hown, hts⟩ (t_X12_isSign l dC dI _ κ τ ν ρ L f hG hT h0 (91) ht_h0) (cwV 1 hts gX12_readPart_X12_isSign rfl rfl rfl ⟨rfl, pd_X12_isSign⟩ ⟨Nat.le_of_ble_eq_true rfl, Nat.le_of_ble_eq_true rfl⟩) ⟨pz_blind, va_recv hK hP (ci := 12) (q0 := q35) rfl eq35, pz_pre hP hK hD hN⟩ rfl rfl hl.1 rfl (lv_room (Nat.le_of_ble_eq_true rfl)) dX12_readPart_3 ⟨Nat.le_of_ble_eq_true rfl, Nat.le_of_ble_eq_true rfl⟩) (fun r36 hw37 => ?_)
  obtain ⟨hw37r, hw37p⟩ := hw37
  have tk38 : (r36.toInt ≠ 0 → o34_x12.toInt = 3 ∧ o34_x13.toInt = (91)) := by have q9 := hw37p; simp only [hf_o34, mo_i1, mo_l1] at q9; exact q9
  refine lv_if_eq (tgt := 17) hx hb dX12_readPart_6 (by decide) (fun c39 => ?_) (fun c39 => ?_)
  · have ic39 : r36.toInt = 0 := zi_eq rfl rfl c39
    refine lv_aload_n hx hb dX12_readPart_17 rfl (lv_at hl 0 rfl) ?_
    refine pz_calli (va_runV (As := []) (rest := []) ⟨hx, hb, hml, hown, hts⟩ (t_X12_partAt l dC dI _ κ τ ν ρ L f hG hT h0 ht_h0) (cwV 0 hts gX12_readPart_X12_partAt rfl rfl rfl ⟨rfl, pd_X12_partAt⟩ ⟨Nat.le_of_ble_eq_true rfl, Nat.le_of_ble_eq_true rfl⟩) ⟨pz_blind, va_recv hK hP (ci := 12) (q0 := q35) rfl eq35, pz_pre hP hK hD hN⟩ rfl rfl hl.1 rfl (lv_room (Nat.le_of_ble_eq_true rfl)) dX12_readPart_18 ⟨Nat.le_of_ble_eq_true rfl, Nat.le_of_ble_eq_true rfl⟩) (fun r40 hw41 => ?_)
    obtain ⟨hw41r, hw41p⟩ := hw41
    have tk42 : (r40.toInt ≠ -1 → o34_x12.toInt = 1 ∧ 1 ≤ r40.toInt) := by have q9 := hw41p; simp only [hf_o34, mo_i1, mo_l1] at q9; exact q9
    refine lv_istore_n (lv' := [(1, .int r40), (0, .ref h0)]) hx hb dX12_readPart_21 rfl hl (by decide) rfl (fun ls hl => ?_)
    refine lv_aload_n hx hb dX12_readPart_22 rfl (lv_at hl 1 rfl) ?_
    refine va_get (D := (dC, dI)) (ci := 12) (v := .int o34_x12) (C := RX12) (T := TX12) (N := 53) hx hb hts hfX12 hown hK hP q35 eq35 rfl 12 (by decide) (hts (.fieldLink RX12 280 "ColdShipsModel" "sort" "I") wa_995) (fun _ h9 => h9) rfl dX12_readPart_23 ?_
    refine lv_iconst (v := 2) hx hb dX12_readPart_26 (by decide) ?_
    refine lv_icmp_ne (tgt := 45) hx hb dX12_readPart_27 (by decide) (fun c43 => ?_) (fun c43 => ?_)
    · have ic43 : o34_x12.toInt ≠ 2 := zi_ne rfl rfl c43
      refine lv_iconst (v := 0) hx hb dX12_readPart_45 (by decide) ?_
      refine lv_istore_n (lv' := [(2, .int 0), (1, .int r40), (0, .ref h0)]) hx hb dX12_readPart_46 rfl hl (by decide) rfl (fun ls hl => ?_)
      refine lv_iload_n hx hb dX12_readPart_47 rfl (lv_at hl 0 rfl) ?_
      refine lv_if_eq (tgt := 59) hx hb dX12_readPart_48 (by decide) (fun _ => ?_) (fun c9 => absurd c9 (by decide))
      refine lv_iconst (v := 0) hx hb dX12_readPart_59 (by decide) ?_
      refine lv_istore_n (lv' := [(3, .int 0), (2, .int 0), (1, .int r40), (0, .ref h0)]) hx hb dX12_readPart_60 rfl hl (by decide) rfl (fun ls hl => ?_)
      refine lv_aload_n hx hb dX12_readPart_61 rfl (lv_at hl 3 rfl) ?_
      refine lv_iload_n hx hb dX12_readPart_62 rfl (lv_at hl 2 rfl) ?_
      refine lv_iconst (v := (-1)) hx hb dX12_readPart_63 (by decide) ?_
      refine lv_icmp_ne (tgt := 71) hx hb dX12_readPart_64 (by decide) (fun c44 => ?_) (fun c44 => ?_)
      · have ic44 : r40.toInt ≠ (-1) := zi_ne rfl rfl c44
        refine lv_aload_n hx hb dX12_readPart_71 rfl (lv_at hl 3 rfl) ?_
        refine va_get (D := (dC, dI)) (ci := 12) (v := .int o34_x25) (C := RX12) (T := TX12) (N := 53) hx hb hts hfX12 hown hK hP q35 eq35 rfl 25 (by decide) (hts (.fieldLink RX12 351 "ColdShipsModel" "nLeaves" "I") wa_990) (fun _ h9 => h9) rfl dX12_readPart_72 ?_
        refine lv_bipush (v := 50) hx hb dX12_readPart_75 (by decide) ?_
        refine lv_icmp_ge (tgt := 84) hx hb dX12_readPart_77 (by decide) (fun c45 => ?_) (fun c45 => ?_)
        · have ic45 : o34_x25.toInt ≥ 50 := zi_ge rfl rfl c45
          refine lv_iconst (v := 0) hx hb dX12_readPart_84 (by decide) ?_
          have hFc := tp_fr hD hS hA
          refine va_callv (va_runV (As := [.int 0]) (rest := []) ⟨hx, hb, hml, hown, hts⟩ (t_X12_must l dC dI _ κ τ ν ρ L f hG hT h0 (0) ht_h0 (by first | decide | omega) (by simp only [hf_o34, mo_i1, mo_l1]; exact (show (o34_x10.toInt ≤ o34_x11.toInt ∧ o34_x11.toInt ≤ o34_x9.toInt ∧ (o34_x12.toInt = 0 ∨ o34_x10.toInt < o34_x11.toInt) ∧ (o34_x12.toInt = 1 → o34_x11.toInt = o34_x10.toInt + 1 → o34_x13.toInt ≤ 26)) from by have : (0 : Int32).toInt = 0 := rfl; first | omega | decide))) (cwV 1 hts gX12_readPart_X12_must rfl rfl rfl ⟨rfl, pd_X12_must⟩ ⟨Nat.le_of_ble_eq_true rfl, Nat.le_of_ble_eq_true rfl⟩) ⟨pz_blind, va_recv hK hP (ci := 12) (q0 := q35) rfl eq35, pz_pre hP hK hD hN⟩ rfl rfl hl.1 rfl (lv_room (Nat.le_of_ble_eq_true rfl)) dX12_readPart_85 ⟨Nat.le_of_ble_eq_true rfl, Nat.le_of_ble_eq_true rfl⟩) hS (fun q _ h => hFc q h) hFc (fun f48 t H1 locs ht hvm hw47 hB hz1 hk1 hS => ?_)
          obtain ⟨hT, hF49, hw47p⟩ := hw47
          have hR := hR.then hF49 (by decide)
          have hP := hB.1; rw [ht] at hP; have hD := tp_ad f48 hD; clear hB hFc hz1 hk1; subst ht; generalize t.heap = H at hP hS ⊢
          obtain ⟨o50_x0, o50_x1, o50_x7, o50_x9, o50_x10, o50_x11, o50_x12, o50_x13, o50_x14, o50_x15, o50_x16, o50_x17, o50_x18, o50_x19, o50_x20, o50_x22, o50_x25, o50_x28, o50_x29, o50_x32, o50_x33, o50_x34, o50_x35, o50_x36, o50_x37, o50_x38, o50_x47, o50_x48, hf_o50, ro50_0, ro50_1, ro50_2, ro50_3, ro50_4, ro50_5, ro50_6, ro50_7, ro50_8, ro50_9, ro50_10, ro50_11, ro50_12, ro50_13⟩ := tpo_13 hT ht_h0
          have tk51 : (o50_x10.toInt ≤ o50_x11.toInt ∧ o50_x11.toInt ≤ o50_x9.toInt ∧ (o50_x12.toInt = 0 ∨ o50_x10.toInt < o50_x11.toInt) ∧ (o50_x12.toInt = 1 → o50_x11.toInt = o50_x10.toInt + 1 → o50_x13.toInt ≤ 26)) ∧ (o50_x15.toInt = 0 → o34_x15.toInt = 0 ∧ o34_x11.toInt ≤ o50_x10.toInt ∧ (0) ≠ 0) ∧ (o50_x15.toInt ≠ 0 → o50_x10.toInt = o34_x10.toInt) ∧ o50_x9.toInt = o34_x9.toInt ∧ o50_x19.toInt = o34_x19.toInt ∧ o50_x20.toInt = o34_x20.toInt ∧ o50_x22.toInt = o34_x22.toInt ∧ o50_x28.toInt = o34_x28.toInt := by have q9 := hw47p; simp only [hf_o50, hf_o34, mo_i1, mo_l1] at q9; exact q9
          refine lv_aload_n hx hb dX12_readPart_88 rfl (lv_at hl 3 rfl) ?_
          obtain ⟨q52, eq52⟩ := tp_pos (tp_in hG ht_h0 (by decide)) hf_o50
          refine va_get (D := (dC, dI)) (ci := 12) (v := .int o50_x15) (C := RX12) (T := TX12) (N := 53) hx hb hts hfX12 hown hK hP q52 eq52 rfl 15 (by decide) (hts (.fieldLink RX12 261 "ColdShipsModel" "bad" "Z") wa_994) (fun _ h9 => h9) rfl dX12_readPart_89 ?_
          refine lv_if_ne (tgt := 120) hx hb dX12_readPart_92 (by decide) (fun c53 => ?_) (fun c53 => ?_)
          · have ic53 : o50_x15.toInt ≠ 0 := zi_ne rfl rfl c53
            refine lv_iconst (v := 3) hx hb dX12_readPart_120 (by decide) ?_
            have hf_54 : f48 (ρ h0 26) = .inl (κ 0, 400, .inl g31) := (hF49 _ (by rw [y10]; decide)).trans hf_o30
            have hf_55 : f48 (ρ h0 27) = .inl (κ 0, 400, .inl g33) := (hF49 _ (by rw [y11]; decide)).trans hf_o32
            have hf_56 : f48 (ρ h0 23) = .inl (κ 0, 400, .inl g27) := (hF49 _ (by rw [y8]; decide)).trans hf_o26
            have hf_57 : f48 (ρ h0 24) = .inl (κ 0, 400, .inl g29) := (hF49 _ (by rw [y9]; decide)).trans hf_o28
            exact W.iret (v := 3) hx hb hr (fun t ht hW => ⟨⟨3, f48, rfl, ⟨hT, hR, (by first | decide | omega), (by simp only [hf_o50, hf_54, hf_55, hf_56, hf_57, hf_o26, hf_o28, hf_o34, mo_i1, mo_l1]; exact (show (o50_x10.toInt ≤ o50_x11.toInt ∧ o50_x11.toInt ≤ o50_x9.toInt ∧ (o50_x12.toInt = 0 ∨ o50_x10.toInt < o50_x11.toInt) ∧ (o50_x12.toInt = 1 → o50_x11.toInt = o50_x10.toInt + 1 → o50_x13.toInt ≤ 26)) ∧ o50_x22.toInt + o50_x28.toInt ≤ o50_x10.toInt ∧ mo_PV (mo_R g31) (mo_R g33) o50_x28.toInt ∧ (o50_x15.toInt = 0 → mo_EX aa (3 : Int32).toInt (mo_R g27) (mo_R g29) (mo_R g31) (mo_R g33) o50_x22.toInt o50_x28.toInt ∧ mo_FR aa (mo_R g27) (mo_R g29) (mo_R g27) (mo_R g29) ∧ ((3 : Int32).toInt = 4 ∨ o34_x10.toInt < o50_x10.toInt ∨ (o50_x10.toInt = o34_x10.toInt ∧ (3 : Int32).toInt = 2))) ∧ o34_x22.toInt ≤ o50_x22.toInt ∧ o50_x9.toInt = o34_x9.toInt ∧ o50_x19.toInt = o34_x19.toInt ∧ o50_x20.toInt = o34_x20.toInt from ⟨by omega, by omega, h3, fun q9 => by exfalso; omega, by omega, by omega, by omega, by omega⟩))⟩, by rw [ht]; exact hP, va_K.moved hW.alike hK, hD⟩, hS.F ht⟩) hS.2.2 dX12_readPart_121
          · have ic53 : o50_x15.toInt = 0 := zi_nef rfl rfl c53
            refine lv_aload_n hx hb dX12_readPart_95 rfl (lv_at hl 3 rfl) ?_
            refine lv_iload_n hx hb dX12_readPart_96 rfl (lv_at hl 2 rfl) ?_
            refine lv_iconst (v := (-1)) hx hb dX12_readPart_97 (by decide) ?_
            refine lv_icmp_ne (tgt := 105) hx hb dX12_readPart_98 (by decide) (fun c58 => ?_) (fun c58 => ?_)
            · have ic58 : r40.toInt ≠ (-1) := zi_ne rfl rfl c58
              refine lv_iload_n hx hb dX12_readPart_105 rfl (lv_at hl 2 rfl) ?_
              refine lv_iload_n hx hb dX12_readPart_106 rfl (lv_at hl 0 rfl) ?_
              have hf_59 : f48 (ρ h0 23) = .inl (κ 0, 400, .inl g27) := (hF49 _ (by rw [y8]; decide)).trans hf_o26
              have hf_60 : f48 (ρ h0 24) = .inl (κ 0, 400, .inl g29) := (hF49 _ (by rw [y9]; decide)).trans hf_o28
              have hFc := tp_fr hD hS hA
              refine va_callv (va_runV (As := [.int r40, .int 0]) (rest := []) ⟨hx, hb, hml, hown, hts⟩ (t_X12_emit l dC dI _ κ τ ν ρ L f48 hG hT h0 r40 (0) ht_h0 (by simp only [hf_o50, mo_i1, mo_l1]; exact (show o50_x22.toInt < 400 from by have : (0 : Int32).toInt = 0 := rfl; first | omega | decide))) (cwV 2 hts gX12_readPart_X12_emit rfl rfl rfl ⟨rfl, pd_X12_emit⟩ ⟨Nat.le_of_ble_eq_true rfl, Nat.le_of_ble_eq_true rfl⟩) ⟨pz_blind, va_recv hK hP (ci := 12) (q0 := q52) rfl eq52, pz_pre hP hK hD hN⟩ rfl rfl hl.1 rfl (lv_room (Nat.le_of_ble_eq_true rfl)) dX12_readPart_107 ⟨Nat.le_of_ble_eq_true rfl, Nat.le_of_ble_eq_true rfl⟩) hS (fun q _ h => hFc q h) hFc (fun f63 t H1 locs ht hvm hw62 hB hz1 hk1 hS => ?_)
              obtain ⟨hT, hF64, hw62p⟩ := hw62
              have hR := hR.then hF64 (by decide)
              have hP := hB.1; rw [ht] at hP; have hD := tp_ad f63 hD; clear hB hFc hz1 hk1; subst ht; generalize t.heap = H at hP hS ⊢
              obtain ⟨g66, hf_o65⟩ := tpo_53 hT y8
              obtain ⟨g68, hf_o67⟩ := tpo_54 hT y9
              obtain ⟨o69_x0, o69_x1, o69_x7, o69_x9, o69_x10, o69_x11, o69_x12, o69_x13, o69_x14, o69_x15, o69_x16, o69_x17, o69_x18, o69_x19, o69_x20, o69_x22, o69_x25, o69_x28, o69_x29, o69_x32, o69_x33, o69_x34, o69_x35, o69_x36, o69_x37, o69_x38, o69_x47, o69_x48, hf_o69, ro69_0, ro69_1, ro69_2, ro69_3, ro69_4, ro69_5, ro69_6, ro69_7, ro69_8, ro69_9, ro69_10, ro69_11, ro69_12, ro69_13⟩ := tpo_13 hT ht_h0
              have tk70 : mo_U (mo_R g27) (mo_R g66) o50_x22.toInt r40.toInt ∧ mo_U (mo_R g29) (mo_R g68) o50_x22.toInt (0) ∧ o69_x22.toInt = o50_x22.toInt + 1 ∧ o69_x9.toInt = o50_x9.toInt ∧ o69_x10.toInt = o50_x10.toInt ∧ o69_x11.toInt = o50_x11.toInt ∧ o69_x12.toInt = o50_x12.toInt ∧ o69_x13.toInt = o50_x13.toInt ∧ o69_x15.toInt = o50_x15.toInt ∧ o69_x19.toInt = o50_x19.toInt ∧ o69_x20.toInt = o50_x20.toInt ∧ o69_x28.toInt = o50_x28.toInt := by have q9 := hw62p; simp only [hf_59, hf_o65, hf_o50, hf_60, hf_o67, hf_o69, mo_i1, mo_l1] at q9; exact q9
              refine lv_aload_n hx hb dX12_readPart_110 rfl (lv_at hl 3 rfl) ?_
              refine lv_dup hx hb dX12_readPart_111 rfl ?_
              obtain ⟨q71, eq71⟩ := tp_pos (tp_in hG ht_h0 (by decide)) hf_o69
              refine va_get (D := (dC, dI)) (ci := 12) (v := .int o69_x25) (C := RX12) (T := TX12) (N := 53) hx hb hts hfX12 hown hK hP q71 eq71 rfl 25 (by decide) (hts (.fieldLink RX12 351 "ColdShipsModel" "nLeaves" "I") wa_990) (fun _ h9 => h9) rfl dX12_readPart_112 ?_
              refine lv_iconst (v := 1) hx hb dX12_readPart_115 (by decide) ?_
              refine lv_iadd hx hb dX12_readPart_116 ?_
              refine lv_topi (fun z72 ez72 => ?_)
              refine va_put (D := (dC, dI)) (ci := 12) (v := .int z72) (ty := .int) (C := RX12) (T := TX12) (N := 53) hx hb hts hfX12 tyX12 tyX12_ok nmX12 hown hK hP hD hS q71 eq71 rfl 25 (by decide) (hts (.fieldLink RX12 351 "ColdShipsModel" "nLeaves" "I") wa_990) (fun _ h9 => h9) rfl (tyX12_ok 25 (by decide)) rfl rfl (Nat.le_of_ble_eq_true rfl) dX12_readPart_117 (tp_k (.inr (12, [.int o69_x0, .int o69_x1, .ref (ρ h0 2), .ref (ρ h0 3), .ref (ρ h0 4), .ref (ρ h0 5), .ref (ρ h0 6), .int o69_x7, .ref (ρ h0 8), .int o69_x9, .int o69_x10, .int o69_x11, .int o69_x12, .long o69_x13, .int o69_x14, .int o69_x15, .int o69_x16, .int o69_x17, .int o69_x18, .int o69_x19, .int o69_x20, .ref (ρ h0 21), .int o69_x22, .ref (ρ h0 23), .ref (ρ h0 24), .int z72, .ref (ρ h0 26), .ref (ρ h0 27), .int o69_x28, .int o69_x29, .ref (ρ h0 30), .ref (ρ h0 31), .int o69_x32, .long o69_x33, .long o69_x34, .long o69_x35, .int o69_x36, .int o69_x37, .int o69_x38, .ref (ρ h0 39), .ref (ρ h0 40), .ref (ρ h0 41), .ref (ρ h0 42), .ref (ρ h0 43), .ref (ρ h0 44), .ref (ρ h0 45), .ref (ρ h0 46), .int o69_x47, .int o69_x48, .ref (ρ h0 49), .ref (ρ h0 50), .ref (ρ h0 51), .ref (ρ h0 52)])) hD (tp_in hG ht_h0 (by decide)) eq71 (fun f73 H locs hP hD hS g75 k74 => ?_))
              have hT := hT.up ht_h0 g75 k74 ⟨_, _, _, _, _, _, _, _, _, _, _, _, _, _, _, _, _, _, _, _, _, _, _, _, _, _, _, _, rfl, ro69_0, ro69_1, ro69_2, ro69_3, ro69_4, ro69_5, ro69_6, ro69_7, ro69_8, ro69_9, ro69_10, ro69_11, ro69_12, ro69_13⟩
              have hR := hR.up ht_h0 (by decide) k74
              refine lv_iconst (v := 3) hx hb dX12_readPart_120 (by decide) ?_
              have hf_76 : f48 (ρ h0 26) = .inl (κ 0, 400, .inl g31) := (hF49 _ (by rw [y10]; decide)).trans hf_o30
              have hf_77 : f63 (ρ h0 26) = .inl (κ 0, 400, .inl g31) := (hF64 _ (by rw [y10]; decide)).trans hf_76
              have hf_78 : f73 (ρ h0 26) = .inl (κ 0, 400, .inl g31) := (k74 _ (tp_ne y10 ht_h0 (by decide))).trans hf_77
              have hf_79 : f48 (ρ h0 27) = .inl (κ 0, 400, .inl g33) := (hF49 _ (by rw [y11]; decide)).trans hf_o32
              have hf_80 : f63 (ρ h0 27) = .inl (κ 0, 400, .inl g33) := (hF64 _ (by rw [y11]; decide)).trans hf_79
              have hf_81 : f73 (ρ h0 27) = .inl (κ 0, 400, .inl g33) := (k74 _ (tp_ne y11 ht_h0 (by decide))).trans hf_80
              have hf_82 : f73 (ρ h0 23) = .inl (κ 0, 400, .inl g66) := (k74 _ (tp_ne y8 ht_h0 (by decide))).trans hf_o65
              have hf_83 : f73 (ρ h0 24) = .inl (κ 0, 400, .inl g68) := (k74 _ (tp_ne y9 ht_h0 (by decide))).trans hf_o67
              exact W.iret (v := 3) hx hb hr (fun t ht hW => ⟨⟨3, f73, rfl, ⟨hT, hR, (by first | decide | omega), (by simp only [g75, hf_78, hf_81, hf_82, hf_83, hf_o26, hf_o28, hf_o34, mo_i1, mo_l1]; exact (show (o69_x10.toInt ≤ o69_x11.toInt ∧ o69_x11.toInt ≤ o69_x9.toInt ∧ (o69_x12.toInt = 0 ∨ o69_x10.toInt < o69_x11.toInt) ∧ (o69_x12.toInt = 1 → o69_x11.toInt = o69_x10.toInt + 1 → o69_x13.toInt ≤ 26)) ∧ o69_x22.toInt + o69_x28.toInt ≤ o69_x10.toInt ∧ mo_PV (mo_R g31) (mo_R g33) o69_x28.toInt ∧ (o69_x15.toInt = 0 → mo_EX aa (3 : Int32).toInt (mo_R g66) (mo_R g68) (mo_R g31) (mo_R g33) o69_x22.toInt o69_x28.toInt ∧ mo_FR aa (mo_R g27) (mo_R g29) (mo_R g66) (mo_R g68) ∧ ((3 : Int32).toInt = 4 ∨ o34_x10.toInt < o69_x10.toInt ∨ (o69_x10.toInt = o34_x10.toInt ∧ (3 : Int32).toInt = 2))) ∧ o34_x22.toInt ≤ o69_x22.toInt ∧ o69_x9.toInt = o34_x9.toInt ∧ o69_x19.toInt = o34_x19.toInt ∧ o69_x20.toInt = o34_x20.toInt from ⟨by omega, by omega, h3, fun q9 => ⟨(h4.leaf (by decide) (by omega) tk70.1 tk70.2.1 (by omega) (by omega)), (mo_FR.emit tk70.1 tk70.2.1 (h4.pj0 (by decide)).base), by have q8 : (3 : Int32).toInt = 3 := rfl; omega⟩, by omega, by omega, by omega, by omega⟩))⟩, by rw [ht]; exact hP, va_K.moved hW.alike hK, hD⟩, hS.F ht⟩) hS.2.2 dX12_readPart_121
            · have ic58 : r40.toInt = (-1) := zi_nef rfl rfl c58
              exfalso; omega
        · have ic45 : o34_x25.toInt < 50 := zi_gef rfl rfl c45
          refine lv_iconst (v := 1) hx hb dX12_readPart_80 (by decide) ?_
          refine lv_goto (tgt := 85) hx hb dX12_readPart_81 (by decide) ?_
          have hFc := tp_fr hD hS hA
          refine va_callv (va_runV (As := [.int 1]) (rest := []) ⟨hx, hb, hml, hown, hts⟩ (t_X12_must l dC dI _ κ τ ν ρ L f hG hT h0 (1) ht_h0 (by first | decide | omega) (by simp only [hf_o34, mo_i1, mo_l1]; exact (show (o34_x10.toInt ≤ o34_x11.toInt ∧ o34_x11.toInt ≤ o34_x9.toInt ∧ (o34_x12.toInt = 0 ∨ o34_x10.toInt < o34_x11.toInt) ∧ (o34_x12.toInt = 1 → o34_x11.toInt = o34_x10.toInt + 1 → o34_x13.toInt ≤ 26)) from by have : (1 : Int32).toInt = 1 := rfl; first | omega | decide))) (cwV 1 hts gX12_readPart_X12_must rfl rfl rfl ⟨rfl, pd_X12_must⟩ ⟨Nat.le_of_ble_eq_true rfl, Nat.le_of_ble_eq_true rfl⟩) ⟨pz_blind, va_recv hK hP (ci := 12) (q0 := q35) rfl eq35, pz_pre hP hK hD hN⟩ rfl rfl hl.1 rfl (lv_room (Nat.le_of_ble_eq_true rfl)) dX12_readPart_85 ⟨Nat.le_of_ble_eq_true rfl, Nat.le_of_ble_eq_true rfl⟩) hS (fun q _ h => hFc q h) hFc (fun f86 t H1 locs ht hvm hw85 hB hz1 hk1 hS => ?_)
          obtain ⟨hT, hF87, hw85p⟩ := hw85
          have hR := hR.then hF87 (by decide)
          have hP := hB.1; rw [ht] at hP; have hD := tp_ad f86 hD; clear hB hFc hz1 hk1; subst ht; generalize t.heap = H at hP hS ⊢
          obtain ⟨o88_x0, o88_x1, o88_x7, o88_x9, o88_x10, o88_x11, o88_x12, o88_x13, o88_x14, o88_x15, o88_x16, o88_x17, o88_x18, o88_x19, o88_x20, o88_x22, o88_x25, o88_x28, o88_x29, o88_x32, o88_x33, o88_x34, o88_x35, o88_x36, o88_x37, o88_x38, o88_x47, o88_x48, hf_o88, ro88_0, ro88_1, ro88_2, ro88_3, ro88_4, ro88_5, ro88_6, ro88_7, ro88_8, ro88_9, ro88_10, ro88_11, ro88_12, ro88_13⟩ := tpo_13 hT ht_h0
          have tk89 : (o88_x10.toInt ≤ o88_x11.toInt ∧ o88_x11.toInt ≤ o88_x9.toInt ∧ (o88_x12.toInt = 0 ∨ o88_x10.toInt < o88_x11.toInt) ∧ (o88_x12.toInt = 1 → o88_x11.toInt = o88_x10.toInt + 1 → o88_x13.toInt ≤ 26)) ∧ (o88_x15.toInt = 0 → o34_x15.toInt = 0 ∧ o34_x11.toInt ≤ o88_x10.toInt ∧ (1) ≠ 0) ∧ (o88_x15.toInt ≠ 0 → o88_x10.toInt = o34_x10.toInt) ∧ o88_x9.toInt = o34_x9.toInt ∧ o88_x19.toInt = o34_x19.toInt ∧ o88_x20.toInt = o34_x20.toInt ∧ o88_x22.toInt = o34_x22.toInt ∧ o88_x28.toInt = o34_x28.toInt := by have q9 := hw85p; simp only [hf_o88, hf_o34, mo_i1, mo_l1] at q9; exact q9
          refine lv_aload_n hx hb dX12_readPart_88 rfl (lv_at hl 3 rfl) ?_
          obtain ⟨q90, eq90⟩ := tp_pos (tp_in hG ht_h0 (by decide)) hf_o88
          refine va_get (D := (dC, dI)) (ci := 12) (v := .int o88_x15) (C := RX12) (T := TX12) (N := 53) hx hb hts hfX12 hown hK hP q90 eq90 rfl 15 (by decide) (hts (.fieldLink RX12 261 "ColdShipsModel" "bad" "Z") wa_994) (fun _ h9 => h9) rfl dX12_readPart_89 ?_
          refine lv_if_ne (tgt := 120) hx hb dX12_readPart_92 (by decide) (fun c91 => ?_) (fun c91 => ?_)
          · have ic91 : o88_x15.toInt ≠ 0 := zi_ne rfl rfl c91
            refine lv_iconst (v := 3) hx hb dX12_readPart_120 (by decide) ?_
            have hf_92 : f86 (ρ h0 26) = .inl (κ 0, 400, .inl g31) := (hF87 _ (by rw [y10]; decide)).trans hf_o30
            have hf_93 : f86 (ρ h0 27) = .inl (κ 0, 400, .inl g33) := (hF87 _ (by rw [y11]; decide)).trans hf_o32
            have hf_94 : f86 (ρ h0 23) = .inl (κ 0, 400, .inl g27) := (hF87 _ (by rw [y8]; decide)).trans hf_o26
            have hf_95 : f86 (ρ h0 24) = .inl (κ 0, 400, .inl g29) := (hF87 _ (by rw [y9]; decide)).trans hf_o28
            exact W.iret (v := 3) hx hb hr (fun t ht hW => ⟨⟨3, f86, rfl, ⟨hT, hR, (by first | decide | omega), (by simp only [hf_o88, hf_92, hf_93, hf_94, hf_95, hf_o26, hf_o28, hf_o34, mo_i1, mo_l1]; exact (show (o88_x10.toInt ≤ o88_x11.toInt ∧ o88_x11.toInt ≤ o88_x9.toInt ∧ (o88_x12.toInt = 0 ∨ o88_x10.toInt < o88_x11.toInt) ∧ (o88_x12.toInt = 1 → o88_x11.toInt = o88_x10.toInt + 1 → o88_x13.toInt ≤ 26)) ∧ o88_x22.toInt + o88_x28.toInt ≤ o88_x10.toInt ∧ mo_PV (mo_R g31) (mo_R g33) o88_x28.toInt ∧ (o88_x15.toInt = 0 → mo_EX aa (3 : Int32).toInt (mo_R g27) (mo_R g29) (mo_R g31) (mo_R g33) o88_x22.toInt o88_x28.toInt ∧ mo_FR aa (mo_R g27) (mo_R g29) (mo_R g27) (mo_R g29) ∧ ((3 : Int32).toInt = 4 ∨ o34_x10.toInt < o88_x10.toInt ∨ (o88_x10.toInt = o34_x10.toInt ∧ (3 : Int32).toInt = 2))) ∧ o34_x22.toInt ≤ o88_x22.toInt ∧ o88_x9.toInt = o34_x9.toInt ∧ o88_x19.toInt = o34_x19.toInt ∧ o88_x20.toInt = o34_x20.toInt from ⟨by omega, by omega, h3, fun q9 => by exfalso; omega, by omega, by omega, by omega, by omega⟩))⟩, by rw [ht]; exact hP, va_K.moved hW.alike hK, hD⟩, hS.F ht⟩) hS.2.2 dX12_readPart_121
          · have ic91 : o88_x15.toInt = 0 := zi_nef rfl rfl c91
            refine lv_aload_n hx hb dX12_readPart_95 rfl (lv_at hl 3 rfl) ?_
            refine lv_iload_n hx hb dX12_readPart_96 rfl (lv_at hl 2 rfl) ?_
            refine lv_iconst (v := (-1)) hx hb dX12_readPart_97 (by decide) ?_
            refine lv_icmp_ne (tgt := 105) hx hb dX12_readPart_98 (by decide) (fun c96 => ?_) (fun c96 => ?_)
            · have ic96 : r40.toInt ≠ (-1) := zi_ne rfl rfl c96
              refine lv_iload_n hx hb dX12_readPart_105 rfl (lv_at hl 2 rfl) ?_
              refine lv_iload_n hx hb dX12_readPart_106 rfl (lv_at hl 0 rfl) ?_
              have hf_97 : f86 (ρ h0 23) = .inl (κ 0, 400, .inl g27) := (hF87 _ (by rw [y8]; decide)).trans hf_o26
              have hf_98 : f86 (ρ h0 24) = .inl (κ 0, 400, .inl g29) := (hF87 _ (by rw [y9]; decide)).trans hf_o28
              have hFc := tp_fr hD hS hA
              refine va_callv (va_runV (As := [.int r40, .int 0]) (rest := []) ⟨hx, hb, hml, hown, hts⟩ (t_X12_emit l dC dI _ κ τ ν ρ L f86 hG hT h0 r40 (0) ht_h0 (by simp only [hf_o88, mo_i1, mo_l1]; exact (show o88_x22.toInt < 400 from by have : (0 : Int32).toInt = 0 := rfl; first | omega | decide))) (cwV 2 hts gX12_readPart_X12_emit rfl rfl rfl ⟨rfl, pd_X12_emit⟩ ⟨Nat.le_of_ble_eq_true rfl, Nat.le_of_ble_eq_true rfl⟩) ⟨pz_blind, va_recv hK hP (ci := 12) (q0 := q90) rfl eq90, pz_pre hP hK hD hN⟩ rfl rfl hl.1 rfl (lv_room (Nat.le_of_ble_eq_true rfl)) dX12_readPart_107 ⟨Nat.le_of_ble_eq_true rfl, Nat.le_of_ble_eq_true rfl⟩) hS (fun q _ h => hFc q h) hFc (fun f101 t H1 locs ht hvm hw100 hB hz1 hk1 hS => ?_)
              obtain ⟨hT, hF102, hw100p⟩ := hw100
              have hR := hR.then hF102 (by decide)
              have hP := hB.1; rw [ht] at hP; have hD := tp_ad f101 hD; clear hB hFc hz1 hk1; subst ht; generalize t.heap = H at hP hS ⊢
              obtain ⟨g104, hf_o103⟩ := tpo_53 hT y8
              obtain ⟨g106, hf_o105⟩ := tpo_54 hT y9
              obtain ⟨o107_x0, o107_x1, o107_x7, o107_x9, o107_x10, o107_x11, o107_x12, o107_x13, o107_x14, o107_x15, o107_x16, o107_x17, o107_x18, o107_x19, o107_x20, o107_x22, o107_x25, o107_x28, o107_x29, o107_x32, o107_x33, o107_x34, o107_x35, o107_x36, o107_x37, o107_x38, o107_x47, o107_x48, hf_o107, ro107_0, ro107_1, ro107_2, ro107_3, ro107_4, ro107_5, ro107_6, ro107_7, ro107_8, ro107_9, ro107_10, ro107_11, ro107_12, ro107_13⟩ := tpo_13 hT ht_h0
              have tk108 : mo_U (mo_R g27) (mo_R g104) o88_x22.toInt r40.toInt ∧ mo_U (mo_R g29) (mo_R g106) o88_x22.toInt (0) ∧ o107_x22.toInt = o88_x22.toInt + 1 ∧ o107_x9.toInt = o88_x9.toInt ∧ o107_x10.toInt = o88_x10.toInt ∧ o107_x11.toInt = o88_x11.toInt ∧ o107_x12.toInt = o88_x12.toInt ∧ o107_x13.toInt = o88_x13.toInt ∧ o107_x15.toInt = o88_x15.toInt ∧ o107_x19.toInt = o88_x19.toInt ∧ o107_x20.toInt = o88_x20.toInt ∧ o107_x28.toInt = o88_x28.toInt := by have q9 := hw100p; simp only [hf_97, hf_o103, hf_o88, hf_98, hf_o105, hf_o107, mo_i1, mo_l1] at q9; exact q9
              refine lv_aload_n hx hb dX12_readPart_110 rfl (lv_at hl 3 rfl) ?_
              refine lv_dup hx hb dX12_readPart_111 rfl ?_
              obtain ⟨q109, eq109⟩ := tp_pos (tp_in hG ht_h0 (by decide)) hf_o107
              refine va_get (D := (dC, dI)) (ci := 12) (v := .int o107_x25) (C := RX12) (T := TX12) (N := 53) hx hb hts hfX12 hown hK hP q109 eq109 rfl 25 (by decide) (hts (.fieldLink RX12 351 "ColdShipsModel" "nLeaves" "I") wa_990) (fun _ h9 => h9) rfl dX12_readPart_112 ?_
              refine lv_iconst (v := 1) hx hb dX12_readPart_115 (by decide) ?_
              refine lv_iadd hx hb dX12_readPart_116 ?_
              refine lv_topi (fun z110 ez110 => ?_)
              refine va_put (D := (dC, dI)) (ci := 12) (v := .int z110) (ty := .int) (C := RX12) (T := TX12) (N := 53) hx hb hts hfX12 tyX12 tyX12_ok nmX12 hown hK hP hD hS q109 eq109 rfl 25 (by decide) (hts (.fieldLink RX12 351 "ColdShipsModel" "nLeaves" "I") wa_990) (fun _ h9 => h9) rfl (tyX12_ok 25 (by decide)) rfl rfl (Nat.le_of_ble_eq_true rfl) dX12_readPart_117 (tp_k (.inr (12, [.int o107_x0, .int o107_x1, .ref (ρ h0 2), .ref (ρ h0 3), .ref (ρ h0 4), .ref (ρ h0 5), .ref (ρ h0 6), .int o107_x7, .ref (ρ h0 8), .int o107_x9, .int o107_x10, .int o107_x11, .int o107_x12, .long o107_x13, .int o107_x14, .int o107_x15, .int o107_x16, .int o107_x17, .int o107_x18, .int o107_x19, .int o107_x20, .ref (ρ h0 21), .int o107_x22, .ref (ρ h0 23), .ref (ρ h0 24), .int z110, .ref (ρ h0 26), .ref (ρ h0 27), .int o107_x28, .int o107_x29, .ref (ρ h0 30), .ref (ρ h0 31), .int o107_x32, .long o107_x33, .long o107_x34, .long o107_x35, .int o107_x36, .int o107_x37, .int o107_x38, .ref (ρ h0 39), .ref (ρ h0 40), .ref (ρ h0 41), .ref (ρ h0 42), .ref (ρ h0 43), .ref (ρ h0 44), .ref (ρ h0 45), .ref (ρ h0 46), .int o107_x47, .int o107_x48, .ref (ρ h0 49), .ref (ρ h0 50), .ref (ρ h0 51), .ref (ρ h0 52)])) hD (tp_in hG ht_h0 (by decide)) eq109 (fun f111 H locs hP hD hS g113 k112 => ?_))
              have hT := hT.up ht_h0 g113 k112 ⟨_, _, _, _, _, _, _, _, _, _, _, _, _, _, _, _, _, _, _, _, _, _, _, _, _, _, _, _, rfl, ro107_0, ro107_1, ro107_2, ro107_3, ro107_4, ro107_5, ro107_6, ro107_7, ro107_8, ro107_9, ro107_10, ro107_11, ro107_12, ro107_13⟩
              have hR := hR.up ht_h0 (by decide) k112
              refine lv_iconst (v := 3) hx hb dX12_readPart_120 (by decide) ?_
              have hf_114 : f86 (ρ h0 26) = .inl (κ 0, 400, .inl g31) := (hF87 _ (by rw [y10]; decide)).trans hf_o30
              have hf_115 : f101 (ρ h0 26) = .inl (κ 0, 400, .inl g31) := (hF102 _ (by rw [y10]; decide)).trans hf_114
              have hf_116 : f111 (ρ h0 26) = .inl (κ 0, 400, .inl g31) := (k112 _ (tp_ne y10 ht_h0 (by decide))).trans hf_115
              have hf_117 : f86 (ρ h0 27) = .inl (κ 0, 400, .inl g33) := (hF87 _ (by rw [y11]; decide)).trans hf_o32
              have hf_118 : f101 (ρ h0 27) = .inl (κ 0, 400, .inl g33) := (hF102 _ (by rw [y11]; decide)).trans hf_117
              have hf_119 : f111 (ρ h0 27) = .inl (κ 0, 400, .inl g33) := (k112 _ (tp_ne y11 ht_h0 (by decide))).trans hf_118
              have hf_120 : f111 (ρ h0 23) = .inl (κ 0, 400, .inl g104) := (k112 _ (tp_ne y8 ht_h0 (by decide))).trans hf_o103
              have hf_121 : f111 (ρ h0 24) = .inl (κ 0, 400, .inl g106) := (k112 _ (tp_ne y9 ht_h0 (by decide))).trans hf_o105
              exact W.iret (v := 3) hx hb hr (fun t ht hW => ⟨⟨3, f111, rfl, ⟨hT, hR, (by first | decide | omega), (by simp only [g113, hf_116, hf_119, hf_120, hf_121, hf_o26, hf_o28, hf_o34, mo_i1, mo_l1]; exact (show (o107_x10.toInt ≤ o107_x11.toInt ∧ o107_x11.toInt ≤ o107_x9.toInt ∧ (o107_x12.toInt = 0 ∨ o107_x10.toInt < o107_x11.toInt) ∧ (o107_x12.toInt = 1 → o107_x11.toInt = o107_x10.toInt + 1 → o107_x13.toInt ≤ 26)) ∧ o107_x22.toInt + o107_x28.toInt ≤ o107_x10.toInt ∧ mo_PV (mo_R g31) (mo_R g33) o107_x28.toInt ∧ (o107_x15.toInt = 0 → mo_EX aa (3 : Int32).toInt (mo_R g104) (mo_R g106) (mo_R g31) (mo_R g33) o107_x22.toInt o107_x28.toInt ∧ mo_FR aa (mo_R g27) (mo_R g29) (mo_R g104) (mo_R g106) ∧ ((3 : Int32).toInt = 4 ∨ o34_x10.toInt < o107_x10.toInt ∨ (o107_x10.toInt = o34_x10.toInt ∧ (3 : Int32).toInt = 2))) ∧ o34_x22.toInt ≤ o107_x22.toInt ∧ o107_x9.toInt = o34_x9.toInt ∧ o107_x19.toInt = o34_x19.toInt ∧ o107_x20.toInt = o34_x20.toInt from ⟨by omega, by omega, h3, fun q9 => ⟨(h4.leaf (by decide) (by omega) tk108.1 tk108.2.1 (by omega) (by omega)), (mo_FR.emit tk108.1 tk108.2.1 (h4.pj0 (by decide)).base), by have q8 : (3 : Int32).toInt = 3 := rfl; omega⟩, by omega, by omega, by omega, by omega⟩))⟩, by rw [ht]; exact hP, va_K.moved hW.alike hK, hD⟩, hS.F ht⟩) hS.2.2 dX12_readPart_121
            · have ic96 : r40.toInt = (-1) := zi_nef rfl rfl c96
              exfalso; omega
      · have ic44 : r40.toInt = (-1) := zi_nef rfl rfl c44
        refine lv_iload_n hx hb dX12_readPart_67 rfl (lv_at hl 1 rfl) ?_
        refine lv_if_eq (tgt := 84) hx hb dX12_readPart_68 (by decide) (fun _ => ?_) (fun c9 => absurd c9 (by decide))
        refine lv_iconst (v := 0) hx hb dX12_readPart_84 (by decide) ?_
        have hFc := tp_fr hD hS hA
        refine va_callv (va_runV (As := [.int 0]) (rest := []) ⟨hx, hb, hml, hown, hts⟩ (t_X12_must l dC dI _ κ τ ν ρ L f hG hT h0 (0) ht_h0 (by first | decide | omega) (by simp only [hf_o34, mo_i1, mo_l1]; exact (show (o34_x10.toInt ≤ o34_x11.toInt ∧ o34_x11.toInt ≤ o34_x9.toInt ∧ (o34_x12.toInt = 0 ∨ o34_x10.toInt < o34_x11.toInt) ∧ (o34_x12.toInt = 1 → o34_x11.toInt = o34_x10.toInt + 1 → o34_x13.toInt ≤ 26)) from by have : (0 : Int32).toInt = 0 := rfl; first | omega | decide))) (cwV 1 hts gX12_readPart_X12_must rfl rfl rfl ⟨rfl, pd_X12_must⟩ ⟨Nat.le_of_ble_eq_true rfl, Nat.le_of_ble_eq_true rfl⟩) ⟨pz_blind, va_recv hK hP (ci := 12) (q0 := q35) rfl eq35, pz_pre hP hK hD hN⟩ rfl rfl hl.1 rfl (lv_room (Nat.le_of_ble_eq_true rfl)) dX12_readPart_85 ⟨Nat.le_of_ble_eq_true rfl, Nat.le_of_ble_eq_true rfl⟩) hS (fun q _ h => hFc q h) hFc (fun f124 t H1 locs ht hvm hw123 hB hz1 hk1 hS => ?_)
        obtain ⟨hT, hF125, hw123p⟩ := hw123
        have hR := hR.then hF125 (by decide)
        have hP := hB.1; rw [ht] at hP; have hD := tp_ad f124 hD; clear hB hFc hz1 hk1; subst ht; generalize t.heap = H at hP hS ⊢
        obtain ⟨o126_x0, o126_x1, o126_x7, o126_x9, o126_x10, o126_x11, o126_x12, o126_x13, o126_x14, o126_x15, o126_x16, o126_x17, o126_x18, o126_x19, o126_x20, o126_x22, o126_x25, o126_x28, o126_x29, o126_x32, o126_x33, o126_x34, o126_x35, o126_x36, o126_x37, o126_x38, o126_x47, o126_x48, hf_o126, ro126_0, ro126_1, ro126_2, ro126_3, ro126_4, ro126_5, ro126_6, ro126_7, ro126_8, ro126_9, ro126_10, ro126_11, ro126_12, ro126_13⟩ := tpo_13 hT ht_h0
        have tk127 : (o126_x10.toInt ≤ o126_x11.toInt ∧ o126_x11.toInt ≤ o126_x9.toInt ∧ (o126_x12.toInt = 0 ∨ o126_x10.toInt < o126_x11.toInt) ∧ (o126_x12.toInt = 1 → o126_x11.toInt = o126_x10.toInt + 1 → o126_x13.toInt ≤ 26)) ∧ (o126_x15.toInt = 0 → o34_x15.toInt = 0 ∧ o34_x11.toInt ≤ o126_x10.toInt ∧ (0) ≠ 0) ∧ (o126_x15.toInt ≠ 0 → o126_x10.toInt = o34_x10.toInt) ∧ o126_x9.toInt = o34_x9.toInt ∧ o126_x19.toInt = o34_x19.toInt ∧ o126_x20.toInt = o34_x20.toInt ∧ o126_x22.toInt = o34_x22.toInt ∧ o126_x28.toInt = o34_x28.toInt := by have q9 := hw123p; simp only [hf_o126, hf_o34, mo_i1, mo_l1] at q9; exact q9
        refine lv_aload_n hx hb dX12_readPart_88 rfl (lv_at hl 3 rfl) ?_
        obtain ⟨q128, eq128⟩ := tp_pos (tp_in hG ht_h0 (by decide)) hf_o126
        refine va_get (D := (dC, dI)) (ci := 12) (v := .int o126_x15) (C := RX12) (T := TX12) (N := 53) hx hb hts hfX12 hown hK hP q128 eq128 rfl 15 (by decide) (hts (.fieldLink RX12 261 "ColdShipsModel" "bad" "Z") wa_994) (fun _ h9 => h9) rfl dX12_readPart_89 ?_
        refine lv_if_ne (tgt := 120) hx hb dX12_readPart_92 (by decide) (fun c129 => ?_) (fun c129 => ?_)
        · have ic129 : o126_x15.toInt ≠ 0 := zi_ne rfl rfl c129
          refine lv_iconst (v := 3) hx hb dX12_readPart_120 (by decide) ?_
          have hf_130 : f124 (ρ h0 26) = .inl (κ 0, 400, .inl g31) := (hF125 _ (by rw [y10]; decide)).trans hf_o30
          have hf_131 : f124 (ρ h0 27) = .inl (κ 0, 400, .inl g33) := (hF125 _ (by rw [y11]; decide)).trans hf_o32
          have hf_132 : f124 (ρ h0 23) = .inl (κ 0, 400, .inl g27) := (hF125 _ (by rw [y8]; decide)).trans hf_o26
          have hf_133 : f124 (ρ h0 24) = .inl (κ 0, 400, .inl g29) := (hF125 _ (by rw [y9]; decide)).trans hf_o28
          exact W.iret (v := 3) hx hb hr (fun t ht hW => ⟨⟨3, f124, rfl, ⟨hT, hR, (by first | decide | omega), (by simp only [hf_o126, hf_130, hf_131, hf_132, hf_133, hf_o26, hf_o28, hf_o34, mo_i1, mo_l1]; exact (show (o126_x10.toInt ≤ o126_x11.toInt ∧ o126_x11.toInt ≤ o126_x9.toInt ∧ (o126_x12.toInt = 0 ∨ o126_x10.toInt < o126_x11.toInt) ∧ (o126_x12.toInt = 1 → o126_x11.toInt = o126_x10.toInt + 1 → o126_x13.toInt ≤ 26)) ∧ o126_x22.toInt + o126_x28.toInt ≤ o126_x10.toInt ∧ mo_PV (mo_R g31) (mo_R g33) o126_x28.toInt ∧ (o126_x15.toInt = 0 → mo_EX aa (3 : Int32).toInt (mo_R g27) (mo_R g29) (mo_R g31) (mo_R g33) o126_x22.toInt o126_x28.toInt ∧ mo_FR aa (mo_R g27) (mo_R g29) (mo_R g27) (mo_R g29) ∧ ((3 : Int32).toInt = 4 ∨ o34_x10.toInt < o126_x10.toInt ∨ (o126_x10.toInt = o34_x10.toInt ∧ (3 : Int32).toInt = 2))) ∧ o34_x22.toInt ≤ o126_x22.toInt ∧ o126_x9.toInt = o34_x9.toInt ∧ o126_x19.toInt = o34_x19.toInt ∧ o126_x20.toInt = o34_x20.toInt from ⟨by omega, by omega, h3, fun q9 => by exfalso; omega, by omega, by omega, by omega, by omega⟩))⟩, by rw [ht]; exact hP, va_K.moved hW.alike hK, hD⟩, hS.F ht⟩) hS.2.2 dX12_readPart_121
        · have ic129 : o126_x15.toInt = 0 := zi_nef rfl rfl c129
          refine lv_aload_n hx hb dX12_readPart_95 rfl (lv_at hl 3 rfl) ?_
          refine lv_iload_n hx hb dX12_readPart_96 rfl (lv_at hl 2 rfl) ?_
          refine lv_iconst (v := (-1)) hx hb dX12_readPart_97 (by decide) ?_
          refine lv_icmp_ne (tgt := 105) hx hb dX12_readPart_98 (by decide) (fun c134 => ?_) (fun c134 => ?_)
          · have ic134 : r40.toInt ≠ (-1) := zi_ne rfl rfl c134
            exfalso; omega
          · have ic134 : r40.toInt = (-1) := zi_nef rfl rfl c134
            refine lv_iconst (v := 0) hx hb dX12_readPart_101 (by decide) ?_
            refine lv_goto (tgt := 106) hx hb dX12_readPart_102 (by decide) ?_
            refine lv_iload_n hx hb dX12_readPart_106 rfl (lv_at hl 0 rfl) ?_
            have hf_135 : f124 (ρ h0 23) = .inl (κ 0, 400, .inl g27) := (hF125 _ (by rw [y8]; decide)).trans hf_o26
            have hf_136 : f124 (ρ h0 24) = .inl (κ 0, 400, .inl g29) := (hF125 _ (by rw [y9]; decide)).trans hf_o28
            have hFc := tp_fr hD hS hA
            refine va_callv (va_runV (As := [.int 0, .int 0]) (rest := []) ⟨hx, hb, hml, hown, hts⟩ (t_X12_emit l dC dI _ κ τ ν ρ L f124 hG hT h0 (0) (0) ht_h0 (by simp only [hf_o126, mo_i1, mo_l1]; exact (show o126_x22.toInt < 400 from by have : (0 : Int32).toInt = 0 := rfl; have : (0 : Int32).toInt = 0 := rfl; first | omega | decide))) (cwV 2 hts gX12_readPart_X12_emit rfl rfl rfl ⟨rfl, pd_X12_emit⟩ ⟨Nat.le_of_ble_eq_true rfl, Nat.le_of_ble_eq_true rfl⟩) ⟨pz_blind, va_recv hK hP (ci := 12) (q0 := q128) rfl eq128, pz_pre hP hK hD hN⟩ rfl rfl hl.1 rfl (lv_room (Nat.le_of_ble_eq_true rfl)) dX12_readPart_107 ⟨Nat.le_of_ble_eq_true rfl, Nat.le_of_ble_eq_true rfl⟩) hS (fun q _ h => hFc q h) hFc (fun f139 t H1 locs ht hvm hw138 hB hz1 hk1 hS => ?_)
            obtain ⟨hT, hF140, hw138p⟩ := hw138
            have hR := hR.then hF140 (by decide)
            have hP := hB.1; rw [ht] at hP; have hD := tp_ad f139 hD; clear hB hFc hz1 hk1; subst ht; generalize t.heap = H at hP hS ⊢
            obtain ⟨g142, hf_o141⟩ := tpo_53 hT y8
            obtain ⟨g144, hf_o143⟩ := tpo_54 hT y9
            obtain ⟨o145_x0, o145_x1, o145_x7, o145_x9, o145_x10, o145_x11, o145_x12, o145_x13, o145_x14, o145_x15, o145_x16, o145_x17, o145_x18, o145_x19, o145_x20, o145_x22, o145_x25, o145_x28, o145_x29, o145_x32, o145_x33, o145_x34, o145_x35, o145_x36, o145_x37, o145_x38, o145_x47, o145_x48, hf_o145, ro145_0, ro145_1, ro145_2, ro145_3, ro145_4, ro145_5, ro145_6, ro145_7, ro145_8, ro145_9, ro145_10, ro145_11, ro145_12, ro145_13⟩ := tpo_13 hT ht_h0
            have tk146 : mo_U (mo_R g27) (mo_R g142) o126_x22.toInt (0) ∧ mo_U (mo_R g29) (mo_R g144) o126_x22.toInt (0) ∧ o145_x22.toInt = o126_x22.toInt + 1 ∧ o145_x9.toInt = o126_x9.toInt ∧ o145_x10.toInt = o126_x10.toInt ∧ o145_x11.toInt = o126_x11.toInt ∧ o145_x12.toInt = o126_x12.toInt ∧ o145_x13.toInt = o126_x13.toInt ∧ o145_x15.toInt = o126_x15.toInt ∧ o145_x19.toInt = o126_x19.toInt ∧ o145_x20.toInt = o126_x20.toInt ∧ o145_x28.toInt = o126_x28.toInt := by have q9 := hw138p; simp only [hf_135, hf_o141, hf_o126, hf_136, hf_o143, hf_o145, mo_i1, mo_l1] at q9; exact q9
            refine lv_aload_n hx hb dX12_readPart_110 rfl (lv_at hl 3 rfl) ?_
            refine lv_dup hx hb dX12_readPart_111 rfl ?_
            obtain ⟨q147, eq147⟩ := tp_pos (tp_in hG ht_h0 (by decide)) hf_o145
            refine va_get (D := (dC, dI)) (ci := 12) (v := .int o145_x25) (C := RX12) (T := TX12) (N := 53) hx hb hts hfX12 hown hK hP q147 eq147 rfl 25 (by decide) (hts (.fieldLink RX12 351 "ColdShipsModel" "nLeaves" "I") wa_990) (fun _ h9 => h9) rfl dX12_readPart_112 ?_
            refine lv_iconst (v := 1) hx hb dX12_readPart_115 (by decide) ?_
            refine lv_iadd hx hb dX12_readPart_116 ?_
            refine lv_topi (fun z148 ez148 => ?_)
            refine va_put (D := (dC, dI)) (ci := 12) (v := .int z148) (ty := .int) (C := RX12) (T := TX12) (N := 53) hx hb hts hfX12 tyX12 tyX12_ok nmX12 hown hK hP hD hS q147 eq147 rfl 25 (by decide) (hts (.fieldLink RX12 351 "ColdShipsModel" "nLeaves" "I") wa_990) (fun _ h9 => h9) rfl (tyX12_ok 25 (by decide)) rfl rfl (Nat.le_of_ble_eq_true rfl) dX12_readPart_117 (tp_k (.inr (12, [.int o145_x0, .int o145_x1, .ref (ρ h0 2), .ref (ρ h0 3), .ref (ρ h0 4), .ref (ρ h0 5), .ref (ρ h0 6), .int o145_x7, .ref (ρ h0 8), .int o145_x9, .int o145_x10, .int o145_x11, .int o145_x12, .long o145_x13, .int o145_x14, .int o145_x15, .int o145_x16, .int o145_x17, .int o145_x18, .int o145_x19, .int o145_x20, .ref (ρ h0 21), .int o145_x22, .ref (ρ h0 23), .ref (ρ h0 24), .int z148, .ref (ρ h0 26), .ref (ρ h0 27), .int o145_x28, .int o145_x29, .ref (ρ h0 30), .ref (ρ h0 31), .int o145_x32, .long o145_x33, .long o145_x34, .long o145_x35, .int o145_x36, .int o145_x37, .int o145_x38, .ref (ρ h0 39), .ref (ρ h0 40), .ref (ρ h0 41), .ref (ρ h0 42), .ref (ρ h0 43), .ref (ρ h0 44), .ref (ρ h0 45), .ref (ρ h0 46), .int o145_x47, .int o145_x48, .ref (ρ h0 49), .ref (ρ h0 50), .ref (ρ h0 51), .ref (ρ h0 52)])) hD (tp_in hG ht_h0 (by decide)) eq147 (fun f149 H locs hP hD hS g151 k150 => ?_))
            have hT := hT.up ht_h0 g151 k150 ⟨_, _, _, _, _, _, _, _, _, _, _, _, _, _, _, _, _, _, _, _, _, _, _, _, _, _, _, _, rfl, ro145_0, ro145_1, ro145_2, ro145_3, ro145_4, ro145_5, ro145_6, ro145_7, ro145_8, ro145_9, ro145_10, ro145_11, ro145_12, ro145_13⟩
            have hR := hR.up ht_h0 (by decide) k150
            refine lv_iconst (v := 3) hx hb dX12_readPart_120 (by decide) ?_
            have hf_152 : f124 (ρ h0 26) = .inl (κ 0, 400, .inl g31) := (hF125 _ (by rw [y10]; decide)).trans hf_o30
            have hf_153 : f139 (ρ h0 26) = .inl (κ 0, 400, .inl g31) := (hF140 _ (by rw [y10]; decide)).trans hf_152
            have hf_154 : f149 (ρ h0 26) = .inl (κ 0, 400, .inl g31) := (k150 _ (tp_ne y10 ht_h0 (by decide))).trans hf_153
            have hf_155 : f124 (ρ h0 27) = .inl (κ 0, 400, .inl g33) := (hF125 _ (by rw [y11]; decide)).trans hf_o32
            have hf_156 : f139 (ρ h0 27) = .inl (κ 0, 400, .inl g33) := (hF140 _ (by rw [y11]; decide)).trans hf_155
            have hf_157 : f149 (ρ h0 27) = .inl (κ 0, 400, .inl g33) := (k150 _ (tp_ne y11 ht_h0 (by decide))).trans hf_156
            have hf_158 : f149 (ρ h0 23) = .inl (κ 0, 400, .inl g142) := (k150 _ (tp_ne y8 ht_h0 (by decide))).trans hf_o141
            have hf_159 : f149 (ρ h0 24) = .inl (κ 0, 400, .inl g144) := (k150 _ (tp_ne y9 ht_h0 (by decide))).trans hf_o143
            exact W.iret (v := 3) hx hb hr (fun t ht hW => ⟨⟨3, f149, rfl, ⟨hT, hR, (by first | decide | omega), (by simp only [g151, hf_154, hf_157, hf_158, hf_159, hf_o26, hf_o28, hf_o34, mo_i1, mo_l1]; exact (show (o145_x10.toInt ≤ o145_x11.toInt ∧ o145_x11.toInt ≤ o145_x9.toInt ∧ (o145_x12.toInt = 0 ∨ o145_x10.toInt < o145_x11.toInt) ∧ (o145_x12.toInt = 1 → o145_x11.toInt = o145_x10.toInt + 1 → o145_x13.toInt ≤ 26)) ∧ o145_x22.toInt + o145_x28.toInt ≤ o145_x10.toInt ∧ mo_PV (mo_R g31) (mo_R g33) o145_x28.toInt ∧ (o145_x15.toInt = 0 → mo_EX aa (3 : Int32).toInt (mo_R g142) (mo_R g144) (mo_R g31) (mo_R g33) o145_x22.toInt o145_x28.toInt ∧ mo_FR aa (mo_R g27) (mo_R g29) (mo_R g142) (mo_R g144) ∧ ((3 : Int32).toInt = 4 ∨ o34_x10.toInt < o145_x10.toInt ∨ (o145_x10.toInt = o34_x10.toInt ∧ (3 : Int32).toInt = 2))) ∧ o34_x22.toInt ≤ o145_x22.toInt ∧ o145_x9.toInt = o34_x9.toInt ∧ o145_x19.toInt = o34_x19.toInt ∧ o145_x20.toInt = o34_x20.toInt from ⟨by omega, by omega, h3, fun q9 => ⟨(h4.leaf (by decide) (by omega) tk146.1 tk146.2.1 (by omega) (by omega)), (mo_FR.emit tk146.1 tk146.2.1 (h4.pj0 (by decide)).base), by have q8 : (3 : Int32).toInt = 3 := rfl; omega⟩, by omega, by omega, by omega, by omega⟩))⟩, by rw [ht]; exact hP, va_K.moved hW.alike hK, hD⟩, hS.F ht⟩) hS.2.2 dX12_readPart_121
    · have ic43 : o34_x12.toInt = 2 := zi_nef rfl rfl c43
      refine lv_aload_n hx hb dX12_readPart_30 rfl (lv_at hl 1 rfl) ?_
      refine va_get (D := (dC, dI)) (ci := 12) (v := .long o34_x13) (C := RX12) (T := TX12) (N := 53) hx hb hts hfX12 hown hK hP q35 eq35 rfl 13 (by decide) (hts (.fieldLink RX12 270 "ColdShipsModel" "worth" "J") wa_1006) (fun _ h9 => h9) rfl dX12_readPart_31 ?_
      refine lv_ldc2 (own := RX12) (v := 100000) hx hb hown (hts (.constantLong RX12 177 (100000)) wa_552) dX12_readPart_34 ?_
      refine W.lcmp hx hb dX12_readPart_37 ?_
      refine lv_if_gt (tgt := 45) hx hb dX12_readPart_38 (by decide) (fun c160 => ?_) (fun c160 => ?_)
      · have ic160 : o34_x13.toInt > 100000 := zl_gt rfl rfl c160
        refine lv_iconst (v := 0) hx hb dX12_readPart_45 (by decide) ?_
        refine lv_istore_n (lv' := [(2, .int 0), (1, .int r40), (0, .ref h0)]) hx hb dX12_readPart_46 rfl hl (by decide) rfl (fun ls hl => ?_)
        refine lv_iload_n hx hb dX12_readPart_47 rfl (lv_at hl 0 rfl) ?_
        refine lv_if_eq (tgt := 59) hx hb dX12_readPart_48 (by decide) (fun _ => ?_) (fun c9 => absurd c9 (by decide))
        refine lv_iconst (v := 0) hx hb dX12_readPart_59 (by decide) ?_
        refine lv_istore_n (lv' := [(3, .int 0), (2, .int 0), (1, .int r40), (0, .ref h0)]) hx hb dX12_readPart_60 rfl hl (by decide) rfl (fun ls hl => ?_)
        refine lv_aload_n hx hb dX12_readPart_61 rfl (lv_at hl 3 rfl) ?_
        refine lv_iload_n hx hb dX12_readPart_62 rfl (lv_at hl 2 rfl) ?_
        refine lv_iconst (v := (-1)) hx hb dX12_readPart_63 (by decide) ?_
        refine lv_icmp_ne (tgt := 71) hx hb dX12_readPart_64 (by decide) (fun c161 => ?_) (fun c161 => ?_)
        · have ic161 : r40.toInt ≠ (-1) := zi_ne rfl rfl c161
          refine lv_aload_n hx hb dX12_readPart_71 rfl (lv_at hl 3 rfl) ?_
          refine va_get (D := (dC, dI)) (ci := 12) (v := .int o34_x25) (C := RX12) (T := TX12) (N := 53) hx hb hts hfX12 hown hK hP q35 eq35 rfl 25 (by decide) (hts (.fieldLink RX12 351 "ColdShipsModel" "nLeaves" "I") wa_990) (fun _ h9 => h9) rfl dX12_readPart_72 ?_
          refine lv_bipush (v := 50) hx hb dX12_readPart_75 (by decide) ?_
          refine lv_icmp_ge (tgt := 84) hx hb dX12_readPart_77 (by decide) (fun c162 => ?_) (fun c162 => ?_)
          · have ic162 : o34_x25.toInt ≥ 50 := zi_ge rfl rfl c162
            refine lv_iconst (v := 0) hx hb dX12_readPart_84 (by decide) ?_
            have hFc := tp_fr hD hS hA
            refine va_callv (va_runV (As := [.int 0]) (rest := []) ⟨hx, hb, hml, hown, hts⟩ (t_X12_must l dC dI _ κ τ ν ρ L f hG hT h0 (0) ht_h0 (by first | decide | omega) (by simp only [hf_o34, mo_i1, mo_l1]; exact (show (o34_x10.toInt ≤ o34_x11.toInt ∧ o34_x11.toInt ≤ o34_x9.toInt ∧ (o34_x12.toInt = 0 ∨ o34_x10.toInt < o34_x11.toInt) ∧ (o34_x12.toInt = 1 → o34_x11.toInt = o34_x10.toInt + 1 → o34_x13.toInt ≤ 26)) from by have : (0 : Int32).toInt = 0 := rfl; first | omega | decide))) (cwV 1 hts gX12_readPart_X12_must rfl rfl rfl ⟨rfl, pd_X12_must⟩ ⟨Nat.le_of_ble_eq_true rfl, Nat.le_of_ble_eq_true rfl⟩) ⟨pz_blind, va_recv hK hP (ci := 12) (q0 := q35) rfl eq35, pz_pre hP hK hD hN⟩ rfl rfl hl.1 rfl (lv_room (Nat.le_of_ble_eq_true rfl)) dX12_readPart_85 ⟨Nat.le_of_ble_eq_true rfl, Nat.le_of_ble_eq_true rfl⟩) hS (fun q _ h => hFc q h) hFc (fun f165 t H1 locs ht hvm hw164 hB hz1 hk1 hS => ?_)
            obtain ⟨hT, hF166, hw164p⟩ := hw164
            have hR := hR.then hF166 (by decide)
            have hP := hB.1; rw [ht] at hP; have hD := tp_ad f165 hD; clear hB hFc hz1 hk1; subst ht; generalize t.heap = H at hP hS ⊢
            obtain ⟨o167_x0, o167_x1, o167_x7, o167_x9, o167_x10, o167_x11, o167_x12, o167_x13, o167_x14, o167_x15, o167_x16, o167_x17, o167_x18, o167_x19, o167_x20, o167_x22, o167_x25, o167_x28, o167_x29, o167_x32, o167_x33, o167_x34, o167_x35, o167_x36, o167_x37, o167_x38, o167_x47, o167_x48, hf_o167, ro167_0, ro167_1, ro167_2, ro167_3, ro167_4, ro167_5, ro167_6, ro167_7, ro167_8, ro167_9, ro167_10, ro167_11, ro167_12, ro167_13⟩ := tpo_13 hT ht_h0
            have tk168 : (o167_x10.toInt ≤ o167_x11.toInt ∧ o167_x11.toInt ≤ o167_x9.toInt ∧ (o167_x12.toInt = 0 ∨ o167_x10.toInt < o167_x11.toInt) ∧ (o167_x12.toInt = 1 → o167_x11.toInt = o167_x10.toInt + 1 → o167_x13.toInt ≤ 26)) ∧ (o167_x15.toInt = 0 → o34_x15.toInt = 0 ∧ o34_x11.toInt ≤ o167_x10.toInt ∧ (0) ≠ 0) ∧ (o167_x15.toInt ≠ 0 → o167_x10.toInt = o34_x10.toInt) ∧ o167_x9.toInt = o34_x9.toInt ∧ o167_x19.toInt = o34_x19.toInt ∧ o167_x20.toInt = o34_x20.toInt ∧ o167_x22.toInt = o34_x22.toInt ∧ o167_x28.toInt = o34_x28.toInt := by have q9 := hw164p; simp only [hf_o167, hf_o34, mo_i1, mo_l1] at q9; exact q9
            refine lv_aload_n hx hb dX12_readPart_88 rfl (lv_at hl 3 rfl) ?_
            obtain ⟨q169, eq169⟩ := tp_pos (tp_in hG ht_h0 (by decide)) hf_o167
            refine va_get (D := (dC, dI)) (ci := 12) (v := .int o167_x15) (C := RX12) (T := TX12) (N := 53) hx hb hts hfX12 hown hK hP q169 eq169 rfl 15 (by decide) (hts (.fieldLink RX12 261 "ColdShipsModel" "bad" "Z") wa_994) (fun _ h9 => h9) rfl dX12_readPart_89 ?_
            refine lv_if_ne (tgt := 120) hx hb dX12_readPart_92 (by decide) (fun c170 => ?_) (fun c170 => ?_)
            · have ic170 : o167_x15.toInt ≠ 0 := zi_ne rfl rfl c170
              refine lv_iconst (v := 3) hx hb dX12_readPart_120 (by decide) ?_
              have hf_171 : f165 (ρ h0 26) = .inl (κ 0, 400, .inl g31) := (hF166 _ (by rw [y10]; decide)).trans hf_o30
              have hf_172 : f165 (ρ h0 27) = .inl (κ 0, 400, .inl g33) := (hF166 _ (by rw [y11]; decide)).trans hf_o32
              have hf_173 : f165 (ρ h0 23) = .inl (κ 0, 400, .inl g27) := (hF166 _ (by rw [y8]; decide)).trans hf_o26
              have hf_174 : f165 (ρ h0 24) = .inl (κ 0, 400, .inl g29) := (hF166 _ (by rw [y9]; decide)).trans hf_o28
              exact W.iret (v := 3) hx hb hr (fun t ht hW => ⟨⟨3, f165, rfl, ⟨hT, hR, (by first | decide | omega), (by simp only [hf_o167, hf_171, hf_172, hf_173, hf_174, hf_o26, hf_o28, hf_o34, mo_i1, mo_l1]; exact (show (o167_x10.toInt ≤ o167_x11.toInt ∧ o167_x11.toInt ≤ o167_x9.toInt ∧ (o167_x12.toInt = 0 ∨ o167_x10.toInt < o167_x11.toInt) ∧ (o167_x12.toInt = 1 → o167_x11.toInt = o167_x10.toInt + 1 → o167_x13.toInt ≤ 26)) ∧ o167_x22.toInt + o167_x28.toInt ≤ o167_x10.toInt ∧ mo_PV (mo_R g31) (mo_R g33) o167_x28.toInt ∧ (o167_x15.toInt = 0 → mo_EX aa (3 : Int32).toInt (mo_R g27) (mo_R g29) (mo_R g31) (mo_R g33) o167_x22.toInt o167_x28.toInt ∧ mo_FR aa (mo_R g27) (mo_R g29) (mo_R g27) (mo_R g29) ∧ ((3 : Int32).toInt = 4 ∨ o34_x10.toInt < o167_x10.toInt ∨ (o167_x10.toInt = o34_x10.toInt ∧ (3 : Int32).toInt = 2))) ∧ o34_x22.toInt ≤ o167_x22.toInt ∧ o167_x9.toInt = o34_x9.toInt ∧ o167_x19.toInt = o34_x19.toInt ∧ o167_x20.toInt = o34_x20.toInt from ⟨by omega, by omega, h3, fun q9 => by exfalso; omega, by omega, by omega, by omega, by omega⟩))⟩, by rw [ht]; exact hP, va_K.moved hW.alike hK, hD⟩, hS.F ht⟩) hS.2.2 dX12_readPart_121
            · have ic170 : o167_x15.toInt = 0 := zi_nef rfl rfl c170
              refine lv_aload_n hx hb dX12_readPart_95 rfl (lv_at hl 3 rfl) ?_
              refine lv_iload_n hx hb dX12_readPart_96 rfl (lv_at hl 2 rfl) ?_
              refine lv_iconst (v := (-1)) hx hb dX12_readPart_97 (by decide) ?_
              refine lv_icmp_ne (tgt := 105) hx hb dX12_readPart_98 (by decide) (fun c175 => ?_) (fun c175 => ?_)
              · have ic175 : r40.toInt ≠ (-1) := zi_ne rfl rfl c175
                refine lv_iload_n hx hb dX12_readPart_105 rfl (lv_at hl 2 rfl) ?_
                refine lv_iload_n hx hb dX12_readPart_106 rfl (lv_at hl 0 rfl) ?_
                have hf_176 : f165 (ρ h0 23) = .inl (κ 0, 400, .inl g27) := (hF166 _ (by rw [y8]; decide)).trans hf_o26
                have hf_177 : f165 (ρ h0 24) = .inl (κ 0, 400, .inl g29) := (hF166 _ (by rw [y9]; decide)).trans hf_o28
                have hFc := tp_fr hD hS hA
                refine va_callv (va_runV (As := [.int r40, .int 0]) (rest := []) ⟨hx, hb, hml, hown, hts⟩ (t_X12_emit l dC dI _ κ τ ν ρ L f165 hG hT h0 r40 (0) ht_h0 (by simp only [hf_o167, mo_i1, mo_l1]; exact (show o167_x22.toInt < 400 from by have : (0 : Int32).toInt = 0 := rfl; first | omega | decide))) (cwV 2 hts gX12_readPart_X12_emit rfl rfl rfl ⟨rfl, pd_X12_emit⟩ ⟨Nat.le_of_ble_eq_true rfl, Nat.le_of_ble_eq_true rfl⟩) ⟨pz_blind, va_recv hK hP (ci := 12) (q0 := q169) rfl eq169, pz_pre hP hK hD hN⟩ rfl rfl hl.1 rfl (lv_room (Nat.le_of_ble_eq_true rfl)) dX12_readPart_107 ⟨Nat.le_of_ble_eq_true rfl, Nat.le_of_ble_eq_true rfl⟩) hS (fun q _ h => hFc q h) hFc (fun f180 t H1 locs ht hvm hw179 hB hz1 hk1 hS => ?_)
                obtain ⟨hT, hF181, hw179p⟩ := hw179
                have hR := hR.then hF181 (by decide)
                have hP := hB.1; rw [ht] at hP; have hD := tp_ad f180 hD; clear hB hFc hz1 hk1; subst ht; generalize t.heap = H at hP hS ⊢
                obtain ⟨g183, hf_o182⟩ := tpo_53 hT y8
                obtain ⟨g185, hf_o184⟩ := tpo_54 hT y9
                obtain ⟨o186_x0, o186_x1, o186_x7, o186_x9, o186_x10, o186_x11, o186_x12, o186_x13, o186_x14, o186_x15, o186_x16, o186_x17, o186_x18, o186_x19, o186_x20, o186_x22, o186_x25, o186_x28, o186_x29, o186_x32, o186_x33, o186_x34, o186_x35, o186_x36, o186_x37, o186_x38, o186_x47, o186_x48, hf_o186, ro186_0, ro186_1, ro186_2, ro186_3, ro186_4, ro186_5, ro186_6, ro186_7, ro186_8, ro186_9, ro186_10, ro186_11, ro186_12, ro186_13⟩ := tpo_13 hT ht_h0
                have tk187 : mo_U (mo_R g27) (mo_R g183) o167_x22.toInt r40.toInt ∧ mo_U (mo_R g29) (mo_R g185) o167_x22.toInt (0) ∧ o186_x22.toInt = o167_x22.toInt + 1 ∧ o186_x9.toInt = o167_x9.toInt ∧ o186_x10.toInt = o167_x10.toInt ∧ o186_x11.toInt = o167_x11.toInt ∧ o186_x12.toInt = o167_x12.toInt ∧ o186_x13.toInt = o167_x13.toInt ∧ o186_x15.toInt = o167_x15.toInt ∧ o186_x19.toInt = o167_x19.toInt ∧ o186_x20.toInt = o167_x20.toInt ∧ o186_x28.toInt = o167_x28.toInt := by have q9 := hw179p; simp only [hf_176, hf_o182, hf_o167, hf_177, hf_o184, hf_o186, mo_i1, mo_l1] at q9; exact q9
                refine lv_aload_n hx hb dX12_readPart_110 rfl (lv_at hl 3 rfl) ?_
                refine lv_dup hx hb dX12_readPart_111 rfl ?_
                obtain ⟨q188, eq188⟩ := tp_pos (tp_in hG ht_h0 (by decide)) hf_o186
                refine va_get (D := (dC, dI)) (ci := 12) (v := .int o186_x25) (C := RX12) (T := TX12) (N := 53) hx hb hts hfX12 hown hK hP q188 eq188 rfl 25 (by decide) (hts (.fieldLink RX12 351 "ColdShipsModel" "nLeaves" "I") wa_990) (fun _ h9 => h9) rfl dX12_readPart_112 ?_
                refine lv_iconst (v := 1) hx hb dX12_readPart_115 (by decide) ?_
                refine lv_iadd hx hb dX12_readPart_116 ?_
                refine lv_topi (fun z189 ez189 => ?_)
                refine va_put (D := (dC, dI)) (ci := 12) (v := .int z189) (ty := .int) (C := RX12) (T := TX12) (N := 53) hx hb hts hfX12 tyX12 tyX12_ok nmX12 hown hK hP hD hS q188 eq188 rfl 25 (by decide) (hts (.fieldLink RX12 351 "ColdShipsModel" "nLeaves" "I") wa_990) (fun _ h9 => h9) rfl (tyX12_ok 25 (by decide)) rfl rfl (Nat.le_of_ble_eq_true rfl) dX12_readPart_117 (tp_k (.inr (12, [.int o186_x0, .int o186_x1, .ref (ρ h0 2), .ref (ρ h0 3), .ref (ρ h0 4), .ref (ρ h0 5), .ref (ρ h0 6), .int o186_x7, .ref (ρ h0 8), .int o186_x9, .int o186_x10, .int o186_x11, .int o186_x12, .long o186_x13, .int o186_x14, .int o186_x15, .int o186_x16, .int o186_x17, .int o186_x18, .int o186_x19, .int o186_x20, .ref (ρ h0 21), .int o186_x22, .ref (ρ h0 23), .ref (ρ h0 24), .int z189, .ref (ρ h0 26), .ref (ρ h0 27), .int o186_x28, .int o186_x29, .ref (ρ h0 30), .ref (ρ h0 31), .int o186_x32, .long o186_x33, .long o186_x34, .long o186_x35, .int o186_x36, .int o186_x37, .int o186_x38, .ref (ρ h0 39), .ref (ρ h0 40), .ref (ρ h0 41), .ref (ρ h0 42), .ref (ρ h0 43), .ref (ρ h0 44), .ref (ρ h0 45), .ref (ρ h0 46), .int o186_x47, .int o186_x48, .ref (ρ h0 49), .ref (ρ h0 50), .ref (ρ h0 51), .ref (ρ h0 52)])) hD (tp_in hG ht_h0 (by decide)) eq188 (fun f190 H locs hP hD hS g192 k191 => ?_))
                have hT := hT.up ht_h0 g192 k191 ⟨_, _, _, _, _, _, _, _, _, _, _, _, _, _, _, _, _, _, _, _, _, _, _, _, _, _, _, _, rfl, ro186_0, ro186_1, ro186_2, ro186_3, ro186_4, ro186_5, ro186_6, ro186_7, ro186_8, ro186_9, ro186_10, ro186_11, ro186_12, ro186_13⟩
                have hR := hR.up ht_h0 (by decide) k191
                refine lv_iconst (v := 3) hx hb dX12_readPart_120 (by decide) ?_
                have hf_193 : f165 (ρ h0 26) = .inl (κ 0, 400, .inl g31) := (hF166 _ (by rw [y10]; decide)).trans hf_o30
                have hf_194 : f180 (ρ h0 26) = .inl (κ 0, 400, .inl g31) := (hF181 _ (by rw [y10]; decide)).trans hf_193
                have hf_195 : f190 (ρ h0 26) = .inl (κ 0, 400, .inl g31) := (k191 _ (tp_ne y10 ht_h0 (by decide))).trans hf_194
                have hf_196 : f165 (ρ h0 27) = .inl (κ 0, 400, .inl g33) := (hF166 _ (by rw [y11]; decide)).trans hf_o32
                have hf_197 : f180 (ρ h0 27) = .inl (κ 0, 400, .inl g33) := (hF181 _ (by rw [y11]; decide)).trans hf_196
                have hf_198 : f190 (ρ h0 27) = .inl (κ 0, 400, .inl g33) := (k191 _ (tp_ne y11 ht_h0 (by decide))).trans hf_197
                have hf_199 : f190 (ρ h0 23) = .inl (κ 0, 400, .inl g183) := (k191 _ (tp_ne y8 ht_h0 (by decide))).trans hf_o182
                have hf_200 : f190 (ρ h0 24) = .inl (κ 0, 400, .inl g185) := (k191 _ (tp_ne y9 ht_h0 (by decide))).trans hf_o184
                exact W.iret (v := 3) hx hb hr (fun t ht hW => ⟨⟨3, f190, rfl, ⟨hT, hR, (by first | decide | omega), (by simp only [g192, hf_195, hf_198, hf_199, hf_200, hf_o26, hf_o28, hf_o34, mo_i1, mo_l1]; exact (show (o186_x10.toInt ≤ o186_x11.toInt ∧ o186_x11.toInt ≤ o186_x9.toInt ∧ (o186_x12.toInt = 0 ∨ o186_x10.toInt < o186_x11.toInt) ∧ (o186_x12.toInt = 1 → o186_x11.toInt = o186_x10.toInt + 1 → o186_x13.toInt ≤ 26)) ∧ o186_x22.toInt + o186_x28.toInt ≤ o186_x10.toInt ∧ mo_PV (mo_R g31) (mo_R g33) o186_x28.toInt ∧ (o186_x15.toInt = 0 → mo_EX aa (3 : Int32).toInt (mo_R g183) (mo_R g185) (mo_R g31) (mo_R g33) o186_x22.toInt o186_x28.toInt ∧ mo_FR aa (mo_R g27) (mo_R g29) (mo_R g183) (mo_R g185) ∧ ((3 : Int32).toInt = 4 ∨ o34_x10.toInt < o186_x10.toInt ∨ (o186_x10.toInt = o34_x10.toInt ∧ (3 : Int32).toInt = 2))) ∧ o34_x22.toInt ≤ o186_x22.toInt ∧ o186_x9.toInt = o34_x9.toInt ∧ o186_x19.toInt = o34_x19.toInt ∧ o186_x20.toInt = o34_x20.toInt from ⟨by omega, by omega, h3, fun q9 => ⟨(h4.leaf (by decide) (by omega) tk187.1 tk187.2.1 (by omega) (by omega)), (mo_FR.emit tk187.1 tk187.2.1 (h4.pj0 (by decide)).base), by have q8 : (3 : Int32).toInt = 3 := rfl; omega⟩, by omega, by omega, by omega, by omega⟩))⟩, by rw [ht]; exact hP, va_K.moved hW.alike hK, hD⟩, hS.F ht⟩) hS.2.2 dX12_readPart_121
              · have ic175 : r40.toInt = (-1) := zi_nef rfl rfl c175
                exfalso; omega
          · have ic162 : o34_x25.toInt < 50 := zi_gef rfl rfl c162
            refine lv_iconst (v := 1) hx hb dX12_readPart_80 (by decide) ?_
            refine lv_goto (tgt := 85) hx hb dX12_readPart_81 (by decide) ?_
            have hFc := tp_fr hD hS hA
            refine va_callv (va_runV (As := [.int 1]) (rest := []) ⟨hx, hb, hml, hown, hts⟩ (t_X12_must l dC dI _ κ τ ν ρ L f hG hT h0 (1) ht_h0 (by first | decide | omega) (by simp only [hf_o34, mo_i1, mo_l1]; exact (show (o34_x10.toInt ≤ o34_x11.toInt ∧ o34_x11.toInt ≤ o34_x9.toInt ∧ (o34_x12.toInt = 0 ∨ o34_x10.toInt < o34_x11.toInt) ∧ (o34_x12.toInt = 1 → o34_x11.toInt = o34_x10.toInt + 1 → o34_x13.toInt ≤ 26)) from by have : (1 : Int32).toInt = 1 := rfl; first | omega | decide))) (cwV 1 hts gX12_readPart_X12_must rfl rfl rfl ⟨rfl, pd_X12_must⟩ ⟨Nat.le_of_ble_eq_true rfl, Nat.le_of_ble_eq_true rfl⟩) ⟨pz_blind, va_recv hK hP (ci := 12) (q0 := q35) rfl eq35, pz_pre hP hK hD hN⟩ rfl rfl hl.1 rfl (lv_room (Nat.le_of_ble_eq_true rfl)) dX12_readPart_85 ⟨Nat.le_of_ble_eq_true rfl, Nat.le_of_ble_eq_true rfl⟩) hS (fun q _ h => hFc q h) hFc (fun f203 t H1 locs ht hvm hw202 hB hz1 hk1 hS => ?_)
            obtain ⟨hT, hF204, hw202p⟩ := hw202
            have hR := hR.then hF204 (by decide)
            have hP := hB.1; rw [ht] at hP; have hD := tp_ad f203 hD; clear hB hFc hz1 hk1; subst ht; generalize t.heap = H at hP hS ⊢
            obtain ⟨o205_x0, o205_x1, o205_x7, o205_x9, o205_x10, o205_x11, o205_x12, o205_x13, o205_x14, o205_x15, o205_x16, o205_x17, o205_x18, o205_x19, o205_x20, o205_x22, o205_x25, o205_x28, o205_x29, o205_x32, o205_x33, o205_x34, o205_x35, o205_x36, o205_x37, o205_x38, o205_x47, o205_x48, hf_o205, ro205_0, ro205_1, ro205_2, ro205_3, ro205_4, ro205_5, ro205_6, ro205_7, ro205_8, ro205_9, ro205_10, ro205_11, ro205_12, ro205_13⟩ := tpo_13 hT ht_h0
            have tk206 : (o205_x10.toInt ≤ o205_x11.toInt ∧ o205_x11.toInt ≤ o205_x9.toInt ∧ (o205_x12.toInt = 0 ∨ o205_x10.toInt < o205_x11.toInt) ∧ (o205_x12.toInt = 1 → o205_x11.toInt = o205_x10.toInt + 1 → o205_x13.toInt ≤ 26)) ∧ (o205_x15.toInt = 0 → o34_x15.toInt = 0 ∧ o34_x11.toInt ≤ o205_x10.toInt ∧ (1) ≠ 0) ∧ (o205_x15.toInt ≠ 0 → o205_x10.toInt = o34_x10.toInt) ∧ o205_x9.toInt = o34_x9.toInt ∧ o205_x19.toInt = o34_x19.toInt ∧ o205_x20.toInt = o34_x20.toInt ∧ o205_x22.toInt = o34_x22.toInt ∧ o205_x28.toInt = o34_x28.toInt := by have q9 := hw202p; simp only [hf_o205, hf_o34, mo_i1, mo_l1] at q9; exact q9
            refine lv_aload_n hx hb dX12_readPart_88 rfl (lv_at hl 3 rfl) ?_
            obtain ⟨q207, eq207⟩ := tp_pos (tp_in hG ht_h0 (by decide)) hf_o205
            refine va_get (D := (dC, dI)) (ci := 12) (v := .int o205_x15) (C := RX12) (T := TX12) (N := 53) hx hb hts hfX12 hown hK hP q207 eq207 rfl 15 (by decide) (hts (.fieldLink RX12 261 "ColdShipsModel" "bad" "Z") wa_994) (fun _ h9 => h9) rfl dX12_readPart_89 ?_
            refine lv_if_ne (tgt := 120) hx hb dX12_readPart_92 (by decide) (fun c208 => ?_) (fun c208 => ?_)
            · have ic208 : o205_x15.toInt ≠ 0 := zi_ne rfl rfl c208
              refine lv_iconst (v := 3) hx hb dX12_readPart_120 (by decide) ?_
              have hf_209 : f203 (ρ h0 26) = .inl (κ 0, 400, .inl g31) := (hF204 _ (by rw [y10]; decide)).trans hf_o30
              have hf_210 : f203 (ρ h0 27) = .inl (κ 0, 400, .inl g33) := (hF204 _ (by rw [y11]; decide)).trans hf_o32
              have hf_211 : f203 (ρ h0 23) = .inl (κ 0, 400, .inl g27) := (hF204 _ (by rw [y8]; decide)).trans hf_o26
              have hf_212 : f203 (ρ h0 24) = .inl (κ 0, 400, .inl g29) := (hF204 _ (by rw [y9]; decide)).trans hf_o28
              exact W.iret (v := 3) hx hb hr (fun t ht hW => ⟨⟨3, f203, rfl, ⟨hT, hR, (by first | decide | omega), (by simp only [hf_o205, hf_209, hf_210, hf_211, hf_212, hf_o26, hf_o28, hf_o34, mo_i1, mo_l1]; exact (show (o205_x10.toInt ≤ o205_x11.toInt ∧ o205_x11.toInt ≤ o205_x9.toInt ∧ (o205_x12.toInt = 0 ∨ o205_x10.toInt < o205_x11.toInt) ∧ (o205_x12.toInt = 1 → o205_x11.toInt = o205_x10.toInt + 1 → o205_x13.toInt ≤ 26)) ∧ o205_x22.toInt + o205_x28.toInt ≤ o205_x10.toInt ∧ mo_PV (mo_R g31) (mo_R g33) o205_x28.toInt ∧ (o205_x15.toInt = 0 → mo_EX aa (3 : Int32).toInt (mo_R g27) (mo_R g29) (mo_R g31) (mo_R g33) o205_x22.toInt o205_x28.toInt ∧ mo_FR aa (mo_R g27) (mo_R g29) (mo_R g27) (mo_R g29) ∧ ((3 : Int32).toInt = 4 ∨ o34_x10.toInt < o205_x10.toInt ∨ (o205_x10.toInt = o34_x10.toInt ∧ (3 : Int32).toInt = 2))) ∧ o34_x22.toInt ≤ o205_x22.toInt ∧ o205_x9.toInt = o34_x9.toInt ∧ o205_x19.toInt = o34_x19.toInt ∧ o205_x20.toInt = o34_x20.toInt from ⟨by omega, by omega, h3, fun q9 => by exfalso; omega, by omega, by omega, by omega, by omega⟩))⟩, by rw [ht]; exact hP, va_K.moved hW.alike hK, hD⟩, hS.F ht⟩) hS.2.2 dX12_readPart_121
            · have ic208 : o205_x15.toInt = 0 := zi_nef rfl rfl c208
              refine lv_aload_n hx hb dX12_readPart_95 rfl (lv_at hl 3 rfl) ?_
              refine lv_iload_n hx hb dX12_readPart_96 rfl (lv_at hl 2 rfl) ?_
              refine lv_iconst (v := (-1)) hx hb dX12_readPart_97 (by decide) ?_
              refine lv_icmp_ne (tgt := 105) hx hb dX12_readPart_98 (by decide) (fun c213 => ?_) (fun c213 => ?_)
              · have ic213 : r40.toInt ≠ (-1) := zi_ne rfl rfl c213
                refine lv_iload_n hx hb dX12_readPart_105 rfl (lv_at hl 2 rfl) ?_
                refine lv_iload_n hx hb dX12_readPart_106 rfl (lv_at hl 0 rfl) ?_
                have hf_214 : f203 (ρ h0 23) = .inl (κ 0, 400, .inl g27) := (hF204 _ (by rw [y8]; decide)).trans hf_o26
                have hf_215 : f203 (ρ h0 24) = .inl (κ 0, 400, .inl g29) := (hF204 _ (by rw [y9]; decide)).trans hf_o28
                have hFc := tp_fr hD hS hA
                refine va_callv (va_runV (As := [.int r40, .int 0]) (rest := []) ⟨hx, hb, hml, hown, hts⟩ (t_X12_emit l dC dI _ κ τ ν ρ L f203 hG hT h0 r40 (0) ht_h0 (by simp only [hf_o205, mo_i1, mo_l1]; exact (show o205_x22.toInt < 400 from by have : (0 : Int32).toInt = 0 := rfl; first | omega | decide))) (cwV 2 hts gX12_readPart_X12_emit rfl rfl rfl ⟨rfl, pd_X12_emit⟩ ⟨Nat.le_of_ble_eq_true rfl, Nat.le_of_ble_eq_true rfl⟩) ⟨pz_blind, va_recv hK hP (ci := 12) (q0 := q207) rfl eq207, pz_pre hP hK hD hN⟩ rfl rfl hl.1 rfl (lv_room (Nat.le_of_ble_eq_true rfl)) dX12_readPart_107 ⟨Nat.le_of_ble_eq_true rfl, Nat.le_of_ble_eq_true rfl⟩) hS (fun q _ h => hFc q h) hFc (fun f218 t H1 locs ht hvm hw217 hB hz1 hk1 hS => ?_)
                obtain ⟨hT, hF219, hw217p⟩ := hw217
                have hR := hR.then hF219 (by decide)
                have hP := hB.1; rw [ht] at hP; have hD := tp_ad f218 hD; clear hB hFc hz1 hk1; subst ht; generalize t.heap = H at hP hS ⊢
                obtain ⟨g221, hf_o220⟩ := tpo_53 hT y8
                obtain ⟨g223, hf_o222⟩ := tpo_54 hT y9
                obtain ⟨o224_x0, o224_x1, o224_x7, o224_x9, o224_x10, o224_x11, o224_x12, o224_x13, o224_x14, o224_x15, o224_x16, o224_x17, o224_x18, o224_x19, o224_x20, o224_x22, o224_x25, o224_x28, o224_x29, o224_x32, o224_x33, o224_x34, o224_x35, o224_x36, o224_x37, o224_x38, o224_x47, o224_x48, hf_o224, ro224_0, ro224_1, ro224_2, ro224_3, ro224_4, ro224_5, ro224_6, ro224_7, ro224_8, ro224_9, ro224_10, ro224_11, ro224_12, ro224_13⟩ := tpo_13 hT ht_h0
                have tk225 : mo_U (mo_R g27) (mo_R g221) o205_x22.toInt r40.toInt ∧ mo_U (mo_R g29) (mo_R g223) o205_x22.toInt (0) ∧ o224_x22.toInt = o205_x22.toInt + 1 ∧ o224_x9.toInt = o205_x9.toInt ∧ o224_x10.toInt = o205_x10.toInt ∧ o224_x11.toInt = o205_x11.toInt ∧ o224_x12.toInt = o205_x12.toInt ∧ o224_x13.toInt = o205_x13.toInt ∧ o224_x15.toInt = o205_x15.toInt ∧ o224_x19.toInt = o205_x19.toInt ∧ o224_x20.toInt = o205_x20.toInt ∧ o224_x28.toInt = o205_x28.toInt := by have q9 := hw217p; simp only [hf_214, hf_o220, hf_o205, hf_215, hf_o222, hf_o224, mo_i1, mo_l1] at q9; exact q9
                refine lv_aload_n hx hb dX12_readPart_110 rfl (lv_at hl 3 rfl) ?_
                refine lv_dup hx hb dX12_readPart_111 rfl ?_
                obtain ⟨q226, eq226⟩ := tp_pos (tp_in hG ht_h0 (by decide)) hf_o224
                refine va_get (D := (dC, dI)) (ci := 12) (v := .int o224_x25) (C := RX12) (T := TX12) (N := 53) hx hb hts hfX12 hown hK hP q226 eq226 rfl 25 (by decide) (hts (.fieldLink RX12 351 "ColdShipsModel" "nLeaves" "I") wa_990) (fun _ h9 => h9) rfl dX12_readPart_112 ?_
                refine lv_iconst (v := 1) hx hb dX12_readPart_115 (by decide) ?_
                refine lv_iadd hx hb dX12_readPart_116 ?_
                refine lv_topi (fun z227 ez227 => ?_)
                refine va_put (D := (dC, dI)) (ci := 12) (v := .int z227) (ty := .int) (C := RX12) (T := TX12) (N := 53) hx hb hts hfX12 tyX12 tyX12_ok nmX12 hown hK hP hD hS q226 eq226 rfl 25 (by decide) (hts (.fieldLink RX12 351 "ColdShipsModel" "nLeaves" "I") wa_990) (fun _ h9 => h9) rfl (tyX12_ok 25 (by decide)) rfl rfl (Nat.le_of_ble_eq_true rfl) dX12_readPart_117 (tp_k (.inr (12, [.int o224_x0, .int o224_x1, .ref (ρ h0 2), .ref (ρ h0 3), .ref (ρ h0 4), .ref (ρ h0 5), .ref (ρ h0 6), .int o224_x7, .ref (ρ h0 8), .int o224_x9, .int o224_x10, .int o224_x11, .int o224_x12, .long o224_x13, .int o224_x14, .int o224_x15, .int o224_x16, .int o224_x17, .int o224_x18, .int o224_x19, .int o224_x20, .ref (ρ h0 21), .int o224_x22, .ref (ρ h0 23), .ref (ρ h0 24), .int z227, .ref (ρ h0 26), .ref (ρ h0 27), .int o224_x28, .int o224_x29, .ref (ρ h0 30), .ref (ρ h0 31), .int o224_x32, .long o224_x33, .long o224_x34, .long o224_x35, .int o224_x36, .int o224_x37, .int o224_x38, .ref (ρ h0 39), .ref (ρ h0 40), .ref (ρ h0 41), .ref (ρ h0 42), .ref (ρ h0 43), .ref (ρ h0 44), .ref (ρ h0 45), .ref (ρ h0 46), .int o224_x47, .int o224_x48, .ref (ρ h0 49), .ref (ρ h0 50), .ref (ρ h0 51), .ref (ρ h0 52)])) hD (tp_in hG ht_h0 (by decide)) eq226 (fun f228 H locs hP hD hS g230 k229 => ?_))
                have hT := hT.up ht_h0 g230 k229 ⟨_, _, _, _, _, _, _, _, _, _, _, _, _, _, _, _, _, _, _, _, _, _, _, _, _, _, _, _, rfl, ro224_0, ro224_1, ro224_2, ro224_3, ro224_4, ro224_5, ro224_6, ro224_7, ro224_8, ro224_9, ro224_10, ro224_11, ro224_12, ro224_13⟩
                have hR := hR.up ht_h0 (by decide) k229
                refine lv_iconst (v := 3) hx hb dX12_readPart_120 (by decide) ?_
                have hf_231 : f203 (ρ h0 26) = .inl (κ 0, 400, .inl g31) := (hF204 _ (by rw [y10]; decide)).trans hf_o30
                have hf_232 : f218 (ρ h0 26) = .inl (κ 0, 400, .inl g31) := (hF219 _ (by rw [y10]; decide)).trans hf_231
                have hf_233 : f228 (ρ h0 26) = .inl (κ 0, 400, .inl g31) := (k229 _ (tp_ne y10 ht_h0 (by decide))).trans hf_232
                have hf_234 : f203 (ρ h0 27) = .inl (κ 0, 400, .inl g33) := (hF204 _ (by rw [y11]; decide)).trans hf_o32
                have hf_235 : f218 (ρ h0 27) = .inl (κ 0, 400, .inl g33) := (hF219 _ (by rw [y11]; decide)).trans hf_234
                have hf_236 : f228 (ρ h0 27) = .inl (κ 0, 400, .inl g33) := (k229 _ (tp_ne y11 ht_h0 (by decide))).trans hf_235
                have hf_237 : f228 (ρ h0 23) = .inl (κ 0, 400, .inl g221) := (k229 _ (tp_ne y8 ht_h0 (by decide))).trans hf_o220
                have hf_238 : f228 (ρ h0 24) = .inl (κ 0, 400, .inl g223) := (k229 _ (tp_ne y9 ht_h0 (by decide))).trans hf_o222
                exact W.iret (v := 3) hx hb hr (fun t ht hW => ⟨⟨3, f228, rfl, ⟨hT, hR, (by first | decide | omega), (by simp only [g230, hf_233, hf_236, hf_237, hf_238, hf_o26, hf_o28, hf_o34, mo_i1, mo_l1]; exact (show (o224_x10.toInt ≤ o224_x11.toInt ∧ o224_x11.toInt ≤ o224_x9.toInt ∧ (o224_x12.toInt = 0 ∨ o224_x10.toInt < o224_x11.toInt) ∧ (o224_x12.toInt = 1 → o224_x11.toInt = o224_x10.toInt + 1 → o224_x13.toInt ≤ 26)) ∧ o224_x22.toInt + o224_x28.toInt ≤ o224_x10.toInt ∧ mo_PV (mo_R g31) (mo_R g33) o224_x28.toInt ∧ (o224_x15.toInt = 0 → mo_EX aa (3 : Int32).toInt (mo_R g221) (mo_R g223) (mo_R g31) (mo_R g33) o224_x22.toInt o224_x28.toInt ∧ mo_FR aa (mo_R g27) (mo_R g29) (mo_R g221) (mo_R g223) ∧ ((3 : Int32).toInt = 4 ∨ o34_x10.toInt < o224_x10.toInt ∨ (o224_x10.toInt = o34_x10.toInt ∧ (3 : Int32).toInt = 2))) ∧ o34_x22.toInt ≤ o224_x22.toInt ∧ o224_x9.toInt = o34_x9.toInt ∧ o224_x19.toInt = o34_x19.toInt ∧ o224_x20.toInt = o34_x20.toInt from ⟨by omega, by omega, h3, fun q9 => ⟨(h4.leaf (by decide) (by omega) tk225.1 tk225.2.1 (by omega) (by omega)), (mo_FR.emit tk225.1 tk225.2.1 (h4.pj0 (by decide)).base), by have q8 : (3 : Int32).toInt = 3 := rfl; omega⟩, by omega, by omega, by omega, by omega⟩))⟩, by rw [ht]; exact hP, va_K.moved hW.alike hK, hD⟩, hS.F ht⟩) hS.2.2 dX12_readPart_121
              · have ic213 : r40.toInt = (-1) := zi_nef rfl rfl c213
                exfalso; omega
        · have ic161 : r40.toInt = (-1) := zi_nef rfl rfl c161
          refine lv_iload_n hx hb dX12_readPart_67 rfl (lv_at hl 1 rfl) ?_
          refine lv_if_eq (tgt := 84) hx hb dX12_readPart_68 (by decide) (fun _ => ?_) (fun c9 => absurd c9 (by decide))
          refine lv_iconst (v := 0) hx hb dX12_readPart_84 (by decide) ?_
          have hFc := tp_fr hD hS hA
          refine va_callv (va_runV (As := [.int 0]) (rest := []) ⟨hx, hb, hml, hown, hts⟩ (t_X12_must l dC dI _ κ τ ν ρ L f hG hT h0 (0) ht_h0 (by first | decide | omega) (by simp only [hf_o34, mo_i1, mo_l1]; exact (show (o34_x10.toInt ≤ o34_x11.toInt ∧ o34_x11.toInt ≤ o34_x9.toInt ∧ (o34_x12.toInt = 0 ∨ o34_x10.toInt < o34_x11.toInt) ∧ (o34_x12.toInt = 1 → o34_x11.toInt = o34_x10.toInt + 1 → o34_x13.toInt ≤ 26)) from by have : (0 : Int32).toInt = 0 := rfl; first | omega | decide))) (cwV 1 hts gX12_readPart_X12_must rfl rfl rfl ⟨rfl, pd_X12_must⟩ ⟨Nat.le_of_ble_eq_true rfl, Nat.le_of_ble_eq_true rfl⟩) ⟨pz_blind, va_recv hK hP (ci := 12) (q0 := q35) rfl eq35, pz_pre hP hK hD hN⟩ rfl rfl hl.1 rfl (lv_room (Nat.le_of_ble_eq_true rfl)) dX12_readPart_85 ⟨Nat.le_of_ble_eq_true rfl, Nat.le_of_ble_eq_true rfl⟩) hS (fun q _ h => hFc q h) hFc (fun f241 t H1 locs ht hvm hw240 hB hz1 hk1 hS => ?_)
          obtain ⟨hT, hF242, hw240p⟩ := hw240
          have hR := hR.then hF242 (by decide)
          have hP := hB.1; rw [ht] at hP; have hD := tp_ad f241 hD; clear hB hFc hz1 hk1; subst ht; generalize t.heap = H at hP hS ⊢
          obtain ⟨o243_x0, o243_x1, o243_x7, o243_x9, o243_x10, o243_x11, o243_x12, o243_x13, o243_x14, o243_x15, o243_x16, o243_x17, o243_x18, o243_x19, o243_x20, o243_x22, o243_x25, o243_x28, o243_x29, o243_x32, o243_x33, o243_x34, o243_x35, o243_x36, o243_x37, o243_x38, o243_x47, o243_x48, hf_o243, ro243_0, ro243_1, ro243_2, ro243_3, ro243_4, ro243_5, ro243_6, ro243_7, ro243_8, ro243_9, ro243_10, ro243_11, ro243_12, ro243_13⟩ := tpo_13 hT ht_h0
          have tk244 : (o243_x10.toInt ≤ o243_x11.toInt ∧ o243_x11.toInt ≤ o243_x9.toInt ∧ (o243_x12.toInt = 0 ∨ o243_x10.toInt < o243_x11.toInt) ∧ (o243_x12.toInt = 1 → o243_x11.toInt = o243_x10.toInt + 1 → o243_x13.toInt ≤ 26)) ∧ (o243_x15.toInt = 0 → o34_x15.toInt = 0 ∧ o34_x11.toInt ≤ o243_x10.toInt ∧ (0) ≠ 0) ∧ (o243_x15.toInt ≠ 0 → o243_x10.toInt = o34_x10.toInt) ∧ o243_x9.toInt = o34_x9.toInt ∧ o243_x19.toInt = o34_x19.toInt ∧ o243_x20.toInt = o34_x20.toInt ∧ o243_x22.toInt = o34_x22.toInt ∧ o243_x28.toInt = o34_x28.toInt := by have q9 := hw240p; simp only [hf_o243, hf_o34, mo_i1, mo_l1] at q9; exact q9
          refine lv_aload_n hx hb dX12_readPart_88 rfl (lv_at hl 3 rfl) ?_
          obtain ⟨q245, eq245⟩ := tp_pos (tp_in hG ht_h0 (by decide)) hf_o243
          refine va_get (D := (dC, dI)) (ci := 12) (v := .int o243_x15) (C := RX12) (T := TX12) (N := 53) hx hb hts hfX12 hown hK hP q245 eq245 rfl 15 (by decide) (hts (.fieldLink RX12 261 "ColdShipsModel" "bad" "Z") wa_994) (fun _ h9 => h9) rfl dX12_readPart_89 ?_
          refine lv_if_ne (tgt := 120) hx hb dX12_readPart_92 (by decide) (fun c246 => ?_) (fun c246 => ?_)
          · have ic246 : o243_x15.toInt ≠ 0 := zi_ne rfl rfl c246
            refine lv_iconst (v := 3) hx hb dX12_readPart_120 (by decide) ?_
            have hf_247 : f241 (ρ h0 26) = .inl (κ 0, 400, .inl g31) := (hF242 _ (by rw [y10]; decide)).trans hf_o30
            have hf_248 : f241 (ρ h0 27) = .inl (κ 0, 400, .inl g33) := (hF242 _ (by rw [y11]; decide)).trans hf_o32
            have hf_249 : f241 (ρ h0 23) = .inl (κ 0, 400, .inl g27) := (hF242 _ (by rw [y8]; decide)).trans hf_o26
            have hf_250 : f241 (ρ h0 24) = .inl (κ 0, 400, .inl g29) := (hF242 _ (by rw [y9]; decide)).trans hf_o28
            exact W.iret (v := 3) hx hb hr (fun t ht hW => ⟨⟨3, f241, rfl, ⟨hT, hR, (by first | decide | omega), (by simp only [hf_o243, hf_247, hf_248, hf_249, hf_250, hf_o26, hf_o28, hf_o34, mo_i1, mo_l1]; exact (show (o243_x10.toInt ≤ o243_x11.toInt ∧ o243_x11.toInt ≤ o243_x9.toInt ∧ (o243_x12.toInt = 0 ∨ o243_x10.toInt < o243_x11.toInt) ∧ (o243_x12.toInt = 1 → o243_x11.toInt = o243_x10.toInt + 1 → o243_x13.toInt ≤ 26)) ∧ o243_x22.toInt + o243_x28.toInt ≤ o243_x10.toInt ∧ mo_PV (mo_R g31) (mo_R g33) o243_x28.toInt ∧ (o243_x15.toInt = 0 → mo_EX aa (3 : Int32).toInt (mo_R g27) (mo_R g29) (mo_R g31) (mo_R g33) o243_x22.toInt o243_x28.toInt ∧ mo_FR aa (mo_R g27) (mo_R g29) (mo_R g27) (mo_R g29) ∧ ((3 : Int32).toInt = 4 ∨ o34_x10.toInt < o243_x10.toInt ∨ (o243_x10.toInt = o34_x10.toInt ∧ (3 : Int32).toInt = 2))) ∧ o34_x22.toInt ≤ o243_x22.toInt ∧ o243_x9.toInt = o34_x9.toInt ∧ o243_x19.toInt = o34_x19.toInt ∧ o243_x20.toInt = o34_x20.toInt from ⟨by omega, by omega, h3, fun q9 => by exfalso; omega, by omega, by omega, by omega, by omega⟩))⟩, by rw [ht]; exact hP, va_K.moved hW.alike hK, hD⟩, hS.F ht⟩) hS.2.2 dX12_readPart_121
          · have ic246 : o243_x15.toInt = 0 := zi_nef rfl rfl c246
            refine lv_aload_n hx hb dX12_readPart_95 rfl (lv_at hl 3 rfl) ?_
            refine lv_iload_n hx hb dX12_readPart_96 rfl (lv_at hl 2 rfl) ?_
            refine lv_iconst (v := (-1)) hx hb dX12_readPart_97 (by decide) ?_
            refine lv_icmp_ne (tgt := 105) hx hb dX12_readPart_98 (by decide) (fun c251 => ?_) (fun c251 => ?_)
            · have ic251 : r40.toInt ≠ (-1) := zi_ne rfl rfl c251
              exfalso; omega
            · have ic251 : r40.toInt = (-1) := zi_nef rfl rfl c251
              refine lv_iconst (v := 0) hx hb dX12_readPart_101 (by decide) ?_
              refine lv_goto (tgt := 106) hx hb dX12_readPart_102 (by decide) ?_
              refine lv_iload_n hx hb dX12_readPart_106 rfl (lv_at hl 0 rfl) ?_
              have hf_252 : f241 (ρ h0 23) = .inl (κ 0, 400, .inl g27) := (hF242 _ (by rw [y8]; decide)).trans hf_o26
              have hf_253 : f241 (ρ h0 24) = .inl (κ 0, 400, .inl g29) := (hF242 _ (by rw [y9]; decide)).trans hf_o28
              have hFc := tp_fr hD hS hA
              refine va_callv (va_runV (As := [.int 0, .int 0]) (rest := []) ⟨hx, hb, hml, hown, hts⟩ (t_X12_emit l dC dI _ κ τ ν ρ L f241 hG hT h0 (0) (0) ht_h0 (by simp only [hf_o243, mo_i1, mo_l1]; exact (show o243_x22.toInt < 400 from by have : (0 : Int32).toInt = 0 := rfl; have : (0 : Int32).toInt = 0 := rfl; first | omega | decide))) (cwV 2 hts gX12_readPart_X12_emit rfl rfl rfl ⟨rfl, pd_X12_emit⟩ ⟨Nat.le_of_ble_eq_true rfl, Nat.le_of_ble_eq_true rfl⟩) ⟨pz_blind, va_recv hK hP (ci := 12) (q0 := q245) rfl eq245, pz_pre hP hK hD hN⟩ rfl rfl hl.1 rfl (lv_room (Nat.le_of_ble_eq_true rfl)) dX12_readPart_107 ⟨Nat.le_of_ble_eq_true rfl, Nat.le_of_ble_eq_true rfl⟩) hS (fun q _ h => hFc q h) hFc (fun f256 t H1 locs ht hvm hw255 hB hz1 hk1 hS => ?_)
              obtain ⟨hT, hF257, hw255p⟩ := hw255
              have hR := hR.then hF257 (by decide)
              have hP := hB.1; rw [ht] at hP; have hD := tp_ad f256 hD; clear hB hFc hz1 hk1; subst ht; generalize t.heap = H at hP hS ⊢
              obtain ⟨g259, hf_o258⟩ := tpo_53 hT y8
              obtain ⟨g261, hf_o260⟩ := tpo_54 hT y9
              obtain ⟨o262_x0, o262_x1, o262_x7, o262_x9, o262_x10, o262_x11, o262_x12, o262_x13, o262_x14, o262_x15, o262_x16, o262_x17, o262_x18, o262_x19, o262_x20, o262_x22, o262_x25, o262_x28, o262_x29, o262_x32, o262_x33, o262_x34, o262_x35, o262_x36, o262_x37, o262_x38, o262_x47, o262_x48, hf_o262, ro262_0, ro262_1, ro262_2, ro262_3, ro262_4, ro262_5, ro262_6, ro262_7, ro262_8, ro262_9, ro262_10, ro262_11, ro262_12, ro262_13⟩ := tpo_13 hT ht_h0
              have tk263 : mo_U (mo_R g27) (mo_R g259) o243_x22.toInt (0) ∧ mo_U (mo_R g29) (mo_R g261) o243_x22.toInt (0) ∧ o262_x22.toInt = o243_x22.toInt + 1 ∧ o262_x9.toInt = o243_x9.toInt ∧ o262_x10.toInt = o243_x10.toInt ∧ o262_x11.toInt = o243_x11.toInt ∧ o262_x12.toInt = o243_x12.toInt ∧ o262_x13.toInt = o243_x13.toInt ∧ o262_x15.toInt = o243_x15.toInt ∧ o262_x19.toInt = o243_x19.toInt ∧ o262_x20.toInt = o243_x20.toInt ∧ o262_x28.toInt = o243_x28.toInt := by have q9 := hw255p; simp only [hf_252, hf_o258, hf_o243, hf_253, hf_o260, hf_o262, mo_i1, mo_l1] at q9; exact q9
              refine lv_aload_n hx hb dX12_readPart_110 rfl (lv_at hl 3 rfl) ?_
              refine lv_dup hx hb dX12_readPart_111 rfl ?_
              obtain ⟨q264, eq264⟩ := tp_pos (tp_in hG ht_h0 (by decide)) hf_o262
              refine va_get (D := (dC, dI)) (ci := 12) (v := .int o262_x25) (C := RX12) (T := TX12) (N := 53) hx hb hts hfX12 hown hK hP q264 eq264 rfl 25 (by decide) (hts (.fieldLink RX12 351 "ColdShipsModel" "nLeaves" "I") wa_990) (fun _ h9 => h9) rfl dX12_readPart_112 ?_
              refine lv_iconst (v := 1) hx hb dX12_readPart_115 (by decide) ?_
              refine lv_iadd hx hb dX12_readPart_116 ?_
              refine lv_topi (fun z265 ez265 => ?_)
              refine va_put (D := (dC, dI)) (ci := 12) (v := .int z265) (ty := .int) (C := RX12) (T := TX12) (N := 53) hx hb hts hfX12 tyX12 tyX12_ok nmX12 hown hK hP hD hS q264 eq264 rfl 25 (by decide) (hts (.fieldLink RX12 351 "ColdShipsModel" "nLeaves" "I") wa_990) (fun _ h9 => h9) rfl (tyX12_ok 25 (by decide)) rfl rfl (Nat.le_of_ble_eq_true rfl) dX12_readPart_117 (tp_k (.inr (12, [.int o262_x0, .int o262_x1, .ref (ρ h0 2), .ref (ρ h0 3), .ref (ρ h0 4), .ref (ρ h0 5), .ref (ρ h0 6), .int o262_x7, .ref (ρ h0 8), .int o262_x9, .int o262_x10, .int o262_x11, .int o262_x12, .long o262_x13, .int o262_x14, .int o262_x15, .int o262_x16, .int o262_x17, .int o262_x18, .int o262_x19, .int o262_x20, .ref (ρ h0 21), .int o262_x22, .ref (ρ h0 23), .ref (ρ h0 24), .int z265, .ref (ρ h0 26), .ref (ρ h0 27), .int o262_x28, .int o262_x29, .ref (ρ h0 30), .ref (ρ h0 31), .int o262_x32, .long o262_x33, .long o262_x34, .long o262_x35, .int o262_x36, .int o262_x37, .int o262_x38, .ref (ρ h0 39), .ref (ρ h0 40), .ref (ρ h0 41), .ref (ρ h0 42), .ref (ρ h0 43), .ref (ρ h0 44), .ref (ρ h0 45), .ref (ρ h0 46), .int o262_x47, .int o262_x48, .ref (ρ h0 49), .ref (ρ h0 50), .ref (ρ h0 51), .ref (ρ h0 52)])) hD (tp_in hG ht_h0 (by decide)) eq264 (fun f266 H locs hP hD hS g268 k267 => ?_))
              have hT := hT.up ht_h0 g268 k267 ⟨_, _, _, _, _, _, _, _, _, _, _, _, _, _, _, _, _, _, _, _, _, _, _, _, _, _, _, _, rfl, ro262_0, ro262_1, ro262_2, ro262_3, ro262_4, ro262_5, ro262_6, ro262_7, ro262_8, ro262_9, ro262_10, ro262_11, ro262_12, ro262_13⟩
              have hR := hR.up ht_h0 (by decide) k267
              refine lv_iconst (v := 3) hx hb dX12_readPart_120 (by decide) ?_
              have hf_269 : f241 (ρ h0 26) = .inl (κ 0, 400, .inl g31) := (hF242 _ (by rw [y10]; decide)).trans hf_o30
              have hf_270 : f256 (ρ h0 26) = .inl (κ 0, 400, .inl g31) := (hF257 _ (by rw [y10]; decide)).trans hf_269
              have hf_271 : f266 (ρ h0 26) = .inl (κ 0, 400, .inl g31) := (k267 _ (tp_ne y10 ht_h0 (by decide))).trans hf_270
              have hf_272 : f241 (ρ h0 27) = .inl (κ 0, 400, .inl g33) := (hF242 _ (by rw [y11]; decide)).trans hf_o32
              have hf_273 : f256 (ρ h0 27) = .inl (κ 0, 400, .inl g33) := (hF257 _ (by rw [y11]; decide)).trans hf_272
              have hf_274 : f266 (ρ h0 27) = .inl (κ 0, 400, .inl g33) := (k267 _ (tp_ne y11 ht_h0 (by decide))).trans hf_273
              have hf_275 : f266 (ρ h0 23) = .inl (κ 0, 400, .inl g259) := (k267 _ (tp_ne y8 ht_h0 (by decide))).trans hf_o258
              have hf_276 : f266 (ρ h0 24) = .inl (κ 0, 400, .inl g261) := (k267 _ (tp_ne y9 ht_h0 (by decide))).trans hf_o260
              exact W.iret (v := 3) hx hb hr (fun t ht hW => ⟨⟨3, f266, rfl, ⟨hT, hR, (by first | decide | omega), (by simp only [g268, hf_271, hf_274, hf_275, hf_276, hf_o26, hf_o28, hf_o34, mo_i1, mo_l1]; exact (show (o262_x10.toInt ≤ o262_x11.toInt ∧ o262_x11.toInt ≤ o262_x9.toInt ∧ (o262_x12.toInt = 0 ∨ o262_x10.toInt < o262_x11.toInt) ∧ (o262_x12.toInt = 1 → o262_x11.toInt = o262_x10.toInt + 1 → o262_x13.toInt ≤ 26)) ∧ o262_x22.toInt + o262_x28.toInt ≤ o262_x10.toInt ∧ mo_PV (mo_R g31) (mo_R g33) o262_x28.toInt ∧ (o262_x15.toInt = 0 → mo_EX aa (3 : Int32).toInt (mo_R g259) (mo_R g261) (mo_R g31) (mo_R g33) o262_x22.toInt o262_x28.toInt ∧ mo_FR aa (mo_R g27) (mo_R g29) (mo_R g259) (mo_R g261) ∧ ((3 : Int32).toInt = 4 ∨ o34_x10.toInt < o262_x10.toInt ∨ (o262_x10.toInt = o34_x10.toInt ∧ (3 : Int32).toInt = 2))) ∧ o34_x22.toInt ≤ o262_x22.toInt ∧ o262_x9.toInt = o34_x9.toInt ∧ o262_x19.toInt = o34_x19.toInt ∧ o262_x20.toInt = o34_x20.toInt from ⟨by omega, by omega, h3, fun q9 => ⟨(h4.leaf (by decide) (by omega) tk263.1 tk263.2.1 (by omega) (by omega)), (mo_FR.emit tk263.1 tk263.2.1 (h4.pj0 (by decide)).base), by have q8 : (3 : Int32).toInt = 3 := rfl; omega⟩, by omega, by omega, by omega, by omega⟩))⟩, by rw [ht]; exact hP, va_K.moved hW.alike hK, hD⟩, hS.F ht⟩) hS.2.2 dX12_readPart_121
      · have ic160 : o34_x13.toInt ≤ 100000 := zl_gtf rfl rfl c160
        refine lv_iconst (v := 1) hx hb dX12_readPart_41 (by decide) ?_
        refine lv_goto (tgt := 46) hx hb dX12_readPart_42 (by decide) ?_
        refine lv_istore_n (lv' := [(2, .int 1), (1, .int r40), (0, .ref h0)]) hx hb dX12_readPart_46 rfl hl (by decide) rfl (fun ls hl => ?_)
        refine lv_iload_n hx hb dX12_readPart_47 rfl (lv_at hl 0 rfl) ?_
        refine lv_if_eq (tgt := 59) hx hb dX12_readPart_48 (by decide) (fun c9 => absurd c9 (by decide)) (fun _ => ?_)
        refine lv_aload_n hx hb dX12_readPart_51 rfl (lv_at hl 2 rfl) ?_
        refine va_get (D := (dC, dI)) (ci := 12) (v := .long o34_x13) (C := RX12) (T := TX12) (N := 53) hx hb hts hfX12 hown hK hP q35 eq35 rfl 13 (by decide) (hts (.fieldLink RX12 270 "ColdShipsModel" "worth" "J") wa_1006) (fun _ h9 => h9) rfl dX12_readPart_52 ?_
        refine lv_l2i hx hb dX12_readPart_55 rfl ?_
        refine lv_topi (fun z277 ez277 => ?_)
        refine lv_goto (tgt := 60) hx hb dX12_readPart_56 (by decide) ?_
        refine lv_istore_n (lv' := [(3, .int z277), (2, .int 1), (1, .int r40), (0, .ref h0)]) hx hb dX12_readPart_60 rfl hl (by decide) rfl (fun ls hl => ?_)
        refine lv_aload_n hx hb dX12_readPart_61 rfl (lv_at hl 3 rfl) ?_
        refine lv_iload_n hx hb dX12_readPart_62 rfl (lv_at hl 2 rfl) ?_
        refine lv_iconst (v := (-1)) hx hb dX12_readPart_63 (by decide) ?_
        refine lv_icmp_ne (tgt := 71) hx hb dX12_readPart_64 (by decide) (fun c278 => ?_) (fun c278 => ?_)
        · have ic278 : r40.toInt ≠ (-1) := zi_ne rfl rfl c278
          refine lv_aload_n hx hb dX12_readPart_71 rfl (lv_at hl 3 rfl) ?_
          refine va_get (D := (dC, dI)) (ci := 12) (v := .int o34_x25) (C := RX12) (T := TX12) (N := 53) hx hb hts hfX12 hown hK hP q35 eq35 rfl 25 (by decide) (hts (.fieldLink RX12 351 "ColdShipsModel" "nLeaves" "I") wa_990) (fun _ h9 => h9) rfl dX12_readPart_72 ?_
          refine lv_bipush (v := 50) hx hb dX12_readPart_75 (by decide) ?_
          refine lv_icmp_ge (tgt := 84) hx hb dX12_readPart_77 (by decide) (fun c279 => ?_) (fun c279 => ?_)
          · have ic279 : o34_x25.toInt ≥ 50 := zi_ge rfl rfl c279
            refine lv_iconst (v := 0) hx hb dX12_readPart_84 (by decide) ?_
            have hFc := tp_fr hD hS hA
            refine va_callv (va_runV (As := [.int 0]) (rest := []) ⟨hx, hb, hml, hown, hts⟩ (t_X12_must l dC dI _ κ τ ν ρ L f hG hT h0 (0) ht_h0 (by first | decide | omega) (by simp only [hf_o34, mo_i1, mo_l1]; exact (show (o34_x10.toInt ≤ o34_x11.toInt ∧ o34_x11.toInt ≤ o34_x9.toInt ∧ (o34_x12.toInt = 0 ∨ o34_x10.toInt < o34_x11.toInt) ∧ (o34_x12.toInt = 1 → o34_x11.toInt = o34_x10.toInt + 1 → o34_x13.toInt ≤ 26)) from by have : (0 : Int32).toInt = 0 := rfl; first | omega | decide))) (cwV 1 hts gX12_readPart_X12_must rfl rfl rfl ⟨rfl, pd_X12_must⟩ ⟨Nat.le_of_ble_eq_true rfl, Nat.le_of_ble_eq_true rfl⟩) ⟨pz_blind, va_recv hK hP (ci := 12) (q0 := q35) rfl eq35, pz_pre hP hK hD hN⟩ rfl rfl hl.1 rfl (lv_room (Nat.le_of_ble_eq_true rfl)) dX12_readPart_85 ⟨Nat.le_of_ble_eq_true rfl, Nat.le_of_ble_eq_true rfl⟩) hS (fun q _ h => hFc q h) hFc (fun f282 t H1 locs ht hvm hw281 hB hz1 hk1 hS => ?_)
            obtain ⟨hT, hF283, hw281p⟩ := hw281
            have hR := hR.then hF283 (by decide)
            have hP := hB.1; rw [ht] at hP; have hD := tp_ad f282 hD; clear hB hFc hz1 hk1; subst ht; generalize t.heap = H at hP hS ⊢
            obtain ⟨o284_x0, o284_x1, o284_x7, o284_x9, o284_x10, o284_x11, o284_x12, o284_x13, o284_x14, o284_x15, o284_x16, o284_x17, o284_x18, o284_x19, o284_x20, o284_x22, o284_x25, o284_x28, o284_x29, o284_x32, o284_x33, o284_x34, o284_x35, o284_x36, o284_x37, o284_x38, o284_x47, o284_x48, hf_o284, ro284_0, ro284_1, ro284_2, ro284_3, ro284_4, ro284_5, ro284_6, ro284_7, ro284_8, ro284_9, ro284_10, ro284_11, ro284_12, ro284_13⟩ := tpo_13 hT ht_h0
            have tk285 : (o284_x10.toInt ≤ o284_x11.toInt ∧ o284_x11.toInt ≤ o284_x9.toInt ∧ (o284_x12.toInt = 0 ∨ o284_x10.toInt < o284_x11.toInt) ∧ (o284_x12.toInt = 1 → o284_x11.toInt = o284_x10.toInt + 1 → o284_x13.toInt ≤ 26)) ∧ (o284_x15.toInt = 0 → o34_x15.toInt = 0 ∧ o34_x11.toInt ≤ o284_x10.toInt ∧ (0) ≠ 0) ∧ (o284_x15.toInt ≠ 0 → o284_x10.toInt = o34_x10.toInt) ∧ o284_x9.toInt = o34_x9.toInt ∧ o284_x19.toInt = o34_x19.toInt ∧ o284_x20.toInt = o34_x20.toInt ∧ o284_x22.toInt = o34_x22.toInt ∧ o284_x28.toInt = o34_x28.toInt := by have q9 := hw281p; simp only [hf_o284, hf_o34, mo_i1, mo_l1] at q9; exact q9
            refine lv_aload_n hx hb dX12_readPart_88 rfl (lv_at hl 3 rfl) ?_
            obtain ⟨q286, eq286⟩ := tp_pos (tp_in hG ht_h0 (by decide)) hf_o284
            refine va_get (D := (dC, dI)) (ci := 12) (v := .int o284_x15) (C := RX12) (T := TX12) (N := 53) hx hb hts hfX12 hown hK hP q286 eq286 rfl 15 (by decide) (hts (.fieldLink RX12 261 "ColdShipsModel" "bad" "Z") wa_994) (fun _ h9 => h9) rfl dX12_readPart_89 ?_
            refine lv_if_ne (tgt := 120) hx hb dX12_readPart_92 (by decide) (fun c287 => ?_) (fun c287 => ?_)
            · have ic287 : o284_x15.toInt ≠ 0 := zi_ne rfl rfl c287
              refine lv_iconst (v := 3) hx hb dX12_readPart_120 (by decide) ?_
              have hf_288 : f282 (ρ h0 26) = .inl (κ 0, 400, .inl g31) := (hF283 _ (by rw [y10]; decide)).trans hf_o30
              have hf_289 : f282 (ρ h0 27) = .inl (κ 0, 400, .inl g33) := (hF283 _ (by rw [y11]; decide)).trans hf_o32
              have hf_290 : f282 (ρ h0 23) = .inl (κ 0, 400, .inl g27) := (hF283 _ (by rw [y8]; decide)).trans hf_o26
              have hf_291 : f282 (ρ h0 24) = .inl (κ 0, 400, .inl g29) := (hF283 _ (by rw [y9]; decide)).trans hf_o28
              exact W.iret (v := 3) hx hb hr (fun t ht hW => ⟨⟨3, f282, rfl, ⟨hT, hR, (by first | decide | omega), (by simp only [hf_o284, hf_288, hf_289, hf_290, hf_291, hf_o26, hf_o28, hf_o34, mo_i1, mo_l1]; exact (show (o284_x10.toInt ≤ o284_x11.toInt ∧ o284_x11.toInt ≤ o284_x9.toInt ∧ (o284_x12.toInt = 0 ∨ o284_x10.toInt < o284_x11.toInt) ∧ (o284_x12.toInt = 1 → o284_x11.toInt = o284_x10.toInt + 1 → o284_x13.toInt ≤ 26)) ∧ o284_x22.toInt + o284_x28.toInt ≤ o284_x10.toInt ∧ mo_PV (mo_R g31) (mo_R g33) o284_x28.toInt ∧ (o284_x15.toInt = 0 → mo_EX aa (3 : Int32).toInt (mo_R g27) (mo_R g29) (mo_R g31) (mo_R g33) o284_x22.toInt o284_x28.toInt ∧ mo_FR aa (mo_R g27) (mo_R g29) (mo_R g27) (mo_R g29) ∧ ((3 : Int32).toInt = 4 ∨ o34_x10.toInt < o284_x10.toInt ∨ (o284_x10.toInt = o34_x10.toInt ∧ (3 : Int32).toInt = 2))) ∧ o34_x22.toInt ≤ o284_x22.toInt ∧ o284_x9.toInt = o34_x9.toInt ∧ o284_x19.toInt = o34_x19.toInt ∧ o284_x20.toInt = o34_x20.toInt from ⟨by omega, by omega, h3, fun q9 => by exfalso; omega, by omega, by omega, by omega, by omega⟩))⟩, by rw [ht]; exact hP, va_K.moved hW.alike hK, hD⟩, hS.F ht⟩) hS.2.2 dX12_readPart_121
            · have ic287 : o284_x15.toInt = 0 := zi_nef rfl rfl c287
              refine lv_aload_n hx hb dX12_readPart_95 rfl (lv_at hl 3 rfl) ?_
              refine lv_iload_n hx hb dX12_readPart_96 rfl (lv_at hl 2 rfl) ?_
              refine lv_iconst (v := (-1)) hx hb dX12_readPart_97 (by decide) ?_
              refine lv_icmp_ne (tgt := 105) hx hb dX12_readPart_98 (by decide) (fun c292 => ?_) (fun c292 => ?_)
              · have ic292 : r40.toInt ≠ (-1) := zi_ne rfl rfl c292
                refine lv_iload_n hx hb dX12_readPart_105 rfl (lv_at hl 2 rfl) ?_
                refine lv_iload_n hx hb dX12_readPart_106 rfl (lv_at hl 0 rfl) ?_
                have hf_293 : f282 (ρ h0 23) = .inl (κ 0, 400, .inl g27) := (hF283 _ (by rw [y8]; decide)).trans hf_o26
                have hf_294 : f282 (ρ h0 24) = .inl (κ 0, 400, .inl g29) := (hF283 _ (by rw [y9]; decide)).trans hf_o28
                have hFc := tp_fr hD hS hA
                refine va_callv (va_runV (As := [.int r40, .int z277]) (rest := []) ⟨hx, hb, hml, hown, hts⟩ (t_X12_emit l dC dI _ κ τ ν ρ L f282 hG hT h0 r40 z277 ht_h0 (by simp only [hf_o284, mo_i1, mo_l1]; exact (show o284_x22.toInt < 400 from by first | omega | decide))) (cwV 2 hts gX12_readPart_X12_emit rfl rfl rfl ⟨rfl, pd_X12_emit⟩ ⟨Nat.le_of_ble_eq_true rfl, Nat.le_of_ble_eq_true rfl⟩) ⟨pz_blind, va_recv hK hP (ci := 12) (q0 := q286) rfl eq286, pz_pre hP hK hD hN⟩ rfl rfl hl.1 rfl (lv_room (Nat.le_of_ble_eq_true rfl)) dX12_readPart_107 ⟨Nat.le_of_ble_eq_true rfl, Nat.le_of_ble_eq_true rfl⟩) hS (fun q _ h => hFc q h) hFc (fun f297 t H1 locs ht hvm hw296 hB hz1 hk1 hS => ?_)
                obtain ⟨hT, hF298, hw296p⟩ := hw296
                have hR := hR.then hF298 (by decide)
                have hP := hB.1; rw [ht] at hP; have hD := tp_ad f297 hD; clear hB hFc hz1 hk1; subst ht; generalize t.heap = H at hP hS ⊢
                obtain ⟨g300, hf_o299⟩ := tpo_53 hT y8
                obtain ⟨g302, hf_o301⟩ := tpo_54 hT y9
                obtain ⟨o303_x0, o303_x1, o303_x7, o303_x9, o303_x10, o303_x11, o303_x12, o303_x13, o303_x14, o303_x15, o303_x16, o303_x17, o303_x18, o303_x19, o303_x20, o303_x22, o303_x25, o303_x28, o303_x29, o303_x32, o303_x33, o303_x34, o303_x35, o303_x36, o303_x37, o303_x38, o303_x47, o303_x48, hf_o303, ro303_0, ro303_1, ro303_2, ro303_3, ro303_4, ro303_5, ro303_6, ro303_7, ro303_8, ro303_9, ro303_10, ro303_11, ro303_12, ro303_13⟩ := tpo_13 hT ht_h0
                have tk304 : mo_U (mo_R g27) (mo_R g300) o284_x22.toInt r40.toInt ∧ mo_U (mo_R g29) (mo_R g302) o284_x22.toInt z277.toInt ∧ o303_x22.toInt = o284_x22.toInt + 1 ∧ o303_x9.toInt = o284_x9.toInt ∧ o303_x10.toInt = o284_x10.toInt ∧ o303_x11.toInt = o284_x11.toInt ∧ o303_x12.toInt = o284_x12.toInt ∧ o303_x13.toInt = o284_x13.toInt ∧ o303_x15.toInt = o284_x15.toInt ∧ o303_x19.toInt = o284_x19.toInt ∧ o303_x20.toInt = o284_x20.toInt ∧ o303_x28.toInt = o284_x28.toInt := by have q9 := hw296p; simp only [hf_293, hf_o299, hf_o284, hf_294, hf_o301, hf_o303, mo_i1, mo_l1] at q9; exact q9
                refine lv_aload_n hx hb dX12_readPart_110 rfl (lv_at hl 3 rfl) ?_
                refine lv_dup hx hb dX12_readPart_111 rfl ?_
                obtain ⟨q305, eq305⟩ := tp_pos (tp_in hG ht_h0 (by decide)) hf_o303
                refine va_get (D := (dC, dI)) (ci := 12) (v := .int o303_x25) (C := RX12) (T := TX12) (N := 53) hx hb hts hfX12 hown hK hP q305 eq305 rfl 25 (by decide) (hts (.fieldLink RX12 351 "ColdShipsModel" "nLeaves" "I") wa_990) (fun _ h9 => h9) rfl dX12_readPart_112 ?_
                refine lv_iconst (v := 1) hx hb dX12_readPart_115 (by decide) ?_
                refine lv_iadd hx hb dX12_readPart_116 ?_
                refine lv_topi (fun z306 ez306 => ?_)
                refine va_put (D := (dC, dI)) (ci := 12) (v := .int z306) (ty := .int) (C := RX12) (T := TX12) (N := 53) hx hb hts hfX12 tyX12 tyX12_ok nmX12 hown hK hP hD hS q305 eq305 rfl 25 (by decide) (hts (.fieldLink RX12 351 "ColdShipsModel" "nLeaves" "I") wa_990) (fun _ h9 => h9) rfl (tyX12_ok 25 (by decide)) rfl rfl (Nat.le_of_ble_eq_true rfl) dX12_readPart_117 (tp_k (.inr (12, [.int o303_x0, .int o303_x1, .ref (ρ h0 2), .ref (ρ h0 3), .ref (ρ h0 4), .ref (ρ h0 5), .ref (ρ h0 6), .int o303_x7, .ref (ρ h0 8), .int o303_x9, .int o303_x10, .int o303_x11, .int o303_x12, .long o303_x13, .int o303_x14, .int o303_x15, .int o303_x16, .int o303_x17, .int o303_x18, .int o303_x19, .int o303_x20, .ref (ρ h0 21), .int o303_x22, .ref (ρ h0 23), .ref (ρ h0 24), .int z306, .ref (ρ h0 26), .ref (ρ h0 27), .int o303_x28, .int o303_x29, .ref (ρ h0 30), .ref (ρ h0 31), .int o303_x32, .long o303_x33, .long o303_x34, .long o303_x35, .int o303_x36, .int o303_x37, .int o303_x38, .ref (ρ h0 39), .ref (ρ h0 40), .ref (ρ h0 41), .ref (ρ h0 42), .ref (ρ h0 43), .ref (ρ h0 44), .ref (ρ h0 45), .ref (ρ h0 46), .int o303_x47, .int o303_x48, .ref (ρ h0 49), .ref (ρ h0 50), .ref (ρ h0 51), .ref (ρ h0 52)])) hD (tp_in hG ht_h0 (by decide)) eq305 (fun f307 H locs hP hD hS g309 k308 => ?_))
                have hT := hT.up ht_h0 g309 k308 ⟨_, _, _, _, _, _, _, _, _, _, _, _, _, _, _, _, _, _, _, _, _, _, _, _, _, _, _, _, rfl, ro303_0, ro303_1, ro303_2, ro303_3, ro303_4, ro303_5, ro303_6, ro303_7, ro303_8, ro303_9, ro303_10, ro303_11, ro303_12, ro303_13⟩
                have hR := hR.up ht_h0 (by decide) k308
                refine lv_iconst (v := 3) hx hb dX12_readPart_120 (by decide) ?_
                have hf_310 : f282 (ρ h0 26) = .inl (κ 0, 400, .inl g31) := (hF283 _ (by rw [y10]; decide)).trans hf_o30
                have hf_311 : f297 (ρ h0 26) = .inl (κ 0, 400, .inl g31) := (hF298 _ (by rw [y10]; decide)).trans hf_310
                have hf_312 : f307 (ρ h0 26) = .inl (κ 0, 400, .inl g31) := (k308 _ (tp_ne y10 ht_h0 (by decide))).trans hf_311
                have hf_313 : f282 (ρ h0 27) = .inl (κ 0, 400, .inl g33) := (hF283 _ (by rw [y11]; decide)).trans hf_o32
                have hf_314 : f297 (ρ h0 27) = .inl (κ 0, 400, .inl g33) := (hF298 _ (by rw [y11]; decide)).trans hf_313
                have hf_315 : f307 (ρ h0 27) = .inl (κ 0, 400, .inl g33) := (k308 _ (tp_ne y11 ht_h0 (by decide))).trans hf_314
                have hf_316 : f307 (ρ h0 23) = .inl (κ 0, 400, .inl g300) := (k308 _ (tp_ne y8 ht_h0 (by decide))).trans hf_o299
                have hf_317 : f307 (ρ h0 24) = .inl (κ 0, 400, .inl g302) := (k308 _ (tp_ne y9 ht_h0 (by decide))).trans hf_o301
                exact W.iret (v := 3) hx hb hr (fun t ht hW => ⟨⟨3, f307, rfl, ⟨hT, hR, (by first | decide | omega), (by simp only [g309, hf_312, hf_315, hf_316, hf_317, hf_o26, hf_o28, hf_o34, mo_i1, mo_l1]; exact (show (o303_x10.toInt ≤ o303_x11.toInt ∧ o303_x11.toInt ≤ o303_x9.toInt ∧ (o303_x12.toInt = 0 ∨ o303_x10.toInt < o303_x11.toInt) ∧ (o303_x12.toInt = 1 → o303_x11.toInt = o303_x10.toInt + 1 → o303_x13.toInt ≤ 26)) ∧ o303_x22.toInt + o303_x28.toInt ≤ o303_x10.toInt ∧ mo_PV (mo_R g31) (mo_R g33) o303_x28.toInt ∧ (o303_x15.toInt = 0 → mo_EX aa (3 : Int32).toInt (mo_R g300) (mo_R g302) (mo_R g31) (mo_R g33) o303_x22.toInt o303_x28.toInt ∧ mo_FR aa (mo_R g27) (mo_R g29) (mo_R g300) (mo_R g302) ∧ ((3 : Int32).toInt = 4 ∨ o34_x10.toInt < o303_x10.toInt ∨ (o303_x10.toInt = o34_x10.toInt ∧ (3 : Int32).toInt = 2))) ∧ o34_x22.toInt ≤ o303_x22.toInt ∧ o303_x9.toInt = o34_x9.toInt ∧ o303_x19.toInt = o34_x19.toInt ∧ o303_x20.toInt = o34_x20.toInt from ⟨by omega, by omega, h3, fun q9 => ⟨(h4.leaf (by decide) (by omega) tk304.1 tk304.2.1 (by omega) (by omega)), (mo_FR.emit tk304.1 tk304.2.1 (h4.pj0 (by decide)).base), by have q8 : (3 : Int32).toInt = 3 := rfl; omega⟩, by omega, by omega, by omega, by omega⟩))⟩, by rw [ht]; exact hP, va_K.moved hW.alike hK, hD⟩, hS.F ht⟩) hS.2.2 dX12_readPart_121
              · have ic292 : r40.toInt = (-1) := zi_nef rfl rfl c292
                exfalso; omega
          · have ic279 : o34_x25.toInt < 50 := zi_gef rfl rfl c279
            refine lv_iconst (v := 1) hx hb dX12_readPart_80 (by decide) ?_
            refine lv_goto (tgt := 85) hx hb dX12_readPart_81 (by decide) ?_
            have hFc := tp_fr hD hS hA
            refine va_callv (va_runV (As := [.int 1]) (rest := []) ⟨hx, hb, hml, hown, hts⟩ (t_X12_must l dC dI _ κ τ ν ρ L f hG hT h0 (1) ht_h0 (by first | decide | omega) (by simp only [hf_o34, mo_i1, mo_l1]; exact (show (o34_x10.toInt ≤ o34_x11.toInt ∧ o34_x11.toInt ≤ o34_x9.toInt ∧ (o34_x12.toInt = 0 ∨ o34_x10.toInt < o34_x11.toInt) ∧ (o34_x12.toInt = 1 → o34_x11.toInt = o34_x10.toInt + 1 → o34_x13.toInt ≤ 26)) from by have : (1 : Int32).toInt = 1 := rfl; first | omega | decide))) (cwV 1 hts gX12_readPart_X12_must rfl rfl rfl ⟨rfl, pd_X12_must⟩ ⟨Nat.le_of_ble_eq_true rfl, Nat.le_of_ble_eq_true rfl⟩) ⟨pz_blind, va_recv hK hP (ci := 12) (q0 := q35) rfl eq35, pz_pre hP hK hD hN⟩ rfl rfl hl.1 rfl (lv_room (Nat.le_of_ble_eq_true rfl)) dX12_readPart_85 ⟨Nat.le_of_ble_eq_true rfl, Nat.le_of_ble_eq_true rfl⟩) hS (fun q _ h => hFc q h) hFc (fun f320 t H1 locs ht hvm hw319 hB hz1 hk1 hS => ?_)
            obtain ⟨hT, hF321, hw319p⟩ := hw319
            have hR := hR.then hF321 (by decide)
            have hP := hB.1; rw [ht] at hP; have hD := tp_ad f320 hD; clear hB hFc hz1 hk1; subst ht; generalize t.heap = H at hP hS ⊢
            obtain ⟨o322_x0, o322_x1, o322_x7, o322_x9, o322_x10, o322_x11, o322_x12, o322_x13, o322_x14, o322_x15, o322_x16, o322_x17, o322_x18, o322_x19, o322_x20, o322_x22, o322_x25, o322_x28, o322_x29, o322_x32, o322_x33, o322_x34, o322_x35, o322_x36, o322_x37, o322_x38, o322_x47, o322_x48, hf_o322, ro322_0, ro322_1, ro322_2, ro322_3, ro322_4, ro322_5, ro322_6, ro322_7, ro322_8, ro322_9, ro322_10, ro322_11, ro322_12, ro322_13⟩ := tpo_13 hT ht_h0
            have tk323 : (o322_x10.toInt ≤ o322_x11.toInt ∧ o322_x11.toInt ≤ o322_x9.toInt ∧ (o322_x12.toInt = 0 ∨ o322_x10.toInt < o322_x11.toInt) ∧ (o322_x12.toInt = 1 → o322_x11.toInt = o322_x10.toInt + 1 → o322_x13.toInt ≤ 26)) ∧ (o322_x15.toInt = 0 → o34_x15.toInt = 0 ∧ o34_x11.toInt ≤ o322_x10.toInt ∧ (1) ≠ 0) ∧ (o322_x15.toInt ≠ 0 → o322_x10.toInt = o34_x10.toInt) ∧ o322_x9.toInt = o34_x9.toInt ∧ o322_x19.toInt = o34_x19.toInt ∧ o322_x20.toInt = o34_x20.toInt ∧ o322_x22.toInt = o34_x22.toInt ∧ o322_x28.toInt = o34_x28.toInt := by have q9 := hw319p; simp only [hf_o322, hf_o34, mo_i1, mo_l1] at q9; exact q9
            refine lv_aload_n hx hb dX12_readPart_88 rfl (lv_at hl 3 rfl) ?_
            obtain ⟨q324, eq324⟩ := tp_pos (tp_in hG ht_h0 (by decide)) hf_o322
            refine va_get (D := (dC, dI)) (ci := 12) (v := .int o322_x15) (C := RX12) (T := TX12) (N := 53) hx hb hts hfX12 hown hK hP q324 eq324 rfl 15 (by decide) (hts (.fieldLink RX12 261 "ColdShipsModel" "bad" "Z") wa_994) (fun _ h9 => h9) rfl dX12_readPart_89 ?_
            refine lv_if_ne (tgt := 120) hx hb dX12_readPart_92 (by decide) (fun c325 => ?_) (fun c325 => ?_)
            · have ic325 : o322_x15.toInt ≠ 0 := zi_ne rfl rfl c325
              refine lv_iconst (v := 3) hx hb dX12_readPart_120 (by decide) ?_
              have hf_326 : f320 (ρ h0 26) = .inl (κ 0, 400, .inl g31) := (hF321 _ (by rw [y10]; decide)).trans hf_o30
              have hf_327 : f320 (ρ h0 27) = .inl (κ 0, 400, .inl g33) := (hF321 _ (by rw [y11]; decide)).trans hf_o32
              have hf_328 : f320 (ρ h0 23) = .inl (κ 0, 400, .inl g27) := (hF321 _ (by rw [y8]; decide)).trans hf_o26
              have hf_329 : f320 (ρ h0 24) = .inl (κ 0, 400, .inl g29) := (hF321 _ (by rw [y9]; decide)).trans hf_o28
              exact W.iret (v := 3) hx hb hr (fun t ht hW => ⟨⟨3, f320, rfl, ⟨hT, hR, (by first | decide | omega), (by simp only [hf_o322, hf_326, hf_327, hf_328, hf_329, hf_o26, hf_o28, hf_o34, mo_i1, mo_l1]; exact (show (o322_x10.toInt ≤ o322_x11.toInt ∧ o322_x11.toInt ≤ o322_x9.toInt ∧ (o322_x12.toInt = 0 ∨ o322_x10.toInt < o322_x11.toInt) ∧ (o322_x12.toInt = 1 → o322_x11.toInt = o322_x10.toInt + 1 → o322_x13.toInt ≤ 26)) ∧ o322_x22.toInt + o322_x28.toInt ≤ o322_x10.toInt ∧ mo_PV (mo_R g31) (mo_R g33) o322_x28.toInt ∧ (o322_x15.toInt = 0 → mo_EX aa (3 : Int32).toInt (mo_R g27) (mo_R g29) (mo_R g31) (mo_R g33) o322_x22.toInt o322_x28.toInt ∧ mo_FR aa (mo_R g27) (mo_R g29) (mo_R g27) (mo_R g29) ∧ ((3 : Int32).toInt = 4 ∨ o34_x10.toInt < o322_x10.toInt ∨ (o322_x10.toInt = o34_x10.toInt ∧ (3 : Int32).toInt = 2))) ∧ o34_x22.toInt ≤ o322_x22.toInt ∧ o322_x9.toInt = o34_x9.toInt ∧ o322_x19.toInt = o34_x19.toInt ∧ o322_x20.toInt = o34_x20.toInt from ⟨by omega, by omega, h3, fun q9 => by exfalso; omega, by omega, by omega, by omega, by omega⟩))⟩, by rw [ht]; exact hP, va_K.moved hW.alike hK, hD⟩, hS.F ht⟩) hS.2.2 dX12_readPart_121
            · have ic325 : o322_x15.toInt = 0 := zi_nef rfl rfl c325
              refine lv_aload_n hx hb dX12_readPart_95 rfl (lv_at hl 3 rfl) ?_
              refine lv_iload_n hx hb dX12_readPart_96 rfl (lv_at hl 2 rfl) ?_
              refine lv_iconst (v := (-1)) hx hb dX12_readPart_97 (by decide) ?_
              refine lv_icmp_ne (tgt := 105) hx hb dX12_readPart_98 (by decide) (fun c330 => ?_) (fun c330 => ?_)
              · have ic330 : r40.toInt ≠ (-1) := zi_ne rfl rfl c330
                refine lv_iload_n hx hb dX12_readPart_105 rfl (lv_at hl 2 rfl) ?_
                refine lv_iload_n hx hb dX12_readPart_106 rfl (lv_at hl 0 rfl) ?_
                have hf_331 : f320 (ρ h0 23) = .inl (κ 0, 400, .inl g27) := (hF321 _ (by rw [y8]; decide)).trans hf_o26
                have hf_332 : f320 (ρ h0 24) = .inl (κ 0, 400, .inl g29) := (hF321 _ (by rw [y9]; decide)).trans hf_o28
                have hFc := tp_fr hD hS hA
                refine va_callv (va_runV (As := [.int r40, .int z277]) (rest := []) ⟨hx, hb, hml, hown, hts⟩ (t_X12_emit l dC dI _ κ τ ν ρ L f320 hG hT h0 r40 z277 ht_h0 (by simp only [hf_o322, mo_i1, mo_l1]; exact (show o322_x22.toInt < 400 from by first | omega | decide))) (cwV 2 hts gX12_readPart_X12_emit rfl rfl rfl ⟨rfl, pd_X12_emit⟩ ⟨Nat.le_of_ble_eq_true rfl, Nat.le_of_ble_eq_true rfl⟩) ⟨pz_blind, va_recv hK hP (ci := 12) (q0 := q324) rfl eq324, pz_pre hP hK hD hN⟩ rfl rfl hl.1 rfl (lv_room (Nat.le_of_ble_eq_true rfl)) dX12_readPart_107 ⟨Nat.le_of_ble_eq_true rfl, Nat.le_of_ble_eq_true rfl⟩) hS (fun q _ h => hFc q h) hFc (fun f335 t H1 locs ht hvm hw334 hB hz1 hk1 hS => ?_)
                obtain ⟨hT, hF336, hw334p⟩ := hw334
                have hR := hR.then hF336 (by decide)
                have hP := hB.1; rw [ht] at hP; have hD := tp_ad f335 hD; clear hB hFc hz1 hk1; subst ht; generalize t.heap = H at hP hS ⊢
                obtain ⟨g338, hf_o337⟩ := tpo_53 hT y8
                obtain ⟨g340, hf_o339⟩ := tpo_54 hT y9
                obtain ⟨o341_x0, o341_x1, o341_x7, o341_x9, o341_x10, o341_x11, o341_x12, o341_x13, o341_x14, o341_x15, o341_x16, o341_x17, o341_x18, o341_x19, o341_x20, o341_x22, o341_x25, o341_x28, o341_x29, o341_x32, o341_x33, o341_x34, o341_x35, o341_x36, o341_x37, o341_x38, o341_x47, o341_x48, hf_o341, ro341_0, ro341_1, ro341_2, ro341_3, ro341_4, ro341_5, ro341_6, ro341_7, ro341_8, ro341_9, ro341_10, ro341_11, ro341_12, ro341_13⟩ := tpo_13 hT ht_h0
                have tk342 : mo_U (mo_R g27) (mo_R g338) o322_x22.toInt r40.toInt ∧ mo_U (mo_R g29) (mo_R g340) o322_x22.toInt z277.toInt ∧ o341_x22.toInt = o322_x22.toInt + 1 ∧ o341_x9.toInt = o322_x9.toInt ∧ o341_x10.toInt = o322_x10.toInt ∧ o341_x11.toInt = o322_x11.toInt ∧ o341_x12.toInt = o322_x12.toInt ∧ o341_x13.toInt = o322_x13.toInt ∧ o341_x15.toInt = o322_x15.toInt ∧ o341_x19.toInt = o322_x19.toInt ∧ o341_x20.toInt = o322_x20.toInt ∧ o341_x28.toInt = o322_x28.toInt := by have q9 := hw334p; simp only [hf_331, hf_o337, hf_o322, hf_332, hf_o339, hf_o341, mo_i1, mo_l1] at q9; exact q9
                refine lv_aload_n hx hb dX12_readPart_110 rfl (lv_at hl 3 rfl) ?_
                refine lv_dup hx hb dX12_readPart_111 rfl ?_
                obtain ⟨q343, eq343⟩ := tp_pos (tp_in hG ht_h0 (by decide)) hf_o341
                refine va_get (D := (dC, dI)) (ci := 12) (v := .int o341_x25) (C := RX12) (T := TX12) (N := 53) hx hb hts hfX12 hown hK hP q343 eq343 rfl 25 (by decide) (hts (.fieldLink RX12 351 "ColdShipsModel" "nLeaves" "I") wa_990) (fun _ h9 => h9) rfl dX12_readPart_112 ?_
                refine lv_iconst (v := 1) hx hb dX12_readPart_115 (by decide) ?_
                refine lv_iadd hx hb dX12_readPart_116 ?_
                refine lv_topi (fun z344 ez344 => ?_)
                refine va_put (D := (dC, dI)) (ci := 12) (v := .int z344) (ty := .int) (C := RX12) (T := TX12) (N := 53) hx hb hts hfX12 tyX12 tyX12_ok nmX12 hown hK hP hD hS q343 eq343 rfl 25 (by decide) (hts (.fieldLink RX12 351 "ColdShipsModel" "nLeaves" "I") wa_990) (fun _ h9 => h9) rfl (tyX12_ok 25 (by decide)) rfl rfl (Nat.le_of_ble_eq_true rfl) dX12_readPart_117 (tp_k (.inr (12, [.int o341_x0, .int o341_x1, .ref (ρ h0 2), .ref (ρ h0 3), .ref (ρ h0 4), .ref (ρ h0 5), .ref (ρ h0 6), .int o341_x7, .ref (ρ h0 8), .int o341_x9, .int o341_x10, .int o341_x11, .int o341_x12, .long o341_x13, .int o341_x14, .int o341_x15, .int o341_x16, .int o341_x17, .int o341_x18, .int o341_x19, .int o341_x20, .ref (ρ h0 21), .int o341_x22, .ref (ρ h0 23), .ref (ρ h0 24), .int z344, .ref (ρ h0 26), .ref (ρ h0 27), .int o341_x28, .int o341_x29, .ref (ρ h0 30), .ref (ρ h0 31), .int o341_x32, .long o341_x33, .long o341_x34, .long o341_x35, .int o341_x36, .int o341_x37, .int o341_x38, .ref (ρ h0 39), .ref (ρ h0 40), .ref (ρ h0 41), .ref (ρ h0 42), .ref (ρ h0 43), .ref (ρ h0 44), .ref (ρ h0 45), .ref (ρ h0 46), .int o341_x47, .int o341_x48, .ref (ρ h0 49), .ref (ρ h0 50), .ref (ρ h0 51), .ref (ρ h0 52)])) hD (tp_in hG ht_h0 (by decide)) eq343 (fun f345 H locs hP hD hS g347 k346 => ?_))
                have hT := hT.up ht_h0 g347 k346 ⟨_, _, _, _, _, _, _, _, _, _, _, _, _, _, _, _, _, _, _, _, _, _, _, _, _, _, _, _, rfl, ro341_0, ro341_1, ro341_2, ro341_3, ro341_4, ro341_5, ro341_6, ro341_7, ro341_8, ro341_9, ro341_10, ro341_11, ro341_12, ro341_13⟩
                have hR := hR.up ht_h0 (by decide) k346
                refine lv_iconst (v := 3) hx hb dX12_readPart_120 (by decide) ?_
                have hf_348 : f320 (ρ h0 26) = .inl (κ 0, 400, .inl g31) := (hF321 _ (by rw [y10]; decide)).trans hf_o30
                have hf_349 : f335 (ρ h0 26) = .inl (κ 0, 400, .inl g31) := (hF336 _ (by rw [y10]; decide)).trans hf_348
                have hf_350 : f345 (ρ h0 26) = .inl (κ 0, 400, .inl g31) := (k346 _ (tp_ne y10 ht_h0 (by decide))).trans hf_349
                have hf_351 : f320 (ρ h0 27) = .inl (κ 0, 400, .inl g33) := (hF321 _ (by rw [y11]; decide)).trans hf_o32
                have hf_352 : f335 (ρ h0 27) = .inl (κ 0, 400, .inl g33) := (hF336 _ (by rw [y11]; decide)).trans hf_351
                have hf_353 : f345 (ρ h0 27) = .inl (κ 0, 400, .inl g33) := (k346 _ (tp_ne y11 ht_h0 (by decide))).trans hf_352
                have hf_354 : f345 (ρ h0 23) = .inl (κ 0, 400, .inl g338) := (k346 _ (tp_ne y8 ht_h0 (by decide))).trans hf_o337
                have hf_355 : f345 (ρ h0 24) = .inl (κ 0, 400, .inl g340) := (k346 _ (tp_ne y9 ht_h0 (by decide))).trans hf_o339
                exact W.iret (v := 3) hx hb hr (fun t ht hW => ⟨⟨3, f345, rfl, ⟨hT, hR, (by first | decide | omega), (by simp only [g347, hf_350, hf_353, hf_354, hf_355, hf_o26, hf_o28, hf_o34, mo_i1, mo_l1]; exact (show (o341_x10.toInt ≤ o341_x11.toInt ∧ o341_x11.toInt ≤ o341_x9.toInt ∧ (o341_x12.toInt = 0 ∨ o341_x10.toInt < o341_x11.toInt) ∧ (o341_x12.toInt = 1 → o341_x11.toInt = o341_x10.toInt + 1 → o341_x13.toInt ≤ 26)) ∧ o341_x22.toInt + o341_x28.toInt ≤ o341_x10.toInt ∧ mo_PV (mo_R g31) (mo_R g33) o341_x28.toInt ∧ (o341_x15.toInt = 0 → mo_EX aa (3 : Int32).toInt (mo_R g338) (mo_R g340) (mo_R g31) (mo_R g33) o341_x22.toInt o341_x28.toInt ∧ mo_FR aa (mo_R g27) (mo_R g29) (mo_R g338) (mo_R g340) ∧ ((3 : Int32).toInt = 4 ∨ o34_x10.toInt < o341_x10.toInt ∨ (o341_x10.toInt = o34_x10.toInt ∧ (3 : Int32).toInt = 2))) ∧ o34_x22.toInt ≤ o341_x22.toInt ∧ o341_x9.toInt = o34_x9.toInt ∧ o341_x19.toInt = o34_x19.toInt ∧ o341_x20.toInt = o34_x20.toInt from ⟨by omega, by omega, h3, fun q9 => ⟨(h4.leaf (by decide) (by omega) tk342.1 tk342.2.1 (by omega) (by omega)), (mo_FR.emit tk342.1 tk342.2.1 (h4.pj0 (by decide)).base), by have q8 : (3 : Int32).toInt = 3 := rfl; omega⟩, by omega, by omega, by omega, by omega⟩))⟩, by rw [ht]; exact hP, va_K.moved hW.alike hK, hD⟩, hS.F ht⟩) hS.2.2 dX12_readPart_121
              · have ic330 : r40.toInt = (-1) := zi_nef rfl rfl c330
                exfalso; omega
        · have ic278 : r40.toInt = (-1) := zi_nef rfl rfl c278
          refine lv_iload_n hx hb dX12_readPart_67 rfl (lv_at hl 1 rfl) ?_
          refine lv_if_eq (tgt := 84) hx hb dX12_readPart_68 (by decide) (fun c9 => absurd c9 (by decide)) (fun _ => ?_)
          refine lv_aload_n hx hb dX12_readPart_71 rfl (lv_at hl 3 rfl) ?_
          refine va_get (D := (dC, dI)) (ci := 12) (v := .int o34_x25) (C := RX12) (T := TX12) (N := 53) hx hb hts hfX12 hown hK hP q35 eq35 rfl 25 (by decide) (hts (.fieldLink RX12 351 "ColdShipsModel" "nLeaves" "I") wa_990) (fun _ h9 => h9) rfl dX12_readPart_72 ?_
          refine lv_bipush (v := 50) hx hb dX12_readPart_75 (by decide) ?_
          refine lv_icmp_ge (tgt := 84) hx hb dX12_readPart_77 (by decide) (fun c356 => ?_) (fun c356 => ?_)
          · have ic356 : o34_x25.toInt ≥ 50 := zi_ge rfl rfl c356
            refine lv_iconst (v := 0) hx hb dX12_readPart_84 (by decide) ?_
            have hFc := tp_fr hD hS hA
            refine va_callv (va_runV (As := [.int 0]) (rest := []) ⟨hx, hb, hml, hown, hts⟩ (t_X12_must l dC dI _ κ τ ν ρ L f hG hT h0 (0) ht_h0 (by first | decide | omega) (by simp only [hf_o34, mo_i1, mo_l1]; exact (show (o34_x10.toInt ≤ o34_x11.toInt ∧ o34_x11.toInt ≤ o34_x9.toInt ∧ (o34_x12.toInt = 0 ∨ o34_x10.toInt < o34_x11.toInt) ∧ (o34_x12.toInt = 1 → o34_x11.toInt = o34_x10.toInt + 1 → o34_x13.toInt ≤ 26)) from by have : (0 : Int32).toInt = 0 := rfl; first | omega | decide))) (cwV 1 hts gX12_readPart_X12_must rfl rfl rfl ⟨rfl, pd_X12_must⟩ ⟨Nat.le_of_ble_eq_true rfl, Nat.le_of_ble_eq_true rfl⟩) ⟨pz_blind, va_recv hK hP (ci := 12) (q0 := q35) rfl eq35, pz_pre hP hK hD hN⟩ rfl rfl hl.1 rfl (lv_room (Nat.le_of_ble_eq_true rfl)) dX12_readPart_85 ⟨Nat.le_of_ble_eq_true rfl, Nat.le_of_ble_eq_true rfl⟩) hS (fun q _ h => hFc q h) hFc (fun f359 t H1 locs ht hvm hw358 hB hz1 hk1 hS => ?_)
            obtain ⟨hT, hF360, hw358p⟩ := hw358
            have hR := hR.then hF360 (by decide)
            have hP := hB.1; rw [ht] at hP; have hD := tp_ad f359 hD; clear hB hFc hz1 hk1; subst ht; generalize t.heap = H at hP hS ⊢
            obtain ⟨o361_x0, o361_x1, o361_x7, o361_x9, o361_x10, o361_x11, o361_x12, o361_x13, o361_x14, o361_x15, o361_x16, o361_x17, o361_x18, o361_x19, o361_x20, o361_x22, o361_x25, o361_x28, o361_x29, o361_x32, o361_x33, o361_x34, o361_x35, o361_x36, o361_x37, o361_x38, o361_x47, o361_x48, hf_o361, ro361_0, ro361_1, ro361_2, ro361_3, ro361_4, ro361_5, ro361_6, ro361_7, ro361_8, ro361_9, ro361_10, ro361_11, ro361_12, ro361_13⟩ := tpo_13 hT ht_h0
            have tk362 : (o361_x10.toInt ≤ o361_x11.toInt ∧ o361_x11.toInt ≤ o361_x9.toInt ∧ (o361_x12.toInt = 0 ∨ o361_x10.toInt < o361_x11.toInt) ∧ (o361_x12.toInt = 1 → o361_x11.toInt = o361_x10.toInt + 1 → o361_x13.toInt ≤ 26)) ∧ (o361_x15.toInt = 0 → o34_x15.toInt = 0 ∧ o34_x11.toInt ≤ o361_x10.toInt ∧ (0) ≠ 0) ∧ (o361_x15.toInt ≠ 0 → o361_x10.toInt = o34_x10.toInt) ∧ o361_x9.toInt = o34_x9.toInt ∧ o361_x19.toInt = o34_x19.toInt ∧ o361_x20.toInt = o34_x20.toInt ∧ o361_x22.toInt = o34_x22.toInt ∧ o361_x28.toInt = o34_x28.toInt := by have q9 := hw358p; simp only [hf_o361, hf_o34, mo_i1, mo_l1] at q9; exact q9
            refine lv_aload_n hx hb dX12_readPart_88 rfl (lv_at hl 3 rfl) ?_
            obtain ⟨q363, eq363⟩ := tp_pos (tp_in hG ht_h0 (by decide)) hf_o361
            refine va_get (D := (dC, dI)) (ci := 12) (v := .int o361_x15) (C := RX12) (T := TX12) (N := 53) hx hb hts hfX12 hown hK hP q363 eq363 rfl 15 (by decide) (hts (.fieldLink RX12 261 "ColdShipsModel" "bad" "Z") wa_994) (fun _ h9 => h9) rfl dX12_readPart_89 ?_
            refine lv_if_ne (tgt := 120) hx hb dX12_readPart_92 (by decide) (fun c364 => ?_) (fun c364 => ?_)
            · have ic364 : o361_x15.toInt ≠ 0 := zi_ne rfl rfl c364
              refine lv_iconst (v := 3) hx hb dX12_readPart_120 (by decide) ?_
              have hf_365 : f359 (ρ h0 26) = .inl (κ 0, 400, .inl g31) := (hF360 _ (by rw [y10]; decide)).trans hf_o30
              have hf_366 : f359 (ρ h0 27) = .inl (κ 0, 400, .inl g33) := (hF360 _ (by rw [y11]; decide)).trans hf_o32
              have hf_367 : f359 (ρ h0 23) = .inl (κ 0, 400, .inl g27) := (hF360 _ (by rw [y8]; decide)).trans hf_o26
              have hf_368 : f359 (ρ h0 24) = .inl (κ 0, 400, .inl g29) := (hF360 _ (by rw [y9]; decide)).trans hf_o28
              exact W.iret (v := 3) hx hb hr (fun t ht hW => ⟨⟨3, f359, rfl, ⟨hT, hR, (by first | decide | omega), (by simp only [hf_o361, hf_365, hf_366, hf_367, hf_368, hf_o26, hf_o28, hf_o34, mo_i1, mo_l1]; exact (show (o361_x10.toInt ≤ o361_x11.toInt ∧ o361_x11.toInt ≤ o361_x9.toInt ∧ (o361_x12.toInt = 0 ∨ o361_x10.toInt < o361_x11.toInt) ∧ (o361_x12.toInt = 1 → o361_x11.toInt = o361_x10.toInt + 1 → o361_x13.toInt ≤ 26)) ∧ o361_x22.toInt + o361_x28.toInt ≤ o361_x10.toInt ∧ mo_PV (mo_R g31) (mo_R g33) o361_x28.toInt ∧ (o361_x15.toInt = 0 → mo_EX aa (3 : Int32).toInt (mo_R g27) (mo_R g29) (mo_R g31) (mo_R g33) o361_x22.toInt o361_x28.toInt ∧ mo_FR aa (mo_R g27) (mo_R g29) (mo_R g27) (mo_R g29) ∧ ((3 : Int32).toInt = 4 ∨ o34_x10.toInt < o361_x10.toInt ∨ (o361_x10.toInt = o34_x10.toInt ∧ (3 : Int32).toInt = 2))) ∧ o34_x22.toInt ≤ o361_x22.toInt ∧ o361_x9.toInt = o34_x9.toInt ∧ o361_x19.toInt = o34_x19.toInt ∧ o361_x20.toInt = o34_x20.toInt from ⟨by omega, by omega, h3, fun q9 => by exfalso; omega, by omega, by omega, by omega, by omega⟩))⟩, by rw [ht]; exact hP, va_K.moved hW.alike hK, hD⟩, hS.F ht⟩) hS.2.2 dX12_readPart_121
            · have ic364 : o361_x15.toInt = 0 := zi_nef rfl rfl c364
              refine lv_aload_n hx hb dX12_readPart_95 rfl (lv_at hl 3 rfl) ?_
              refine lv_iload_n hx hb dX12_readPart_96 rfl (lv_at hl 2 rfl) ?_
              refine lv_iconst (v := (-1)) hx hb dX12_readPart_97 (by decide) ?_
              refine lv_icmp_ne (tgt := 105) hx hb dX12_readPart_98 (by decide) (fun c369 => ?_) (fun c369 => ?_)
              · have ic369 : r40.toInt ≠ (-1) := zi_ne rfl rfl c369
                exfalso; omega
              · have ic369 : r40.toInt = (-1) := zi_nef rfl rfl c369
                refine lv_iconst (v := 0) hx hb dX12_readPart_101 (by decide) ?_
                refine lv_goto (tgt := 106) hx hb dX12_readPart_102 (by decide) ?_
                refine lv_iload_n hx hb dX12_readPart_106 rfl (lv_at hl 0 rfl) ?_
                have hf_370 : f359 (ρ h0 23) = .inl (κ 0, 400, .inl g27) := (hF360 _ (by rw [y8]; decide)).trans hf_o26
                have hf_371 : f359 (ρ h0 24) = .inl (κ 0, 400, .inl g29) := (hF360 _ (by rw [y9]; decide)).trans hf_o28
                have hFc := tp_fr hD hS hA
                refine va_callv (va_runV (As := [.int 0, .int z277]) (rest := []) ⟨hx, hb, hml, hown, hts⟩ (t_X12_emit l dC dI _ κ τ ν ρ L f359 hG hT h0 (0) z277 ht_h0 (by simp only [hf_o361, mo_i1, mo_l1]; exact (show o361_x22.toInt < 400 from by have : (0 : Int32).toInt = 0 := rfl; first | omega | decide))) (cwV 2 hts gX12_readPart_X12_emit rfl rfl rfl ⟨rfl, pd_X12_emit⟩ ⟨Nat.le_of_ble_eq_true rfl, Nat.le_of_ble_eq_true rfl⟩) ⟨pz_blind, va_recv hK hP (ci := 12) (q0 := q363) rfl eq363, pz_pre hP hK hD hN⟩ rfl rfl hl.1 rfl (lv_room (Nat.le_of_ble_eq_true rfl)) dX12_readPart_107 ⟨Nat.le_of_ble_eq_true rfl, Nat.le_of_ble_eq_true rfl⟩) hS (fun q _ h => hFc q h) hFc (fun f374 t H1 locs ht hvm hw373 hB hz1 hk1 hS => ?_)
                obtain ⟨hT, hF375, hw373p⟩ := hw373
                have hR := hR.then hF375 (by decide)
                have hP := hB.1; rw [ht] at hP; have hD := tp_ad f374 hD; clear hB hFc hz1 hk1; subst ht; generalize t.heap = H at hP hS ⊢
                obtain ⟨g377, hf_o376⟩ := tpo_53 hT y8
                obtain ⟨g379, hf_o378⟩ := tpo_54 hT y9
                obtain ⟨o380_x0, o380_x1, o380_x7, o380_x9, o380_x10, o380_x11, o380_x12, o380_x13, o380_x14, o380_x15, o380_x16, o380_x17, o380_x18, o380_x19, o380_x20, o380_x22, o380_x25, o380_x28, o380_x29, o380_x32, o380_x33, o380_x34, o380_x35, o380_x36, o380_x37, o380_x38, o380_x47, o380_x48, hf_o380, ro380_0, ro380_1, ro380_2, ro380_3, ro380_4, ro380_5, ro380_6, ro380_7, ro380_8, ro380_9, ro380_10, ro380_11, ro380_12, ro380_13⟩ := tpo_13 hT ht_h0
                have tk381 : mo_U (mo_R g27) (mo_R g377) o361_x22.toInt (0) ∧ mo_U (mo_R g29) (mo_R g379) o361_x22.toInt z277.toInt ∧ o380_x22.toInt = o361_x22.toInt + 1 ∧ o380_x9.toInt = o361_x9.toInt ∧ o380_x10.toInt = o361_x10.toInt ∧ o380_x11.toInt = o361_x11.toInt ∧ o380_x12.toInt = o361_x12.toInt ∧ o380_x13.toInt = o361_x13.toInt ∧ o380_x15.toInt = o361_x15.toInt ∧ o380_x19.toInt = o361_x19.toInt ∧ o380_x20.toInt = o361_x20.toInt ∧ o380_x28.toInt = o361_x28.toInt := by have q9 := hw373p; simp only [hf_370, hf_o376, hf_o361, hf_371, hf_o378, hf_o380, mo_i1, mo_l1] at q9; exact q9
                refine lv_aload_n hx hb dX12_readPart_110 rfl (lv_at hl 3 rfl) ?_
                refine lv_dup hx hb dX12_readPart_111 rfl ?_
                obtain ⟨q382, eq382⟩ := tp_pos (tp_in hG ht_h0 (by decide)) hf_o380
                refine va_get (D := (dC, dI)) (ci := 12) (v := .int o380_x25) (C := RX12) (T := TX12) (N := 53) hx hb hts hfX12 hown hK hP q382 eq382 rfl 25 (by decide) (hts (.fieldLink RX12 351 "ColdShipsModel" "nLeaves" "I") wa_990) (fun _ h9 => h9) rfl dX12_readPart_112 ?_
                refine lv_iconst (v := 1) hx hb dX12_readPart_115 (by decide) ?_
                refine lv_iadd hx hb dX12_readPart_116 ?_
                refine lv_topi (fun z383 ez383 => ?_)
                refine va_put (D := (dC, dI)) (ci := 12) (v := .int z383) (ty := .int) (C := RX12) (T := TX12) (N := 53) hx hb hts hfX12 tyX12 tyX12_ok nmX12 hown hK hP hD hS q382 eq382 rfl 25 (by decide) (hts (.fieldLink RX12 351 "ColdShipsModel" "nLeaves" "I") wa_990) (fun _ h9 => h9) rfl (tyX12_ok 25 (by decide)) rfl rfl (Nat.le_of_ble_eq_true rfl) dX12_readPart_117 (tp_k (.inr (12, [.int o380_x0, .int o380_x1, .ref (ρ h0 2), .ref (ρ h0 3), .ref (ρ h0 4), .ref (ρ h0 5), .ref (ρ h0 6), .int o380_x7, .ref (ρ h0 8), .int o380_x9, .int o380_x10, .int o380_x11, .int o380_x12, .long o380_x13, .int o380_x14, .int o380_x15, .int o380_x16, .int o380_x17, .int o380_x18, .int o380_x19, .int o380_x20, .ref (ρ h0 21), .int o380_x22, .ref (ρ h0 23), .ref (ρ h0 24), .int z383, .ref (ρ h0 26), .ref (ρ h0 27), .int o380_x28, .int o380_x29, .ref (ρ h0 30), .ref (ρ h0 31), .int o380_x32, .long o380_x33, .long o380_x34, .long o380_x35, .int o380_x36, .int o380_x37, .int o380_x38, .ref (ρ h0 39), .ref (ρ h0 40), .ref (ρ h0 41), .ref (ρ h0 42), .ref (ρ h0 43), .ref (ρ h0 44), .ref (ρ h0 45), .ref (ρ h0 46), .int o380_x47, .int o380_x48, .ref (ρ h0 49), .ref (ρ h0 50), .ref (ρ h0 51), .ref (ρ h0 52)])) hD (tp_in hG ht_h0 (by decide)) eq382 (fun f384 H locs hP hD hS g386 k385 => ?_))
                have hT := hT.up ht_h0 g386 k385 ⟨_, _, _, _, _, _, _, _, _, _, _, _, _, _, _, _, _, _, _, _, _, _, _, _, _, _, _, _, rfl, ro380_0, ro380_1, ro380_2, ro380_3, ro380_4, ro380_5, ro380_6, ro380_7, ro380_8, ro380_9, ro380_10, ro380_11, ro380_12, ro380_13⟩
                have hR := hR.up ht_h0 (by decide) k385
                refine lv_iconst (v := 3) hx hb dX12_readPart_120 (by decide) ?_
                have hf_387 : f359 (ρ h0 26) = .inl (κ 0, 400, .inl g31) := (hF360 _ (by rw [y10]; decide)).trans hf_o30
                have hf_388 : f374 (ρ h0 26) = .inl (κ 0, 400, .inl g31) := (hF375 _ (by rw [y10]; decide)).trans hf_387
                have hf_389 : f384 (ρ h0 26) = .inl (κ 0, 400, .inl g31) := (k385 _ (tp_ne y10 ht_h0 (by decide))).trans hf_388
                have hf_390 : f359 (ρ h0 27) = .inl (κ 0, 400, .inl g33) := (hF360 _ (by rw [y11]; decide)).trans hf_o32
                have hf_391 : f374 (ρ h0 27) = .inl (κ 0, 400, .inl g33) := (hF375 _ (by rw [y11]; decide)).trans hf_390
                have hf_392 : f384 (ρ h0 27) = .inl (κ 0, 400, .inl g33) := (k385 _ (tp_ne y11 ht_h0 (by decide))).trans hf_391
                have hf_393 : f384 (ρ h0 23) = .inl (κ 0, 400, .inl g377) := (k385 _ (tp_ne y8 ht_h0 (by decide))).trans hf_o376
                have hf_394 : f384 (ρ h0 24) = .inl (κ 0, 400, .inl g379) := (k385 _ (tp_ne y9 ht_h0 (by decide))).trans hf_o378
                exact W.iret (v := 3) hx hb hr (fun t ht hW => ⟨⟨3, f384, rfl, ⟨hT, hR, (by first | decide | omega), (by simp only [g386, hf_389, hf_392, hf_393, hf_394, hf_o26, hf_o28, hf_o34, mo_i1, mo_l1]; exact (show (o380_x10.toInt ≤ o380_x11.toInt ∧ o380_x11.toInt ≤ o380_x9.toInt ∧ (o380_x12.toInt = 0 ∨ o380_x10.toInt < o380_x11.toInt) ∧ (o380_x12.toInt = 1 → o380_x11.toInt = o380_x10.toInt + 1 → o380_x13.toInt ≤ 26)) ∧ o380_x22.toInt + o380_x28.toInt ≤ o380_x10.toInt ∧ mo_PV (mo_R g31) (mo_R g33) o380_x28.toInt ∧ (o380_x15.toInt = 0 → mo_EX aa (3 : Int32).toInt (mo_R g377) (mo_R g379) (mo_R g31) (mo_R g33) o380_x22.toInt o380_x28.toInt ∧ mo_FR aa (mo_R g27) (mo_R g29) (mo_R g377) (mo_R g379) ∧ ((3 : Int32).toInt = 4 ∨ o34_x10.toInt < o380_x10.toInt ∨ (o380_x10.toInt = o34_x10.toInt ∧ (3 : Int32).toInt = 2))) ∧ o34_x22.toInt ≤ o380_x22.toInt ∧ o380_x9.toInt = o34_x9.toInt ∧ o380_x19.toInt = o34_x19.toInt ∧ o380_x20.toInt = o34_x20.toInt from ⟨by omega, by omega, h3, fun q9 => ⟨(h4.leaf (by decide) (by omega) tk381.1 tk381.2.1 (by omega) (by omega)), (mo_FR.emit tk381.1 tk381.2.1 (h4.pj0 (by decide)).base), by have q8 : (3 : Int32).toInt = 3 := rfl; omega⟩, by omega, by omega, by omega, by omega⟩))⟩, by rw [ht]; exact hP, va_K.moved hW.alike hK, hD⟩, hS.F ht⟩) hS.2.2 dX12_readPart_121
          · have ic356 : o34_x25.toInt < 50 := zi_gef rfl rfl c356
            refine lv_iconst (v := 1) hx hb dX12_readPart_80 (by decide) ?_
            refine lv_goto (tgt := 85) hx hb dX12_readPart_81 (by decide) ?_
            have hFc := tp_fr hD hS hA
            refine va_callv (va_runV (As := [.int 1]) (rest := []) ⟨hx, hb, hml, hown, hts⟩ (t_X12_must l dC dI _ κ τ ν ρ L f hG hT h0 (1) ht_h0 (by first | decide | omega) (by simp only [hf_o34, mo_i1, mo_l1]; exact (show (o34_x10.toInt ≤ o34_x11.toInt ∧ o34_x11.toInt ≤ o34_x9.toInt ∧ (o34_x12.toInt = 0 ∨ o34_x10.toInt < o34_x11.toInt) ∧ (o34_x12.toInt = 1 → o34_x11.toInt = o34_x10.toInt + 1 → o34_x13.toInt ≤ 26)) from by have : (1 : Int32).toInt = 1 := rfl; first | omega | decide))) (cwV 1 hts gX12_readPart_X12_must rfl rfl rfl ⟨rfl, pd_X12_must⟩ ⟨Nat.le_of_ble_eq_true rfl, Nat.le_of_ble_eq_true rfl⟩) ⟨pz_blind, va_recv hK hP (ci := 12) (q0 := q35) rfl eq35, pz_pre hP hK hD hN⟩ rfl rfl hl.1 rfl (lv_room (Nat.le_of_ble_eq_true rfl)) dX12_readPart_85 ⟨Nat.le_of_ble_eq_true rfl, Nat.le_of_ble_eq_true rfl⟩) hS (fun q _ h => hFc q h) hFc (fun f397 t H1 locs ht hvm hw396 hB hz1 hk1 hS => ?_)
            obtain ⟨hT, hF398, hw396p⟩ := hw396
            have hR := hR.then hF398 (by decide)
            have hP := hB.1; rw [ht] at hP; have hD := tp_ad f397 hD; clear hB hFc hz1 hk1; subst ht; generalize t.heap = H at hP hS ⊢
            obtain ⟨o399_x0, o399_x1, o399_x7, o399_x9, o399_x10, o399_x11, o399_x12, o399_x13, o399_x14, o399_x15, o399_x16, o399_x17, o399_x18, o399_x19, o399_x20, o399_x22, o399_x25, o399_x28, o399_x29, o399_x32, o399_x33, o399_x34, o399_x35, o399_x36, o399_x37, o399_x38, o399_x47, o399_x48, hf_o399, ro399_0, ro399_1, ro399_2, ro399_3, ro399_4, ro399_5, ro399_6, ro399_7, ro399_8, ro399_9, ro399_10, ro399_11, ro399_12, ro399_13⟩ := tpo_13 hT ht_h0
            have tk400 : (o399_x10.toInt ≤ o399_x11.toInt ∧ o399_x11.toInt ≤ o399_x9.toInt ∧ (o399_x12.toInt = 0 ∨ o399_x10.toInt < o399_x11.toInt) ∧ (o399_x12.toInt = 1 → o399_x11.toInt = o399_x10.toInt + 1 → o399_x13.toInt ≤ 26)) ∧ (o399_x15.toInt = 0 → o34_x15.toInt = 0 ∧ o34_x11.toInt ≤ o399_x10.toInt ∧ (1) ≠ 0) ∧ (o399_x15.toInt ≠ 0 → o399_x10.toInt = o34_x10.toInt) ∧ o399_x9.toInt = o34_x9.toInt ∧ o399_x19.toInt = o34_x19.toInt ∧ o399_x20.toInt = o34_x20.toInt ∧ o399_x22.toInt = o34_x22.toInt ∧ o399_x28.toInt = o34_x28.toInt := by have q9 := hw396p; simp only [hf_o399, hf_o34, mo_i1, mo_l1] at q9; exact q9
            refine lv_aload_n hx hb dX12_readPart_88 rfl (lv_at hl 3 rfl) ?_
            obtain ⟨q401, eq401⟩ := tp_pos (tp_in hG ht_h0 (by decide)) hf_o399
            refine va_get (D := (dC, dI)) (ci := 12) (v := .int o399_x15) (C := RX12) (T := TX12) (N := 53) hx hb hts hfX12 hown hK hP q401 eq401 rfl 15 (by decide) (hts (.fieldLink RX12 261 "ColdShipsModel" "bad" "Z") wa_994) (fun _ h9 => h9) rfl dX12_readPart_89 ?_
            refine lv_if_ne (tgt := 120) hx hb dX12_readPart_92 (by decide) (fun c402 => ?_) (fun c402 => ?_)
            · have ic402 : o399_x15.toInt ≠ 0 := zi_ne rfl rfl c402
              refine lv_iconst (v := 3) hx hb dX12_readPart_120 (by decide) ?_
              have hf_403 : f397 (ρ h0 26) = .inl (κ 0, 400, .inl g31) := (hF398 _ (by rw [y10]; decide)).trans hf_o30
              have hf_404 : f397 (ρ h0 27) = .inl (κ 0, 400, .inl g33) := (hF398 _ (by rw [y11]; decide)).trans hf_o32
              have hf_405 : f397 (ρ h0 23) = .inl (κ 0, 400, .inl g27) := (hF398 _ (by rw [y8]; decide)).trans hf_o26
              have hf_406 : f397 (ρ h0 24) = .inl (κ 0, 400, .inl g29) := (hF398 _ (by rw [y9]; decide)).trans hf_o28
              exact W.iret (v := 3) hx hb hr (fun t ht hW => ⟨⟨3, f397, rfl, ⟨hT, hR, (by first | decide | omega), (by simp only [hf_o399, hf_403, hf_404, hf_405, hf_406, hf_o26, hf_o28, hf_o34, mo_i1, mo_l1]; exact (show (o399_x10.toInt ≤ o399_x11.toInt ∧ o399_x11.toInt ≤ o399_x9.toInt ∧ (o399_x12.toInt = 0 ∨ o399_x10.toInt < o399_x11.toInt) ∧ (o399_x12.toInt = 1 → o399_x11.toInt = o399_x10.toInt + 1 → o399_x13.toInt ≤ 26)) ∧ o399_x22.toInt + o399_x28.toInt ≤ o399_x10.toInt ∧ mo_PV (mo_R g31) (mo_R g33) o399_x28.toInt ∧ (o399_x15.toInt = 0 → mo_EX aa (3 : Int32).toInt (mo_R g27) (mo_R g29) (mo_R g31) (mo_R g33) o399_x22.toInt o399_x28.toInt ∧ mo_FR aa (mo_R g27) (mo_R g29) (mo_R g27) (mo_R g29) ∧ ((3 : Int32).toInt = 4 ∨ o34_x10.toInt < o399_x10.toInt ∨ (o399_x10.toInt = o34_x10.toInt ∧ (3 : Int32).toInt = 2))) ∧ o34_x22.toInt ≤ o399_x22.toInt ∧ o399_x9.toInt = o34_x9.toInt ∧ o399_x19.toInt = o34_x19.toInt ∧ o399_x20.toInt = o34_x20.toInt from ⟨by omega, by omega, h3, fun q9 => by exfalso; omega, by omega, by omega, by omega, by omega⟩))⟩, by rw [ht]; exact hP, va_K.moved hW.alike hK, hD⟩, hS.F ht⟩) hS.2.2 dX12_readPart_121
            · have ic402 : o399_x15.toInt = 0 := zi_nef rfl rfl c402
              refine lv_aload_n hx hb dX12_readPart_95 rfl (lv_at hl 3 rfl) ?_
              refine lv_iload_n hx hb dX12_readPart_96 rfl (lv_at hl 2 rfl) ?_
              refine lv_iconst (v := (-1)) hx hb dX12_readPart_97 (by decide) ?_
              refine lv_icmp_ne (tgt := 105) hx hb dX12_readPart_98 (by decide) (fun c407 => ?_) (fun c407 => ?_)
              · have ic407 : r40.toInt ≠ (-1) := zi_ne rfl rfl c407
                exfalso; omega
              · have ic407 : r40.toInt = (-1) := zi_nef rfl rfl c407
                refine lv_iconst (v := 0) hx hb dX12_readPart_101 (by decide) ?_
                refine lv_goto (tgt := 106) hx hb dX12_readPart_102 (by decide) ?_
                refine lv_iload_n hx hb dX12_readPart_106 rfl (lv_at hl 0 rfl) ?_
                have hf_408 : f397 (ρ h0 23) = .inl (κ 0, 400, .inl g27) := (hF398 _ (by rw [y8]; decide)).trans hf_o26
                have hf_409 : f397 (ρ h0 24) = .inl (κ 0, 400, .inl g29) := (hF398 _ (by rw [y9]; decide)).trans hf_o28
                have hFc := tp_fr hD hS hA
                refine va_callv (va_runV (As := [.int 0, .int z277]) (rest := []) ⟨hx, hb, hml, hown, hts⟩ (t_X12_emit l dC dI _ κ τ ν ρ L f397 hG hT h0 (0) z277 ht_h0 (by simp only [hf_o399, mo_i1, mo_l1]; exact (show o399_x22.toInt < 400 from by have : (0 : Int32).toInt = 0 := rfl; first | omega | decide))) (cwV 2 hts gX12_readPart_X12_emit rfl rfl rfl ⟨rfl, pd_X12_emit⟩ ⟨Nat.le_of_ble_eq_true rfl, Nat.le_of_ble_eq_true rfl⟩) ⟨pz_blind, va_recv hK hP (ci := 12) (q0 := q401) rfl eq401, pz_pre hP hK hD hN⟩ rfl rfl hl.1 rfl (lv_room (Nat.le_of_ble_eq_true rfl)) dX12_readPart_107 ⟨Nat.le_of_ble_eq_true rfl, Nat.le_of_ble_eq_true rfl⟩) hS (fun q _ h => hFc q h) hFc (fun f412 t H1 locs ht hvm hw411 hB hz1 hk1 hS => ?_)
                obtain ⟨hT, hF413, hw411p⟩ := hw411
                have hR := hR.then hF413 (by decide)
                have hP := hB.1; rw [ht] at hP; have hD := tp_ad f412 hD; clear hB hFc hz1 hk1; subst ht; generalize t.heap = H at hP hS ⊢
                obtain ⟨g415, hf_o414⟩ := tpo_53 hT y8
                obtain ⟨g417, hf_o416⟩ := tpo_54 hT y9
                obtain ⟨o418_x0, o418_x1, o418_x7, o418_x9, o418_x10, o418_x11, o418_x12, o418_x13, o418_x14, o418_x15, o418_x16, o418_x17, o418_x18, o418_x19, o418_x20, o418_x22, o418_x25, o418_x28, o418_x29, o418_x32, o418_x33, o418_x34, o418_x35, o418_x36, o418_x37, o418_x38, o418_x47, o418_x48, hf_o418, ro418_0, ro418_1, ro418_2, ro418_3, ro418_4, ro418_5, ro418_6, ro418_7, ro418_8, ro418_9, ro418_10, ro418_11, ro418_12, ro418_13⟩ := tpo_13 hT ht_h0
                have tk419 : mo_U (mo_R g27) (mo_R g415) o399_x22.toInt (0) ∧ mo_U (mo_R g29) (mo_R g417) o399_x22.toInt z277.toInt ∧ o418_x22.toInt = o399_x22.toInt + 1 ∧ o418_x9.toInt = o399_x9.toInt ∧ o418_x10.toInt = o399_x10.toInt ∧ o418_x11.toInt = o399_x11.toInt ∧ o418_x12.toInt = o399_x12.toInt ∧ o418_x13.toInt = o399_x13.toInt ∧ o418_x15.toInt = o399_x15.toInt ∧ o418_x19.toInt = o399_x19.toInt ∧ o418_x20.toInt = o399_x20.toInt ∧ o418_x28.toInt = o399_x28.toInt := by have q9 := hw411p; simp only [hf_408, hf_o414, hf_o399, hf_409, hf_o416, hf_o418, mo_i1, mo_l1] at q9; exact q9
                refine lv_aload_n hx hb dX12_readPart_110 rfl (lv_at hl 3 rfl) ?_
                refine lv_dup hx hb dX12_readPart_111 rfl ?_
                obtain ⟨q420, eq420⟩ := tp_pos (tp_in hG ht_h0 (by decide)) hf_o418
                refine va_get (D := (dC, dI)) (ci := 12) (v := .int o418_x25) (C := RX12) (T := TX12) (N := 53) hx hb hts hfX12 hown hK hP q420 eq420 rfl 25 (by decide) (hts (.fieldLink RX12 351 "ColdShipsModel" "nLeaves" "I") wa_990) (fun _ h9 => h9) rfl dX12_readPart_112 ?_
                refine lv_iconst (v := 1) hx hb dX12_readPart_115 (by decide) ?_
                refine lv_iadd hx hb dX12_readPart_116 ?_
                refine lv_topi (fun z421 ez421 => ?_)
                refine va_put (D := (dC, dI)) (ci := 12) (v := .int z421) (ty := .int) (C := RX12) (T := TX12) (N := 53) hx hb hts hfX12 tyX12 tyX12_ok nmX12 hown hK hP hD hS q420 eq420 rfl 25 (by decide) (hts (.fieldLink RX12 351 "ColdShipsModel" "nLeaves" "I") wa_990) (fun _ h9 => h9) rfl (tyX12_ok 25 (by decide)) rfl rfl (Nat.le_of_ble_eq_true rfl) dX12_readPart_117 (tp_k (.inr (12, [.int o418_x0, .int o418_x1, .ref (ρ h0 2), .ref (ρ h0 3), .ref (ρ h0 4), .ref (ρ h0 5), .ref (ρ h0 6), .int o418_x7, .ref (ρ h0 8), .int o418_x9, .int o418_x10, .int o418_x11, .int o418_x12, .long o418_x13, .int o418_x14, .int o418_x15, .int o418_x16, .int o418_x17, .int o418_x18, .int o418_x19, .int o418_x20, .ref (ρ h0 21), .int o418_x22, .ref (ρ h0 23), .ref (ρ h0 24), .int z421, .ref (ρ h0 26), .ref (ρ h0 27), .int o418_x28, .int o418_x29, .ref (ρ h0 30), .ref (ρ h0 31), .int o418_x32, .long o418_x33, .long o418_x34, .long o418_x35, .int o418_x36, .int o418_x37, .int o418_x38, .ref (ρ h0 39), .ref (ρ h0 40), .ref (ρ h0 41), .ref (ρ h0 42), .ref (ρ h0 43), .ref (ρ h0 44), .ref (ρ h0 45), .ref (ρ h0 46), .int o418_x47, .int o418_x48, .ref (ρ h0 49), .ref (ρ h0 50), .ref (ρ h0 51), .ref (ρ h0 52)])) hD (tp_in hG ht_h0 (by decide)) eq420 (fun f422 H locs hP hD hS g424 k423 => ?_))
                have hT := hT.up ht_h0 g424 k423 ⟨_, _, _, _, _, _, _, _, _, _, _, _, _, _, _, _, _, _, _, _, _, _, _, _, _, _, _, _, rfl, ro418_0, ro418_1, ro418_2, ro418_3, ro418_4, ro418_5, ro418_6, ro418_7, ro418_8, ro418_9, ro418_10, ro418_11, ro418_12, ro418_13⟩
                have hR := hR.up ht_h0 (by decide) k423
                refine lv_iconst (v := 3) hx hb dX12_readPart_120 (by decide) ?_
                have hf_425 : f397 (ρ h0 26) = .inl (κ 0, 400, .inl g31) := (hF398 _ (by rw [y10]; decide)).trans hf_o30
                have hf_426 : f412 (ρ h0 26) = .inl (κ 0, 400, .inl g31) := (hF413 _ (by rw [y10]; decide)).trans hf_425
                have hf_427 : f422 (ρ h0 26) = .inl (κ 0, 400, .inl g31) := (k423 _ (tp_ne y10 ht_h0 (by decide))).trans hf_426
                have hf_428 : f397 (ρ h0 27) = .inl (κ 0, 400, .inl g33) := (hF398 _ (by rw [y11]; decide)).trans hf_o32
                have hf_429 : f412 (ρ h0 27) = .inl (κ 0, 400, .inl g33) := (hF413 _ (by rw [y11]; decide)).trans hf_428
                have hf_430 : f422 (ρ h0 27) = .inl (κ 0, 400, .inl g33) := (k423 _ (tp_ne y11 ht_h0 (by decide))).trans hf_429
                have hf_431 : f422 (ρ h0 23) = .inl (κ 0, 400, .inl g415) := (k423 _ (tp_ne y8 ht_h0 (by decide))).trans hf_o414
                have hf_432 : f422 (ρ h0 24) = .inl (κ 0, 400, .inl g417) := (k423 _ (tp_ne y9 ht_h0 (by decide))).trans hf_o416
                exact W.iret (v := 3) hx hb hr (fun t ht hW => ⟨⟨3, f422, rfl, ⟨hT, hR, (by first | decide | omega), (by simp only [g424, hf_427, hf_430, hf_431, hf_432, hf_o26, hf_o28, hf_o34, mo_i1, mo_l1]; exact (show (o418_x10.toInt ≤ o418_x11.toInt ∧ o418_x11.toInt ≤ o418_x9.toInt ∧ (o418_x12.toInt = 0 ∨ o418_x10.toInt < o418_x11.toInt) ∧ (o418_x12.toInt = 1 → o418_x11.toInt = o418_x10.toInt + 1 → o418_x13.toInt ≤ 26)) ∧ o418_x22.toInt + o418_x28.toInt ≤ o418_x10.toInt ∧ mo_PV (mo_R g31) (mo_R g33) o418_x28.toInt ∧ (o418_x15.toInt = 0 → mo_EX aa (3 : Int32).toInt (mo_R g415) (mo_R g417) (mo_R g31) (mo_R g33) o418_x22.toInt o418_x28.toInt ∧ mo_FR aa (mo_R g27) (mo_R g29) (mo_R g415) (mo_R g417) ∧ ((3 : Int32).toInt = 4 ∨ o34_x10.toInt < o418_x10.toInt ∨ (o418_x10.toInt = o34_x10.toInt ∧ (3 : Int32).toInt = 2))) ∧ o34_x22.toInt ≤ o418_x22.toInt ∧ o418_x9.toInt = o34_x9.toInt ∧ o418_x19.toInt = o34_x19.toInt ∧ o418_x20.toInt = o34_x20.toInt from ⟨by omega, by omega, h3, fun q9 => ⟨(h4.leaf (by decide) (by omega) tk419.1 tk419.2.1 (by omega) (by omega)), (mo_FR.emit tk419.1 tk419.2.1 (h4.pj0 (by decide)).base), by have q8 : (3 : Int32).toInt = 3 := rfl; omega⟩, by omega, by omega, by omega, by omega⟩))⟩, by rw [ht]; exact hP, va_K.moved hW.alike hK, hD⟩, hS.F ht⟩) hS.2.2 dX12_readPart_121
  · have ic39 : r36.toInt ≠ 0 := zi_eqf rfl rfl c39
    refine lv_aload_n hx hb dX12_readPart_9 rfl (lv_at hl 0 rfl) ?_
    refine lv_bipush (v := 31) hx hb dX12_readPart_10 (by decide) ?_
    have hFc := tp_fr hD hS hA
    refine va_callv (va_runV (As := [.int 31]) (rest := []) ⟨hx, hb, hml, hown, hts⟩ (t_X12_open l dC dI _ κ τ ν ρ L f hG hT h0 (31) ht_h0 (by first | decide | omega) (by simp only [hf_o34, mo_i1, mo_l1]; exact (show (o34_x10.toInt ≤ o34_x11.toInt ∧ o34_x11.toInt ≤ o34_x9.toInt ∧ (o34_x12.toInt = 0 ∨ o34_x10.toInt < o34_x11.toInt) ∧ (o34_x12.toInt = 1 → o34_x11.toInt = o34_x10.toInt + 1 → o34_x13.toInt ≤ 26)) from by have : (31 : Int32).toInt = 31 := rfl; first | omega | decide)) (by simp only [hf_o34, mo_i1, mo_l1]; exact (show o34_x15.toInt = 0 from by have : (31 : Int32).toInt = 31 := rfl; first | omega | decide)) (by simp only [hf_o34, mo_i1, mo_l1]; exact (show o34_x10.toInt < o34_x11.toInt from by have : (31 : Int32).toInt = 31 := rfl; first | omega | decide)) (by simp only [hf_o34, mo_i1, mo_l1]; exact (show o34_x22.toInt + o34_x28.toInt ≤ o34_x10.toInt from by have : (31 : Int32).toInt = 31 := rfl; first | omega | decide))) (cwV 1 hts gX12_readPart_X12_open rfl rfl rfl ⟨rfl, pd_X12_open⟩ ⟨Nat.le_of_ble_eq_true rfl, Nat.le_of_ble_eq_true rfl⟩) ⟨pz_blind, va_recv hK hP (ci := 12) (q0 := q35) rfl eq35, pz_pre hP hK hD hN⟩ rfl rfl hl.1 rfl (lv_room (Nat.le_of_ble_eq_true rfl)) dX12_readPart_12 ⟨Nat.le_of_ble_eq_true rfl, Nat.le_of_ble_eq_true rfl⟩) hS (fun q _ h => hFc q h) hFc (fun f435 t H1 locs ht hvm hw434 hB hz1 hk1 hS => ?_)
    obtain ⟨hT, hF436, hw434p⟩ := hw434
    have hR := hR.then hF436 (by decide)
    have hP := hB.1; rw [ht] at hP; have hD := tp_ad f435 hD; clear hB hFc hz1 hk1; subst ht; generalize t.heap = H at hP hS ⊢
    obtain ⟨o437_x0, o437_x1, o437_x7, o437_x9, o437_x10, o437_x11, o437_x12, o437_x13, o437_x14, o437_x15, o437_x16, o437_x17, o437_x18, o437_x19, o437_x20, o437_x22, o437_x25, o437_x28, o437_x29, o437_x32, o437_x33, o437_x34, o437_x35, o437_x36, o437_x37, o437_x38, o437_x47, o437_x48, hf_o437, ro437_0, ro437_1, ro437_2, ro437_3, ro437_4, ro437_5, ro437_6, ro437_7, ro437_8, ro437_9, ro437_10, ro437_11, ro437_12, ro437_13⟩ := tpo_13 hT ht_h0
    obtain ⟨g439, hf_o438⟩ := tpo_56 hT y10
    obtain ⟨g441, hf_o440⟩ := tpo_57 hT y11
    have tk442 : (o437_x10.toInt ≤ o437_x11.toInt ∧ o437_x11.toInt ≤ o437_x9.toInt ∧ (o437_x12.toInt = 0 ∨ o437_x10.toInt < o437_x11.toInt) ∧ (o437_x12.toInt = 1 → o437_x11.toInt = o437_x10.toInt + 1 → o437_x13.toInt ≤ 26)) ∧ (o437_x15.toInt = 0 → mo_U (mo_R g31) (mo_R g439) o34_x28.toInt (31) ∧ mo_U (mo_R g33) (mo_R g441) o34_x28.toInt 0 ∧ o437_x28.toInt = o34_x28.toInt + 1 ∧ o34_x11.toInt ≤ o437_x10.toInt) ∧ (o437_x15.toInt ≠ 0 → (mo_R g439) = (mo_R g31) ∧ (mo_R g441) = (mo_R g33) ∧ o437_x28.toInt = o34_x28.toInt ∧ o437_x10.toInt = o34_x10.toInt) ∧ o437_x9.toInt = o34_x9.toInt ∧ o437_x19.toInt = o34_x19.toInt ∧ o437_x20.toInt = o34_x20.toInt ∧ o437_x22.toInt = o34_x22.toInt := by have q9 := hw434p; simp only [hf_o437, hf_o30, hf_o438, hf_o34, hf_o32, hf_o440, mo_i1, mo_l1] at q9; exact q9
    refine lv_iconst (v := 1) hx hb dX12_readPart_15 (by decide) ?_
    have hf_443 : f435 (ρ h0 23) = .inl (κ 0, 400, .inl g27) := (hF436 _ (by rw [y8]; decide)).trans hf_o26
    have hf_444 : f435 (ρ h0 24) = .inl (κ 0, 400, .inl g29) := (hF436 _ (by rw [y9]; decide)).trans hf_o28
    exact W.iret (v := 1) hx hb hr (fun t ht hW => ⟨⟨1, f435, rfl, ⟨hT, hR, (by first | decide | omega), (by simp only [hf_o437, hf_o438, hf_o440, hf_443, hf_444, hf_o26, hf_o28, hf_o34, mo_i1, mo_l1]; exact (show (o437_x10.toInt ≤ o437_x11.toInt ∧ o437_x11.toInt ≤ o437_x9.toInt ∧ (o437_x12.toInt = 0 ∨ o437_x10.toInt < o437_x11.toInt) ∧ (o437_x12.toInt = 1 → o437_x11.toInt = o437_x10.toInt + 1 → o437_x13.toInt ≤ 26)) ∧ o437_x22.toInt + o437_x28.toInt ≤ o437_x10.toInt ∧ mo_PV (mo_R g439) (mo_R g441) o437_x28.toInt ∧ (o437_x15.toInt = 0 → mo_EX aa (1 : Int32).toInt (mo_R g27) (mo_R g29) (mo_R g439) (mo_R g441) o437_x22.toInt o437_x28.toInt ∧ mo_FR aa (mo_R g27) (mo_R g29) (mo_R g27) (mo_R g29) ∧ ((1 : Int32).toInt = 4 ∨ o34_x10.toInt < o437_x10.toInt ∨ (o437_x10.toInt = o34_x10.toInt ∧ (1 : Int32).toInt = 2))) ∧ o34_x22.toInt ≤ o437_x22.toInt ∧ o437_x9.toInt = o34_x9.toInt ∧ o437_x19.toInt = o34_x19.toInt ∧ o437_x20.toInt = o34_x20.toInt from ⟨by omega, by omega, mo_openPV h3 (by omega) tk442.2.1 tk442.2.2.1 (by omega), fun q9 => ⟨(h4.opn (by decide) (by omega) (tk442.2.1 q9).1 (tk442.2.1 q9).2.1 (by omega) (Or.inr ⟨rfl, rfl⟩) (by decide)), mo_FR.rf _ _ _, by have q8 : (1 : Int32).toInt = 1 := rfl; omega⟩, by omega, by omega, by omega, by omega⟩))⟩, by rw [ht]; exact hP, va_K.moved hW.alike hK, hD⟩, hS.F ht⟩) hS.2.2 dX12_readPart_16

set_option maxHeartbeats 4000000 in
set_option maxRecDepth 100000 in
theorem t_X12_readClause (l : Launch) (dC : Nat → ClassId) (dI : Nat → Nat → Nat) (sz : Nat) (κ : Nat → ClassId) (τ ν : Nat → Nat) (ρ : Nat → Nat → Nat) (L : List Nat) (f : Nat → va_E) (hG : tp_G τ ν ρ L) (hT : tp_T (mo_O κ) κ τ ν ρ f) (h0 : Nat) (ht_h0 : τ h0 = 13) (h1 : ((tp_fld (f h0) 10) ≤ (tp_fld (f h0) 11) ∧ (tp_fld (f h0) 11) ≤ (tp_fld (f h0) 9) ∧ ((tp_fld (f h0) 12) = 0 ∨ (tp_fld (f h0) 10) < (tp_fld (f h0) 11)) ∧ ((tp_fld (f h0) 12) = 1 → (tp_fld (f h0) 11) = (tp_fld (f h0) 10) + 1 → (mo_fj (f h0) 13) ≤ 26))) (hb0 : (tp_fld (f h0) 15) = 0) (h2 : (tp_fld (f h0) 22) ≤ (tp_fld (f h0) 10)) (h3 : (tp_fld (f h0) 20) ≤ (tp_fld (f h0) 19)) (h5 : mo_NC (mo_R (mo_i (f (ρ h0 21)))) (mo_R (mo_i (f (ρ h0 23)))) (mo_R (mo_i (f (ρ h0 24)))) (tp_fld (f h0) 20) (tp_fld (f h0) 22)) : Met l yX12_readClause wqX12_readClause ({ frames := 9, cells := 0, slots := 0, locals := 3200 }) (va_Pc [.ref h0] (pz_B dC dI (tp_K κ) (va_pl L f) sz)) (va_Qv (fun (f1 : Nat → va_E) => tp_T (mo_O κ) κ τ ν ρ f1 ∧ tp_F τ [13, 51, 53, 54, 56, 57] f f1 ∧ ((tp_fld (f1 h0) 10) ≤ (tp_fld (f1 h0) 11) ∧ (tp_fld (f1 h0) 11) ≤ (tp_fld (f1 h0) 9) ∧ ((tp_fld (f1 h0) 12) = 0 ∨ (tp_fld (f1 h0) 10) < (tp_fld (f1 h0) 11)) ∧ ((tp_fld (f1 h0) 12) = 1 → (tp_fld (f1 h0) 11) = (tp_fld (f1 h0) 10) + 1 → (mo_fj (f1 h0) 13) ≤ 26)) ∧ ((tp_fld (f1 h0) 15) = 0 → (tp_fld (f1 h0) 22) ≤ (tp_fld (f1 h0) 10) ∧ (tp_fld (f1 h0) 20) ≤ (tp_fld (f1 h0) 19) ∧ mo_NC (mo_R (mo_i (f1 (ρ h0 21)))) (mo_R (mo_i (f1 (ρ h0 23)))) (mo_R (mo_i (f1 (ρ h0 24)))) (tp_fld (f1 h0) 20) (tp_fld (f1 h0) 22)) ∧ (tp_fld (f1 h0) 9) = (tp_fld (f h0) 9)) (fun (f1 : Nat → va_E) (t : State) => pz_E dC dI (tp_K κ) (va_A (va_pl L f) sz) (va_pl L f1) t) (va_A (va_pl L f) sz)) 0 0 (va_A (va_pl L f) sz) := by
  refine Met.ofW (cc := cX12_readClause) (maxL := 5) (ret := none) (by decide) rfl ?_
  intro p e s m args below meth c s₁ B hml hv
  obtain ⟨rfl, hsz, hP, hK, hD0, hN⟩ := hv
  have hx := B.exec
  have hb := B.bytes
  have hr := B.returns
  have hts := fun (w : Cond) (h : w ∈ WALL) => atoms_spec (ws := wqX12_readClause) B.pre w (List.mem_cons_of_mem _ h)
  have hown : s.vm.findClass RX12 = some m.cls := findClass_of_methodNamed B.named
  have hlocks := B.notSynchronized
  subst hsz
  have hD := hD0.self (sz := s.heap.size)
  generalize hAe : va_A (va_pl L f) s.heap.size = A at hD ⊢
  have hA : ∀ q : Nat, s.heap.size ≤ q → A q := fun q h => by rw [← hAe]; exact Or.inr h
  have hS : va_S A s.heap s.heap [] := va_S.rf
  have hR : tp_F τ [13, 51, 53, 54, 56, 57] f f := tp_F.rf
  have hl := lv_entry ([.ref h0]) (n := 5) (Nat.le_of_ble_eq_true rfl)
  rw [lg_entry_eq]
  generalize (lg_sl ([.ref h0]) ++ List.replicate (5 - (lg_sl ([.ref h0])).length) Slot.unset).toArray = ls at hl ⊢
  have hl : lv_has ls 5 [(0, .ref h0)] := hl
  obtain ⟨y1, y2, y3, y4, y5, y6, y7, y8, y9, y10, y11, y12, y13, y14, y15, y16, y17, y18, y19, y20, y21, y22, y23, y24, y25⟩ := tpg_13 hG ht_h0
  obtain ⟨g27, hf_o26⟩ := tpo_51 hT y7
  obtain ⟨g29, hf_o28⟩ := tpo_53 hT y8
  obtain ⟨g31, hf_o30⟩ := tpo_54 hT y9
  obtain ⟨o32_x0, o32_x1, o32_x7, o32_x9, o32_x10, o32_x11, o32_x12, o32_x13, o32_x14, o32_x15, o32_x16, o32_x17, o32_x18, o32_x19, o32_x20, o32_x22, o32_x25, o32_x28, o32_x29, o32_x32, o32_x33, o32_x34, o32_x35, o32_x36, o32_x37, o32_x38, o32_x47, o32_x48, hf_o32, ro32_0, ro32_1, ro32_2, ro32_3, ro32_4, ro32_5, ro32_6, ro32_7, ro32_8, ro32_9, ro32_10, ro32_11, ro32_12, ro32_13⟩ := tpo_13 hT ht_h0
  have h1 : (o32_x10.toInt ≤ o32_x11.toInt ∧ o32_x11.toInt ≤ o32_x9.toInt ∧ (o32_x12.toInt = 0 ∨ o32_x10.toInt < o32_x11.toInt) ∧ (o32_x12.toInt = 1 → o32_x11.toInt = o32_x10.toInt + 1 → o32_x13.toInt ≤ 26)) := by have q9 := h1; simp only [hf_o32, mo_i1, mo_l1] at q9; exact q9
  have hb0 : o32_x15.toInt = 0 := by have q9 := hb0; simp only [hf_o32, mo_i1, mo_l1] at q9; exact q9
  have h2 : o32_x22.toInt ≤ o32_x10.toInt := by have q9 := h2; simp only [hf_o32, mo_i1, mo_l1] at q9; exact q9
  have h3 : o32_x20.toInt ≤ o32_x19.toInt := by have q9 := h3; simp only [hf_o32, mo_i1, mo_l1] at q9; exact q9
  have h5 : mo_NC (mo_R g27) (mo_R g29) (mo_R g31) o32_x20.toInt o32_x22.toInt := by have q9 := h5; simp only [hf_o26, hf_o28, hf_o30, hf_o32, mo_i1, mo_l1] at q9; exact q9
  refine lv_aload_n hx hb dX12_readClause_0 rfl (lv_at hl 0 rfl) ?_
  refine lv_ldc2 (own := RX12) (v := 781652471) hx hb hown (hts (.constantLong RX12 383 (781652471)) wa_1022) dX12_readClause_1 ?_
  obtain ⟨q33, eq33⟩ := tp_pos (tp_in hG ht_h0 (by decide)) hf_o32
  refine pz_calli (va_runV (As := [.long 781652471]) (rest := []) ⟨hx, hb, hml, hown, hts⟩ (t_X12_isWord l dC dI _ κ τ ν ρ L f hG hT h0 (781652471) ht_h0) (cwV 1 hts gX12_readClause_X12_isWord rfl rfl rfl ⟨rfl, pd_X12_isWord⟩ ⟨Nat.le_of_ble_eq_true rfl, Nat.le_of_ble_eq_true rfl⟩) ⟨pz_blind, va_recv hK hP (ci := 12) (q0 := q33) rfl eq33, pz_pre hP hK hD hN⟩ rfl rfl hl.1 rfl (lv_room (Nat.le_of_ble_eq_true rfl)) dX12_readClause_4 ⟨Nat.le_of_ble_eq_true rfl, Nat.le_of_ble_eq_true rfl⟩) (fun r34 hw35 => ?_)
  obtain ⟨hw35r, hw35p⟩ := hw35
  have tk36 : (r34.toInt ≠ 0 → o32_x12.toInt = 1 ∧ o32_x13.toInt = (781652471)) := by have q9 := hw35p; simp only [hf_o32, mo_i1, mo_l1] at q9; exact q9
  refine lv_istore_n (lv' := [(1, .int r34), (0, .ref h0)]) hx hb dX12_readClause_7 rfl hl (by decide) rfl (fun ls hl => ?_)
  refine lv_aload_n hx hb dX12_readClause_8 rfl (lv_at hl 1 rfl) ?_
  refine lv_ldc2 (own := RX12) (v := 52) hx hb hown (hts (.constantLong RX12 385 (52)) wa_1023) dX12_readClause_9 ?_
  refine pz_calli (va_runV (As := [.long 52]) (rest := []) ⟨hx, hb, hml, hown, hts⟩ (t_X12_isWord l dC dI _ κ τ ν ρ L f hG hT h0 (52) ht_h0) (cwV 1 hts gX12_readClause_X12_isWord rfl rfl rfl ⟨rfl, pd_X12_isWord⟩ ⟨Nat.le_of_ble_eq_true rfl, Nat.le_of_ble_eq_true rfl⟩) ⟨pz_blind, va_recv hK hP (ci := 12) (q0 := q33) rfl eq33, pz_pre hP hK hD hN⟩ rfl rfl hl.1 rfl (lv_room (Nat.le_of_ble_eq_true rfl)) dX12_readClause_12 ⟨Nat.le_of_ble_eq_true rfl, Nat.le_of_ble_eq_true rfl⟩) (fun r37 hw38 => ?_)
  obtain ⟨hw38r, hw38p⟩ := hw38
  have tk39 : (r37.toInt ≠ 0 → o32_x12.toInt = 1 ∧ o32_x13.toInt = (52)) := by have q9 := hw38p; simp only [hf_o32, mo_i1, mo_l1] at q9; exact q9
  refine lv_istore_n (lv' := [(2, .int r37), (1, .int r34), (0, .ref h0)]) hx hb dX12_readClause_15 rfl hl (by decide) rfl (fun ls hl => ?_)
  refine lv_aload_n hx hb dX12_readClause_16 rfl (lv_at hl 2 rfl) ?_
  refine lv_ldc2 (own := RX12) (v := 16441) hx hb hown (hts (.constantLong RX12 387 (16441)) wa_1024) dX12_readClause_17 ?_
  refine pz_calli (va_runV (As := [.long 16441]) (rest := []) ⟨hx, hb, hml, hown, hts⟩ (t_X12_isWord l dC dI _ κ τ ν ρ L f hG hT h0 (16441) ht_h0) (cwV 1 hts gX12_readClause_X12_isWord rfl rfl rfl ⟨rfl, pd_X12_isWord⟩ ⟨Nat.le_of_ble_eq_true rfl, Nat.le_of_ble_eq_true rfl⟩) ⟨pz_blind, va_recv hK hP (ci := 12) (q0 := q33) rfl eq33, pz_pre hP hK hD hN⟩ rfl rfl hl.1 rfl (lv_room (Nat.le_of_ble_eq_true rfl)) dX12_readClause_20 ⟨Nat.le_of_ble_eq_true rfl, Nat.le_of_ble_eq_true rfl⟩) (fun r40 hw41 => ?_)
  obtain ⟨hw41r, hw41p⟩ := hw41
  have tk42 : (r40.toInt ≠ 0 → o32_x12.toInt = 1 ∧ o32_x13.toInt = (16441)) := by have q9 := hw41p; simp only [hf_o32, mo_i1, mo_l1] at q9; exact q9
  refine lv_istore_n (lv' := [(3, .int r40), (2, .int r37), (1, .int r34), (0, .ref h0)]) hx hb dX12_readClause_23 rfl hl (by decide) rfl (fun ls hl => ?_)
  refine lv_aload_n hx hb dX12_readClause_24 rfl (lv_at hl 3 rfl) ?_
  refine lv_iload_n hx hb dX12_readClause_25 rfl (lv_at hl 2 rfl) ?_
  refine lv_if_ne (tgt := 47) hx hb dX12_readClause_26 (by decide) (fun c43 => ?_) (fun c43 => ?_)
  · have ic43 : r34.toInt ≠ 0 := zi_ne rfl rfl c43
    refine lv_aload_n hx hb dX12_readClause_47 rfl (lv_at hl 3 rfl) ?_
    refine va_get (D := (dC, dI)) (ci := 12) (v := .int o32_x19) (C := RX12) (T := TX12) (N := 53) hx hb hts hfX12 hown hK hP q33 eq33 rfl 19 (by decide) (hts (.fieldLink RX12 391 "ColdShipsModel" "nClauses" "I") wa_987) (fun _ h9 => h9) rfl dX12_readClause_48 ?_
    refine lv_bipush (v := 12) hx hb dX12_readClause_51 (by decide) ?_
    refine lv_icmp_ge (tgt := 60) hx hb dX12_readClause_53 (by decide) (fun c44 => ?_) (fun c44 => ?_)
    · have ic44 : o32_x19.toInt ≥ 12 := zi_ge rfl rfl c44
      refine lv_iconst (v := 0) hx hb dX12_readClause_60 (by decide) ?_
      have hFc := tp_fr hD hS hA
      refine va_callv (va_runV (As := [.int 0]) (rest := []) ⟨hx, hb, hml, hown, hts⟩ (t_X12_must l dC dI _ κ τ ν ρ L f hG hT h0 (0) ht_h0 (by first | decide | omega) (by simp only [hf_o32, mo_i1, mo_l1]; exact (show (o32_x10.toInt ≤ o32_x11.toInt ∧ o32_x11.toInt ≤ o32_x9.toInt ∧ (o32_x12.toInt = 0 ∨ o32_x10.toInt < o32_x11.toInt) ∧ (o32_x12.toInt = 1 → o32_x11.toInt = o32_x10.toInt + 1 → o32_x13.toInt ≤ 26)) from by have : (0 : Int32).toInt = 0 := rfl; first | omega | decide))) (cwV 1 hts gX12_readClause_X12_must rfl rfl rfl ⟨rfl, pd_X12_must⟩ ⟨Nat.le_of_ble_eq_true rfl, Nat.le_of_ble_eq_true rfl⟩) ⟨pz_blind, va_recv hK hP (ci := 12) (q0 := q33) rfl eq33, pz_pre hP hK hD hN⟩ rfl rfl hl.1 rfl (lv_room (Nat.le_of_ble_eq_true rfl)) dX12_readClause_61 ⟨Nat.le_of_ble_eq_true rfl, Nat.le_of_ble_eq_true rfl⟩) hS (fun q _ h => hFc q h) hFc (fun f47 t H1 locs ht hvm hw46 hB hz1 hk1 hS => ?_)
      obtain ⟨hT, hF48, hw46p⟩ := hw46
      have hR := hR.then hF48 (by decide)
      have hP := hB.1; rw [ht] at hP; have hD := tp_ad f47 hD; clear hB hFc hz1 hk1; subst ht; generalize t.heap = H at hP hS ⊢
      obtain ⟨o49_x0, o49_x1, o49_x7, o49_x9, o49_x10, o49_x11, o49_x12, o49_x13, o49_x14, o49_x15, o49_x16, o49_x17, o49_x18, o49_x19, o49_x20, o49_x22, o49_x25, o49_x28, o49_x29, o49_x32, o49_x33, o49_x34, o49_x35, o49_x36, o49_x37, o49_x38, o49_x47, o49_x48, hf_o49, ro49_0, ro49_1, ro49_2, ro49_3, ro49_4, ro49_5, ro49_6, ro49_7, ro49_8, ro49_9, ro49_10, ro49_11, ro49_12, ro49_13⟩ := tpo_13 hT ht_h0
      have tk50 : (o49_x10.toInt ≤ o49_x11.toInt ∧ o49_x11.toInt ≤ o49_x9.toInt ∧ (o49_x12.toInt = 0 ∨ o49_x10.toInt < o49_x11.toInt) ∧ (o49_x12.toInt = 1 → o49_x11.toInt = o49_x10.toInt + 1 → o49_x13.toInt ≤ 26)) ∧ (o49_x15.toInt = 0 → o32_x15.toInt = 0 ∧ o32_x11.toInt ≤ o49_x10.toInt ∧ (0) ≠ 0) ∧ (o49_x15.toInt ≠ 0 → o49_x10.toInt = o32_x10.toInt) ∧ o49_x9.toInt = o32_x9.toInt ∧ o49_x19.toInt = o32_x19.toInt ∧ o49_x20.toInt = o32_x20.toInt ∧ o49_x22.toInt = o32_x22.toInt ∧ o49_x28.toInt = o32_x28.toInt := by have q9 := hw46p; simp only [hf_o49, hf_o32, mo_i1, mo_l1] at q9; exact q9
      refine lv_aload_n hx hb dX12_readClause_64 rfl (lv_at hl 3 rfl) ?_
      obtain ⟨q51, eq51⟩ := tp_pos (tp_in hG ht_h0 (by decide)) hf_o49
      refine va_get (D := (dC, dI)) (ci := 12) (v := .int o49_x15) (C := RX12) (T := TX12) (N := 53) hx hb hts hfX12 hown hK hP q51 eq51 rfl 15 (by decide) (hts (.fieldLink RX12 261 "ColdShipsModel" "bad" "Z") wa_994) (fun _ h9 => h9) rfl dX12_readClause_65 ?_
      refine lv_if_eq (tgt := 72) hx hb dX12_readClause_68 (by decide) (fun c52 => ?_) (fun c52 => ?_)
      · have ic52 : o49_x15.toInt = 0 := zi_eq rfl rfl c52
        exfalso; omega
      · have ic52 : o49_x15.toInt ≠ 0 := zi_eqf rfl rfl c52
        have hf_53 : f47 (ρ h0 21) = .inl (κ 0, 60, .inl g27) := (hF48 _ (by rw [y7]; decide)).trans hf_o26
        have hf_54 : f47 (ρ h0 23) = .inl (κ 0, 400, .inl g29) := (hF48 _ (by rw [y8]; decide)).trans hf_o28
        have hf_55 : f47 (ρ h0 24) = .inl (κ 0, 400, .inl g31) := (hF48 _ (by rw [y9]; decide)).trans hf_o30
        exact W.vret hx hb hr (fun t ht hW => ⟨⟨f47, rfl, ⟨hT, hR, (by simp only [hf_o49, hf_53, hf_54, hf_55, hf_o32, mo_i1, mo_l1]; exact (show (o49_x10.toInt ≤ o49_x11.toInt ∧ o49_x11.toInt ≤ o49_x9.toInt ∧ (o49_x12.toInt = 0 ∨ o49_x10.toInt < o49_x11.toInt) ∧ (o49_x12.toInt = 1 → o49_x11.toInt = o49_x10.toInt + 1 → o49_x13.toInt ≤ 26)) ∧ (o49_x15.toInt = 0 → o49_x22.toInt ≤ o49_x10.toInt ∧ o49_x20.toInt ≤ o49_x19.toInt ∧ mo_NC (mo_R g27) (mo_R g29) (mo_R g31) o49_x20.toInt o49_x22.toInt) ∧ o49_x9.toInt = o32_x9.toInt from ⟨by omega, fun q9 => by exfalso; omega, by omega⟩))⟩, by rw [ht]; exact hP, va_K.moved hW.alike hK, hD⟩, hS.F ht⟩) hS.2.2 dX12_readClause_71
    · have ic44 : o32_x19.toInt < 12 := zi_gef rfl rfl c44
      refine lv_iconst (v := 1) hx hb dX12_readClause_56 (by decide) ?_
      refine lv_goto (tgt := 61) hx hb dX12_readClause_57 (by decide) ?_
      have hFc := tp_fr hD hS hA
      refine va_callv (va_runV (As := [.int 1]) (rest := []) ⟨hx, hb, hml, hown, hts⟩ (t_X12_must l dC dI _ κ τ ν ρ L f hG hT h0 (1) ht_h0 (by first | decide | omega) (by simp only [hf_o32, mo_i1, mo_l1]; exact (show (o32_x10.toInt ≤ o32_x11.toInt ∧ o32_x11.toInt ≤ o32_x9.toInt ∧ (o32_x12.toInt = 0 ∨ o32_x10.toInt < o32_x11.toInt) ∧ (o32_x12.toInt = 1 → o32_x11.toInt = o32_x10.toInt + 1 → o32_x13.toInt ≤ 26)) from by have : (1 : Int32).toInt = 1 := rfl; first | omega | decide))) (cwV 1 hts gX12_readClause_X12_must rfl rfl rfl ⟨rfl, pd_X12_must⟩ ⟨Nat.le_of_ble_eq_true rfl, Nat.le_of_ble_eq_true rfl⟩) ⟨pz_blind, va_recv hK hP (ci := 12) (q0 := q33) rfl eq33, pz_pre hP hK hD hN⟩ rfl rfl hl.1 rfl (lv_room (Nat.le_of_ble_eq_true rfl)) dX12_readClause_61 ⟨Nat.le_of_ble_eq_true rfl, Nat.le_of_ble_eq_true rfl⟩) hS (fun q _ h => hFc q h) hFc (fun f58 t H1 locs ht hvm hw57 hB hz1 hk1 hS => ?_)
      obtain ⟨hT, hF59, hw57p⟩ := hw57
      have hR := hR.then hF59 (by decide)
      have hP := hB.1; rw [ht] at hP; have hD := tp_ad f58 hD; clear hB hFc hz1 hk1; subst ht; generalize t.heap = H at hP hS ⊢
      obtain ⟨o60_x0, o60_x1, o60_x7, o60_x9, o60_x10, o60_x11, o60_x12, o60_x13, o60_x14, o60_x15, o60_x16, o60_x17, o60_x18, o60_x19, o60_x20, o60_x22, o60_x25, o60_x28, o60_x29, o60_x32, o60_x33, o60_x34, o60_x35, o60_x36, o60_x37, o60_x38, o60_x47, o60_x48, hf_o60, ro60_0, ro60_1, ro60_2, ro60_3, ro60_4, ro60_5, ro60_6, ro60_7, ro60_8, ro60_9, ro60_10, ro60_11, ro60_12, ro60_13⟩ := tpo_13 hT ht_h0
      have tk61 : (o60_x10.toInt ≤ o60_x11.toInt ∧ o60_x11.toInt ≤ o60_x9.toInt ∧ (o60_x12.toInt = 0 ∨ o60_x10.toInt < o60_x11.toInt) ∧ (o60_x12.toInt = 1 → o60_x11.toInt = o60_x10.toInt + 1 → o60_x13.toInt ≤ 26)) ∧ (o60_x15.toInt = 0 → o32_x15.toInt = 0 ∧ o32_x11.toInt ≤ o60_x10.toInt ∧ (1) ≠ 0) ∧ (o60_x15.toInt ≠ 0 → o60_x10.toInt = o32_x10.toInt) ∧ o60_x9.toInt = o32_x9.toInt ∧ o60_x19.toInt = o32_x19.toInt ∧ o60_x20.toInt = o32_x20.toInt ∧ o60_x22.toInt = o32_x22.toInt ∧ o60_x28.toInt = o32_x28.toInt := by have q9 := hw57p; simp only [hf_o60, hf_o32, mo_i1, mo_l1] at q9; exact q9
      refine lv_aload_n hx hb dX12_readClause_64 rfl (lv_at hl 3 rfl) ?_
      obtain ⟨q62, eq62⟩ := tp_pos (tp_in hG ht_h0 (by decide)) hf_o60
      refine va_get (D := (dC, dI)) (ci := 12) (v := .int o60_x15) (C := RX12) (T := TX12) (N := 53) hx hb hts hfX12 hown hK hP q62 eq62 rfl 15 (by decide) (hts (.fieldLink RX12 261 "ColdShipsModel" "bad" "Z") wa_994) (fun _ h9 => h9) rfl dX12_readClause_65 ?_
      refine lv_if_eq (tgt := 72) hx hb dX12_readClause_68 (by decide) (fun c63 => ?_) (fun c63 => ?_)
      · have ic63 : o60_x15.toInt = 0 := zi_eq rfl rfl c63
        refine lv_aload_n hx hb dX12_readClause_72 rfl (lv_at hl 3 rfl) ?_
        refine lv_dup hx hb dX12_readClause_73 rfl ?_
        refine va_get (D := (dC, dI)) (ci := 12) (v := .int o60_x19) (C := RX12) (T := TX12) (N := 53) hx hb hts hfX12 hown hK hP q62 eq62 rfl 19 (by decide) (hts (.fieldLink RX12 391 "ColdShipsModel" "nClauses" "I") wa_987) (fun _ h9 => h9) rfl dX12_readClause_74 ?_
        refine lv_iconst (v := 1) hx hb dX12_readClause_77 (by decide) ?_
        refine lv_iadd hx hb dX12_readClause_78 ?_
        refine lv_topi (fun z64 ez64 => ?_)
        have iz64 : z64.toInt = o60_x19.toInt + 1 := zi_add ez64 rfl rfl (by omega) (by omega)
        refine va_put (D := (dC, dI)) (ci := 12) (v := .int z64) (ty := .int) (C := RX12) (T := TX12) (N := 53) hx hb hts hfX12 tyX12 tyX12_ok nmX12 hown hK hP hD hS q62 eq62 rfl 19 (by decide) (hts (.fieldLink RX12 391 "ColdShipsModel" "nClauses" "I") wa_987) (fun _ h9 => h9) rfl (tyX12_ok 19 (by decide)) rfl rfl (Nat.le_of_ble_eq_true rfl) dX12_readClause_79 (tp_k (.inr (12, [.int o60_x0, .int o60_x1, .ref (ρ h0 2), .ref (ρ h0 3), .ref (ρ h0 4), .ref (ρ h0 5), .ref (ρ h0 6), .int o60_x7, .ref (ρ h0 8), .int o60_x9, .int o60_x10, .int o60_x11, .int o60_x12, .long o60_x13, .int o60_x14, .int o60_x15, .int o60_x16, .int o60_x17, .int o60_x18, .int z64, .int o60_x20, .ref (ρ h0 21), .int o60_x22, .ref (ρ h0 23), .ref (ρ h0 24), .int o60_x25, .ref (ρ h0 26), .ref (ρ h0 27), .int o60_x28, .int o60_x29, .ref (ρ h0 30), .ref (ρ h0 31), .int o60_x32, .long o60_x33, .long o60_x34, .long o60_x35, .int o60_x36, .int o60_x37, .int o60_x38, .ref (ρ h0 39), .ref (ρ h0 40), .ref (ρ h0 41), .ref (ρ h0 42), .ref (ρ h0 43), .ref (ρ h0 44), .ref (ρ h0 45), .ref (ρ h0 46), .int o60_x47, .int o60_x48, .ref (ρ h0 49), .ref (ρ h0 50), .ref (ρ h0 51), .ref (ρ h0 52)])) hD (tp_in hG ht_h0 (by decide)) eq62 (fun f65 H locs hP hD hS g67 k66 => ?_))
        have hT := hT.up ht_h0 g67 k66 ⟨_, _, _, _, _, _, _, _, _, _, _, _, _, _, _, _, _, _, _, _, _, _, _, _, _, _, _, _, rfl, ro60_0, ro60_1, ro60_2, ro60_3, ro60_4, ro60_5, (by omega), ro60_7, ro60_8, ro60_9, ro60_10, ro60_11, ro60_12, ro60_13⟩
        have hR := hR.up ht_h0 (by decide) k66
        refine lv_iload_n hx hb dX12_readClause_82 rfl (lv_at hl 2 rfl) ?_
        refine lv_if_eq (tgt := 126) hx hb dX12_readClause_83 (by decide) (fun c68 => ?_) (fun c68 => ?_)
        · have ic68 : r34.toInt = 0 := zi_eq rfl rfl c68
          exfalso; omega
        · have ic68 : r34.toInt ≠ 0 := zi_eqf rfl rfl c68
          refine lv_aload_n hx hb dX12_readClause_86 rfl (lv_at hl 3 rfl) ?_
          refine lv_aload_n hx hb dX12_readClause_87 rfl (lv_at hl 3 rfl) ?_
          refine lv_lconst (v := 0) hx hb dX12_readClause_88 (by decide) ?_
          refine lv_ldc2 (own := RX12) (v := 2399) hx hb hown (hts (.constantLong RX12 97 (2399)) wa_354) dX12_readClause_89 ?_
          obtain ⟨q69, eq69⟩ := tp_pos (tp_in hG ht_h0 (by decide)) g67
          have hFc := tp_fr hD hS hA
          refine va_calli (va_runV (As := [.long 0, .long 2399]) (rest := [.ref h0]) ⟨hx, hb, hml, hown, hts⟩ (t_X12_number l dC dI _ κ τ ν ρ L f65 hG hT h0 (0) (2399) ht_h0 (by simp only [g67, mo_i1, mo_l1]; exact (show (o60_x10.toInt ≤ o60_x11.toInt ∧ o60_x11.toInt ≤ o60_x9.toInt ∧ (o60_x12.toInt = 0 ∨ o60_x10.toInt < o60_x11.toInt) ∧ (o60_x12.toInt = 1 → o60_x11.toInt = o60_x10.toInt + 1 → o60_x13.toInt ≤ 26)) from by first | omega | decide))) (cwV 2 hts gX12_readClause_X12_number rfl rfl rfl ⟨rfl, pd_X12_number⟩ ⟨Nat.le_of_ble_eq_true rfl, Nat.le_of_ble_eq_true rfl⟩) ⟨pz_blind, va_recv hK hP (ci := 12) (q0 := q69) rfl eq69, pz_pre hP hK hD hN⟩ rfl rfl hl.1 rfl (lv_room (Nat.le_of_ble_eq_true rfl)) dX12_readClause_92 ⟨Nat.le_of_ble_eq_true rfl, Nat.le_of_ble_eq_true rfl⟩) hS (fun q _ h => hFc q h) hFc (fun r70 f72 t H1 locs ht hvm hw71 hB hz1 hk1 hS => ?_)
          obtain ⟨hT, hF73, hw71r, hw71p⟩ := hw71
          have hR := hR.then hF73 (by decide)
          have hP := hB.1; rw [ht] at hP; have hD := tp_ad f72 hD; clear hB hFc hz1 hk1; subst ht; generalize t.heap = H at hP hS ⊢
          obtain ⟨o74_x0, o74_x1, o74_x7, o74_x9, o74_x10, o74_x11, o74_x12, o74_x13, o74_x14, o74_x15, o74_x16, o74_x17, o74_x18, o74_x19, o74_x20, o74_x22, o74_x25, o74_x28, o74_x29, o74_x32, o74_x33, o74_x34, o74_x35, o74_x36, o74_x37, o74_x38, o74_x47, o74_x48, hf_o74, ro74_0, ro74_1, ro74_2, ro74_3, ro74_4, ro74_5, ro74_6, ro74_7, ro74_8, ro74_9, ro74_10, ro74_11, ro74_12, ro74_13⟩ := tpo_13 hT ht_h0
          have tk75 : (o74_x10.toInt ≤ o74_x11.toInt ∧ o74_x11.toInt ≤ o74_x9.toInt ∧ (o74_x12.toInt = 0 ∨ o74_x10.toInt < o74_x11.toInt) ∧ (o74_x12.toInt = 1 → o74_x11.toInt = o74_x10.toInt + 1 → o74_x13.toInt ≤ 26)) ∧ (o74_x15.toInt = 0 → o60_x15.toInt = 0 ∧ o60_x11.toInt ≤ o74_x10.toInt) ∧ (o74_x15.toInt ≠ 0 → o74_x10.toInt = o60_x10.toInt) ∧ o74_x9.toInt = o60_x9.toInt ∧ o74_x19.toInt = z64.toInt ∧ o74_x20.toInt = o60_x20.toInt ∧ o74_x22.toInt = o60_x22.toInt ∧ o74_x28.toInt = o60_x28.toInt := by have q9 := hw71p; simp only [hf_o74, g67, mo_i1, mo_l1] at q9; exact q9
          obtain ⟨q76, eq76⟩ := tp_pos (tp_in hG ht_h0 (by decide)) hf_o74
          refine va_put (D := (dC, dI)) (ci := 12) (v := .int r70) (ty := .int) (C := RX12) (T := TX12) (N := 53) hx hb hts hfX12 tyX12 tyX12_ok nmX12 hown hK hP hD hS q76 eq76 rfl 16 (by decide) (hts (.fieldLink RX12 398 "ColdShipsModel" "nFrom" "I") wa_991) (fun _ h9 => h9) rfl (tyX12_ok 16 (by decide)) rfl rfl (Nat.le_of_ble_eq_true rfl) dX12_readClause_95 (tp_k (.inr (12, [.int o74_x0, .int o74_x1, .ref (ρ h0 2), .ref (ρ h0 3), .ref (ρ h0 4), .ref (ρ h0 5), .ref (ρ h0 6), .int o74_x7, .ref (ρ h0 8), .int o74_x9, .int o74_x10, .int o74_x11, .int o74_x12, .long o74_x13, .int o74_x14, .int o74_x15, .int r70, .int o74_x17, .int o74_x18, .int o74_x19, .int o74_x20, .ref (ρ h0 21), .int o74_x22, .ref (ρ h0 23), .ref (ρ h0 24), .int o74_x25, .ref (ρ h0 26), .ref (ρ h0 27), .int o74_x28, .int o74_x29, .ref (ρ h0 30), .ref (ρ h0 31), .int o74_x32, .long o74_x33, .long o74_x34, .long o74_x35, .int o74_x36, .int o74_x37, .int o74_x38, .ref (ρ h0 39), .ref (ρ h0 40), .ref (ρ h0 41), .ref (ρ h0 42), .ref (ρ h0 43), .ref (ρ h0 44), .ref (ρ h0 45), .ref (ρ h0 46), .int o74_x47, .int o74_x48, .ref (ρ h0 49), .ref (ρ h0 50), .ref (ρ h0 51), .ref (ρ h0 52)])) hD (tp_in hG ht_h0 (by decide)) eq76 (fun f77 H locs hP hD hS g79 k78 => ?_))
          have hT := hT.up ht_h0 g79 k78 ⟨_, _, _, _, _, _, _, _, _, _, _, _, _, _, _, _, _, _, _, _, _, _, _, _, _, _, _, _, rfl, ro74_0, ro74_1, ro74_2, ro74_3, ro74_4, ro74_5, ro74_6, ro74_7, ro74_8, ro74_9, ro74_10, ro74_11, ro74_12, ro74_13⟩
          have hR := hR.up ht_h0 (by decide) k78
          refine lv_aload_n hx hb dX12_readClause_98 rfl (lv_at hl 3 rfl) ?_
          refine lv_aload_n hx hb dX12_readClause_99 rfl (lv_at hl 3 rfl) ?_
          refine lv_ldc2 (own := RX12) (v := 655) hx hb hown (hts (.constantLong RX12 401 (655)) wa_1026) dX12_readClause_100 ?_
          obtain ⟨q80, eq80⟩ := tp_pos (tp_in hG ht_h0 (by decide)) g79
          refine pz_calli (va_runV (As := [.long 655]) (rest := [.ref h0]) ⟨hx, hb, hml, hown, hts⟩ (t_X12_isWord l dC dI _ κ τ ν ρ L f77 hG hT h0 (655) ht_h0) (cwV 1 hts gX12_readClause_X12_isWord rfl rfl rfl ⟨rfl, pd_X12_isWord⟩ ⟨Nat.le_of_ble_eq_true rfl, Nat.le_of_ble_eq_true rfl⟩) ⟨pz_blind, va_recv hK hP (ci := 12) (q0 := q80) rfl eq80, pz_pre hP hK hD hN⟩ rfl rfl hl.1 rfl (lv_room (Nat.le_of_ble_eq_true rfl)) dX12_readClause_103 ⟨Nat.le_of_ble_eq_true rfl, Nat.le_of_ble_eq_true rfl⟩) (fun r81 hw82 => ?_)
          obtain ⟨hw82r, hw82p⟩ := hw82
          have tk83 : (r81.toInt ≠ 0 → o74_x12.toInt = 1 ∧ o74_x13.toInt = (655)) := by have q9 := hw82p; simp only [g79, mo_i1, mo_l1] at q9; exact q9
          have hFc := tp_fr hD hS hA
          refine va_callv (va_runV (As := [.int r81]) (rest := []) ⟨hx, hb, hml, hown, hts⟩ (t_X12_must l dC dI _ κ τ ν ρ L f77 hG hT h0 r81 ht_h0 (by first | decide | omega) (by simp only [g79, mo_i1, mo_l1]; exact (show (o74_x10.toInt ≤ o74_x11.toInt ∧ o74_x11.toInt ≤ o74_x9.toInt ∧ (o74_x12.toInt = 0 ∨ o74_x10.toInt < o74_x11.toInt) ∧ (o74_x12.toInt = 1 → o74_x11.toInt = o74_x10.toInt + 1 → o74_x13.toInt ≤ 26)) from by first | omega | decide))) (cwV 1 hts gX12_readClause_X12_must rfl rfl rfl ⟨rfl, pd_X12_must⟩ ⟨Nat.le_of_ble_eq_true rfl, Nat.le_of_ble_eq_true rfl⟩) ⟨pz_blind, va_recv hK hP (ci := 12) (q0 := q80) rfl eq80, pz_pre hP hK hD hN⟩ rfl rfl hl.1 rfl (lv_room (Nat.le_of_ble_eq_true rfl)) dX12_readClause_106 ⟨Nat.le_of_ble_eq_true rfl, Nat.le_of_ble_eq_true rfl⟩) hS (fun q _ h => hFc q h) hFc (fun f86 t H1 locs ht hvm hw85 hB hz1 hk1 hS => ?_)
          obtain ⟨hT, hF87, hw85p⟩ := hw85
          have hR := hR.then hF87 (by decide)
          have hP := hB.1; rw [ht] at hP; have hD := tp_ad f86 hD; clear hB hFc hz1 hk1; subst ht; generalize t.heap = H at hP hS ⊢
          obtain ⟨o88_x0, o88_x1, o88_x7, o88_x9, o88_x10, o88_x11, o88_x12, o88_x13, o88_x14, o88_x15, o88_x16, o88_x17, o88_x18, o88_x19, o88_x20, o88_x22, o88_x25, o88_x28, o88_x29, o88_x32, o88_x33, o88_x34, o88_x35, o88_x36, o88_x37, o88_x38, o88_x47, o88_x48, hf_o88, ro88_0, ro88_1, ro88_2, ro88_3, ro88_4, ro88_5, ro88_6, ro88_7, ro88_8, ro88_9, ro88_10, ro88_11, ro88_12, ro88_13⟩ := tpo_13 hT ht_h0
          have tk89 : (o88_x10.toInt ≤ o88_x11.toInt ∧ o88_x11.toInt ≤ o88_x9.toInt ∧ (o88_x12.toInt = 0 ∨ o88_x10.toInt < o88_x11.toInt) ∧ (o88_x12.toInt = 1 → o88_x11.toInt = o88_x10.toInt + 1 → o88_x13.toInt ≤ 26)) ∧ (o88_x15.toInt = 0 → o74_x15.toInt = 0 ∧ o74_x11.toInt ≤ o88_x10.toInt ∧ r81.toInt ≠ 0) ∧ (o88_x15.toInt ≠ 0 → o88_x10.toInt = o74_x10.toInt) ∧ o88_x9.toInt = o74_x9.toInt ∧ o88_x19.toInt = o74_x19.toInt ∧ o88_x20.toInt = o74_x20.toInt ∧ o88_x22.toInt = o74_x22.toInt ∧ o88_x28.toInt = o74_x28.toInt := by have q9 := hw85p; simp only [hf_o88, g79, mo_i1, mo_l1] at q9; exact q9
          refine lv_aload_n hx hb dX12_readClause_109 rfl (lv_at hl 3 rfl) ?_
          refine lv_aload_n hx hb dX12_readClause_110 rfl (lv_at hl 3 rfl) ?_
          refine lv_aload_n hx hb dX12_readClause_111 rfl (lv_at hl 3 rfl) ?_
          obtain ⟨q90, eq90⟩ := tp_pos (tp_in hG ht_h0 (by decide)) hf_o88
          refine va_get (D := (dC, dI)) (ci := 12) (v := .int o88_x16) (C := RX12) (T := TX12) (N := 53) hx hb hts hfX12 hown hK hP q90 eq90 rfl 16 (by decide) (hts (.fieldLink RX12 398 "ColdShipsModel" "nFrom" "I") wa_991) (fun _ h9 => h9) rfl dX12_readClause_112 ?_
          refine lv_i2l hx hb dX12_readClause_115 rfl ?_
          refine lv_ldc2 (own := RX12) (v := 2399) hx hb hown (hts (.constantLong RX12 97 (2399)) wa_354) dX12_readClause_116 ?_
          have hFc := tp_fr hD hS hA
          refine va_calli (va_runV (As := [.long o88_x16.toInt64, .long 2399]) (rest := [.ref h0]) ⟨hx, hb, hml, hown, hts⟩ (t_X12_number l dC dI _ κ τ ν ρ L f86 hG hT h0 o88_x16.toInt64 (2399) ht_h0 (by simp only [hf_o88, mo_i1, mo_l1]; exact (show (o88_x10.toInt ≤ o88_x11.toInt ∧ o88_x11.toInt ≤ o88_x9.toInt ∧ (o88_x12.toInt = 0 ∨ o88_x10.toInt < o88_x11.toInt) ∧ (o88_x12.toInt = 1 → o88_x11.toInt = o88_x10.toInt + 1 → o88_x13.toInt ≤ 26)) from by first | omega | decide))) (cwV 2 hts gX12_readClause_X12_number rfl rfl rfl ⟨rfl, pd_X12_number⟩ ⟨Nat.le_of_ble_eq_true rfl, Nat.le_of_ble_eq_true rfl⟩) ⟨pz_blind, va_recv hK hP (ci := 12) (q0 := q90) rfl eq90, pz_pre hP hK hD hN⟩ rfl rfl hl.1 rfl (lv_room (Nat.le_of_ble_eq_true rfl)) dX12_readClause_119 ⟨Nat.le_of_ble_eq_true rfl, Nat.le_of_ble_eq_true rfl⟩) hS (fun q _ h => hFc q h) hFc (fun r91 f93 t H1 locs ht hvm hw92 hB hz1 hk1 hS => ?_)
          obtain ⟨hT, hF94, hw92r, hw92p⟩ := hw92
          have hR := hR.then hF94 (by decide)
          have hP := hB.1; rw [ht] at hP; have hD := tp_ad f93 hD; clear hB hFc hz1 hk1; subst ht; generalize t.heap = H at hP hS ⊢
          obtain ⟨o95_x0, o95_x1, o95_x7, o95_x9, o95_x10, o95_x11, o95_x12, o95_x13, o95_x14, o95_x15, o95_x16, o95_x17, o95_x18, o95_x19, o95_x20, o95_x22, o95_x25, o95_x28, o95_x29, o95_x32, o95_x33, o95_x34, o95_x35, o95_x36, o95_x37, o95_x38, o95_x47, o95_x48, hf_o95, ro95_0, ro95_1, ro95_2, ro95_3, ro95_4, ro95_5, ro95_6, ro95_7, ro95_8, ro95_9, ro95_10, ro95_11, ro95_12, ro95_13⟩ := tpo_13 hT ht_h0
          have tk96 : (o95_x10.toInt ≤ o95_x11.toInt ∧ o95_x11.toInt ≤ o95_x9.toInt ∧ (o95_x12.toInt = 0 ∨ o95_x10.toInt < o95_x11.toInt) ∧ (o95_x12.toInt = 1 → o95_x11.toInt = o95_x10.toInt + 1 → o95_x13.toInt ≤ 26)) ∧ (o95_x15.toInt = 0 → o88_x15.toInt = 0 ∧ o88_x11.toInt ≤ o95_x10.toInt) ∧ (o95_x15.toInt ≠ 0 → o95_x10.toInt = o88_x10.toInt) ∧ o95_x9.toInt = o88_x9.toInt ∧ o95_x19.toInt = o88_x19.toInt ∧ o95_x20.toInt = o88_x20.toInt ∧ o95_x22.toInt = o88_x22.toInt ∧ o95_x28.toInt = o88_x28.toInt := by have q9 := hw92p; simp only [hf_o95, hf_o88, mo_i1, mo_l1] at q9; exact q9
          obtain ⟨q97, eq97⟩ := tp_pos (tp_in hG ht_h0 (by decide)) hf_o95
          refine va_put (D := (dC, dI)) (ci := 12) (v := .int r91) (ty := .int) (C := RX12) (T := TX12) (N := 53) hx hb hts hfX12 tyX12 tyX12_ok nmX12 hown hK hP hD hS q97 eq97 rfl 17 (by decide) (hts (.fieldLink RX12 403 "ColdShipsModel" "nTo" "I") wa_992) (fun _ h9 => h9) rfl (tyX12_ok 17 (by decide)) rfl rfl (Nat.le_of_ble_eq_true rfl) dX12_readClause_122 (tp_k (.inr (12, [.int o95_x0, .int o95_x1, .ref (ρ h0 2), .ref (ρ h0 3), .ref (ρ h0 4), .ref (ρ h0 5), .ref (ρ h0 6), .int o95_x7, .ref (ρ h0 8), .int o95_x9, .int o95_x10, .int o95_x11, .int o95_x12, .long o95_x13, .int o95_x14, .int o95_x15, .int o95_x16, .int r91, .int o95_x18, .int o95_x19, .int o95_x20, .ref (ρ h0 21), .int o95_x22, .ref (ρ h0 23), .ref (ρ h0 24), .int o95_x25, .ref (ρ h0 26), .ref (ρ h0 27), .int o95_x28, .int o95_x29, .ref (ρ h0 30), .ref (ρ h0 31), .int o95_x32, .long o95_x33, .long o95_x34, .long o95_x35, .int o95_x36, .int o95_x37, .int o95_x38, .ref (ρ h0 39), .ref (ρ h0 40), .ref (ρ h0 41), .ref (ρ h0 42), .ref (ρ h0 43), .ref (ρ h0 44), .ref (ρ h0 45), .ref (ρ h0 46), .int o95_x47, .int o95_x48, .ref (ρ h0 49), .ref (ρ h0 50), .ref (ρ h0 51), .ref (ρ h0 52)])) hD (tp_in hG ht_h0 (by decide)) eq97 (fun f98 H locs hP hD hS g100 k99 => ?_))
          have hT := hT.up ht_h0 g100 k99 ⟨_, _, _, _, _, _, _, _, _, _, _, _, _, _, _, _, _, _, _, _, _, _, _, _, _, _, _, _, rfl, ro95_0, ro95_1, ro95_2, ro95_3, ro95_4, ro95_5, ro95_6, ro95_7, ro95_8, ro95_9, ro95_10, ro95_11, ro95_12, ro95_13⟩
          have hR := hR.up ht_h0 (by decide) k99
          have hf_101 : f58 (ρ h0 21) = .inl (κ 0, 60, .inl g27) := (hF59 _ (by rw [y7]; decide)).trans hf_o26
          have hf_102 : f65 (ρ h0 21) = .inl (κ 0, 60, .inl g27) := (k66 _ (tp_ne y7 ht_h0 (by decide))).trans hf_101
          have hf_103 : f72 (ρ h0 21) = .inl (κ 0, 60, .inl g27) := (hF73 _ (by rw [y7]; decide)).trans hf_102
          have hf_104 : f77 (ρ h0 21) = .inl (κ 0, 60, .inl g27) := (k78 _ (tp_ne y7 ht_h0 (by decide))).trans hf_103
          have hf_105 : f86 (ρ h0 21) = .inl (κ 0, 60, .inl g27) := (hF87 _ (by rw [y7]; decide)).trans hf_104
          have hf_106 : f93 (ρ h0 21) = .inl (κ 0, 60, .inl g27) := (hF94 _ (by rw [y7]; decide)).trans hf_105
          have hf_107 : f98 (ρ h0 21) = .inl (κ 0, 60, .inl g27) := (k99 _ (tp_ne y7 ht_h0 (by decide))).trans hf_106
          have hf_108 : f58 (ρ h0 23) = .inl (κ 0, 400, .inl g29) := (hF59 _ (by rw [y8]; decide)).trans hf_o28
          have hf_109 : f65 (ρ h0 23) = .inl (κ 0, 400, .inl g29) := (k66 _ (tp_ne y8 ht_h0 (by decide))).trans hf_108
          have hf_110 : f72 (ρ h0 23) = .inl (κ 0, 400, .inl g29) := (hF73 _ (by rw [y8]; decide)).trans hf_109
          have hf_111 : f77 (ρ h0 23) = .inl (κ 0, 400, .inl g29) := (k78 _ (tp_ne y8 ht_h0 (by decide))).trans hf_110
          have hf_112 : f86 (ρ h0 23) = .inl (κ 0, 400, .inl g29) := (hF87 _ (by rw [y8]; decide)).trans hf_111
          have hf_113 : f93 (ρ h0 23) = .inl (κ 0, 400, .inl g29) := (hF94 _ (by rw [y8]; decide)).trans hf_112
          have hf_114 : f98 (ρ h0 23) = .inl (κ 0, 400, .inl g29) := (k99 _ (tp_ne y8 ht_h0 (by decide))).trans hf_113
          have hf_115 : f58 (ρ h0 24) = .inl (κ 0, 400, .inl g31) := (hF59 _ (by rw [y9]; decide)).trans hf_o30
          have hf_116 : f65 (ρ h0 24) = .inl (κ 0, 400, .inl g31) := (k66 _ (tp_ne y9 ht_h0 (by decide))).trans hf_115
          have hf_117 : f72 (ρ h0 24) = .inl (κ 0, 400, .inl g31) := (hF73 _ (by rw [y9]; decide)).trans hf_116
          have hf_118 : f77 (ρ h0 24) = .inl (κ 0, 400, .inl g31) := (k78 _ (tp_ne y9 ht_h0 (by decide))).trans hf_117
          have hf_119 : f86 (ρ h0 24) = .inl (κ 0, 400, .inl g31) := (hF87 _ (by rw [y9]; decide)).trans hf_118
          have hf_120 : f93 (ρ h0 24) = .inl (κ 0, 400, .inl g31) := (hF94 _ (by rw [y9]; decide)).trans hf_119
          have hf_121 : f98 (ρ h0 24) = .inl (κ 0, 400, .inl g31) := (k99 _ (tp_ne y9 ht_h0 (by decide))).trans hf_120
          exact W.vret hx hb hr (fun t ht hW => ⟨⟨f98, rfl, ⟨hT, hR, (by simp only [g100, hf_107, hf_114, hf_121, hf_o32, mo_i1, mo_l1]; exact (show (o95_x10.toInt ≤ o95_x11.toInt ∧ o95_x11.toInt ≤ o95_x9.toInt ∧ (o95_x12.toInt = 0 ∨ o95_x10.toInt < o95_x11.toInt) ∧ (o95_x12.toInt = 1 → o95_x11.toInt = o95_x10.toInt + 1 → o95_x13.toInt ≤ 26)) ∧ (o95_x15.toInt = 0 → o95_x22.toInt ≤ o95_x10.toInt ∧ o95_x20.toInt ≤ o95_x19.toInt ∧ mo_NC (mo_R g27) (mo_R g29) (mo_R g31) o95_x20.toInt o95_x22.toInt) ∧ o95_x9.toInt = o32_x9.toInt from ⟨by omega, fun q9 => ⟨by omega, by omega, (by rw [show o95_x20.toInt = o32_x20.toInt by omega, show o95_x22.toInt = o32_x22.toInt by omega]; exact h5)⟩, by omega⟩))⟩, by rw [ht]; exact hP, va_K.moved hW.alike hK, hD⟩, hS.F ht⟩) hS.2.2 dX12_readClause_125
      · have ic63 : o60_x15.toInt ≠ 0 := zi_eqf rfl rfl c63
        have hf_122 : f58 (ρ h0 21) = .inl (κ 0, 60, .inl g27) := (hF59 _ (by rw [y7]; decide)).trans hf_o26
        have hf_123 : f58 (ρ h0 23) = .inl (κ 0, 400, .inl g29) := (hF59 _ (by rw [y8]; decide)).trans hf_o28
        have hf_124 : f58 (ρ h0 24) = .inl (κ 0, 400, .inl g31) := (hF59 _ (by rw [y9]; decide)).trans hf_o30
        exact W.vret hx hb hr (fun t ht hW => ⟨⟨f58, rfl, ⟨hT, hR, (by simp only [hf_o60, hf_122, hf_123, hf_124, hf_o32, mo_i1, mo_l1]; exact (show (o60_x10.toInt ≤ o60_x11.toInt ∧ o60_x11.toInt ≤ o60_x9.toInt ∧ (o60_x12.toInt = 0 ∨ o60_x10.toInt < o60_x11.toInt) ∧ (o60_x12.toInt = 1 → o60_x11.toInt = o60_x10.toInt + 1 → o60_x13.toInt ≤ 26)) ∧ (o60_x15.toInt = 0 → o60_x22.toInt ≤ o60_x10.toInt ∧ o60_x20.toInt ≤ o60_x19.toInt ∧ mo_NC (mo_R g27) (mo_R g29) (mo_R g31) o60_x20.toInt o60_x22.toInt) ∧ o60_x9.toInt = o32_x9.toInt from ⟨by omega, fun q9 => by exfalso; omega, by omega⟩))⟩, by rw [ht]; exact hP, va_K.moved hW.alike hK, hD⟩, hS.F ht⟩) hS.2.2 dX12_readClause_71
  · have ic43 : r34.toInt = 0 := zi_nef rfl rfl c43
    refine lv_iload_n hx hb dX12_readClause_29 rfl (lv_at hl 1 rfl) ?_
    refine lv_if_ne (tgt := 47) hx hb dX12_readClause_30 (by decide) (fun c125 => ?_) (fun c125 => ?_)
    · have ic125 : r37.toInt ≠ 0 := zi_ne rfl rfl c125
      refine lv_aload_n hx hb dX12_readClause_47 rfl (lv_at hl 3 rfl) ?_
      refine va_get (D := (dC, dI)) (ci := 12) (v := .int o32_x19) (C := RX12) (T := TX12) (N := 53) hx hb hts hfX12 hown hK hP q33 eq33 rfl 19 (by decide) (hts (.fieldLink RX12 391 "ColdShipsModel" "nClauses" "I") wa_987) (fun _ h9 => h9) rfl dX12_readClause_48 ?_
      refine lv_bipush (v := 12) hx hb dX12_readClause_51 (by decide) ?_
      refine lv_icmp_ge (tgt := 60) hx hb dX12_readClause_53 (by decide) (fun c126 => ?_) (fun c126 => ?_)
      · have ic126 : o32_x19.toInt ≥ 12 := zi_ge rfl rfl c126
        refine lv_iconst (v := 0) hx hb dX12_readClause_60 (by decide) ?_
        have hFc := tp_fr hD hS hA
        refine va_callv (va_runV (As := [.int 0]) (rest := []) ⟨hx, hb, hml, hown, hts⟩ (t_X12_must l dC dI _ κ τ ν ρ L f hG hT h0 (0) ht_h0 (by first | decide | omega) (by simp only [hf_o32, mo_i1, mo_l1]; exact (show (o32_x10.toInt ≤ o32_x11.toInt ∧ o32_x11.toInt ≤ o32_x9.toInt ∧ (o32_x12.toInt = 0 ∨ o32_x10.toInt < o32_x11.toInt) ∧ (o32_x12.toInt = 1 → o32_x11.toInt = o32_x10.toInt + 1 → o32_x13.toInt ≤ 26)) from by have : (0 : Int32).toInt = 0 := rfl; first | omega | decide))) (cwV 1 hts gX12_readClause_X12_must rfl rfl rfl ⟨rfl, pd_X12_must⟩ ⟨Nat.le_of_ble_eq_true rfl, Nat.le_of_ble_eq_true rfl⟩) ⟨pz_blind, va_recv hK hP (ci := 12) (q0 := q33) rfl eq33, pz_pre hP hK hD hN⟩ rfl rfl hl.1 rfl (lv_room (Nat.le_of_ble_eq_true rfl)) dX12_readClause_61 ⟨Nat.le_of_ble_eq_true rfl, Nat.le_of_ble_eq_true rfl⟩) hS (fun q _ h => hFc q h) hFc (fun f129 t H1 locs ht hvm hw128 hB hz1 hk1 hS => ?_)
        obtain ⟨hT, hF130, hw128p⟩ := hw128
        have hR := hR.then hF130 (by decide)
        have hP := hB.1; rw [ht] at hP; have hD := tp_ad f129 hD; clear hB hFc hz1 hk1; subst ht; generalize t.heap = H at hP hS ⊢
        obtain ⟨o131_x0, o131_x1, o131_x7, o131_x9, o131_x10, o131_x11, o131_x12, o131_x13, o131_x14, o131_x15, o131_x16, o131_x17, o131_x18, o131_x19, o131_x20, o131_x22, o131_x25, o131_x28, o131_x29, o131_x32, o131_x33, o131_x34, o131_x35, o131_x36, o131_x37, o131_x38, o131_x47, o131_x48, hf_o131, ro131_0, ro131_1, ro131_2, ro131_3, ro131_4, ro131_5, ro131_6, ro131_7, ro131_8, ro131_9, ro131_10, ro131_11, ro131_12, ro131_13⟩ := tpo_13 hT ht_h0
        have tk132 : (o131_x10.toInt ≤ o131_x11.toInt ∧ o131_x11.toInt ≤ o131_x9.toInt ∧ (o131_x12.toInt = 0 ∨ o131_x10.toInt < o131_x11.toInt) ∧ (o131_x12.toInt = 1 → o131_x11.toInt = o131_x10.toInt + 1 → o131_x13.toInt ≤ 26)) ∧ (o131_x15.toInt = 0 → o32_x15.toInt = 0 ∧ o32_x11.toInt ≤ o131_x10.toInt ∧ (0) ≠ 0) ∧ (o131_x15.toInt ≠ 0 → o131_x10.toInt = o32_x10.toInt) ∧ o131_x9.toInt = o32_x9.toInt ∧ o131_x19.toInt = o32_x19.toInt ∧ o131_x20.toInt = o32_x20.toInt ∧ o131_x22.toInt = o32_x22.toInt ∧ o131_x28.toInt = o32_x28.toInt := by have q9 := hw128p; simp only [hf_o131, hf_o32, mo_i1, mo_l1] at q9; exact q9
        refine lv_aload_n hx hb dX12_readClause_64 rfl (lv_at hl 3 rfl) ?_
        obtain ⟨q133, eq133⟩ := tp_pos (tp_in hG ht_h0 (by decide)) hf_o131
        refine va_get (D := (dC, dI)) (ci := 12) (v := .int o131_x15) (C := RX12) (T := TX12) (N := 53) hx hb hts hfX12 hown hK hP q133 eq133 rfl 15 (by decide) (hts (.fieldLink RX12 261 "ColdShipsModel" "bad" "Z") wa_994) (fun _ h9 => h9) rfl dX12_readClause_65 ?_
        refine lv_if_eq (tgt := 72) hx hb dX12_readClause_68 (by decide) (fun c134 => ?_) (fun c134 => ?_)
        · have ic134 : o131_x15.toInt = 0 := zi_eq rfl rfl c134
          exfalso; omega
        · have ic134 : o131_x15.toInt ≠ 0 := zi_eqf rfl rfl c134
          have hf_135 : f129 (ρ h0 21) = .inl (κ 0, 60, .inl g27) := (hF130 _ (by rw [y7]; decide)).trans hf_o26
          have hf_136 : f129 (ρ h0 23) = .inl (κ 0, 400, .inl g29) := (hF130 _ (by rw [y8]; decide)).trans hf_o28
          have hf_137 : f129 (ρ h0 24) = .inl (κ 0, 400, .inl g31) := (hF130 _ (by rw [y9]; decide)).trans hf_o30
          exact W.vret hx hb hr (fun t ht hW => ⟨⟨f129, rfl, ⟨hT, hR, (by simp only [hf_o131, hf_135, hf_136, hf_137, hf_o32, mo_i1, mo_l1]; exact (show (o131_x10.toInt ≤ o131_x11.toInt ∧ o131_x11.toInt ≤ o131_x9.toInt ∧ (o131_x12.toInt = 0 ∨ o131_x10.toInt < o131_x11.toInt) ∧ (o131_x12.toInt = 1 → o131_x11.toInt = o131_x10.toInt + 1 → o131_x13.toInt ≤ 26)) ∧ (o131_x15.toInt = 0 → o131_x22.toInt ≤ o131_x10.toInt ∧ o131_x20.toInt ≤ o131_x19.toInt ∧ mo_NC (mo_R g27) (mo_R g29) (mo_R g31) o131_x20.toInt o131_x22.toInt) ∧ o131_x9.toInt = o32_x9.toInt from ⟨by omega, fun q9 => by exfalso; omega, by omega⟩))⟩, by rw [ht]; exact hP, va_K.moved hW.alike hK, hD⟩, hS.F ht⟩) hS.2.2 dX12_readClause_71
      · have ic126 : o32_x19.toInt < 12 := zi_gef rfl rfl c126
        refine lv_iconst (v := 1) hx hb dX12_readClause_56 (by decide) ?_
        refine lv_goto (tgt := 61) hx hb dX12_readClause_57 (by decide) ?_
        have hFc := tp_fr hD hS hA
        refine va_callv (va_runV (As := [.int 1]) (rest := []) ⟨hx, hb, hml, hown, hts⟩ (t_X12_must l dC dI _ κ τ ν ρ L f hG hT h0 (1) ht_h0 (by first | decide | omega) (by simp only [hf_o32, mo_i1, mo_l1]; exact (show (o32_x10.toInt ≤ o32_x11.toInt ∧ o32_x11.toInt ≤ o32_x9.toInt ∧ (o32_x12.toInt = 0 ∨ o32_x10.toInt < o32_x11.toInt) ∧ (o32_x12.toInt = 1 → o32_x11.toInt = o32_x10.toInt + 1 → o32_x13.toInt ≤ 26)) from by have : (1 : Int32).toInt = 1 := rfl; first | omega | decide))) (cwV 1 hts gX12_readClause_X12_must rfl rfl rfl ⟨rfl, pd_X12_must⟩ ⟨Nat.le_of_ble_eq_true rfl, Nat.le_of_ble_eq_true rfl⟩) ⟨pz_blind, va_recv hK hP (ci := 12) (q0 := q33) rfl eq33, pz_pre hP hK hD hN⟩ rfl rfl hl.1 rfl (lv_room (Nat.le_of_ble_eq_true rfl)) dX12_readClause_61 ⟨Nat.le_of_ble_eq_true rfl, Nat.le_of_ble_eq_true rfl⟩) hS (fun q _ h => hFc q h) hFc (fun f140 t H1 locs ht hvm hw139 hB hz1 hk1 hS => ?_)
        obtain ⟨hT, hF141, hw139p⟩ := hw139
        have hR := hR.then hF141 (by decide)
        have hP := hB.1; rw [ht] at hP; have hD := tp_ad f140 hD; clear hB hFc hz1 hk1; subst ht; generalize t.heap = H at hP hS ⊢
        obtain ⟨o142_x0, o142_x1, o142_x7, o142_x9, o142_x10, o142_x11, o142_x12, o142_x13, o142_x14, o142_x15, o142_x16, o142_x17, o142_x18, o142_x19, o142_x20, o142_x22, o142_x25, o142_x28, o142_x29, o142_x32, o142_x33, o142_x34, o142_x35, o142_x36, o142_x37, o142_x38, o142_x47, o142_x48, hf_o142, ro142_0, ro142_1, ro142_2, ro142_3, ro142_4, ro142_5, ro142_6, ro142_7, ro142_8, ro142_9, ro142_10, ro142_11, ro142_12, ro142_13⟩ := tpo_13 hT ht_h0
        have tk143 : (o142_x10.toInt ≤ o142_x11.toInt ∧ o142_x11.toInt ≤ o142_x9.toInt ∧ (o142_x12.toInt = 0 ∨ o142_x10.toInt < o142_x11.toInt) ∧ (o142_x12.toInt = 1 → o142_x11.toInt = o142_x10.toInt + 1 → o142_x13.toInt ≤ 26)) ∧ (o142_x15.toInt = 0 → o32_x15.toInt = 0 ∧ o32_x11.toInt ≤ o142_x10.toInt ∧ (1) ≠ 0) ∧ (o142_x15.toInt ≠ 0 → o142_x10.toInt = o32_x10.toInt) ∧ o142_x9.toInt = o32_x9.toInt ∧ o142_x19.toInt = o32_x19.toInt ∧ o142_x20.toInt = o32_x20.toInt ∧ o142_x22.toInt = o32_x22.toInt ∧ o142_x28.toInt = o32_x28.toInt := by have q9 := hw139p; simp only [hf_o142, hf_o32, mo_i1, mo_l1] at q9; exact q9
        refine lv_aload_n hx hb dX12_readClause_64 rfl (lv_at hl 3 rfl) ?_
        obtain ⟨q144, eq144⟩ := tp_pos (tp_in hG ht_h0 (by decide)) hf_o142
        refine va_get (D := (dC, dI)) (ci := 12) (v := .int o142_x15) (C := RX12) (T := TX12) (N := 53) hx hb hts hfX12 hown hK hP q144 eq144 rfl 15 (by decide) (hts (.fieldLink RX12 261 "ColdShipsModel" "bad" "Z") wa_994) (fun _ h9 => h9) rfl dX12_readClause_65 ?_
        refine lv_if_eq (tgt := 72) hx hb dX12_readClause_68 (by decide) (fun c145 => ?_) (fun c145 => ?_)
        · have ic145 : o142_x15.toInt = 0 := zi_eq rfl rfl c145
          refine lv_aload_n hx hb dX12_readClause_72 rfl (lv_at hl 3 rfl) ?_
          refine lv_dup hx hb dX12_readClause_73 rfl ?_
          refine va_get (D := (dC, dI)) (ci := 12) (v := .int o142_x19) (C := RX12) (T := TX12) (N := 53) hx hb hts hfX12 hown hK hP q144 eq144 rfl 19 (by decide) (hts (.fieldLink RX12 391 "ColdShipsModel" "nClauses" "I") wa_987) (fun _ h9 => h9) rfl dX12_readClause_74 ?_
          refine lv_iconst (v := 1) hx hb dX12_readClause_77 (by decide) ?_
          refine lv_iadd hx hb dX12_readClause_78 ?_
          refine lv_topi (fun z146 ez146 => ?_)
          have iz146 : z146.toInt = o142_x19.toInt + 1 := zi_add ez146 rfl rfl (by omega) (by omega)
          refine va_put (D := (dC, dI)) (ci := 12) (v := .int z146) (ty := .int) (C := RX12) (T := TX12) (N := 53) hx hb hts hfX12 tyX12 tyX12_ok nmX12 hown hK hP hD hS q144 eq144 rfl 19 (by decide) (hts (.fieldLink RX12 391 "ColdShipsModel" "nClauses" "I") wa_987) (fun _ h9 => h9) rfl (tyX12_ok 19 (by decide)) rfl rfl (Nat.le_of_ble_eq_true rfl) dX12_readClause_79 (tp_k (.inr (12, [.int o142_x0, .int o142_x1, .ref (ρ h0 2), .ref (ρ h0 3), .ref (ρ h0 4), .ref (ρ h0 5), .ref (ρ h0 6), .int o142_x7, .ref (ρ h0 8), .int o142_x9, .int o142_x10, .int o142_x11, .int o142_x12, .long o142_x13, .int o142_x14, .int o142_x15, .int o142_x16, .int o142_x17, .int o142_x18, .int z146, .int o142_x20, .ref (ρ h0 21), .int o142_x22, .ref (ρ h0 23), .ref (ρ h0 24), .int o142_x25, .ref (ρ h0 26), .ref (ρ h0 27), .int o142_x28, .int o142_x29, .ref (ρ h0 30), .ref (ρ h0 31), .int o142_x32, .long o142_x33, .long o142_x34, .long o142_x35, .int o142_x36, .int o142_x37, .int o142_x38, .ref (ρ h0 39), .ref (ρ h0 40), .ref (ρ h0 41), .ref (ρ h0 42), .ref (ρ h0 43), .ref (ρ h0 44), .ref (ρ h0 45), .ref (ρ h0 46), .int o142_x47, .int o142_x48, .ref (ρ h0 49), .ref (ρ h0 50), .ref (ρ h0 51), .ref (ρ h0 52)])) hD (tp_in hG ht_h0 (by decide)) eq144 (fun f147 H locs hP hD hS g149 k148 => ?_))
          have hT := hT.up ht_h0 g149 k148 ⟨_, _, _, _, _, _, _, _, _, _, _, _, _, _, _, _, _, _, _, _, _, _, _, _, _, _, _, _, rfl, ro142_0, ro142_1, ro142_2, ro142_3, ro142_4, ro142_5, (by omega), ro142_7, ro142_8, ro142_9, ro142_10, ro142_11, ro142_12, ro142_13⟩
          have hR := hR.up ht_h0 (by decide) k148
          refine lv_iload_n hx hb dX12_readClause_82 rfl (lv_at hl 2 rfl) ?_
          refine lv_if_eq (tgt := 126) hx hb dX12_readClause_83 (by decide) (fun c150 => ?_) (fun c150 => ?_)
          · have ic150 : r34.toInt = 0 := zi_eq rfl rfl c150
            refine lv_iload_n hx hb dX12_readClause_126 rfl (lv_at hl 1 rfl) ?_
            refine lv_if_eq (tgt := 143) hx hb dX12_readClause_127 (by decide) (fun c151 => ?_) (fun c151 => ?_)
            · have ic151 : r37.toInt = 0 := zi_eq rfl rfl c151
              exfalso; omega
            · have ic151 : r37.toInt ≠ 0 := zi_eqf rfl rfl c151
              refine lv_aload_n hx hb dX12_readClause_130 rfl (lv_at hl 3 rfl) ?_
              refine lv_aload_n hx hb dX12_readClause_131 rfl (lv_at hl 3 rfl) ?_
              refine lv_lconst (v := 0) hx hb dX12_readClause_132 (by decide) ?_
              refine lv_ldc2 (own := RX12) (v := 5) hx hb hown (hts (.constantLong RX12 406 (5)) wa_1027) dX12_readClause_133 ?_
              obtain ⟨q152, eq152⟩ := tp_pos (tp_in hG ht_h0 (by decide)) g149
              have hFc := tp_fr hD hS hA
              refine va_calli (va_runV (As := [.long 0, .long 5]) (rest := [.ref h0]) ⟨hx, hb, hml, hown, hts⟩ (t_X12_number l dC dI _ κ τ ν ρ L f147 hG hT h0 (0) (5) ht_h0 (by simp only [g149, mo_i1, mo_l1]; exact (show (o142_x10.toInt ≤ o142_x11.toInt ∧ o142_x11.toInt ≤ o142_x9.toInt ∧ (o142_x12.toInt = 0 ∨ o142_x10.toInt < o142_x11.toInt) ∧ (o142_x12.toInt = 1 → o142_x11.toInt = o142_x10.toInt + 1 → o142_x13.toInt ≤ 26)) from by first | omega | decide))) (cwV 2 hts gX12_readClause_X12_number rfl rfl rfl ⟨rfl, pd_X12_number⟩ ⟨Nat.le_of_ble_eq_true rfl, Nat.le_of_ble_eq_true rfl⟩) ⟨pz_blind, va_recv hK hP (ci := 12) (q0 := q152) rfl eq152, pz_pre hP hK hD hN⟩ rfl rfl hl.1 rfl (lv_room (Nat.le_of_ble_eq_true rfl)) dX12_readClause_136 ⟨Nat.le_of_ble_eq_true rfl, Nat.le_of_ble_eq_true rfl⟩) hS (fun q _ h => hFc q h) hFc (fun r153 f155 t H1 locs ht hvm hw154 hB hz1 hk1 hS => ?_)
              obtain ⟨hT, hF156, hw154r, hw154p⟩ := hw154
              have hR := hR.then hF156 (by decide)
              have hP := hB.1; rw [ht] at hP; have hD := tp_ad f155 hD; clear hB hFc hz1 hk1; subst ht; generalize t.heap = H at hP hS ⊢
              obtain ⟨o157_x0, o157_x1, o157_x7, o157_x9, o157_x10, o157_x11, o157_x12, o157_x13, o157_x14, o157_x15, o157_x16, o157_x17, o157_x18, o157_x19, o157_x20, o157_x22, o157_x25, o157_x28, o157_x29, o157_x32, o157_x33, o157_x34, o157_x35, o157_x36, o157_x37, o157_x38, o157_x47, o157_x48, hf_o157, ro157_0, ro157_1, ro157_2, ro157_3, ro157_4, ro157_5, ro157_6, ro157_7, ro157_8, ro157_9, ro157_10, ro157_11, ro157_12, ro157_13⟩ := tpo_13 hT ht_h0
              have tk158 : (o157_x10.toInt ≤ o157_x11.toInt ∧ o157_x11.toInt ≤ o157_x9.toInt ∧ (o157_x12.toInt = 0 ∨ o157_x10.toInt < o157_x11.toInt) ∧ (o157_x12.toInt = 1 → o157_x11.toInt = o157_x10.toInt + 1 → o157_x13.toInt ≤ 26)) ∧ (o157_x15.toInt = 0 → o142_x15.toInt = 0 ∧ o142_x11.toInt ≤ o157_x10.toInt) ∧ (o157_x15.toInt ≠ 0 → o157_x10.toInt = o142_x10.toInt) ∧ o157_x9.toInt = o142_x9.toInt ∧ o157_x19.toInt = z146.toInt ∧ o157_x20.toInt = o142_x20.toInt ∧ o157_x22.toInt = o142_x22.toInt ∧ o157_x28.toInt = o142_x28.toInt := by have q9 := hw154p; simp only [hf_o157, g149, mo_i1, mo_l1] at q9; exact q9
              obtain ⟨q159, eq159⟩ := tp_pos (tp_in hG ht_h0 (by decide)) hf_o157
              refine va_put (D := (dC, dI)) (ci := 12) (v := .int r153) (ty := .int) (C := RX12) (T := TX12) (N := 53) hx hb hts hfX12 tyX12 tyX12_ok nmX12 hown hK hP hD hS q159 eq159 rfl 18 (by decide) (hts (.fieldLink RX12 408 "ColdShipsModel" "nAt" "I") wa_993) (fun _ h9 => h9) rfl (tyX12_ok 18 (by decide)) rfl rfl (Nat.le_of_ble_eq_true rfl) dX12_readClause_139 (tp_k (.inr (12, [.int o157_x0, .int o157_x1, .ref (ρ h0 2), .ref (ρ h0 3), .ref (ρ h0 4), .ref (ρ h0 5), .ref (ρ h0 6), .int o157_x7, .ref (ρ h0 8), .int o157_x9, .int o157_x10, .int o157_x11, .int o157_x12, .long o157_x13, .int o157_x14, .int o157_x15, .int o157_x16, .int o157_x17, .int r153, .int o157_x19, .int o157_x20, .ref (ρ h0 21), .int o157_x22, .ref (ρ h0 23), .ref (ρ h0 24), .int o157_x25, .ref (ρ h0 26), .ref (ρ h0 27), .int o157_x28, .int o157_x29, .ref (ρ h0 30), .ref (ρ h0 31), .int o157_x32, .long o157_x33, .long o157_x34, .long o157_x35, .int o157_x36, .int o157_x37, .int o157_x38, .ref (ρ h0 39), .ref (ρ h0 40), .ref (ρ h0 41), .ref (ρ h0 42), .ref (ρ h0 43), .ref (ρ h0 44), .ref (ρ h0 45), .ref (ρ h0 46), .int o157_x47, .int o157_x48, .ref (ρ h0 49), .ref (ρ h0 50), .ref (ρ h0 51), .ref (ρ h0 52)])) hD (tp_in hG ht_h0 (by decide)) eq159 (fun f160 H locs hP hD hS g162 k161 => ?_))
              have hT := hT.up ht_h0 g162 k161 ⟨_, _, _, _, _, _, _, _, _, _, _, _, _, _, _, _, _, _, _, _, _, _, _, _, _, _, _, _, rfl, ro157_0, ro157_1, ro157_2, ro157_3, ro157_4, ro157_5, ro157_6, ro157_7, ro157_8, ro157_9, ro157_10, ro157_11, ro157_12, ro157_13⟩
              have hR := hR.up ht_h0 (by decide) k161
              have hf_163 : f140 (ρ h0 21) = .inl (κ 0, 60, .inl g27) := (hF141 _ (by rw [y7]; decide)).trans hf_o26
              have hf_164 : f147 (ρ h0 21) = .inl (κ 0, 60, .inl g27) := (k148 _ (tp_ne y7 ht_h0 (by decide))).trans hf_163
              have hf_165 : f155 (ρ h0 21) = .inl (κ 0, 60, .inl g27) := (hF156 _ (by rw [y7]; decide)).trans hf_164
              have hf_166 : f160 (ρ h0 21) = .inl (κ 0, 60, .inl g27) := (k161 _ (tp_ne y7 ht_h0 (by decide))).trans hf_165
              have hf_167 : f140 (ρ h0 23) = .inl (κ 0, 400, .inl g29) := (hF141 _ (by rw [y8]; decide)).trans hf_o28
              have hf_168 : f147 (ρ h0 23) = .inl (κ 0, 400, .inl g29) := (k148 _ (tp_ne y8 ht_h0 (by decide))).trans hf_167
              have hf_169 : f155 (ρ h0 23) = .inl (κ 0, 400, .inl g29) := (hF156 _ (by rw [y8]; decide)).trans hf_168
              have hf_170 : f160 (ρ h0 23) = .inl (κ 0, 400, .inl g29) := (k161 _ (tp_ne y8 ht_h0 (by decide))).trans hf_169
              have hf_171 : f140 (ρ h0 24) = .inl (κ 0, 400, .inl g31) := (hF141 _ (by rw [y9]; decide)).trans hf_o30
              have hf_172 : f147 (ρ h0 24) = .inl (κ 0, 400, .inl g31) := (k148 _ (tp_ne y9 ht_h0 (by decide))).trans hf_171
              have hf_173 : f155 (ρ h0 24) = .inl (κ 0, 400, .inl g31) := (hF156 _ (by rw [y9]; decide)).trans hf_172
              have hf_174 : f160 (ρ h0 24) = .inl (κ 0, 400, .inl g31) := (k161 _ (tp_ne y9 ht_h0 (by decide))).trans hf_173
              exact W.vret hx hb hr (fun t ht hW => ⟨⟨f160, rfl, ⟨hT, hR, (by simp only [g162, hf_166, hf_170, hf_174, hf_o32, mo_i1, mo_l1]; exact (show (o157_x10.toInt ≤ o157_x11.toInt ∧ o157_x11.toInt ≤ o157_x9.toInt ∧ (o157_x12.toInt = 0 ∨ o157_x10.toInt < o157_x11.toInt) ∧ (o157_x12.toInt = 1 → o157_x11.toInt = o157_x10.toInt + 1 → o157_x13.toInt ≤ 26)) ∧ (o157_x15.toInt = 0 → o157_x22.toInt ≤ o157_x10.toInt ∧ o157_x20.toInt ≤ o157_x19.toInt ∧ mo_NC (mo_R g27) (mo_R g29) (mo_R g31) o157_x20.toInt o157_x22.toInt) ∧ o157_x9.toInt = o32_x9.toInt from ⟨by omega, fun q9 => ⟨by omega, by omega, (by rw [show o157_x20.toInt = o32_x20.toInt by omega, show o157_x22.toInt = o32_x22.toInt by omega]; exact h5)⟩, by omega⟩))⟩, by rw [ht]; exact hP, va_K.moved hW.alike hK, hD⟩, hS.F ht⟩) hS.2.2 dX12_readClause_142
          · have ic150 : r34.toInt ≠ 0 := zi_eqf rfl rfl c150
            exfalso; omega
        · have ic145 : o142_x15.toInt ≠ 0 := zi_eqf rfl rfl c145
          have hf_175 : f140 (ρ h0 21) = .inl (κ 0, 60, .inl g27) := (hF141 _ (by rw [y7]; decide)).trans hf_o26
          have hf_176 : f140 (ρ h0 23) = .inl (κ 0, 400, .inl g29) := (hF141 _ (by rw [y8]; decide)).trans hf_o28
          have hf_177 : f140 (ρ h0 24) = .inl (κ 0, 400, .inl g31) := (hF141 _ (by rw [y9]; decide)).trans hf_o30
          exact W.vret hx hb hr (fun t ht hW => ⟨⟨f140, rfl, ⟨hT, hR, (by simp only [hf_o142, hf_175, hf_176, hf_177, hf_o32, mo_i1, mo_l1]; exact (show (o142_x10.toInt ≤ o142_x11.toInt ∧ o142_x11.toInt ≤ o142_x9.toInt ∧ (o142_x12.toInt = 0 ∨ o142_x10.toInt < o142_x11.toInt) ∧ (o142_x12.toInt = 1 → o142_x11.toInt = o142_x10.toInt + 1 → o142_x13.toInt ≤ 26)) ∧ (o142_x15.toInt = 0 → o142_x22.toInt ≤ o142_x10.toInt ∧ o142_x20.toInt ≤ o142_x19.toInt ∧ mo_NC (mo_R g27) (mo_R g29) (mo_R g31) o142_x20.toInt o142_x22.toInt) ∧ o142_x9.toInt = o32_x9.toInt from ⟨by omega, fun q9 => by exfalso; omega, by omega⟩))⟩, by rw [ht]; exact hP, va_K.moved hW.alike hK, hD⟩, hS.F ht⟩) hS.2.2 dX12_readClause_71
    · have ic125 : r37.toInt = 0 := zi_nef rfl rfl c125
      refine lv_iload_n hx hb dX12_readClause_33 rfl (lv_at hl 0 rfl) ?_
      refine lv_if_ne (tgt := 47) hx hb dX12_readClause_34 (by decide) (fun c178 => ?_) (fun c178 => ?_)
      · have ic178 : r40.toInt ≠ 0 := zi_ne rfl rfl c178
        refine lv_aload_n hx hb dX12_readClause_47 rfl (lv_at hl 3 rfl) ?_
        refine va_get (D := (dC, dI)) (ci := 12) (v := .int o32_x19) (C := RX12) (T := TX12) (N := 53) hx hb hts hfX12 hown hK hP q33 eq33 rfl 19 (by decide) (hts (.fieldLink RX12 391 "ColdShipsModel" "nClauses" "I") wa_987) (fun _ h9 => h9) rfl dX12_readClause_48 ?_
        refine lv_bipush (v := 12) hx hb dX12_readClause_51 (by decide) ?_
        refine lv_icmp_ge (tgt := 60) hx hb dX12_readClause_53 (by decide) (fun c179 => ?_) (fun c179 => ?_)
        · have ic179 : o32_x19.toInt ≥ 12 := zi_ge rfl rfl c179
          refine lv_iconst (v := 0) hx hb dX12_readClause_60 (by decide) ?_
          have hFc := tp_fr hD hS hA
          refine va_callv (va_runV (As := [.int 0]) (rest := []) ⟨hx, hb, hml, hown, hts⟩ (t_X12_must l dC dI _ κ τ ν ρ L f hG hT h0 (0) ht_h0 (by first | decide | omega) (by simp only [hf_o32, mo_i1, mo_l1]; exact (show (o32_x10.toInt ≤ o32_x11.toInt ∧ o32_x11.toInt ≤ o32_x9.toInt ∧ (o32_x12.toInt = 0 ∨ o32_x10.toInt < o32_x11.toInt) ∧ (o32_x12.toInt = 1 → o32_x11.toInt = o32_x10.toInt + 1 → o32_x13.toInt ≤ 26)) from by have : (0 : Int32).toInt = 0 := rfl; first | omega | decide))) (cwV 1 hts gX12_readClause_X12_must rfl rfl rfl ⟨rfl, pd_X12_must⟩ ⟨Nat.le_of_ble_eq_true rfl, Nat.le_of_ble_eq_true rfl⟩) ⟨pz_blind, va_recv hK hP (ci := 12) (q0 := q33) rfl eq33, pz_pre hP hK hD hN⟩ rfl rfl hl.1 rfl (lv_room (Nat.le_of_ble_eq_true rfl)) dX12_readClause_61 ⟨Nat.le_of_ble_eq_true rfl, Nat.le_of_ble_eq_true rfl⟩) hS (fun q _ h => hFc q h) hFc (fun f182 t H1 locs ht hvm hw181 hB hz1 hk1 hS => ?_)
          obtain ⟨hT, hF183, hw181p⟩ := hw181
          have hR := hR.then hF183 (by decide)
          have hP := hB.1; rw [ht] at hP; have hD := tp_ad f182 hD; clear hB hFc hz1 hk1; subst ht; generalize t.heap = H at hP hS ⊢
          obtain ⟨o184_x0, o184_x1, o184_x7, o184_x9, o184_x10, o184_x11, o184_x12, o184_x13, o184_x14, o184_x15, o184_x16, o184_x17, o184_x18, o184_x19, o184_x20, o184_x22, o184_x25, o184_x28, o184_x29, o184_x32, o184_x33, o184_x34, o184_x35, o184_x36, o184_x37, o184_x38, o184_x47, o184_x48, hf_o184, ro184_0, ro184_1, ro184_2, ro184_3, ro184_4, ro184_5, ro184_6, ro184_7, ro184_8, ro184_9, ro184_10, ro184_11, ro184_12, ro184_13⟩ := tpo_13 hT ht_h0
          have tk185 : (o184_x10.toInt ≤ o184_x11.toInt ∧ o184_x11.toInt ≤ o184_x9.toInt ∧ (o184_x12.toInt = 0 ∨ o184_x10.toInt < o184_x11.toInt) ∧ (o184_x12.toInt = 1 → o184_x11.toInt = o184_x10.toInt + 1 → o184_x13.toInt ≤ 26)) ∧ (o184_x15.toInt = 0 → o32_x15.toInt = 0 ∧ o32_x11.toInt ≤ o184_x10.toInt ∧ (0) ≠ 0) ∧ (o184_x15.toInt ≠ 0 → o184_x10.toInt = o32_x10.toInt) ∧ o184_x9.toInt = o32_x9.toInt ∧ o184_x19.toInt = o32_x19.toInt ∧ o184_x20.toInt = o32_x20.toInt ∧ o184_x22.toInt = o32_x22.toInt ∧ o184_x28.toInt = o32_x28.toInt := by have q9 := hw181p; simp only [hf_o184, hf_o32, mo_i1, mo_l1] at q9; exact q9
          refine lv_aload_n hx hb dX12_readClause_64 rfl (lv_at hl 3 rfl) ?_
          obtain ⟨q186, eq186⟩ := tp_pos (tp_in hG ht_h0 (by decide)) hf_o184
          refine va_get (D := (dC, dI)) (ci := 12) (v := .int o184_x15) (C := RX12) (T := TX12) (N := 53) hx hb hts hfX12 hown hK hP q186 eq186 rfl 15 (by decide) (hts (.fieldLink RX12 261 "ColdShipsModel" "bad" "Z") wa_994) (fun _ h9 => h9) rfl dX12_readClause_65 ?_
          refine lv_if_eq (tgt := 72) hx hb dX12_readClause_68 (by decide) (fun c187 => ?_) (fun c187 => ?_)
          · have ic187 : o184_x15.toInt = 0 := zi_eq rfl rfl c187
            exfalso; omega
          · have ic187 : o184_x15.toInt ≠ 0 := zi_eqf rfl rfl c187
            have hf_188 : f182 (ρ h0 21) = .inl (κ 0, 60, .inl g27) := (hF183 _ (by rw [y7]; decide)).trans hf_o26
            have hf_189 : f182 (ρ h0 23) = .inl (κ 0, 400, .inl g29) := (hF183 _ (by rw [y8]; decide)).trans hf_o28
            have hf_190 : f182 (ρ h0 24) = .inl (κ 0, 400, .inl g31) := (hF183 _ (by rw [y9]; decide)).trans hf_o30
            exact W.vret hx hb hr (fun t ht hW => ⟨⟨f182, rfl, ⟨hT, hR, (by simp only [hf_o184, hf_188, hf_189, hf_190, hf_o32, mo_i1, mo_l1]; exact (show (o184_x10.toInt ≤ o184_x11.toInt ∧ o184_x11.toInt ≤ o184_x9.toInt ∧ (o184_x12.toInt = 0 ∨ o184_x10.toInt < o184_x11.toInt) ∧ (o184_x12.toInt = 1 → o184_x11.toInt = o184_x10.toInt + 1 → o184_x13.toInt ≤ 26)) ∧ (o184_x15.toInt = 0 → o184_x22.toInt ≤ o184_x10.toInt ∧ o184_x20.toInt ≤ o184_x19.toInt ∧ mo_NC (mo_R g27) (mo_R g29) (mo_R g31) o184_x20.toInt o184_x22.toInt) ∧ o184_x9.toInt = o32_x9.toInt from ⟨by omega, fun q9 => by exfalso; omega, by omega⟩))⟩, by rw [ht]; exact hP, va_K.moved hW.alike hK, hD⟩, hS.F ht⟩) hS.2.2 dX12_readClause_71
        · have ic179 : o32_x19.toInt < 12 := zi_gef rfl rfl c179
          refine lv_iconst (v := 1) hx hb dX12_readClause_56 (by decide) ?_
          refine lv_goto (tgt := 61) hx hb dX12_readClause_57 (by decide) ?_
          have hFc := tp_fr hD hS hA
          refine va_callv (va_runV (As := [.int 1]) (rest := []) ⟨hx, hb, hml, hown, hts⟩ (t_X12_must l dC dI _ κ τ ν ρ L f hG hT h0 (1) ht_h0 (by first | decide | omega) (by simp only [hf_o32, mo_i1, mo_l1]; exact (show (o32_x10.toInt ≤ o32_x11.toInt ∧ o32_x11.toInt ≤ o32_x9.toInt ∧ (o32_x12.toInt = 0 ∨ o32_x10.toInt < o32_x11.toInt) ∧ (o32_x12.toInt = 1 → o32_x11.toInt = o32_x10.toInt + 1 → o32_x13.toInt ≤ 26)) from by have : (1 : Int32).toInt = 1 := rfl; first | omega | decide))) (cwV 1 hts gX12_readClause_X12_must rfl rfl rfl ⟨rfl, pd_X12_must⟩ ⟨Nat.le_of_ble_eq_true rfl, Nat.le_of_ble_eq_true rfl⟩) ⟨pz_blind, va_recv hK hP (ci := 12) (q0 := q33) rfl eq33, pz_pre hP hK hD hN⟩ rfl rfl hl.1 rfl (lv_room (Nat.le_of_ble_eq_true rfl)) dX12_readClause_61 ⟨Nat.le_of_ble_eq_true rfl, Nat.le_of_ble_eq_true rfl⟩) hS (fun q _ h => hFc q h) hFc (fun f193 t H1 locs ht hvm hw192 hB hz1 hk1 hS => ?_)
          obtain ⟨hT, hF194, hw192p⟩ := hw192
          have hR := hR.then hF194 (by decide)
          have hP := hB.1; rw [ht] at hP; have hD := tp_ad f193 hD; clear hB hFc hz1 hk1; subst ht; generalize t.heap = H at hP hS ⊢
          obtain ⟨o195_x0, o195_x1, o195_x7, o195_x9, o195_x10, o195_x11, o195_x12, o195_x13, o195_x14, o195_x15, o195_x16, o195_x17, o195_x18, o195_x19, o195_x20, o195_x22, o195_x25, o195_x28, o195_x29, o195_x32, o195_x33, o195_x34, o195_x35, o195_x36, o195_x37, o195_x38, o195_x47, o195_x48, hf_o195, ro195_0, ro195_1, ro195_2, ro195_3, ro195_4, ro195_5, ro195_6, ro195_7, ro195_8, ro195_9, ro195_10, ro195_11, ro195_12, ro195_13⟩ := tpo_13 hT ht_h0
          have tk196 : (o195_x10.toInt ≤ o195_x11.toInt ∧ o195_x11.toInt ≤ o195_x9.toInt ∧ (o195_x12.toInt = 0 ∨ o195_x10.toInt < o195_x11.toInt) ∧ (o195_x12.toInt = 1 → o195_x11.toInt = o195_x10.toInt + 1 → o195_x13.toInt ≤ 26)) ∧ (o195_x15.toInt = 0 → o32_x15.toInt = 0 ∧ o32_x11.toInt ≤ o195_x10.toInt ∧ (1) ≠ 0) ∧ (o195_x15.toInt ≠ 0 → o195_x10.toInt = o32_x10.toInt) ∧ o195_x9.toInt = o32_x9.toInt ∧ o195_x19.toInt = o32_x19.toInt ∧ o195_x20.toInt = o32_x20.toInt ∧ o195_x22.toInt = o32_x22.toInt ∧ o195_x28.toInt = o32_x28.toInt := by have q9 := hw192p; simp only [hf_o195, hf_o32, mo_i1, mo_l1] at q9; exact q9
          refine lv_aload_n hx hb dX12_readClause_64 rfl (lv_at hl 3 rfl) ?_
          obtain ⟨q197, eq197⟩ := tp_pos (tp_in hG ht_h0 (by decide)) hf_o195
          refine va_get (D := (dC, dI)) (ci := 12) (v := .int o195_x15) (C := RX12) (T := TX12) (N := 53) hx hb hts hfX12 hown hK hP q197 eq197 rfl 15 (by decide) (hts (.fieldLink RX12 261 "ColdShipsModel" "bad" "Z") wa_994) (fun _ h9 => h9) rfl dX12_readClause_65 ?_
          refine lv_if_eq (tgt := 72) hx hb dX12_readClause_68 (by decide) (fun c198 => ?_) (fun c198 => ?_)
          · have ic198 : o195_x15.toInt = 0 := zi_eq rfl rfl c198
            refine lv_aload_n hx hb dX12_readClause_72 rfl (lv_at hl 3 rfl) ?_
            refine lv_dup hx hb dX12_readClause_73 rfl ?_
            refine va_get (D := (dC, dI)) (ci := 12) (v := .int o195_x19) (C := RX12) (T := TX12) (N := 53) hx hb hts hfX12 hown hK hP q197 eq197 rfl 19 (by decide) (hts (.fieldLink RX12 391 "ColdShipsModel" "nClauses" "I") wa_987) (fun _ h9 => h9) rfl dX12_readClause_74 ?_
            refine lv_iconst (v := 1) hx hb dX12_readClause_77 (by decide) ?_
            refine lv_iadd hx hb dX12_readClause_78 ?_
            refine lv_topi (fun z199 ez199 => ?_)
            have iz199 : z199.toInt = o195_x19.toInt + 1 := zi_add ez199 rfl rfl (by omega) (by omega)
            refine va_put (D := (dC, dI)) (ci := 12) (v := .int z199) (ty := .int) (C := RX12) (T := TX12) (N := 53) hx hb hts hfX12 tyX12 tyX12_ok nmX12 hown hK hP hD hS q197 eq197 rfl 19 (by decide) (hts (.fieldLink RX12 391 "ColdShipsModel" "nClauses" "I") wa_987) (fun _ h9 => h9) rfl (tyX12_ok 19 (by decide)) rfl rfl (Nat.le_of_ble_eq_true rfl) dX12_readClause_79 (tp_k (.inr (12, [.int o195_x0, .int o195_x1, .ref (ρ h0 2), .ref (ρ h0 3), .ref (ρ h0 4), .ref (ρ h0 5), .ref (ρ h0 6), .int o195_x7, .ref (ρ h0 8), .int o195_x9, .int o195_x10, .int o195_x11, .int o195_x12, .long o195_x13, .int o195_x14, .int o195_x15, .int o195_x16, .int o195_x17, .int o195_x18, .int z199, .int o195_x20, .ref (ρ h0 21), .int o195_x22, .ref (ρ h0 23), .ref (ρ h0 24), .int o195_x25, .ref (ρ h0 26), .ref (ρ h0 27), .int o195_x28, .int o195_x29, .ref (ρ h0 30), .ref (ρ h0 31), .int o195_x32, .long o195_x33, .long o195_x34, .long o195_x35, .int o195_x36, .int o195_x37, .int o195_x38, .ref (ρ h0 39), .ref (ρ h0 40), .ref (ρ h0 41), .ref (ρ h0 42), .ref (ρ h0 43), .ref (ρ h0 44), .ref (ρ h0 45), .ref (ρ h0 46), .int o195_x47, .int o195_x48, .ref (ρ h0 49), .ref (ρ h0 50), .ref (ρ h0 51), .ref (ρ h0 52)])) hD (tp_in hG ht_h0 (by decide)) eq197 (fun f200 H locs hP hD hS g202 k201 => ?_))
            have hT := hT.up ht_h0 g202 k201 ⟨_, _, _, _, _, _, _, _, _, _, _, _, _, _, _, _, _, _, _, _, _, _, _, _, _, _, _, _, rfl, ro195_0, ro195_1, ro195_2, ro195_3, ro195_4, ro195_5, (by omega), ro195_7, ro195_8, ro195_9, ro195_10, ro195_11, ro195_12, ro195_13⟩
            have hR := hR.up ht_h0 (by decide) k201
            refine lv_iload_n hx hb dX12_readClause_82 rfl (lv_at hl 2 rfl) ?_
            refine lv_if_eq (tgt := 126) hx hb dX12_readClause_83 (by decide) (fun c203 => ?_) (fun c203 => ?_)
            · have ic203 : r34.toInt = 0 := zi_eq rfl rfl c203
              refine lv_iload_n hx hb dX12_readClause_126 rfl (lv_at hl 1 rfl) ?_
              refine lv_if_eq (tgt := 143) hx hb dX12_readClause_127 (by decide) (fun c204 => ?_) (fun c204 => ?_)
              · have ic204 : r37.toInt = 0 := zi_eq rfl rfl c204
                have h5 : mo_NC (mo_R g27) (mo_R g29) (mo_R g31) o195_x20.toInt o195_x22.toInt := (by rw [show o195_x20.toInt = o32_x20.toInt by omega, show o195_x22.toInt = o32_x22.toInt by omega]; exact h5)
                refine lv_iconst (v := 5) hx hb dX12_readClause_143 (by decide) ?_
                refine lv_aload_n hx hb dX12_readClause_144 rfl (lv_at hl 3 rfl) ?_
                obtain ⟨q205, eq205⟩ := tp_pos (tp_in hG ht_h0 (by decide)) g202
                refine va_get (D := (dC, dI)) (ci := 12) (v := .int o195_x20) (C := RX12) (T := TX12) (N := 53) hx hb hts hfX12 hown hK hP q205 eq205 rfl 20 (by decide) (hts (.fieldLink RX12 411 "ColdShipsModel" "nPays" "I") wa_988) (fun _ h9 => h9) rfl dX12_readClause_145 ?_
                refine lv_imul hx hb dX12_readClause_148 ?_
                refine lv_topi (fun z206 ez206 => ?_)
                have iz206 : z206.toInt = 5 * o195_x20.toInt := zi_mul ez206 rfl rfl (by omega) (by omega)
                refine lv_istore (lv' := [(4, .int z206), (3, .int r40), (2, .int r37), (1, .int r34), (0, .ref h0)]) hx hb dX12_readClause_149 hl (by decide) rfl (fun ls hl => ?_)
                refine lv_aload_n hx hb dX12_readClause_151 rfl (lv_at hl 4 rfl) ?_
                refine lv_dup hx hb dX12_readClause_152 rfl ?_
                refine va_get (D := (dC, dI)) (ci := 12) (v := .int o195_x20) (C := RX12) (T := TX12) (N := 53) hx hb hts hfX12 hown hK hP q205 eq205 rfl 20 (by decide) (hts (.fieldLink RX12 411 "ColdShipsModel" "nPays" "I") wa_988) (fun _ h9 => h9) rfl dX12_readClause_153 ?_
                refine lv_iconst (v := 1) hx hb dX12_readClause_156 (by decide) ?_
                refine lv_iadd hx hb dX12_readClause_157 ?_
                refine lv_topi (fun z207 ez207 => ?_)
                have iz207 : z207.toInt = o195_x20.toInt + 1 := zi_add ez207 rfl rfl (by omega) (by omega)
                refine va_put (D := (dC, dI)) (ci := 12) (v := .int z207) (ty := .int) (C := RX12) (T := TX12) (N := 53) hx hb hts hfX12 tyX12 tyX12_ok nmX12 hown hK hP hD hS q205 eq205 rfl 20 (by decide) (hts (.fieldLink RX12 411 "ColdShipsModel" "nPays" "I") wa_988) (fun _ h9 => h9) rfl (tyX12_ok 20 (by decide)) rfl rfl (Nat.le_of_ble_eq_true rfl) dX12_readClause_158 (tp_k (.inr (12, [.int o195_x0, .int o195_x1, .ref (ρ h0 2), .ref (ρ h0 3), .ref (ρ h0 4), .ref (ρ h0 5), .ref (ρ h0 6), .int o195_x7, .ref (ρ h0 8), .int o195_x9, .int o195_x10, .int o195_x11, .int o195_x12, .long o195_x13, .int o195_x14, .int o195_x15, .int o195_x16, .int o195_x17, .int o195_x18, .int z199, .int z207, .ref (ρ h0 21), .int o195_x22, .ref (ρ h0 23), .ref (ρ h0 24), .int o195_x25, .ref (ρ h0 26), .ref (ρ h0 27), .int o195_x28, .int o195_x29, .ref (ρ h0 30), .ref (ρ h0 31), .int o195_x32, .long o195_x33, .long o195_x34, .long o195_x35, .int o195_x36, .int o195_x37, .int o195_x38, .ref (ρ h0 39), .ref (ρ h0 40), .ref (ρ h0 41), .ref (ρ h0 42), .ref (ρ h0 43), .ref (ρ h0 44), .ref (ρ h0 45), .ref (ρ h0 46), .int o195_x47, .int o195_x48, .ref (ρ h0 49), .ref (ρ h0 50), .ref (ρ h0 51), .ref (ρ h0 52)])) hD (tp_in hG ht_h0 (by decide)) eq205 (fun f208 H locs hP hD hS g210 k209 => ?_))
                have hT := hT.up ht_h0 g210 k209 ⟨_, _, _, _, _, _, _, _, _, _, _, _, _, _, _, _, _, _, _, _, _, _, _, _, _, _, _, _, rfl, ro195_0, ro195_1, ro195_2, ro195_3, ro195_4, ro195_5, (by omega), (by omega), ro195_8, ro195_9, ro195_10, ro195_11, ro195_12, ro195_13⟩
                have hR := hR.up ht_h0 (by decide) k209
                refine lv_aload_n hx hb dX12_readClause_161 rfl (lv_at hl 4 rfl) ?_
                obtain ⟨q211, eq211⟩ := tp_pos (tp_in hG ht_h0 (by decide)) g210
                refine va_get (D := (dC, dI)) (ci := 12) (v := .ref (ρ h0 21)) (C := RX12) (T := TX12) (N := 53) hx hb hts hfX12 hown hK hP q211 eq211 rfl 21 (by decide) (hts (.fieldLink RX12 34 "ColdShipsModel" "nClause" "[I") wa_156) (fun _ h9 => h9) rfl dX12_readClause_162 ?_
                refine lv_iload hx hb dX12_readClause_165 (lv_at hl 0 rfl) ?_
                refine lv_iload_n hx hb dX12_readClause_167 rfl (lv_at hl 1 rfl) ?_
                refine lv_if_eq (tgt := 175) hx hb dX12_readClause_168 (by decide) (fun c212 => ?_) (fun c212 => ?_)
                · have ic212 : r40.toInt = 0 := zi_eq rfl rfl c212
                  exfalso; omega
                · have ic212 : r40.toInt ≠ 0 := zi_eqf rfl rfl c212
                  refine lv_iconst (v := 0) hx hb dX12_readClause_171 (by decide) ?_
                  refine lv_goto (tgt := 176) hx hb dX12_readClause_172 (by decide) ?_
                  have hf_213 : f193 (ρ h0 21) = .inl (κ 0, 60, .inl g27) := (hF194 _ (by rw [y7]; decide)).trans hf_o26
                  have hf_214 : f200 (ρ h0 21) = .inl (κ 0, 60, .inl g27) := (k201 _ (tp_ne y7 ht_h0 (by decide))).trans hf_213
                  have hf_215 : f208 (ρ h0 21) = .inl (κ 0, 60, .inl g27) := (k209 _ (tp_ne y7 ht_h0 (by decide))).trans hf_214
                  obtain ⟨q216, eq216⟩ := tp_pos (tp_in hG y7 (by decide)) hf_215
                  refine va_iast hx hb hK hP hD hS q216 0 eq216 rfl (vp_in_iff.mpr ⟨by omega, by omega⟩) dX12_readClause_176 (tp_k (.inl (κ 0, 60, .inl (upd g27 z206.toNatClampNeg (0 : Int32)))) hD (tp_in hG y7 (by decide)) eq216 (fun f217 H locs hP hD hS g219 k218 => ?_))
                  have hT := hT.up y7 g219 k218 tp_o51
                  have hR := hR.up y7 (by decide) k218
                  have hU221 : mo_U (mo_R g27) (mo_R (upd g27 z206.toNatClampNeg (0 : Int32))) (5 * o195_x20.toInt) (0) := mo_up (by omega) (show (0 : Int32).toInt = 0 from rfl) (by omega)
                  generalize (upd g27 z206.toNatClampNeg (0 : Int32)) = g220 at g219 hU221
                  refine lv_aload_n hx hb dX12_readClause_177 rfl (lv_at hl 4 rfl) ?_
                  have hf_222 : f217 h0 = .inr (12, [.int o195_x0, .int o195_x1, .ref (ρ h0 2), .ref (ρ h0 3), .ref (ρ h0 4), .ref (ρ h0 5), .ref (ρ h0 6), .int o195_x7, .ref (ρ h0 8), .int o195_x9, .int o195_x10, .int o195_x11, .int o195_x12, .long o195_x13, .int o195_x14, .int o195_x15, .int o195_x16, .int o195_x17, .int o195_x18, .int z199, .int z207, .ref (ρ h0 21), .int o195_x22, .ref (ρ h0 23), .ref (ρ h0 24), .int o195_x25, .ref (ρ h0 26), .ref (ρ h0 27), .int o195_x28, .int o195_x29, .ref (ρ h0 30), .ref (ρ h0 31), .int o195_x32, .long o195_x33, .long o195_x34, .long o195_x35, .int o195_x36, .int o195_x37, .int o195_x38, .ref (ρ h0 39), .ref (ρ h0 40), .ref (ρ h0 41), .ref (ρ h0 42), .ref (ρ h0 43), .ref (ρ h0 44), .ref (ρ h0 45), .ref (ρ h0 46), .int o195_x47, .int o195_x48, .ref (ρ h0 49), .ref (ρ h0 50), .ref (ρ h0 51), .ref (ρ h0 52)]) := (k218 _ (tp_ne ht_h0 y7 (by decide))).trans g210
                  obtain ⟨q223, eq223⟩ := tp_pos (tp_in hG ht_h0 (by decide)) hf_222
                  refine va_get (D := (dC, dI)) (ci := 12) (v := .ref (ρ h0 21)) (C := RX12) (T := TX12) (N := 53) hx hb hts hfX12 hown hK hP q223 eq223 rfl 21 (by decide) (hts (.fieldLink RX12 34 "ColdShipsModel" "nClause" "[I") wa_156) (fun _ h9 => h9) rfl dX12_readClause_178 ?_
                  refine lv_iload hx hb dX12_readClause_181 (lv_at hl 0 rfl) ?_
                  refine lv_iconst (v := 1) hx hb dX12_readClause_183 (by decide) ?_
                  refine lv_iadd hx hb dX12_readClause_184 ?_
                  refine lv_topi (fun z224 ez224 => ?_)
                  have iz224 : z224.toInt = z206.toInt + 1 := zi_add ez224 rfl rfl (by omega) (by omega)
                  refine lv_aload_n hx hb dX12_readClause_185 rfl (lv_at hl 4 rfl) ?_
                  refine va_get (D := (dC, dI)) (ci := 12) (v := .int o195_x22) (C := RX12) (T := TX12) (N := 53) hx hb hts hfX12 hown hK hP q223 eq223 rfl 22 (by decide) (hts (.fieldLink RX12 297 "ColdShipsModel" "nCode" "I") wa_989) (fun _ h9 => h9) rfl dX12_readClause_186 ?_
                  obtain ⟨q225, eq225⟩ := tp_pos (tp_in hG y7 (by decide)) g219
                  refine va_iast hx hb hK hP hD hS q225 0 eq225 rfl (vp_in_iff.mpr ⟨by omega, by omega⟩) dX12_readClause_189 (tp_k (.inl (κ 0, 60, .inl (upd g220 z224.toNatClampNeg o195_x22))) hD (tp_in hG y7 (by decide)) eq225 (fun f226 H locs hP hD hS g228 k227 => ?_))
                  have hT := hT.up y7 g228 k227 tp_o51
                  have hR := hR.up y7 (by decide) k227
                  have hU230 : mo_U (mo_R g220) (mo_R (upd g220 z224.toNatClampNeg o195_x22)) (5 * o195_x20.toInt + 1) (o195_x22.toInt) := mo_up (by omega) (rfl : o195_x22.toInt = _) (by omega)
                  generalize (upd g220 z224.toNatClampNeg o195_x22) = g229 at g228 hU230
                  refine lv_aload_n hx hb dX12_readClause_190 rfl (lv_at hl 4 rfl) ?_
                  refine lv_iconst (v := 0) hx hb dX12_readClause_191 (by decide) ?_
                  have hf_231 : f226 h0 = .inr (12, [.int o195_x0, .int o195_x1, .ref (ρ h0 2), .ref (ρ h0 3), .ref (ρ h0 4), .ref (ρ h0 5), .ref (ρ h0 6), .int o195_x7, .ref (ρ h0 8), .int o195_x9, .int o195_x10, .int o195_x11, .int o195_x12, .long o195_x13, .int o195_x14, .int o195_x15, .int o195_x16, .int o195_x17, .int o195_x18, .int z199, .int z207, .ref (ρ h0 21), .int o195_x22, .ref (ρ h0 23), .ref (ρ h0 24), .int o195_x25, .ref (ρ h0 26), .ref (ρ h0 27), .int o195_x28, .int o195_x29, .ref (ρ h0 30), .ref (ρ h0 31), .int o195_x32, .long o195_x33, .long o195_x34, .long o195_x35, .int o195_x36, .int o195_x37, .int o195_x38, .ref (ρ h0 39), .ref (ρ h0 40), .ref (ρ h0 41), .ref (ρ h0 42), .ref (ρ h0 43), .ref (ρ h0 44), .ref (ρ h0 45), .ref (ρ h0 46), .int o195_x47, .int o195_x48, .ref (ρ h0 49), .ref (ρ h0 50), .ref (ρ h0 51), .ref (ρ h0 52)]) := (k227 _ (tp_ne ht_h0 y7 (by decide))).trans hf_222
                  have hf_232 : f193 (ρ h0 23) = .inl (κ 0, 400, .inl g29) := (hF194 _ (by rw [y8]; decide)).trans hf_o28
                  have hf_233 : f200 (ρ h0 23) = .inl (κ 0, 400, .inl g29) := (k201 _ (tp_ne y8 ht_h0 (by decide))).trans hf_232
                  have hf_234 : f208 (ρ h0 23) = .inl (κ 0, 400, .inl g29) := (k209 _ (tp_ne y8 ht_h0 (by decide))).trans hf_233
                  have hf_235 : f217 (ρ h0 23) = .inl (κ 0, 400, .inl g29) := (k218 _ (tp_ne y8 y7 (by decide))).trans hf_234
                  have hf_236 : f226 (ρ h0 23) = .inl (κ 0, 400, .inl g29) := (k227 _ (tp_ne y8 y7 (by decide))).trans hf_235
                  have hf_237 : f193 (ρ h0 24) = .inl (κ 0, 400, .inl g31) := (hF194 _ (by rw [y9]; decide)).trans hf_o30
                  have hf_238 : f200 (ρ h0 24) = .inl (κ 0, 400, .inl g31) := (k201 _ (tp_ne y9 ht_h0 (by decide))).trans hf_237
                  have hf_239 : f208 (ρ h0 24) = .inl (κ 0, 400, .inl g31) := (k209 _ (tp_ne y9 ht_h0 (by decide))).trans hf_238
                  have hf_240 : f217 (ρ h0 24) = .inl (κ 0, 400, .inl g31) := (k218 _ (tp_ne y9 y7 (by decide))).trans hf_239
                  have hf_241 : f226 (ρ h0 24) = .inl (κ 0, 400, .inl g31) := (k227 _ (tp_ne y9 y7 (by decide))).trans hf_240
                  obtain ⟨q242, eq242⟩ := tp_pos (tp_in hG ht_h0 (by decide)) hf_231
                  have hFc := tp_fr hD hS hA
                  refine va_callv (va_runV (As := [.int 0]) (rest := []) ⟨hx, hb, hml, hown, hts⟩ (t_X12_readExpression l dC dI _ κ τ ν ρ L f226 hG hT h0 (0) ht_h0 (by first | decide | omega) (by simp only [hf_231, mo_i1, mo_l1]; exact (show (o195_x10.toInt ≤ o195_x11.toInt ∧ o195_x11.toInt ≤ o195_x9.toInt ∧ (o195_x12.toInt = 0 ∨ o195_x10.toInt < o195_x11.toInt) ∧ (o195_x12.toInt = 1 → o195_x11.toInt = o195_x10.toInt + 1 → o195_x13.toInt ≤ 26)) from by have : (0 : Int32).toInt = 0 := rfl; first | omega | decide)) (by simp only [hf_231, mo_i1, mo_l1]; exact (show o195_x15.toInt = 0 from by have : (0 : Int32).toInt = 0 := rfl; first | omega | decide)) (by simp only [hf_231, mo_i1, mo_l1]; exact (show o195_x22.toInt ≤ o195_x10.toInt from by have : (0 : Int32).toInt = 0 := rfl; first | omega | decide))) (cwV 1 hts gX12_readClause_X12_readExpression rfl rfl rfl ⟨rfl, pd_X12_readExpression⟩ ⟨Nat.le_of_ble_eq_true rfl, Nat.le_of_ble_eq_true rfl⟩) ⟨pz_blind, va_recv hK hP (ci := 12) (q0 := q242) rfl eq242, pz_pre hP hK hD hN⟩ rfl rfl hl.1 rfl (lv_room (Nat.le_of_ble_eq_true rfl)) dX12_readClause_192 ⟨Nat.le_of_ble_eq_true rfl, Nat.le_of_ble_eq_true rfl⟩) hS (fun q _ h => hFc q h) hFc (fun f245 t H1 locs ht hvm hw244 hB hz1 hk1 hS => ?_)
                  obtain ⟨hT, hF246, hw244p⟩ := hw244
                  have hR := hR.then hF246 (by decide)
                  have hP := hB.1; rw [ht] at hP; have hD := tp_ad f245 hD; clear hB hFc hz1 hk1; subst ht; generalize t.heap = H at hP hS ⊢
                  obtain ⟨o247_x0, o247_x1, o247_x7, o247_x9, o247_x10, o247_x11, o247_x12, o247_x13, o247_x14, o247_x15, o247_x16, o247_x17, o247_x18, o247_x19, o247_x20, o247_x22, o247_x25, o247_x28, o247_x29, o247_x32, o247_x33, o247_x34, o247_x35, o247_x36, o247_x37, o247_x38, o247_x47, o247_x48, hf_o247, ro247_0, ro247_1, ro247_2, ro247_3, ro247_4, ro247_5, ro247_6, ro247_7, ro247_8, ro247_9, ro247_10, ro247_11, ro247_12, ro247_13⟩ := tpo_13 hT ht_h0
                  obtain ⟨g249, hf_o248⟩ := tpo_53 hT y8
                  obtain ⟨g251, hf_o250⟩ := tpo_54 hT y9
                  have tk252 : (o247_x10.toInt ≤ o247_x11.toInt ∧ o247_x11.toInt ≤ o247_x9.toInt ∧ (o247_x12.toInt = 0 ∨ o247_x10.toInt < o247_x11.toInt) ∧ (o247_x12.toInt = 1 → o247_x11.toInt = o247_x10.toInt + 1 → o247_x13.toInt ≤ 26)) ∧ o195_x22.toInt ≤ o247_x22.toInt ∧ (o247_x15.toInt = 0 → o247_x22.toInt ≤ o247_x10.toInt ∧ mo_W2 (mo_R g249) (mo_R g251) o195_x22.toInt o247_x22.toInt ∧ mo_FR o195_x22.toInt (mo_R g29) (mo_R g31) (mo_R g249) (mo_R g251)) ∧ o247_x9.toInt = o195_x9.toInt ∧ o247_x19.toInt = z199.toInt ∧ o247_x20.toInt = z207.toInt := by have q9 := hw244p; simp only [hf_o247, hf_231, hf_o248, hf_o250, hf_236, hf_241, mo_i1, mo_l1] at q9; exact q9
                  refine lv_aload_n hx hb dX12_readClause_195 rfl (lv_at hl 4 rfl) ?_
                  obtain ⟨q253, eq253⟩ := tp_pos (tp_in hG ht_h0 (by decide)) hf_o247
                  refine va_get (D := (dC, dI)) (ci := 12) (v := .ref (ρ h0 21)) (C := RX12) (T := TX12) (N := 53) hx hb hts hfX12 hown hK hP q253 eq253 rfl 21 (by decide) (hts (.fieldLink RX12 34 "ColdShipsModel" "nClause" "[I") wa_156) (fun _ h9 => h9) rfl dX12_readClause_196 ?_
                  refine lv_iload hx hb dX12_readClause_199 (lv_at hl 0 rfl) ?_
                  refine lv_iconst (v := 2) hx hb dX12_readClause_201 (by decide) ?_
                  refine lv_iadd hx hb dX12_readClause_202 ?_
                  refine lv_topi (fun z254 ez254 => ?_)
                  have iz254 : z254.toInt = z206.toInt + 2 := zi_add ez254 rfl rfl (by omega) (by omega)
                  refine lv_aload_n hx hb dX12_readClause_203 rfl (lv_at hl 4 rfl) ?_
                  refine va_get (D := (dC, dI)) (ci := 12) (v := .int o247_x22) (C := RX12) (T := TX12) (N := 53) hx hb hts hfX12 hown hK hP q253 eq253 rfl 22 (by decide) (hts (.fieldLink RX12 297 "ColdShipsModel" "nCode" "I") wa_989) (fun _ h9 => h9) rfl dX12_readClause_204 ?_
                  have hf_255 : f245 (ρ h0 21) = .inl (κ 0, 60, .inl g229) := (hF246 _ (by rw [y7]; decide)).trans g228
                  obtain ⟨q256, eq256⟩ := tp_pos (tp_in hG y7 (by decide)) hf_255
                  refine va_iast hx hb hK hP hD hS q256 0 eq256 rfl (vp_in_iff.mpr ⟨by omega, by omega⟩) dX12_readClause_207 (tp_k (.inl (κ 0, 60, .inl (upd g229 z254.toNatClampNeg o247_x22))) hD (tp_in hG y7 (by decide)) eq256 (fun f257 H locs hP hD hS g259 k258 => ?_))
                  have hT := hT.up y7 g259 k258 tp_o51
                  have hR := hR.up y7 (by decide) k258
                  have hU261 : mo_U (mo_R g229) (mo_R (upd g229 z254.toNatClampNeg o247_x22)) (5 * o195_x20.toInt + 2) (o247_x22.toInt) := mo_up (by omega) (rfl : o247_x22.toInt = _) (by omega)
                  generalize (upd g229 z254.toNatClampNeg o247_x22) = g260 at g259 hU261
                  refine lv_aload_n hx hb dX12_readClause_208 rfl (lv_at hl 4 rfl) ?_
                  have hf_262 : f257 h0 = .inr (12, [.int o247_x0, .int o247_x1, .ref (ρ h0 2), .ref (ρ h0 3), .ref (ρ h0 4), .ref (ρ h0 5), .ref (ρ h0 6), .int o247_x7, .ref (ρ h0 8), .int o247_x9, .int o247_x10, .int o247_x11, .int o247_x12, .long o247_x13, .int o247_x14, .int o247_x15, .int o247_x16, .int o247_x17, .int o247_x18, .int o247_x19, .int o247_x20, .ref (ρ h0 21), .int o247_x22, .ref (ρ h0 23), .ref (ρ h0 24), .int o247_x25, .ref (ρ h0 26), .ref (ρ h0 27), .int o247_x28, .int o247_x29, .ref (ρ h0 30), .ref (ρ h0 31), .int o247_x32, .long o247_x33, .long o247_x34, .long o247_x35, .int o247_x36, .int o247_x37, .int o247_x38, .ref (ρ h0 39), .ref (ρ h0 40), .ref (ρ h0 41), .ref (ρ h0 42), .ref (ρ h0 43), .ref (ρ h0 44), .ref (ρ h0 45), .ref (ρ h0 46), .int o247_x47, .int o247_x48, .ref (ρ h0 49), .ref (ρ h0 50), .ref (ρ h0 51), .ref (ρ h0 52)]) := (k258 _ (tp_ne ht_h0 y7 (by decide))).trans hf_o247
                  obtain ⟨q263, eq263⟩ := tp_pos (tp_in hG ht_h0 (by decide)) hf_262
                  refine va_get (D := (dC, dI)) (ci := 12) (v := .ref (ρ h0 21)) (C := RX12) (T := TX12) (N := 53) hx hb hts hfX12 hown hK hP q263 eq263 rfl 21 (by decide) (hts (.fieldLink RX12 34 "ColdShipsModel" "nClause" "[I") wa_156) (fun _ h9 => h9) rfl dX12_readClause_209 ?_
                  refine lv_iload hx hb dX12_readClause_212 (lv_at hl 0 rfl) ?_
                  refine lv_iconst (v := 3) hx hb dX12_readClause_214 (by decide) ?_
                  refine lv_iadd hx hb dX12_readClause_215 ?_
                  refine lv_topi (fun z264 ez264 => ?_)
                  have iz264 : z264.toInt = z206.toInt + 3 := zi_add ez264 rfl rfl (by omega) (by omega)
                  refine lv_aload_n hx hb dX12_readClause_216 rfl (lv_at hl 4 rfl) ?_
                  refine va_get (D := (dC, dI)) (ci := 12) (v := .int o247_x22) (C := RX12) (T := TX12) (N := 53) hx hb hts hfX12 hown hK hP q263 eq263 rfl 22 (by decide) (hts (.fieldLink RX12 297 "ColdShipsModel" "nCode" "I") wa_989) (fun _ h9 => h9) rfl dX12_readClause_217 ?_
                  obtain ⟨q265, eq265⟩ := tp_pos (tp_in hG y7 (by decide)) g259
                  refine va_iast hx hb hK hP hD hS q265 0 eq265 rfl (vp_in_iff.mpr ⟨by omega, by omega⟩) dX12_readClause_220 (tp_k (.inl (κ 0, 60, .inl (upd g260 z264.toNatClampNeg o247_x22))) hD (tp_in hG y7 (by decide)) eq265 (fun f266 H locs hP hD hS g268 k267 => ?_))
                  have hT := hT.up y7 g268 k267 tp_o51
                  have hR := hR.up y7 (by decide) k267
                  have hU270 : mo_U (mo_R g260) (mo_R (upd g260 z264.toNatClampNeg o247_x22)) (5 * o195_x20.toInt + 3) (o247_x22.toInt) := mo_up (by omega) (rfl : o247_x22.toInt = _) (by omega)
                  generalize (upd g260 z264.toNatClampNeg o247_x22) = g269 at g268 hU270
                  refine lv_aload_n hx hb dX12_readClause_221 rfl (lv_at hl 4 rfl) ?_
                  have hf_271 : f266 h0 = .inr (12, [.int o247_x0, .int o247_x1, .ref (ρ h0 2), .ref (ρ h0 3), .ref (ρ h0 4), .ref (ρ h0 5), .ref (ρ h0 6), .int o247_x7, .ref (ρ h0 8), .int o247_x9, .int o247_x10, .int o247_x11, .int o247_x12, .long o247_x13, .int o247_x14, .int o247_x15, .int o247_x16, .int o247_x17, .int o247_x18, .int o247_x19, .int o247_x20, .ref (ρ h0 21), .int o247_x22, .ref (ρ h0 23), .ref (ρ h0 24), .int o247_x25, .ref (ρ h0 26), .ref (ρ h0 27), .int o247_x28, .int o247_x29, .ref (ρ h0 30), .ref (ρ h0 31), .int o247_x32, .long o247_x33, .long o247_x34, .long o247_x35, .int o247_x36, .int o247_x37, .int o247_x38, .ref (ρ h0 39), .ref (ρ h0 40), .ref (ρ h0 41), .ref (ρ h0 42), .ref (ρ h0 43), .ref (ρ h0 44), .ref (ρ h0 45), .ref (ρ h0 46), .int o247_x47, .int o247_x48, .ref (ρ h0 49), .ref (ρ h0 50), .ref (ρ h0 51), .ref (ρ h0 52)]) := (k267 _ (tp_ne ht_h0 y7 (by decide))).trans hf_262
                  obtain ⟨q272, eq272⟩ := tp_pos (tp_in hG ht_h0 (by decide)) hf_271
                  refine va_get (D := (dC, dI)) (ci := 12) (v := .int o247_x15) (C := RX12) (T := TX12) (N := 53) hx hb hts hfX12 hown hK hP q272 eq272 rfl 15 (by decide) (hts (.fieldLink RX12 261 "ColdShipsModel" "bad" "Z") wa_994) (fun _ h9 => h9) rfl dX12_readClause_222 ?_
                  refine lv_if_ne (tgt := 247) hx hb dX12_readClause_225 (by decide) (fun c273 => ?_) (fun c273 => ?_)
                  · have ic273 : o247_x15.toInt ≠ 0 := zi_ne rfl rfl c273
                    refine lv_aload_n hx hb dX12_readClause_247 rfl (lv_at hl 4 rfl) ?_
                    refine va_get (D := (dC, dI)) (ci := 12) (v := .ref (ρ h0 21)) (C := RX12) (T := TX12) (N := 53) hx hb hts hfX12 hown hK hP q272 eq272 rfl 21 (by decide) (hts (.fieldLink RX12 34 "ColdShipsModel" "nClause" "[I") wa_156) (fun _ h9 => h9) rfl dX12_readClause_248 ?_
                    refine lv_iload hx hb dX12_readClause_251 (lv_at hl 0 rfl) ?_
                    refine lv_iconst (v := 4) hx hb dX12_readClause_253 (by decide) ?_
                    refine lv_iadd hx hb dX12_readClause_254 ?_
                    refine lv_topi (fun z274 ez274 => ?_)
                    have iz274 : z274.toInt = z206.toInt + 4 := zi_add ez274 rfl rfl (by omega) (by omega)
                    refine lv_aload_n hx hb dX12_readClause_255 rfl (lv_at hl 4 rfl) ?_
                    refine va_get (D := (dC, dI)) (ci := 12) (v := .int o247_x22) (C := RX12) (T := TX12) (N := 53) hx hb hts hfX12 hown hK hP q272 eq272 rfl 22 (by decide) (hts (.fieldLink RX12 297 "ColdShipsModel" "nCode" "I") wa_989) (fun _ h9 => h9) rfl dX12_readClause_256 ?_
                    obtain ⟨q275, eq275⟩ := tp_pos (tp_in hG y7 (by decide)) g268
                    refine va_iast hx hb hK hP hD hS q275 0 eq275 rfl (vp_in_iff.mpr ⟨by omega, by omega⟩) dX12_readClause_259 (tp_k (.inl (κ 0, 60, .inl (upd g269 z274.toNatClampNeg o247_x22))) hD (tp_in hG y7 (by decide)) eq275 (fun f276 H locs hP hD hS g278 k277 => ?_))
                    have hT := hT.up y7 g278 k277 tp_o51
                    have hR := hR.up y7 (by decide) k277
                    have hU280 : mo_U (mo_R g269) (mo_R (upd g269 z274.toNatClampNeg o247_x22)) (5 * o195_x20.toInt + 4) (o247_x22.toInt) := mo_up (by omega) (rfl : o247_x22.toInt = _) (by omega)
                    generalize (upd g269 z274.toNatClampNeg o247_x22) = g279 at g278 hU280
                    have hf_281 : f276 h0 = .inr (12, [.int o247_x0, .int o247_x1, .ref (ρ h0 2), .ref (ρ h0 3), .ref (ρ h0 4), .ref (ρ h0 5), .ref (ρ h0 6), .int o247_x7, .ref (ρ h0 8), .int o247_x9, .int o247_x10, .int o247_x11, .int o247_x12, .long o247_x13, .int o247_x14, .int o247_x15, .int o247_x16, .int o247_x17, .int o247_x18, .int o247_x19, .int o247_x20, .ref (ρ h0 21), .int o247_x22, .ref (ρ h0 23), .ref (ρ h0 24), .int o247_x25, .ref (ρ h0 26), .ref (ρ h0 27), .int o247_x28, .int o247_x29, .ref (ρ h0 30), .ref (ρ h0 31), .int o247_x32, .long o247_x33, .long o247_x34, .long o247_x35, .int o247_x36, .int o247_x37, .int o247_x38, .ref (ρ h0 39), .ref (ρ h0 40), .ref (ρ h0 41), .ref (ρ h0 42), .ref (ρ h0 43), .ref (ρ h0 44), .ref (ρ h0 45), .ref (ρ h0 46), .int o247_x47, .int o247_x48, .ref (ρ h0 49), .ref (ρ h0 50), .ref (ρ h0 51), .ref (ρ h0 52)]) := (k277 _ (tp_ne ht_h0 y7 (by decide))).trans hf_271
                    have hf_282 : f257 (ρ h0 23) = .inl (κ 0, 400, .inl g249) := (k258 _ (tp_ne y8 y7 (by decide))).trans hf_o248
                    have hf_283 : f266 (ρ h0 23) = .inl (κ 0, 400, .inl g249) := (k267 _ (tp_ne y8 y7 (by decide))).trans hf_282
                    have hf_284 : f276 (ρ h0 23) = .inl (κ 0, 400, .inl g249) := (k277 _ (tp_ne y8 y7 (by decide))).trans hf_283
                    have hf_285 : f257 (ρ h0 24) = .inl (κ 0, 400, .inl g251) := (k258 _ (tp_ne y9 y7 (by decide))).trans hf_o250
                    have hf_286 : f266 (ρ h0 24) = .inl (κ 0, 400, .inl g251) := (k267 _ (tp_ne y9 y7 (by decide))).trans hf_285
                    have hf_287 : f276 (ρ h0 24) = .inl (κ 0, 400, .inl g251) := (k277 _ (tp_ne y9 y7 (by decide))).trans hf_286
                    exact W.vret hx hb hr (fun t ht hW => ⟨⟨f276, rfl, ⟨hT, hR, (by simp only [hf_281, g278, hf_284, hf_287, hf_o32, mo_i1, mo_l1]; exact (show (o247_x10.toInt ≤ o247_x11.toInt ∧ o247_x11.toInt ≤ o247_x9.toInt ∧ (o247_x12.toInt = 0 ∨ o247_x10.toInt < o247_x11.toInt) ∧ (o247_x12.toInt = 1 → o247_x11.toInt = o247_x10.toInt + 1 → o247_x13.toInt ≤ 26)) ∧ (o247_x15.toInt = 0 → o247_x22.toInt ≤ o247_x10.toInt ∧ o247_x20.toInt ≤ o247_x19.toInt ∧ mo_NC (mo_R g279) (mo_R g249) (mo_R g251) o247_x20.toInt o247_x22.toInt) ∧ o247_x9.toInt = o32_x9.toInt from ⟨by omega, fun q9 => by exfalso; omega, by omega⟩))⟩, by rw [ht]; exact hP, va_K.moved hW.alike hK, hD⟩, hS.F ht⟩) hS.2.2 dX12_readClause_260
                  · have ic273 : o247_x15.toInt = 0 := zi_nef rfl rfl c273
                    refine lv_aload_n hx hb dX12_readClause_228 rfl (lv_at hl 4 rfl) ?_
                    refine lv_ldc2 (own := RX12) (v := 294) hx hb hown (hts (.constantLong RX12 417 (294)) wa_1028) dX12_readClause_229 ?_
                    refine pz_calli (va_runV (As := [.long 294]) (rest := []) ⟨hx, hb, hml, hown, hts⟩ (t_X12_isWord l dC dI _ κ τ ν ρ L f266 hG hT h0 (294) ht_h0) (cwV 1 hts gX12_readClause_X12_isWord rfl rfl rfl ⟨rfl, pd_X12_isWord⟩ ⟨Nat.le_of_ble_eq_true rfl, Nat.le_of_ble_eq_true rfl⟩) ⟨pz_blind, va_recv hK hP (ci := 12) (q0 := q272) rfl eq272, pz_pre hP hK hD hN⟩ rfl rfl hl.1 rfl (lv_room (Nat.le_of_ble_eq_true rfl)) dX12_readClause_232 ⟨Nat.le_of_ble_eq_true rfl, Nat.le_of_ble_eq_true rfl⟩) (fun r288 hw289 => ?_)
                    obtain ⟨hw289r, hw289p⟩ := hw289
                    have tk290 : (r288.toInt ≠ 0 → o247_x12.toInt = 1 ∧ o247_x13.toInt = (294)) := by have q9 := hw289p; simp only [hf_271, mo_i1, mo_l1] at q9; exact q9
                    refine lv_if_eq (tgt := 247) hx hb dX12_readClause_235 (by decide) (fun c291 => ?_) (fun c291 => ?_)
                    · have ic291 : r288.toInt = 0 := zi_eq rfl rfl c291
                      refine lv_aload_n hx hb dX12_readClause_247 rfl (lv_at hl 4 rfl) ?_
                      refine va_get (D := (dC, dI)) (ci := 12) (v := .ref (ρ h0 21)) (C := RX12) (T := TX12) (N := 53) hx hb hts hfX12 hown hK hP q272 eq272 rfl 21 (by decide) (hts (.fieldLink RX12 34 "ColdShipsModel" "nClause" "[I") wa_156) (fun _ h9 => h9) rfl dX12_readClause_248 ?_
                      refine lv_iload hx hb dX12_readClause_251 (lv_at hl 0 rfl) ?_
                      refine lv_iconst (v := 4) hx hb dX12_readClause_253 (by decide) ?_
                      refine lv_iadd hx hb dX12_readClause_254 ?_
                      refine lv_topi (fun z292 ez292 => ?_)
                      have iz292 : z292.toInt = z206.toInt + 4 := zi_add ez292 rfl rfl (by omega) (by omega)
                      refine lv_aload_n hx hb dX12_readClause_255 rfl (lv_at hl 4 rfl) ?_
                      refine va_get (D := (dC, dI)) (ci := 12) (v := .int o247_x22) (C := RX12) (T := TX12) (N := 53) hx hb hts hfX12 hown hK hP q272 eq272 rfl 22 (by decide) (hts (.fieldLink RX12 297 "ColdShipsModel" "nCode" "I") wa_989) (fun _ h9 => h9) rfl dX12_readClause_256 ?_
                      obtain ⟨q293, eq293⟩ := tp_pos (tp_in hG y7 (by decide)) g268
                      refine va_iast hx hb hK hP hD hS q293 0 eq293 rfl (vp_in_iff.mpr ⟨by omega, by omega⟩) dX12_readClause_259 (tp_k (.inl (κ 0, 60, .inl (upd g269 z292.toNatClampNeg o247_x22))) hD (tp_in hG y7 (by decide)) eq293 (fun f294 H locs hP hD hS g296 k295 => ?_))
                      have hT := hT.up y7 g296 k295 tp_o51
                      have hR := hR.up y7 (by decide) k295
                      have hU298 : mo_U (mo_R g269) (mo_R (upd g269 z292.toNatClampNeg o247_x22)) (5 * o195_x20.toInt + 4) (o247_x22.toInt) := mo_up (by omega) (rfl : o247_x22.toInt = _) (by omega)
                      generalize (upd g269 z292.toNatClampNeg o247_x22) = g297 at g296 hU298
                      have hf_299 : f294 h0 = .inr (12, [.int o247_x0, .int o247_x1, .ref (ρ h0 2), .ref (ρ h0 3), .ref (ρ h0 4), .ref (ρ h0 5), .ref (ρ h0 6), .int o247_x7, .ref (ρ h0 8), .int o247_x9, .int o247_x10, .int o247_x11, .int o247_x12, .long o247_x13, .int o247_x14, .int o247_x15, .int o247_x16, .int o247_x17, .int o247_x18, .int o247_x19, .int o247_x20, .ref (ρ h0 21), .int o247_x22, .ref (ρ h0 23), .ref (ρ h0 24), .int o247_x25, .ref (ρ h0 26), .ref (ρ h0 27), .int o247_x28, .int o247_x29, .ref (ρ h0 30), .ref (ρ h0 31), .int o247_x32, .long o247_x33, .long o247_x34, .long o247_x35, .int o247_x36, .int o247_x37, .int o247_x38, .ref (ρ h0 39), .ref (ρ h0 40), .ref (ρ h0 41), .ref (ρ h0 42), .ref (ρ h0 43), .ref (ρ h0 44), .ref (ρ h0 45), .ref (ρ h0 46), .int o247_x47, .int o247_x48, .ref (ρ h0 49), .ref (ρ h0 50), .ref (ρ h0 51), .ref (ρ h0 52)]) := (k295 _ (tp_ne ht_h0 y7 (by decide))).trans hf_271
                      have hf_300 : f257 (ρ h0 23) = .inl (κ 0, 400, .inl g249) := (k258 _ (tp_ne y8 y7 (by decide))).trans hf_o248
                      have hf_301 : f266 (ρ h0 23) = .inl (κ 0, 400, .inl g249) := (k267 _ (tp_ne y8 y7 (by decide))).trans hf_300
                      have hf_302 : f294 (ρ h0 23) = .inl (κ 0, 400, .inl g249) := (k295 _ (tp_ne y8 y7 (by decide))).trans hf_301
                      have hf_303 : f257 (ρ h0 24) = .inl (κ 0, 400, .inl g251) := (k258 _ (tp_ne y9 y7 (by decide))).trans hf_o250
                      have hf_304 : f266 (ρ h0 24) = .inl (κ 0, 400, .inl g251) := (k267 _ (tp_ne y9 y7 (by decide))).trans hf_303
                      have hf_305 : f294 (ρ h0 24) = .inl (κ 0, 400, .inl g251) := (k295 _ (tp_ne y9 y7 (by decide))).trans hf_304
                      exact W.vret hx hb hr (fun t ht hW => ⟨⟨f294, rfl, ⟨hT, hR, (by simp only [hf_299, g296, hf_302, hf_305, hf_o32, mo_i1, mo_l1]; exact (show (o247_x10.toInt ≤ o247_x11.toInt ∧ o247_x11.toInt ≤ o247_x9.toInt ∧ (o247_x12.toInt = 0 ∨ o247_x10.toInt < o247_x11.toInt) ∧ (o247_x12.toInt = 1 → o247_x11.toInt = o247_x10.toInt + 1 → o247_x13.toInt ≤ 26)) ∧ (o247_x15.toInt = 0 → o247_x22.toInt ≤ o247_x10.toInt ∧ o247_x20.toInt ≤ o247_x19.toInt ∧ mo_NC (mo_R g297) (mo_R g249) (mo_R g251) o247_x20.toInt o247_x22.toInt) ∧ o247_x9.toInt = o32_x9.toInt from ⟨by omega, fun q9 => ⟨by omega, by omega, h5.add (by omega) (by omega) hU221 hU230 hU261 hU270 hU298 ((tk252.2.2.1 (by omega)).2.2) ((tk252.2.2.1 (by omega)).2.1) (mo_W2.rf _ _ (by omega)) (by omega) (by omega) (by omega)⟩, by omega⟩))⟩, by rw [ht]; exact hP, va_K.moved hW.alike hK, hD⟩, hS.F ht⟩) hS.2.2 dX12_readClause_260
                    · have ic291 : r288.toInt ≠ 0 := zi_eqf rfl rfl c291
                      refine lv_aload_n hx hb dX12_readClause_238 rfl (lv_at hl 4 rfl) ?_
                      have hFc := tp_fr hD hS hA
                      refine va_callv (va_runV (As := []) (rest := []) ⟨hx, hb, hml, hown, hts⟩ (t_X12_next l dC dI _ κ τ ν ρ L f266 hG hT h0 ht_h0 (by simp only [hf_271, mo_i1, mo_l1]; exact (show o247_x11.toInt ≤ o247_x9.toInt from by first | omega | decide))) (cwV 0 hts gX12_readClause_X12_next rfl rfl rfl ⟨rfl, pd_X12_next⟩ ⟨Nat.le_of_ble_eq_true rfl, Nat.le_of_ble_eq_true rfl⟩) ⟨pz_blind, va_recv hK hP (ci := 12) (q0 := q272) rfl eq272, pz_pre hP hK hD hN⟩ rfl rfl hl.1 rfl (lv_room (Nat.le_of_ble_eq_true rfl)) dX12_readClause_239 ⟨Nat.le_of_ble_eq_true rfl, Nat.le_of_ble_eq_true rfl⟩) hS (fun q _ h => hFc q h) hFc (fun f308 t H1 locs ht hvm hw307 hB hz1 hk1 hS => ?_)
                      obtain ⟨hT, hF309, hw307p⟩ := hw307
                      have hR := hR.then hF309 (by decide)
                      have hP := hB.1; rw [ht] at hP; have hD := tp_ad f308 hD; clear hB hFc hz1 hk1; subst ht; generalize t.heap = H at hP hS ⊢
                      obtain ⟨o310_x0, o310_x1, o310_x7, o310_x9, o310_x10, o310_x11, o310_x12, o310_x13, o310_x14, o310_x15, o310_x16, o310_x17, o310_x18, o310_x19, o310_x20, o310_x22, o310_x25, o310_x28, o310_x29, o310_x32, o310_x33, o310_x34, o310_x35, o310_x36, o310_x37, o310_x38, o310_x47, o310_x48, hf_o310, ro310_0, ro310_1, ro310_2, ro310_3, ro310_4, ro310_5, ro310_6, ro310_7, ro310_8, ro310_9, ro310_10, ro310_11, ro310_12, ro310_13⟩ := tpo_13 hT ht_h0
                      have tk311 : (o310_x10.toInt ≤ o310_x11.toInt ∧ o310_x11.toInt ≤ o310_x9.toInt ∧ (o310_x12.toInt = 0 ∨ o310_x10.toInt < o310_x11.toInt) ∧ (o310_x12.toInt = 1 → o310_x11.toInt = o310_x10.toInt + 1 → o310_x13.toInt ≤ 26)) ∧ o247_x11.toInt ≤ o310_x10.toInt ∧ o310_x9.toInt = o247_x9.toInt ∧ o310_x15.toInt = o247_x15.toInt ∧ o310_x19.toInt = o247_x19.toInt ∧ o310_x20.toInt = o247_x20.toInt ∧ o310_x22.toInt = o247_x22.toInt ∧ o310_x28.toInt = o247_x28.toInt := by have q9 := hw307p; simp only [hf_o310, hf_271, mo_i1, mo_l1] at q9; exact q9
                      refine lv_aload_n hx hb dX12_readClause_242 rfl (lv_at hl 4 rfl) ?_
                      refine lv_iconst (v := 1) hx hb dX12_readClause_243 (by decide) ?_
                      have hf_312 : f257 (ρ h0 23) = .inl (κ 0, 400, .inl g249) := (k258 _ (tp_ne y8 y7 (by decide))).trans hf_o248
                      have hf_313 : f266 (ρ h0 23) = .inl (κ 0, 400, .inl g249) := (k267 _ (tp_ne y8 y7 (by decide))).trans hf_312
                      have hf_314 : f308 (ρ h0 23) = .inl (κ 0, 400, .inl g249) := (hF309 _ (by rw [y8]; decide)).trans hf_313
                      have hf_315 : f257 (ρ h0 24) = .inl (κ 0, 400, .inl g251) := (k258 _ (tp_ne y9 y7 (by decide))).trans hf_o250
                      have hf_316 : f266 (ρ h0 24) = .inl (κ 0, 400, .inl g251) := (k267 _ (tp_ne y9 y7 (by decide))).trans hf_315
                      have hf_317 : f308 (ρ h0 24) = .inl (κ 0, 400, .inl g251) := (hF309 _ (by rw [y9]; decide)).trans hf_316
                      obtain ⟨q318, eq318⟩ := tp_pos (tp_in hG ht_h0 (by decide)) hf_o310
                      have hFc := tp_fr hD hS hA
                      refine va_callv (va_runV (As := [.int 1]) (rest := []) ⟨hx, hb, hml, hown, hts⟩ (t_X12_readExpression l dC dI _ κ τ ν ρ L f308 hG hT h0 (1) ht_h0 (by first | decide | omega) (by simp only [hf_o310, mo_i1, mo_l1]; exact (show (o310_x10.toInt ≤ o310_x11.toInt ∧ o310_x11.toInt ≤ o310_x9.toInt ∧ (o310_x12.toInt = 0 ∨ o310_x10.toInt < o310_x11.toInt) ∧ (o310_x12.toInt = 1 → o310_x11.toInt = o310_x10.toInt + 1 → o310_x13.toInt ≤ 26)) from by have : (1 : Int32).toInt = 1 := rfl; first | omega | decide)) (by simp only [hf_o310, mo_i1, mo_l1]; exact (show o310_x15.toInt = 0 from by have : (1 : Int32).toInt = 1 := rfl; first | omega | decide)) (by simp only [hf_o310, mo_i1, mo_l1]; exact (show o310_x22.toInt ≤ o310_x10.toInt from by have : (1 : Int32).toInt = 1 := rfl; first | omega | decide))) (cwV 1 hts gX12_readClause_X12_readExpression rfl rfl rfl ⟨rfl, pd_X12_readExpression⟩ ⟨Nat.le_of_ble_eq_true rfl, Nat.le_of_ble_eq_true rfl⟩) ⟨pz_blind, va_recv hK hP (ci := 12) (q0 := q318) rfl eq318, pz_pre hP hK hD hN⟩ rfl rfl hl.1 rfl (lv_room (Nat.le_of_ble_eq_true rfl)) dX12_readClause_244 ⟨Nat.le_of_ble_eq_true rfl, Nat.le_of_ble_eq_true rfl⟩) hS (fun q _ h => hFc q h) hFc (fun f321 t H1 locs ht hvm hw320 hB hz1 hk1 hS => ?_)
                      obtain ⟨hT, hF322, hw320p⟩ := hw320
                      have hR := hR.then hF322 (by decide)
                      have hP := hB.1; rw [ht] at hP; have hD := tp_ad f321 hD; clear hB hFc hz1 hk1; subst ht; generalize t.heap = H at hP hS ⊢
                      obtain ⟨o323_x0, o323_x1, o323_x7, o323_x9, o323_x10, o323_x11, o323_x12, o323_x13, o323_x14, o323_x15, o323_x16, o323_x17, o323_x18, o323_x19, o323_x20, o323_x22, o323_x25, o323_x28, o323_x29, o323_x32, o323_x33, o323_x34, o323_x35, o323_x36, o323_x37, o323_x38, o323_x47, o323_x48, hf_o323, ro323_0, ro323_1, ro323_2, ro323_3, ro323_4, ro323_5, ro323_6, ro323_7, ro323_8, ro323_9, ro323_10, ro323_11, ro323_12, ro323_13⟩ := tpo_13 hT ht_h0
                      obtain ⟨g325, hf_o324⟩ := tpo_53 hT y8
                      obtain ⟨g327, hf_o326⟩ := tpo_54 hT y9
                      have tk328 : (o323_x10.toInt ≤ o323_x11.toInt ∧ o323_x11.toInt ≤ o323_x9.toInt ∧ (o323_x12.toInt = 0 ∨ o323_x10.toInt < o323_x11.toInt) ∧ (o323_x12.toInt = 1 → o323_x11.toInt = o323_x10.toInt + 1 → o323_x13.toInt ≤ 26)) ∧ o310_x22.toInt ≤ o323_x22.toInt ∧ (o323_x15.toInt = 0 → o323_x22.toInt ≤ o323_x10.toInt ∧ mo_W2 (mo_R g325) (mo_R g327) o310_x22.toInt o323_x22.toInt ∧ mo_FR o310_x22.toInt (mo_R g249) (mo_R g251) (mo_R g325) (mo_R g327)) ∧ o323_x9.toInt = o310_x9.toInt ∧ o323_x19.toInt = o310_x19.toInt ∧ o323_x20.toInt = o310_x20.toInt := by have q9 := hw320p; simp only [hf_o323, hf_o310, hf_o324, hf_o326, hf_314, hf_317, mo_i1, mo_l1] at q9; exact q9
                      refine lv_aload_n hx hb dX12_readClause_247 rfl (lv_at hl 4 rfl) ?_
                      obtain ⟨q329, eq329⟩ := tp_pos (tp_in hG ht_h0 (by decide)) hf_o323
                      refine va_get (D := (dC, dI)) (ci := 12) (v := .ref (ρ h0 21)) (C := RX12) (T := TX12) (N := 53) hx hb hts hfX12 hown hK hP q329 eq329 rfl 21 (by decide) (hts (.fieldLink RX12 34 "ColdShipsModel" "nClause" "[I") wa_156) (fun _ h9 => h9) rfl dX12_readClause_248 ?_
                      refine lv_iload hx hb dX12_readClause_251 (lv_at hl 0 rfl) ?_
                      refine lv_iconst (v := 4) hx hb dX12_readClause_253 (by decide) ?_
                      refine lv_iadd hx hb dX12_readClause_254 ?_
                      refine lv_topi (fun z330 ez330 => ?_)
                      have iz330 : z330.toInt = z206.toInt + 4 := zi_add ez330 rfl rfl (by omega) (by omega)
                      refine lv_aload_n hx hb dX12_readClause_255 rfl (lv_at hl 4 rfl) ?_
                      refine va_get (D := (dC, dI)) (ci := 12) (v := .int o323_x22) (C := RX12) (T := TX12) (N := 53) hx hb hts hfX12 hown hK hP q329 eq329 rfl 22 (by decide) (hts (.fieldLink RX12 297 "ColdShipsModel" "nCode" "I") wa_989) (fun _ h9 => h9) rfl dX12_readClause_256 ?_
                      have hf_331 : f308 (ρ h0 21) = .inl (κ 0, 60, .inl g269) := (hF309 _ (by rw [y7]; decide)).trans g268
                      have hf_332 : f321 (ρ h0 21) = .inl (κ 0, 60, .inl g269) := (hF322 _ (by rw [y7]; decide)).trans hf_331
                      obtain ⟨q333, eq333⟩ := tp_pos (tp_in hG y7 (by decide)) hf_332
                      refine va_iast hx hb hK hP hD hS q333 0 eq333 rfl (vp_in_iff.mpr ⟨by omega, by omega⟩) dX12_readClause_259 (tp_k (.inl (κ 0, 60, .inl (upd g269 z330.toNatClampNeg o323_x22))) hD (tp_in hG y7 (by decide)) eq333 (fun f334 H locs hP hD hS g336 k335 => ?_))
                      have hT := hT.up y7 g336 k335 tp_o51
                      have hR := hR.up y7 (by decide) k335
                      have hU338 : mo_U (mo_R g269) (mo_R (upd g269 z330.toNatClampNeg o323_x22)) (5 * o195_x20.toInt + 4) (o323_x22.toInt) := mo_up (by omega) (rfl : o323_x22.toInt = _) (by omega)
                      generalize (upd g269 z330.toNatClampNeg o323_x22) = g337 at g336 hU338
                      have hf_339 : f334 h0 = .inr (12, [.int o323_x0, .int o323_x1, .ref (ρ h0 2), .ref (ρ h0 3), .ref (ρ h0 4), .ref (ρ h0 5), .ref (ρ h0 6), .int o323_x7, .ref (ρ h0 8), .int o323_x9, .int o323_x10, .int o323_x11, .int o323_x12, .long o323_x13, .int o323_x14, .int o323_x15, .int o323_x16, .int o323_x17, .int o323_x18, .int o323_x19, .int o323_x20, .ref (ρ h0 21), .int o323_x22, .ref (ρ h0 23), .ref (ρ h0 24), .int o323_x25, .ref (ρ h0 26), .ref (ρ h0 27), .int o323_x28, .int o323_x29, .ref (ρ h0 30), .ref (ρ h0 31), .int o323_x32, .long o323_x33, .long o323_x34, .long o323_x35, .int o323_x36, .int o323_x37, .int o323_x38, .ref (ρ h0 39), .ref (ρ h0 40), .ref (ρ h0 41), .ref (ρ h0 42), .ref (ρ h0 43), .ref (ρ h0 44), .ref (ρ h0 45), .ref (ρ h0 46), .int o323_x47, .int o323_x48, .ref (ρ h0 49), .ref (ρ h0 50), .ref (ρ h0 51), .ref (ρ h0 52)]) := (k335 _ (tp_ne ht_h0 y7 (by decide))).trans hf_o323
                      have hf_340 : f334 (ρ h0 23) = .inl (κ 0, 400, .inl g325) := (k335 _ (tp_ne y8 y7 (by decide))).trans hf_o324
                      have hf_341 : f334 (ρ h0 24) = .inl (κ 0, 400, .inl g327) := (k335 _ (tp_ne y9 y7 (by decide))).trans hf_o326
                      exact W.vret hx hb hr (fun t ht hW => ⟨⟨f334, rfl, ⟨hT, hR, (by simp only [hf_339, g336, hf_340, hf_341, hf_o32, mo_i1, mo_l1]; exact (show (o323_x10.toInt ≤ o323_x11.toInt ∧ o323_x11.toInt ≤ o323_x9.toInt ∧ (o323_x12.toInt = 0 ∨ o323_x10.toInt < o323_x11.toInt) ∧ (o323_x12.toInt = 1 → o323_x11.toInt = o323_x10.toInt + 1 → o323_x13.toInt ≤ 26)) ∧ (o323_x15.toInt = 0 → o323_x22.toInt ≤ o323_x10.toInt ∧ o323_x20.toInt ≤ o323_x19.toInt ∧ mo_NC (mo_R g337) (mo_R g325) (mo_R g327) o323_x20.toInt o323_x22.toInt) ∧ o323_x9.toInt = o32_x9.toInt from ⟨by omega, fun q9 => ⟨by omega, by omega, h5.add (by omega) (by omega) hU221 hU230 hU261 hU270 hU338 (((tk252.2.2.1 (by omega)).2.2).then (fun k k0 k1 => (tk328.2.2.1 q9).2.2 k k0 (by omega))) (((tk252.2.2.1 (by omega)).2.1.same (fun i i0 i1 => (tk328.2.2.1 q9).2.2 i (by omega) (by omega)))) ((by have q8 := (tk328.2.2.1 q9).2.1; rw [show o310_x22.toInt = o247_x22.toInt by omega] at q8; exact q8)) (by omega) (by omega) (by omega)⟩, by omega⟩))⟩, by rw [ht]; exact hP, va_K.moved hW.alike hK, hD⟩, hS.F ht⟩) hS.2.2 dX12_readClause_260
              · have ic204 : r37.toInt ≠ 0 := zi_eqf rfl rfl c204
                exfalso; omega
            · have ic203 : r34.toInt ≠ 0 := zi_eqf rfl rfl c203
              exfalso; omega
          · have ic198 : o195_x15.toInt ≠ 0 := zi_eqf rfl rfl c198
            have hf_342 : f193 (ρ h0 21) = .inl (κ 0, 60, .inl g27) := (hF194 _ (by rw [y7]; decide)).trans hf_o26
            have hf_343 : f193 (ρ h0 23) = .inl (κ 0, 400, .inl g29) := (hF194 _ (by rw [y8]; decide)).trans hf_o28
            have hf_344 : f193 (ρ h0 24) = .inl (κ 0, 400, .inl g31) := (hF194 _ (by rw [y9]; decide)).trans hf_o30
            exact W.vret hx hb hr (fun t ht hW => ⟨⟨f193, rfl, ⟨hT, hR, (by simp only [hf_o195, hf_342, hf_343, hf_344, hf_o32, mo_i1, mo_l1]; exact (show (o195_x10.toInt ≤ o195_x11.toInt ∧ o195_x11.toInt ≤ o195_x9.toInt ∧ (o195_x12.toInt = 0 ∨ o195_x10.toInt < o195_x11.toInt) ∧ (o195_x12.toInt = 1 → o195_x11.toInt = o195_x10.toInt + 1 → o195_x13.toInt ≤ 26)) ∧ (o195_x15.toInt = 0 → o195_x22.toInt ≤ o195_x10.toInt ∧ o195_x20.toInt ≤ o195_x19.toInt ∧ mo_NC (mo_R g27) (mo_R g29) (mo_R g31) o195_x20.toInt o195_x22.toInt) ∧ o195_x9.toInt = o32_x9.toInt from ⟨by omega, fun q9 => by exfalso; omega, by omega⟩))⟩, by rw [ht]; exact hP, va_K.moved hW.alike hK, hD⟩, hS.F ht⟩) hS.2.2 dX12_readClause_71
      · have ic178 : r40.toInt = 0 := zi_nef rfl rfl c178
        refine lv_aload_n hx hb dX12_readClause_37 rfl (lv_at hl 3 rfl) ?_
        refine lv_ldc2 (own := RX12) (v := 206277) hx hb hown (hts (.constantLong RX12 389 (206277)) wa_1025) dX12_readClause_38 ?_
        refine pz_calli (va_runV (As := [.long 206277]) (rest := [.ref h0]) ⟨hx, hb, hml, hown, hts⟩ (t_X12_isWord l dC dI _ κ τ ν ρ L f hG hT h0 (206277) ht_h0) (cwV 1 hts gX12_readClause_X12_isWord rfl rfl rfl ⟨rfl, pd_X12_isWord⟩ ⟨Nat.le_of_ble_eq_true rfl, Nat.le_of_ble_eq_true rfl⟩) ⟨pz_blind, va_recv hK hP (ci := 12) (q0 := q33) rfl eq33, pz_pre hP hK hD hN⟩ rfl rfl hl.1 rfl (lv_room (Nat.le_of_ble_eq_true rfl)) dX12_readClause_41 ⟨Nat.le_of_ble_eq_true rfl, Nat.le_of_ble_eq_true rfl⟩) (fun r345 hw346 => ?_)
        obtain ⟨hw346r, hw346p⟩ := hw346
        have tk347 : (r345.toInt ≠ 0 → o32_x12.toInt = 1 ∧ o32_x13.toInt = (206277)) := by have q9 := hw346p; simp only [hf_o32, mo_i1, mo_l1] at q9; exact q9
        refine lv_if_eq (tgt := 60) hx hb dX12_readClause_44 (by decide) (fun c348 => ?_) (fun c348 => ?_)
        · have ic348 : r345.toInt = 0 := zi_eq rfl rfl c348
          refine lv_iconst (v := 0) hx hb dX12_readClause_60 (by decide) ?_
          have hFc := tp_fr hD hS hA
          refine va_callv (va_runV (As := [.int 0]) (rest := []) ⟨hx, hb, hml, hown, hts⟩ (t_X12_must l dC dI _ κ τ ν ρ L f hG hT h0 (0) ht_h0 (by first | decide | omega) (by simp only [hf_o32, mo_i1, mo_l1]; exact (show (o32_x10.toInt ≤ o32_x11.toInt ∧ o32_x11.toInt ≤ o32_x9.toInt ∧ (o32_x12.toInt = 0 ∨ o32_x10.toInt < o32_x11.toInt) ∧ (o32_x12.toInt = 1 → o32_x11.toInt = o32_x10.toInt + 1 → o32_x13.toInt ≤ 26)) from by have : (0 : Int32).toInt = 0 := rfl; first | omega | decide))) (cwV 1 hts gX12_readClause_X12_must rfl rfl rfl ⟨rfl, pd_X12_must⟩ ⟨Nat.le_of_ble_eq_true rfl, Nat.le_of_ble_eq_true rfl⟩) ⟨pz_blind, va_recv hK hP (ci := 12) (q0 := q33) rfl eq33, pz_pre hP hK hD hN⟩ rfl rfl hl.1 rfl (lv_room (Nat.le_of_ble_eq_true rfl)) dX12_readClause_61 ⟨Nat.le_of_ble_eq_true rfl, Nat.le_of_ble_eq_true rfl⟩) hS (fun q _ h => hFc q h) hFc (fun f351 t H1 locs ht hvm hw350 hB hz1 hk1 hS => ?_)
          obtain ⟨hT, hF352, hw350p⟩ := hw350
          have hR := hR.then hF352 (by decide)
          have hP := hB.1; rw [ht] at hP; have hD := tp_ad f351 hD; clear hB hFc hz1 hk1; subst ht; generalize t.heap = H at hP hS ⊢
          obtain ⟨o353_x0, o353_x1, o353_x7, o353_x9, o353_x10, o353_x11, o353_x12, o353_x13, o353_x14, o353_x15, o353_x16, o353_x17, o353_x18, o353_x19, o353_x20, o353_x22, o353_x25, o353_x28, o353_x29, o353_x32, o353_x33, o353_x34, o353_x35, o353_x36, o353_x37, o353_x38, o353_x47, o353_x48, hf_o353, ro353_0, ro353_1, ro353_2, ro353_3, ro353_4, ro353_5, ro353_6, ro353_7, ro353_8, ro353_9, ro353_10, ro353_11, ro353_12, ro353_13⟩ := tpo_13 hT ht_h0
          have tk354 : (o353_x10.toInt ≤ o353_x11.toInt ∧ o353_x11.toInt ≤ o353_x9.toInt ∧ (o353_x12.toInt = 0 ∨ o353_x10.toInt < o353_x11.toInt) ∧ (o353_x12.toInt = 1 → o353_x11.toInt = o353_x10.toInt + 1 → o353_x13.toInt ≤ 26)) ∧ (o353_x15.toInt = 0 → o32_x15.toInt = 0 ∧ o32_x11.toInt ≤ o353_x10.toInt ∧ (0) ≠ 0) ∧ (o353_x15.toInt ≠ 0 → o353_x10.toInt = o32_x10.toInt) ∧ o353_x9.toInt = o32_x9.toInt ∧ o353_x19.toInt = o32_x19.toInt ∧ o353_x20.toInt = o32_x20.toInt ∧ o353_x22.toInt = o32_x22.toInt ∧ o353_x28.toInt = o32_x28.toInt := by have q9 := hw350p; simp only [hf_o353, hf_o32, mo_i1, mo_l1] at q9; exact q9
          refine lv_aload_n hx hb dX12_readClause_64 rfl (lv_at hl 3 rfl) ?_
          obtain ⟨q355, eq355⟩ := tp_pos (tp_in hG ht_h0 (by decide)) hf_o353
          refine va_get (D := (dC, dI)) (ci := 12) (v := .int o353_x15) (C := RX12) (T := TX12) (N := 53) hx hb hts hfX12 hown hK hP q355 eq355 rfl 15 (by decide) (hts (.fieldLink RX12 261 "ColdShipsModel" "bad" "Z") wa_994) (fun _ h9 => h9) rfl dX12_readClause_65 ?_
          refine lv_if_eq (tgt := 72) hx hb dX12_readClause_68 (by decide) (fun c356 => ?_) (fun c356 => ?_)
          · have ic356 : o353_x15.toInt = 0 := zi_eq rfl rfl c356
            exfalso; omega
          · have ic356 : o353_x15.toInt ≠ 0 := zi_eqf rfl rfl c356
            have hf_357 : f351 (ρ h0 21) = .inl (κ 0, 60, .inl g27) := (hF352 _ (by rw [y7]; decide)).trans hf_o26
            have hf_358 : f351 (ρ h0 23) = .inl (κ 0, 400, .inl g29) := (hF352 _ (by rw [y8]; decide)).trans hf_o28
            have hf_359 : f351 (ρ h0 24) = .inl (κ 0, 400, .inl g31) := (hF352 _ (by rw [y9]; decide)).trans hf_o30
            exact W.vret hx hb hr (fun t ht hW => ⟨⟨f351, rfl, ⟨hT, hR, (by simp only [hf_o353, hf_357, hf_358, hf_359, hf_o32, mo_i1, mo_l1]; exact (show (o353_x10.toInt ≤ o353_x11.toInt ∧ o353_x11.toInt ≤ o353_x9.toInt ∧ (o353_x12.toInt = 0 ∨ o353_x10.toInt < o353_x11.toInt) ∧ (o353_x12.toInt = 1 → o353_x11.toInt = o353_x10.toInt + 1 → o353_x13.toInt ≤ 26)) ∧ (o353_x15.toInt = 0 → o353_x22.toInt ≤ o353_x10.toInt ∧ o353_x20.toInt ≤ o353_x19.toInt ∧ mo_NC (mo_R g27) (mo_R g29) (mo_R g31) o353_x20.toInt o353_x22.toInt) ∧ o353_x9.toInt = o32_x9.toInt from ⟨by omega, fun q9 => by exfalso; omega, by omega⟩))⟩, by rw [ht]; exact hP, va_K.moved hW.alike hK, hD⟩, hS.F ht⟩) hS.2.2 dX12_readClause_71
        · have ic348 : r345.toInt ≠ 0 := zi_eqf rfl rfl c348
          refine lv_aload_n hx hb dX12_readClause_47 rfl (lv_at hl 3 rfl) ?_
          refine va_get (D := (dC, dI)) (ci := 12) (v := .int o32_x19) (C := RX12) (T := TX12) (N := 53) hx hb hts hfX12 hown hK hP q33 eq33 rfl 19 (by decide) (hts (.fieldLink RX12 391 "ColdShipsModel" "nClauses" "I") wa_987) (fun _ h9 => h9) rfl dX12_readClause_48 ?_
          refine lv_bipush (v := 12) hx hb dX12_readClause_51 (by decide) ?_
          refine lv_icmp_ge (tgt := 60) hx hb dX12_readClause_53 (by decide) (fun c360 => ?_) (fun c360 => ?_)
          · have ic360 : o32_x19.toInt ≥ 12 := zi_ge rfl rfl c360
            refine lv_iconst (v := 0) hx hb dX12_readClause_60 (by decide) ?_
            have hFc := tp_fr hD hS hA
            refine va_callv (va_runV (As := [.int 0]) (rest := []) ⟨hx, hb, hml, hown, hts⟩ (t_X12_must l dC dI _ κ τ ν ρ L f hG hT h0 (0) ht_h0 (by first | decide | omega) (by simp only [hf_o32, mo_i1, mo_l1]; exact (show (o32_x10.toInt ≤ o32_x11.toInt ∧ o32_x11.toInt ≤ o32_x9.toInt ∧ (o32_x12.toInt = 0 ∨ o32_x10.toInt < o32_x11.toInt) ∧ (o32_x12.toInt = 1 → o32_x11.toInt = o32_x10.toInt + 1 → o32_x13.toInt ≤ 26)) from by have : (0 : Int32).toInt = 0 := rfl; first | omega | decide))) (cwV 1 hts gX12_readClause_X12_must rfl rfl rfl ⟨rfl, pd_X12_must⟩ ⟨Nat.le_of_ble_eq_true rfl, Nat.le_of_ble_eq_true rfl⟩) ⟨pz_blind, va_recv hK hP (ci := 12) (q0 := q33) rfl eq33, pz_pre hP hK hD hN⟩ rfl rfl hl.1 rfl (lv_room (Nat.le_of_ble_eq_true rfl)) dX12_readClause_61 ⟨Nat.le_of_ble_eq_true rfl, Nat.le_of_ble_eq_true rfl⟩) hS (fun q _ h => hFc q h) hFc (fun f363 t H1 locs ht hvm hw362 hB hz1 hk1 hS => ?_)
            obtain ⟨hT, hF364, hw362p⟩ := hw362
            have hR := hR.then hF364 (by decide)
            have hP := hB.1; rw [ht] at hP; have hD := tp_ad f363 hD; clear hB hFc hz1 hk1; subst ht; generalize t.heap = H at hP hS ⊢
            obtain ⟨o365_x0, o365_x1, o365_x7, o365_x9, o365_x10, o365_x11, o365_x12, o365_x13, o365_x14, o365_x15, o365_x16, o365_x17, o365_x18, o365_x19, o365_x20, o365_x22, o365_x25, o365_x28, o365_x29, o365_x32, o365_x33, o365_x34, o365_x35, o365_x36, o365_x37, o365_x38, o365_x47, o365_x48, hf_o365, ro365_0, ro365_1, ro365_2, ro365_3, ro365_4, ro365_5, ro365_6, ro365_7, ro365_8, ro365_9, ro365_10, ro365_11, ro365_12, ro365_13⟩ := tpo_13 hT ht_h0
            have tk366 : (o365_x10.toInt ≤ o365_x11.toInt ∧ o365_x11.toInt ≤ o365_x9.toInt ∧ (o365_x12.toInt = 0 ∨ o365_x10.toInt < o365_x11.toInt) ∧ (o365_x12.toInt = 1 → o365_x11.toInt = o365_x10.toInt + 1 → o365_x13.toInt ≤ 26)) ∧ (o365_x15.toInt = 0 → o32_x15.toInt = 0 ∧ o32_x11.toInt ≤ o365_x10.toInt ∧ (0) ≠ 0) ∧ (o365_x15.toInt ≠ 0 → o365_x10.toInt = o32_x10.toInt) ∧ o365_x9.toInt = o32_x9.toInt ∧ o365_x19.toInt = o32_x19.toInt ∧ o365_x20.toInt = o32_x20.toInt ∧ o365_x22.toInt = o32_x22.toInt ∧ o365_x28.toInt = o32_x28.toInt := by have q9 := hw362p; simp only [hf_o365, hf_o32, mo_i1, mo_l1] at q9; exact q9
            refine lv_aload_n hx hb dX12_readClause_64 rfl (lv_at hl 3 rfl) ?_
            obtain ⟨q367, eq367⟩ := tp_pos (tp_in hG ht_h0 (by decide)) hf_o365
            refine va_get (D := (dC, dI)) (ci := 12) (v := .int o365_x15) (C := RX12) (T := TX12) (N := 53) hx hb hts hfX12 hown hK hP q367 eq367 rfl 15 (by decide) (hts (.fieldLink RX12 261 "ColdShipsModel" "bad" "Z") wa_994) (fun _ h9 => h9) rfl dX12_readClause_65 ?_
            refine lv_if_eq (tgt := 72) hx hb dX12_readClause_68 (by decide) (fun c368 => ?_) (fun c368 => ?_)
            · have ic368 : o365_x15.toInt = 0 := zi_eq rfl rfl c368
              exfalso; omega
            · have ic368 : o365_x15.toInt ≠ 0 := zi_eqf rfl rfl c368
              have hf_369 : f363 (ρ h0 21) = .inl (κ 0, 60, .inl g27) := (hF364 _ (by rw [y7]; decide)).trans hf_o26
              have hf_370 : f363 (ρ h0 23) = .inl (κ 0, 400, .inl g29) := (hF364 _ (by rw [y8]; decide)).trans hf_o28
              have hf_371 : f363 (ρ h0 24) = .inl (κ 0, 400, .inl g31) := (hF364 _ (by rw [y9]; decide)).trans hf_o30
              exact W.vret hx hb hr (fun t ht hW => ⟨⟨f363, rfl, ⟨hT, hR, (by simp only [hf_o365, hf_369, hf_370, hf_371, hf_o32, mo_i1, mo_l1]; exact (show (o365_x10.toInt ≤ o365_x11.toInt ∧ o365_x11.toInt ≤ o365_x9.toInt ∧ (o365_x12.toInt = 0 ∨ o365_x10.toInt < o365_x11.toInt) ∧ (o365_x12.toInt = 1 → o365_x11.toInt = o365_x10.toInt + 1 → o365_x13.toInt ≤ 26)) ∧ (o365_x15.toInt = 0 → o365_x22.toInt ≤ o365_x10.toInt ∧ o365_x20.toInt ≤ o365_x19.toInt ∧ mo_NC (mo_R g27) (mo_R g29) (mo_R g31) o365_x20.toInt o365_x22.toInt) ∧ o365_x9.toInt = o32_x9.toInt from ⟨by omega, fun q9 => by exfalso; omega, by omega⟩))⟩, by rw [ht]; exact hP, va_K.moved hW.alike hK, hD⟩, hS.F ht⟩) hS.2.2 dX12_readClause_71
          · have ic360 : o32_x19.toInt < 12 := zi_gef rfl rfl c360
            refine lv_iconst (v := 1) hx hb dX12_readClause_56 (by decide) ?_
            refine lv_goto (tgt := 61) hx hb dX12_readClause_57 (by decide) ?_
            have hFc := tp_fr hD hS hA
            refine va_callv (va_runV (As := [.int 1]) (rest := []) ⟨hx, hb, hml, hown, hts⟩ (t_X12_must l dC dI _ κ τ ν ρ L f hG hT h0 (1) ht_h0 (by first | decide | omega) (by simp only [hf_o32, mo_i1, mo_l1]; exact (show (o32_x10.toInt ≤ o32_x11.toInt ∧ o32_x11.toInt ≤ o32_x9.toInt ∧ (o32_x12.toInt = 0 ∨ o32_x10.toInt < o32_x11.toInt) ∧ (o32_x12.toInt = 1 → o32_x11.toInt = o32_x10.toInt + 1 → o32_x13.toInt ≤ 26)) from by have : (1 : Int32).toInt = 1 := rfl; first | omega | decide))) (cwV 1 hts gX12_readClause_X12_must rfl rfl rfl ⟨rfl, pd_X12_must⟩ ⟨Nat.le_of_ble_eq_true rfl, Nat.le_of_ble_eq_true rfl⟩) ⟨pz_blind, va_recv hK hP (ci := 12) (q0 := q33) rfl eq33, pz_pre hP hK hD hN⟩ rfl rfl hl.1 rfl (lv_room (Nat.le_of_ble_eq_true rfl)) dX12_readClause_61 ⟨Nat.le_of_ble_eq_true rfl, Nat.le_of_ble_eq_true rfl⟩) hS (fun q _ h => hFc q h) hFc (fun f374 t H1 locs ht hvm hw373 hB hz1 hk1 hS => ?_)
            obtain ⟨hT, hF375, hw373p⟩ := hw373
            have hR := hR.then hF375 (by decide)
            have hP := hB.1; rw [ht] at hP; have hD := tp_ad f374 hD; clear hB hFc hz1 hk1; subst ht; generalize t.heap = H at hP hS ⊢
            obtain ⟨o376_x0, o376_x1, o376_x7, o376_x9, o376_x10, o376_x11, o376_x12, o376_x13, o376_x14, o376_x15, o376_x16, o376_x17, o376_x18, o376_x19, o376_x20, o376_x22, o376_x25, o376_x28, o376_x29, o376_x32, o376_x33, o376_x34, o376_x35, o376_x36, o376_x37, o376_x38, o376_x47, o376_x48, hf_o376, ro376_0, ro376_1, ro376_2, ro376_3, ro376_4, ro376_5, ro376_6, ro376_7, ro376_8, ro376_9, ro376_10, ro376_11, ro376_12, ro376_13⟩ := tpo_13 hT ht_h0
            have tk377 : (o376_x10.toInt ≤ o376_x11.toInt ∧ o376_x11.toInt ≤ o376_x9.toInt ∧ (o376_x12.toInt = 0 ∨ o376_x10.toInt < o376_x11.toInt) ∧ (o376_x12.toInt = 1 → o376_x11.toInt = o376_x10.toInt + 1 → o376_x13.toInt ≤ 26)) ∧ (o376_x15.toInt = 0 → o32_x15.toInt = 0 ∧ o32_x11.toInt ≤ o376_x10.toInt ∧ (1) ≠ 0) ∧ (o376_x15.toInt ≠ 0 → o376_x10.toInt = o32_x10.toInt) ∧ o376_x9.toInt = o32_x9.toInt ∧ o376_x19.toInt = o32_x19.toInt ∧ o376_x20.toInt = o32_x20.toInt ∧ o376_x22.toInt = o32_x22.toInt ∧ o376_x28.toInt = o32_x28.toInt := by have q9 := hw373p; simp only [hf_o376, hf_o32, mo_i1, mo_l1] at q9; exact q9
            refine lv_aload_n hx hb dX12_readClause_64 rfl (lv_at hl 3 rfl) ?_
            obtain ⟨q378, eq378⟩ := tp_pos (tp_in hG ht_h0 (by decide)) hf_o376
            refine va_get (D := (dC, dI)) (ci := 12) (v := .int o376_x15) (C := RX12) (T := TX12) (N := 53) hx hb hts hfX12 hown hK hP q378 eq378 rfl 15 (by decide) (hts (.fieldLink RX12 261 "ColdShipsModel" "bad" "Z") wa_994) (fun _ h9 => h9) rfl dX12_readClause_65 ?_
            refine lv_if_eq (tgt := 72) hx hb dX12_readClause_68 (by decide) (fun c379 => ?_) (fun c379 => ?_)
            · have ic379 : o376_x15.toInt = 0 := zi_eq rfl rfl c379
              refine lv_aload_n hx hb dX12_readClause_72 rfl (lv_at hl 3 rfl) ?_
              refine lv_dup hx hb dX12_readClause_73 rfl ?_
              refine va_get (D := (dC, dI)) (ci := 12) (v := .int o376_x19) (C := RX12) (T := TX12) (N := 53) hx hb hts hfX12 hown hK hP q378 eq378 rfl 19 (by decide) (hts (.fieldLink RX12 391 "ColdShipsModel" "nClauses" "I") wa_987) (fun _ h9 => h9) rfl dX12_readClause_74 ?_
              refine lv_iconst (v := 1) hx hb dX12_readClause_77 (by decide) ?_
              refine lv_iadd hx hb dX12_readClause_78 ?_
              refine lv_topi (fun z380 ez380 => ?_)
              have iz380 : z380.toInt = o376_x19.toInt + 1 := zi_add ez380 rfl rfl (by omega) (by omega)
              refine va_put (D := (dC, dI)) (ci := 12) (v := .int z380) (ty := .int) (C := RX12) (T := TX12) (N := 53) hx hb hts hfX12 tyX12 tyX12_ok nmX12 hown hK hP hD hS q378 eq378 rfl 19 (by decide) (hts (.fieldLink RX12 391 "ColdShipsModel" "nClauses" "I") wa_987) (fun _ h9 => h9) rfl (tyX12_ok 19 (by decide)) rfl rfl (Nat.le_of_ble_eq_true rfl) dX12_readClause_79 (tp_k (.inr (12, [.int o376_x0, .int o376_x1, .ref (ρ h0 2), .ref (ρ h0 3), .ref (ρ h0 4), .ref (ρ h0 5), .ref (ρ h0 6), .int o376_x7, .ref (ρ h0 8), .int o376_x9, .int o376_x10, .int o376_x11, .int o376_x12, .long o376_x13, .int o376_x14, .int o376_x15, .int o376_x16, .int o376_x17, .int o376_x18, .int z380, .int o376_x20, .ref (ρ h0 21), .int o376_x22, .ref (ρ h0 23), .ref (ρ h0 24), .int o376_x25, .ref (ρ h0 26), .ref (ρ h0 27), .int o376_x28, .int o376_x29, .ref (ρ h0 30), .ref (ρ h0 31), .int o376_x32, .long o376_x33, .long o376_x34, .long o376_x35, .int o376_x36, .int o376_x37, .int o376_x38, .ref (ρ h0 39), .ref (ρ h0 40), .ref (ρ h0 41), .ref (ρ h0 42), .ref (ρ h0 43), .ref (ρ h0 44), .ref (ρ h0 45), .ref (ρ h0 46), .int o376_x47, .int o376_x48, .ref (ρ h0 49), .ref (ρ h0 50), .ref (ρ h0 51), .ref (ρ h0 52)])) hD (tp_in hG ht_h0 (by decide)) eq378 (fun f381 H locs hP hD hS g383 k382 => ?_))
              have hT := hT.up ht_h0 g383 k382 ⟨_, _, _, _, _, _, _, _, _, _, _, _, _, _, _, _, _, _, _, _, _, _, _, _, _, _, _, _, rfl, ro376_0, ro376_1, ro376_2, ro376_3, ro376_4, ro376_5, (by omega), ro376_7, ro376_8, ro376_9, ro376_10, ro376_11, ro376_12, ro376_13⟩
              have hR := hR.up ht_h0 (by decide) k382
              refine lv_iload_n hx hb dX12_readClause_82 rfl (lv_at hl 2 rfl) ?_
              refine lv_if_eq (tgt := 126) hx hb dX12_readClause_83 (by decide) (fun c384 => ?_) (fun c384 => ?_)
              · have ic384 : r34.toInt = 0 := zi_eq rfl rfl c384
                refine lv_iload_n hx hb dX12_readClause_126 rfl (lv_at hl 1 rfl) ?_
                refine lv_if_eq (tgt := 143) hx hb dX12_readClause_127 (by decide) (fun c385 => ?_) (fun c385 => ?_)
                · have ic385 : r37.toInt = 0 := zi_eq rfl rfl c385
                  have h5 : mo_NC (mo_R g27) (mo_R g29) (mo_R g31) o376_x20.toInt o376_x22.toInt := (by rw [show o376_x20.toInt = o32_x20.toInt by omega, show o376_x22.toInt = o32_x22.toInt by omega]; exact h5)
                  refine lv_iconst (v := 5) hx hb dX12_readClause_143 (by decide) ?_
                  refine lv_aload_n hx hb dX12_readClause_144 rfl (lv_at hl 3 rfl) ?_
                  obtain ⟨q386, eq386⟩ := tp_pos (tp_in hG ht_h0 (by decide)) g383
                  refine va_get (D := (dC, dI)) (ci := 12) (v := .int o376_x20) (C := RX12) (T := TX12) (N := 53) hx hb hts hfX12 hown hK hP q386 eq386 rfl 20 (by decide) (hts (.fieldLink RX12 411 "ColdShipsModel" "nPays" "I") wa_988) (fun _ h9 => h9) rfl dX12_readClause_145 ?_
                  refine lv_imul hx hb dX12_readClause_148 ?_
                  refine lv_topi (fun z387 ez387 => ?_)
                  have iz387 : z387.toInt = 5 * o376_x20.toInt := zi_mul ez387 rfl rfl (by omega) (by omega)
                  refine lv_istore (lv' := [(4, .int z387), (3, .int r40), (2, .int r37), (1, .int r34), (0, .ref h0)]) hx hb dX12_readClause_149 hl (by decide) rfl (fun ls hl => ?_)
                  refine lv_aload_n hx hb dX12_readClause_151 rfl (lv_at hl 4 rfl) ?_
                  refine lv_dup hx hb dX12_readClause_152 rfl ?_
                  refine va_get (D := (dC, dI)) (ci := 12) (v := .int o376_x20) (C := RX12) (T := TX12) (N := 53) hx hb hts hfX12 hown hK hP q386 eq386 rfl 20 (by decide) (hts (.fieldLink RX12 411 "ColdShipsModel" "nPays" "I") wa_988) (fun _ h9 => h9) rfl dX12_readClause_153 ?_
                  refine lv_iconst (v := 1) hx hb dX12_readClause_156 (by decide) ?_
                  refine lv_iadd hx hb dX12_readClause_157 ?_
                  refine lv_topi (fun z388 ez388 => ?_)
                  have iz388 : z388.toInt = o376_x20.toInt + 1 := zi_add ez388 rfl rfl (by omega) (by omega)
                  refine va_put (D := (dC, dI)) (ci := 12) (v := .int z388) (ty := .int) (C := RX12) (T := TX12) (N := 53) hx hb hts hfX12 tyX12 tyX12_ok nmX12 hown hK hP hD hS q386 eq386 rfl 20 (by decide) (hts (.fieldLink RX12 411 "ColdShipsModel" "nPays" "I") wa_988) (fun _ h9 => h9) rfl (tyX12_ok 20 (by decide)) rfl rfl (Nat.le_of_ble_eq_true rfl) dX12_readClause_158 (tp_k (.inr (12, [.int o376_x0, .int o376_x1, .ref (ρ h0 2), .ref (ρ h0 3), .ref (ρ h0 4), .ref (ρ h0 5), .ref (ρ h0 6), .int o376_x7, .ref (ρ h0 8), .int o376_x9, .int o376_x10, .int o376_x11, .int o376_x12, .long o376_x13, .int o376_x14, .int o376_x15, .int o376_x16, .int o376_x17, .int o376_x18, .int z380, .int z388, .ref (ρ h0 21), .int o376_x22, .ref (ρ h0 23), .ref (ρ h0 24), .int o376_x25, .ref (ρ h0 26), .ref (ρ h0 27), .int o376_x28, .int o376_x29, .ref (ρ h0 30), .ref (ρ h0 31), .int o376_x32, .long o376_x33, .long o376_x34, .long o376_x35, .int o376_x36, .int o376_x37, .int o376_x38, .ref (ρ h0 39), .ref (ρ h0 40), .ref (ρ h0 41), .ref (ρ h0 42), .ref (ρ h0 43), .ref (ρ h0 44), .ref (ρ h0 45), .ref (ρ h0 46), .int o376_x47, .int o376_x48, .ref (ρ h0 49), .ref (ρ h0 50), .ref (ρ h0 51), .ref (ρ h0 52)])) hD (tp_in hG ht_h0 (by decide)) eq386 (fun f389 H locs hP hD hS g391 k390 => ?_))
                  have hT := hT.up ht_h0 g391 k390 ⟨_, _, _, _, _, _, _, _, _, _, _, _, _, _, _, _, _, _, _, _, _, _, _, _, _, _, _, _, rfl, ro376_0, ro376_1, ro376_2, ro376_3, ro376_4, ro376_5, (by omega), (by omega), ro376_8, ro376_9, ro376_10, ro376_11, ro376_12, ro376_13⟩
                  have hR := hR.up ht_h0 (by decide) k390
                  refine lv_aload_n hx hb dX12_readClause_161 rfl (lv_at hl 4 rfl) ?_
                  obtain ⟨q392, eq392⟩ := tp_pos (tp_in hG ht_h0 (by decide)) g391
                  refine va_get (D := (dC, dI)) (ci := 12) (v := .ref (ρ h0 21)) (C := RX12) (T := TX12) (N := 53) hx hb hts hfX12 hown hK hP q392 eq392 rfl 21 (by decide) (hts (.fieldLink RX12 34 "ColdShipsModel" "nClause" "[I") wa_156) (fun _ h9 => h9) rfl dX12_readClause_162 ?_
                  refine lv_iload hx hb dX12_readClause_165 (lv_at hl 0 rfl) ?_
                  refine lv_iload_n hx hb dX12_readClause_167 rfl (lv_at hl 1 rfl) ?_
                  refine lv_if_eq (tgt := 175) hx hb dX12_readClause_168 (by decide) (fun c393 => ?_) (fun c393 => ?_)
                  · have ic393 : r40.toInt = 0 := zi_eq rfl rfl c393
                    refine lv_iconst (v := 1) hx hb dX12_readClause_175 (by decide) ?_
                    have hf_394 : f374 (ρ h0 21) = .inl (κ 0, 60, .inl g27) := (hF375 _ (by rw [y7]; decide)).trans hf_o26
                    have hf_395 : f381 (ρ h0 21) = .inl (κ 0, 60, .inl g27) := (k382 _ (tp_ne y7 ht_h0 (by decide))).trans hf_394
                    have hf_396 : f389 (ρ h0 21) = .inl (κ 0, 60, .inl g27) := (k390 _ (tp_ne y7 ht_h0 (by decide))).trans hf_395
                    obtain ⟨q397, eq397⟩ := tp_pos (tp_in hG y7 (by decide)) hf_396
                    refine va_iast hx hb hK hP hD hS q397 0 eq397 rfl (vp_in_iff.mpr ⟨by omega, by omega⟩) dX12_readClause_176 (tp_k (.inl (κ 0, 60, .inl (upd g27 z387.toNatClampNeg (1 : Int32)))) hD (tp_in hG y7 (by decide)) eq397 (fun f398 H locs hP hD hS g400 k399 => ?_))
                    have hT := hT.up y7 g400 k399 tp_o51
                    have hR := hR.up y7 (by decide) k399
                    have hU402 : mo_U (mo_R g27) (mo_R (upd g27 z387.toNatClampNeg (1 : Int32))) (5 * o376_x20.toInt) (1) := mo_up (by omega) (show (1 : Int32).toInt = 1 from rfl) (by omega)
                    generalize (upd g27 z387.toNatClampNeg (1 : Int32)) = g401 at g400 hU402
                    refine lv_aload_n hx hb dX12_readClause_177 rfl (lv_at hl 4 rfl) ?_
                    have hf_403 : f398 h0 = .inr (12, [.int o376_x0, .int o376_x1, .ref (ρ h0 2), .ref (ρ h0 3), .ref (ρ h0 4), .ref (ρ h0 5), .ref (ρ h0 6), .int o376_x7, .ref (ρ h0 8), .int o376_x9, .int o376_x10, .int o376_x11, .int o376_x12, .long o376_x13, .int o376_x14, .int o376_x15, .int o376_x16, .int o376_x17, .int o376_x18, .int z380, .int z388, .ref (ρ h0 21), .int o376_x22, .ref (ρ h0 23), .ref (ρ h0 24), .int o376_x25, .ref (ρ h0 26), .ref (ρ h0 27), .int o376_x28, .int o376_x29, .ref (ρ h0 30), .ref (ρ h0 31), .int o376_x32, .long o376_x33, .long o376_x34, .long o376_x35, .int o376_x36, .int o376_x37, .int o376_x38, .ref (ρ h0 39), .ref (ρ h0 40), .ref (ρ h0 41), .ref (ρ h0 42), .ref (ρ h0 43), .ref (ρ h0 44), .ref (ρ h0 45), .ref (ρ h0 46), .int o376_x47, .int o376_x48, .ref (ρ h0 49), .ref (ρ h0 50), .ref (ρ h0 51), .ref (ρ h0 52)]) := (k399 _ (tp_ne ht_h0 y7 (by decide))).trans g391
                    obtain ⟨q404, eq404⟩ := tp_pos (tp_in hG ht_h0 (by decide)) hf_403
                    refine va_get (D := (dC, dI)) (ci := 12) (v := .ref (ρ h0 21)) (C := RX12) (T := TX12) (N := 53) hx hb hts hfX12 hown hK hP q404 eq404 rfl 21 (by decide) (hts (.fieldLink RX12 34 "ColdShipsModel" "nClause" "[I") wa_156) (fun _ h9 => h9) rfl dX12_readClause_178 ?_
                    refine lv_iload hx hb dX12_readClause_181 (lv_at hl 0 rfl) ?_
                    refine lv_iconst (v := 1) hx hb dX12_readClause_183 (by decide) ?_
                    refine lv_iadd hx hb dX12_readClause_184 ?_
                    refine lv_topi (fun z405 ez405 => ?_)
                    have iz405 : z405.toInt = z387.toInt + 1 := zi_add ez405 rfl rfl (by omega) (by omega)
                    refine lv_aload_n hx hb dX12_readClause_185 rfl (lv_at hl 4 rfl) ?_
                    refine va_get (D := (dC, dI)) (ci := 12) (v := .int o376_x22) (C := RX12) (T := TX12) (N := 53) hx hb hts hfX12 hown hK hP q404 eq404 rfl 22 (by decide) (hts (.fieldLink RX12 297 "ColdShipsModel" "nCode" "I") wa_989) (fun _ h9 => h9) rfl dX12_readClause_186 ?_
                    obtain ⟨q406, eq406⟩ := tp_pos (tp_in hG y7 (by decide)) g400
                    refine va_iast hx hb hK hP hD hS q406 0 eq406 rfl (vp_in_iff.mpr ⟨by omega, by omega⟩) dX12_readClause_189 (tp_k (.inl (κ 0, 60, .inl (upd g401 z405.toNatClampNeg o376_x22))) hD (tp_in hG y7 (by decide)) eq406 (fun f407 H locs hP hD hS g409 k408 => ?_))
                    have hT := hT.up y7 g409 k408 tp_o51
                    have hR := hR.up y7 (by decide) k408
                    have hU411 : mo_U (mo_R g401) (mo_R (upd g401 z405.toNatClampNeg o376_x22)) (5 * o376_x20.toInt + 1) (o376_x22.toInt) := mo_up (by omega) (rfl : o376_x22.toInt = _) (by omega)
                    generalize (upd g401 z405.toNatClampNeg o376_x22) = g410 at g409 hU411
                    refine lv_aload_n hx hb dX12_readClause_190 rfl (lv_at hl 4 rfl) ?_
                    refine lv_iconst (v := 0) hx hb dX12_readClause_191 (by decide) ?_
                    have hf_412 : f407 h0 = .inr (12, [.int o376_x0, .int o376_x1, .ref (ρ h0 2), .ref (ρ h0 3), .ref (ρ h0 4), .ref (ρ h0 5), .ref (ρ h0 6), .int o376_x7, .ref (ρ h0 8), .int o376_x9, .int o376_x10, .int o376_x11, .int o376_x12, .long o376_x13, .int o376_x14, .int o376_x15, .int o376_x16, .int o376_x17, .int o376_x18, .int z380, .int z388, .ref (ρ h0 21), .int o376_x22, .ref (ρ h0 23), .ref (ρ h0 24), .int o376_x25, .ref (ρ h0 26), .ref (ρ h0 27), .int o376_x28, .int o376_x29, .ref (ρ h0 30), .ref (ρ h0 31), .int o376_x32, .long o376_x33, .long o376_x34, .long o376_x35, .int o376_x36, .int o376_x37, .int o376_x38, .ref (ρ h0 39), .ref (ρ h0 40), .ref (ρ h0 41), .ref (ρ h0 42), .ref (ρ h0 43), .ref (ρ h0 44), .ref (ρ h0 45), .ref (ρ h0 46), .int o376_x47, .int o376_x48, .ref (ρ h0 49), .ref (ρ h0 50), .ref (ρ h0 51), .ref (ρ h0 52)]) := (k408 _ (tp_ne ht_h0 y7 (by decide))).trans hf_403
                    have hf_413 : f374 (ρ h0 23) = .inl (κ 0, 400, .inl g29) := (hF375 _ (by rw [y8]; decide)).trans hf_o28
                    have hf_414 : f381 (ρ h0 23) = .inl (κ 0, 400, .inl g29) := (k382 _ (tp_ne y8 ht_h0 (by decide))).trans hf_413
                    have hf_415 : f389 (ρ h0 23) = .inl (κ 0, 400, .inl g29) := (k390 _ (tp_ne y8 ht_h0 (by decide))).trans hf_414
                    have hf_416 : f398 (ρ h0 23) = .inl (κ 0, 400, .inl g29) := (k399 _ (tp_ne y8 y7 (by decide))).trans hf_415
                    have hf_417 : f407 (ρ h0 23) = .inl (κ 0, 400, .inl g29) := (k408 _ (tp_ne y8 y7 (by decide))).trans hf_416
                    have hf_418 : f374 (ρ h0 24) = .inl (κ 0, 400, .inl g31) := (hF375 _ (by rw [y9]; decide)).trans hf_o30
                    have hf_419 : f381 (ρ h0 24) = .inl (κ 0, 400, .inl g31) := (k382 _ (tp_ne y9 ht_h0 (by decide))).trans hf_418
                    have hf_420 : f389 (ρ h0 24) = .inl (κ 0, 400, .inl g31) := (k390 _ (tp_ne y9 ht_h0 (by decide))).trans hf_419
                    have hf_421 : f398 (ρ h0 24) = .inl (κ 0, 400, .inl g31) := (k399 _ (tp_ne y9 y7 (by decide))).trans hf_420
                    have hf_422 : f407 (ρ h0 24) = .inl (κ 0, 400, .inl g31) := (k408 _ (tp_ne y9 y7 (by decide))).trans hf_421
                    obtain ⟨q423, eq423⟩ := tp_pos (tp_in hG ht_h0 (by decide)) hf_412
                    have hFc := tp_fr hD hS hA
                    refine va_callv (va_runV (As := [.int 0]) (rest := []) ⟨hx, hb, hml, hown, hts⟩ (t_X12_readExpression l dC dI _ κ τ ν ρ L f407 hG hT h0 (0) ht_h0 (by first | decide | omega) (by simp only [hf_412, mo_i1, mo_l1]; exact (show (o376_x10.toInt ≤ o376_x11.toInt ∧ o376_x11.toInt ≤ o376_x9.toInt ∧ (o376_x12.toInt = 0 ∨ o376_x10.toInt < o376_x11.toInt) ∧ (o376_x12.toInt = 1 → o376_x11.toInt = o376_x10.toInt + 1 → o376_x13.toInt ≤ 26)) from by have : (0 : Int32).toInt = 0 := rfl; first | omega | decide)) (by simp only [hf_412, mo_i1, mo_l1]; exact (show o376_x15.toInt = 0 from by have : (0 : Int32).toInt = 0 := rfl; first | omega | decide)) (by simp only [hf_412, mo_i1, mo_l1]; exact (show o376_x22.toInt ≤ o376_x10.toInt from by have : (0 : Int32).toInt = 0 := rfl; first | omega | decide))) (cwV 1 hts gX12_readClause_X12_readExpression rfl rfl rfl ⟨rfl, pd_X12_readExpression⟩ ⟨Nat.le_of_ble_eq_true rfl, Nat.le_of_ble_eq_true rfl⟩) ⟨pz_blind, va_recv hK hP (ci := 12) (q0 := q423) rfl eq423, pz_pre hP hK hD hN⟩ rfl rfl hl.1 rfl (lv_room (Nat.le_of_ble_eq_true rfl)) dX12_readClause_192 ⟨Nat.le_of_ble_eq_true rfl, Nat.le_of_ble_eq_true rfl⟩) hS (fun q _ h => hFc q h) hFc (fun f426 t H1 locs ht hvm hw425 hB hz1 hk1 hS => ?_)
                    obtain ⟨hT, hF427, hw425p⟩ := hw425
                    have hR := hR.then hF427 (by decide)
                    have hP := hB.1; rw [ht] at hP; have hD := tp_ad f426 hD; clear hB hFc hz1 hk1; subst ht; generalize t.heap = H at hP hS ⊢
                    obtain ⟨o428_x0, o428_x1, o428_x7, o428_x9, o428_x10, o428_x11, o428_x12, o428_x13, o428_x14, o428_x15, o428_x16, o428_x17, o428_x18, o428_x19, o428_x20, o428_x22, o428_x25, o428_x28, o428_x29, o428_x32, o428_x33, o428_x34, o428_x35, o428_x36, o428_x37, o428_x38, o428_x47, o428_x48, hf_o428, ro428_0, ro428_1, ro428_2, ro428_3, ro428_4, ro428_5, ro428_6, ro428_7, ro428_8, ro428_9, ro428_10, ro428_11, ro428_12, ro428_13⟩ := tpo_13 hT ht_h0
                    obtain ⟨g430, hf_o429⟩ := tpo_53 hT y8
                    obtain ⟨g432, hf_o431⟩ := tpo_54 hT y9
                    have tk433 : (o428_x10.toInt ≤ o428_x11.toInt ∧ o428_x11.toInt ≤ o428_x9.toInt ∧ (o428_x12.toInt = 0 ∨ o428_x10.toInt < o428_x11.toInt) ∧ (o428_x12.toInt = 1 → o428_x11.toInt = o428_x10.toInt + 1 → o428_x13.toInt ≤ 26)) ∧ o376_x22.toInt ≤ o428_x22.toInt ∧ (o428_x15.toInt = 0 → o428_x22.toInt ≤ o428_x10.toInt ∧ mo_W2 (mo_R g430) (mo_R g432) o376_x22.toInt o428_x22.toInt ∧ mo_FR o376_x22.toInt (mo_R g29) (mo_R g31) (mo_R g430) (mo_R g432)) ∧ o428_x9.toInt = o376_x9.toInt ∧ o428_x19.toInt = z380.toInt ∧ o428_x20.toInt = z388.toInt := by have q9 := hw425p; simp only [hf_o428, hf_412, hf_o429, hf_o431, hf_417, hf_422, mo_i1, mo_l1] at q9; exact q9
                    refine lv_aload_n hx hb dX12_readClause_195 rfl (lv_at hl 4 rfl) ?_
                    obtain ⟨q434, eq434⟩ := tp_pos (tp_in hG ht_h0 (by decide)) hf_o428
                    refine va_get (D := (dC, dI)) (ci := 12) (v := .ref (ρ h0 21)) (C := RX12) (T := TX12) (N := 53) hx hb hts hfX12 hown hK hP q434 eq434 rfl 21 (by decide) (hts (.fieldLink RX12 34 "ColdShipsModel" "nClause" "[I") wa_156) (fun _ h9 => h9) rfl dX12_readClause_196 ?_
                    refine lv_iload hx hb dX12_readClause_199 (lv_at hl 0 rfl) ?_
                    refine lv_iconst (v := 2) hx hb dX12_readClause_201 (by decide) ?_
                    refine lv_iadd hx hb dX12_readClause_202 ?_
                    refine lv_topi (fun z435 ez435 => ?_)
                    have iz435 : z435.toInt = z387.toInt + 2 := zi_add ez435 rfl rfl (by omega) (by omega)
                    refine lv_aload_n hx hb dX12_readClause_203 rfl (lv_at hl 4 rfl) ?_
                    refine va_get (D := (dC, dI)) (ci := 12) (v := .int o428_x22) (C := RX12) (T := TX12) (N := 53) hx hb hts hfX12 hown hK hP q434 eq434 rfl 22 (by decide) (hts (.fieldLink RX12 297 "ColdShipsModel" "nCode" "I") wa_989) (fun _ h9 => h9) rfl dX12_readClause_204 ?_
                    have hf_436 : f426 (ρ h0 21) = .inl (κ 0, 60, .inl g410) := (hF427 _ (by rw [y7]; decide)).trans g409
                    obtain ⟨q437, eq437⟩ := tp_pos (tp_in hG y7 (by decide)) hf_436
                    refine va_iast hx hb hK hP hD hS q437 0 eq437 rfl (vp_in_iff.mpr ⟨by omega, by omega⟩) dX12_readClause_207 (tp_k (.inl (κ 0, 60, .inl (upd g410 z435.toNatClampNeg o428_x22))) hD (tp_in hG y7 (by decide)) eq437 (fun f438 H locs hP hD hS g440 k439 => ?_))
                    have hT := hT.up y7 g440 k439 tp_o51
                    have hR := hR.up y7 (by decide) k439
                    have hU442 : mo_U (mo_R g410) (mo_R (upd g410 z435.toNatClampNeg o428_x22)) (5 * o376_x20.toInt + 2) (o428_x22.toInt) := mo_up (by omega) (rfl : o428_x22.toInt = _) (by omega)
                    generalize (upd g410 z435.toNatClampNeg o428_x22) = g441 at g440 hU442
                    refine lv_aload_n hx hb dX12_readClause_208 rfl (lv_at hl 4 rfl) ?_
                    have hf_443 : f438 h0 = .inr (12, [.int o428_x0, .int o428_x1, .ref (ρ h0 2), .ref (ρ h0 3), .ref (ρ h0 4), .ref (ρ h0 5), .ref (ρ h0 6), .int o428_x7, .ref (ρ h0 8), .int o428_x9, .int o428_x10, .int o428_x11, .int o428_x12, .long o428_x13, .int o428_x14, .int o428_x15, .int o428_x16, .int o428_x17, .int o428_x18, .int o428_x19, .int o428_x20, .ref (ρ h0 21), .int o428_x22, .ref (ρ h0 23), .ref (ρ h0 24), .int o428_x25, .ref (ρ h0 26), .ref (ρ h0 27), .int o428_x28, .int o428_x29, .ref (ρ h0 30), .ref (ρ h0 31), .int o428_x32, .long o428_x33, .long o428_x34, .long o428_x35, .int o428_x36, .int o428_x37, .int o428_x38, .ref (ρ h0 39), .ref (ρ h0 40), .ref (ρ h0 41), .ref (ρ h0 42), .ref (ρ h0 43), .ref (ρ h0 44), .ref (ρ h0 45), .ref (ρ h0 46), .int o428_x47, .int o428_x48, .ref (ρ h0 49), .ref (ρ h0 50), .ref (ρ h0 51), .ref (ρ h0 52)]) := (k439 _ (tp_ne ht_h0 y7 (by decide))).trans hf_o428
                    obtain ⟨q444, eq444⟩ := tp_pos (tp_in hG ht_h0 (by decide)) hf_443
                    refine va_get (D := (dC, dI)) (ci := 12) (v := .ref (ρ h0 21)) (C := RX12) (T := TX12) (N := 53) hx hb hts hfX12 hown hK hP q444 eq444 rfl 21 (by decide) (hts (.fieldLink RX12 34 "ColdShipsModel" "nClause" "[I") wa_156) (fun _ h9 => h9) rfl dX12_readClause_209 ?_
                    refine lv_iload hx hb dX12_readClause_212 (lv_at hl 0 rfl) ?_
                    refine lv_iconst (v := 3) hx hb dX12_readClause_214 (by decide) ?_
                    refine lv_iadd hx hb dX12_readClause_215 ?_
                    refine lv_topi (fun z445 ez445 => ?_)
                    have iz445 : z445.toInt = z387.toInt + 3 := zi_add ez445 rfl rfl (by omega) (by omega)
                    refine lv_aload_n hx hb dX12_readClause_216 rfl (lv_at hl 4 rfl) ?_
                    refine va_get (D := (dC, dI)) (ci := 12) (v := .int o428_x22) (C := RX12) (T := TX12) (N := 53) hx hb hts hfX12 hown hK hP q444 eq444 rfl 22 (by decide) (hts (.fieldLink RX12 297 "ColdShipsModel" "nCode" "I") wa_989) (fun _ h9 => h9) rfl dX12_readClause_217 ?_
                    obtain ⟨q446, eq446⟩ := tp_pos (tp_in hG y7 (by decide)) g440
                    refine va_iast hx hb hK hP hD hS q446 0 eq446 rfl (vp_in_iff.mpr ⟨by omega, by omega⟩) dX12_readClause_220 (tp_k (.inl (κ 0, 60, .inl (upd g441 z445.toNatClampNeg o428_x22))) hD (tp_in hG y7 (by decide)) eq446 (fun f447 H locs hP hD hS g449 k448 => ?_))
                    have hT := hT.up y7 g449 k448 tp_o51
                    have hR := hR.up y7 (by decide) k448
                    have hU451 : mo_U (mo_R g441) (mo_R (upd g441 z445.toNatClampNeg o428_x22)) (5 * o376_x20.toInt + 3) (o428_x22.toInt) := mo_up (by omega) (rfl : o428_x22.toInt = _) (by omega)
                    generalize (upd g441 z445.toNatClampNeg o428_x22) = g450 at g449 hU451
                    refine lv_aload_n hx hb dX12_readClause_221 rfl (lv_at hl 4 rfl) ?_
                    have hf_452 : f447 h0 = .inr (12, [.int o428_x0, .int o428_x1, .ref (ρ h0 2), .ref (ρ h0 3), .ref (ρ h0 4), .ref (ρ h0 5), .ref (ρ h0 6), .int o428_x7, .ref (ρ h0 8), .int o428_x9, .int o428_x10, .int o428_x11, .int o428_x12, .long o428_x13, .int o428_x14, .int o428_x15, .int o428_x16, .int o428_x17, .int o428_x18, .int o428_x19, .int o428_x20, .ref (ρ h0 21), .int o428_x22, .ref (ρ h0 23), .ref (ρ h0 24), .int o428_x25, .ref (ρ h0 26), .ref (ρ h0 27), .int o428_x28, .int o428_x29, .ref (ρ h0 30), .ref (ρ h0 31), .int o428_x32, .long o428_x33, .long o428_x34, .long o428_x35, .int o428_x36, .int o428_x37, .int o428_x38, .ref (ρ h0 39), .ref (ρ h0 40), .ref (ρ h0 41), .ref (ρ h0 42), .ref (ρ h0 43), .ref (ρ h0 44), .ref (ρ h0 45), .ref (ρ h0 46), .int o428_x47, .int o428_x48, .ref (ρ h0 49), .ref (ρ h0 50), .ref (ρ h0 51), .ref (ρ h0 52)]) := (k448 _ (tp_ne ht_h0 y7 (by decide))).trans hf_443
                    obtain ⟨q453, eq453⟩ := tp_pos (tp_in hG ht_h0 (by decide)) hf_452
                    refine va_get (D := (dC, dI)) (ci := 12) (v := .int o428_x15) (C := RX12) (T := TX12) (N := 53) hx hb hts hfX12 hown hK hP q453 eq453 rfl 15 (by decide) (hts (.fieldLink RX12 261 "ColdShipsModel" "bad" "Z") wa_994) (fun _ h9 => h9) rfl dX12_readClause_222 ?_
                    refine lv_if_ne (tgt := 247) hx hb dX12_readClause_225 (by decide) (fun c454 => ?_) (fun c454 => ?_)
                    · have ic454 : o428_x15.toInt ≠ 0 := zi_ne rfl rfl c454
                      refine lv_aload_n hx hb dX12_readClause_247 rfl (lv_at hl 4 rfl) ?_
                      refine va_get (D := (dC, dI)) (ci := 12) (v := .ref (ρ h0 21)) (C := RX12) (T := TX12) (N := 53) hx hb hts hfX12 hown hK hP q453 eq453 rfl 21 (by decide) (hts (.fieldLink RX12 34 "ColdShipsModel" "nClause" "[I") wa_156) (fun _ h9 => h9) rfl dX12_readClause_248 ?_
                      refine lv_iload hx hb dX12_readClause_251 (lv_at hl 0 rfl) ?_
                      refine lv_iconst (v := 4) hx hb dX12_readClause_253 (by decide) ?_
                      refine lv_iadd hx hb dX12_readClause_254 ?_
                      refine lv_topi (fun z455 ez455 => ?_)
                      have iz455 : z455.toInt = z387.toInt + 4 := zi_add ez455 rfl rfl (by omega) (by omega)
                      refine lv_aload_n hx hb dX12_readClause_255 rfl (lv_at hl 4 rfl) ?_
                      refine va_get (D := (dC, dI)) (ci := 12) (v := .int o428_x22) (C := RX12) (T := TX12) (N := 53) hx hb hts hfX12 hown hK hP q453 eq453 rfl 22 (by decide) (hts (.fieldLink RX12 297 "ColdShipsModel" "nCode" "I") wa_989) (fun _ h9 => h9) rfl dX12_readClause_256 ?_
                      obtain ⟨q456, eq456⟩ := tp_pos (tp_in hG y7 (by decide)) g449
                      refine va_iast hx hb hK hP hD hS q456 0 eq456 rfl (vp_in_iff.mpr ⟨by omega, by omega⟩) dX12_readClause_259 (tp_k (.inl (κ 0, 60, .inl (upd g450 z455.toNatClampNeg o428_x22))) hD (tp_in hG y7 (by decide)) eq456 (fun f457 H locs hP hD hS g459 k458 => ?_))
                      have hT := hT.up y7 g459 k458 tp_o51
                      have hR := hR.up y7 (by decide) k458
                      have hU461 : mo_U (mo_R g450) (mo_R (upd g450 z455.toNatClampNeg o428_x22)) (5 * o376_x20.toInt + 4) (o428_x22.toInt) := mo_up (by omega) (rfl : o428_x22.toInt = _) (by omega)
                      generalize (upd g450 z455.toNatClampNeg o428_x22) = g460 at g459 hU461
                      have hf_462 : f457 h0 = .inr (12, [.int o428_x0, .int o428_x1, .ref (ρ h0 2), .ref (ρ h0 3), .ref (ρ h0 4), .ref (ρ h0 5), .ref (ρ h0 6), .int o428_x7, .ref (ρ h0 8), .int o428_x9, .int o428_x10, .int o428_x11, .int o428_x12, .long o428_x13, .int o428_x14, .int o428_x15, .int o428_x16, .int o428_x17, .int o428_x18, .int o428_x19, .int o428_x20, .ref (ρ h0 21), .int o428_x22, .ref (ρ h0 23), .ref (ρ h0 24), .int o428_x25, .ref (ρ h0 26), .ref (ρ h0 27), .int o428_x28, .int o428_x29, .ref (ρ h0 30), .ref (ρ h0 31), .int o428_x32, .long o428_x33, .long o428_x34, .long o428_x35, .int o428_x36, .int o428_x37, .int o428_x38, .ref (ρ h0 39), .ref (ρ h0 40), .ref (ρ h0 41), .ref (ρ h0 42), .ref (ρ h0 43), .ref (ρ h0 44), .ref (ρ h0 45), .ref (ρ h0 46), .int o428_x47, .int o428_x48, .ref (ρ h0 49), .ref (ρ h0 50), .ref (ρ h0 51), .ref (ρ h0 52)]) := (k458 _ (tp_ne ht_h0 y7 (by decide))).trans hf_452
                      have hf_463 : f438 (ρ h0 23) = .inl (κ 0, 400, .inl g430) := (k439 _ (tp_ne y8 y7 (by decide))).trans hf_o429
                      have hf_464 : f447 (ρ h0 23) = .inl (κ 0, 400, .inl g430) := (k448 _ (tp_ne y8 y7 (by decide))).trans hf_463
                      have hf_465 : f457 (ρ h0 23) = .inl (κ 0, 400, .inl g430) := (k458 _ (tp_ne y8 y7 (by decide))).trans hf_464
                      have hf_466 : f438 (ρ h0 24) = .inl (κ 0, 400, .inl g432) := (k439 _ (tp_ne y9 y7 (by decide))).trans hf_o431
                      have hf_467 : f447 (ρ h0 24) = .inl (κ 0, 400, .inl g432) := (k448 _ (tp_ne y9 y7 (by decide))).trans hf_466
                      have hf_468 : f457 (ρ h0 24) = .inl (κ 0, 400, .inl g432) := (k458 _ (tp_ne y9 y7 (by decide))).trans hf_467
                      exact W.vret hx hb hr (fun t ht hW => ⟨⟨f457, rfl, ⟨hT, hR, (by simp only [hf_462, g459, hf_465, hf_468, hf_o32, mo_i1, mo_l1]; exact (show (o428_x10.toInt ≤ o428_x11.toInt ∧ o428_x11.toInt ≤ o428_x9.toInt ∧ (o428_x12.toInt = 0 ∨ o428_x10.toInt < o428_x11.toInt) ∧ (o428_x12.toInt = 1 → o428_x11.toInt = o428_x10.toInt + 1 → o428_x13.toInt ≤ 26)) ∧ (o428_x15.toInt = 0 → o428_x22.toInt ≤ o428_x10.toInt ∧ o428_x20.toInt ≤ o428_x19.toInt ∧ mo_NC (mo_R g460) (mo_R g430) (mo_R g432) o428_x20.toInt o428_x22.toInt) ∧ o428_x9.toInt = o32_x9.toInt from ⟨by omega, fun q9 => by exfalso; omega, by omega⟩))⟩, by rw [ht]; exact hP, va_K.moved hW.alike hK, hD⟩, hS.F ht⟩) hS.2.2 dX12_readClause_260
                    · have ic454 : o428_x15.toInt = 0 := zi_nef rfl rfl c454
                      refine lv_aload_n hx hb dX12_readClause_228 rfl (lv_at hl 4 rfl) ?_
                      refine lv_ldc2 (own := RX12) (v := 294) hx hb hown (hts (.constantLong RX12 417 (294)) wa_1028) dX12_readClause_229 ?_
                      refine pz_calli (va_runV (As := [.long 294]) (rest := []) ⟨hx, hb, hml, hown, hts⟩ (t_X12_isWord l dC dI _ κ τ ν ρ L f447 hG hT h0 (294) ht_h0) (cwV 1 hts gX12_readClause_X12_isWord rfl rfl rfl ⟨rfl, pd_X12_isWord⟩ ⟨Nat.le_of_ble_eq_true rfl, Nat.le_of_ble_eq_true rfl⟩) ⟨pz_blind, va_recv hK hP (ci := 12) (q0 := q453) rfl eq453, pz_pre hP hK hD hN⟩ rfl rfl hl.1 rfl (lv_room (Nat.le_of_ble_eq_true rfl)) dX12_readClause_232 ⟨Nat.le_of_ble_eq_true rfl, Nat.le_of_ble_eq_true rfl⟩) (fun r469 hw470 => ?_)
                      obtain ⟨hw470r, hw470p⟩ := hw470
                      have tk471 : (r469.toInt ≠ 0 → o428_x12.toInt = 1 ∧ o428_x13.toInt = (294)) := by have q9 := hw470p; simp only [hf_452, mo_i1, mo_l1] at q9; exact q9
                      refine lv_if_eq (tgt := 247) hx hb dX12_readClause_235 (by decide) (fun c472 => ?_) (fun c472 => ?_)
                      · have ic472 : r469.toInt = 0 := zi_eq rfl rfl c472
                        refine lv_aload_n hx hb dX12_readClause_247 rfl (lv_at hl 4 rfl) ?_
                        refine va_get (D := (dC, dI)) (ci := 12) (v := .ref (ρ h0 21)) (C := RX12) (T := TX12) (N := 53) hx hb hts hfX12 hown hK hP q453 eq453 rfl 21 (by decide) (hts (.fieldLink RX12 34 "ColdShipsModel" "nClause" "[I") wa_156) (fun _ h9 => h9) rfl dX12_readClause_248 ?_
                        refine lv_iload hx hb dX12_readClause_251 (lv_at hl 0 rfl) ?_
                        refine lv_iconst (v := 4) hx hb dX12_readClause_253 (by decide) ?_
                        refine lv_iadd hx hb dX12_readClause_254 ?_
                        refine lv_topi (fun z473 ez473 => ?_)
                        have iz473 : z473.toInt = z387.toInt + 4 := zi_add ez473 rfl rfl (by omega) (by omega)
                        refine lv_aload_n hx hb dX12_readClause_255 rfl (lv_at hl 4 rfl) ?_
                        refine va_get (D := (dC, dI)) (ci := 12) (v := .int o428_x22) (C := RX12) (T := TX12) (N := 53) hx hb hts hfX12 hown hK hP q453 eq453 rfl 22 (by decide) (hts (.fieldLink RX12 297 "ColdShipsModel" "nCode" "I") wa_989) (fun _ h9 => h9) rfl dX12_readClause_256 ?_
                        obtain ⟨q474, eq474⟩ := tp_pos (tp_in hG y7 (by decide)) g449
                        refine va_iast hx hb hK hP hD hS q474 0 eq474 rfl (vp_in_iff.mpr ⟨by omega, by omega⟩) dX12_readClause_259 (tp_k (.inl (κ 0, 60, .inl (upd g450 z473.toNatClampNeg o428_x22))) hD (tp_in hG y7 (by decide)) eq474 (fun f475 H locs hP hD hS g477 k476 => ?_))
                        have hT := hT.up y7 g477 k476 tp_o51
                        have hR := hR.up y7 (by decide) k476
                        have hU479 : mo_U (mo_R g450) (mo_R (upd g450 z473.toNatClampNeg o428_x22)) (5 * o376_x20.toInt + 4) (o428_x22.toInt) := mo_up (by omega) (rfl : o428_x22.toInt = _) (by omega)
                        generalize (upd g450 z473.toNatClampNeg o428_x22) = g478 at g477 hU479
                        have hf_480 : f475 h0 = .inr (12, [.int o428_x0, .int o428_x1, .ref (ρ h0 2), .ref (ρ h0 3), .ref (ρ h0 4), .ref (ρ h0 5), .ref (ρ h0 6), .int o428_x7, .ref (ρ h0 8), .int o428_x9, .int o428_x10, .int o428_x11, .int o428_x12, .long o428_x13, .int o428_x14, .int o428_x15, .int o428_x16, .int o428_x17, .int o428_x18, .int o428_x19, .int o428_x20, .ref (ρ h0 21), .int o428_x22, .ref (ρ h0 23), .ref (ρ h0 24), .int o428_x25, .ref (ρ h0 26), .ref (ρ h0 27), .int o428_x28, .int o428_x29, .ref (ρ h0 30), .ref (ρ h0 31), .int o428_x32, .long o428_x33, .long o428_x34, .long o428_x35, .int o428_x36, .int o428_x37, .int o428_x38, .ref (ρ h0 39), .ref (ρ h0 40), .ref (ρ h0 41), .ref (ρ h0 42), .ref (ρ h0 43), .ref (ρ h0 44), .ref (ρ h0 45), .ref (ρ h0 46), .int o428_x47, .int o428_x48, .ref (ρ h0 49), .ref (ρ h0 50), .ref (ρ h0 51), .ref (ρ h0 52)]) := (k476 _ (tp_ne ht_h0 y7 (by decide))).trans hf_452
                        have hf_481 : f438 (ρ h0 23) = .inl (κ 0, 400, .inl g430) := (k439 _ (tp_ne y8 y7 (by decide))).trans hf_o429
                        have hf_482 : f447 (ρ h0 23) = .inl (κ 0, 400, .inl g430) := (k448 _ (tp_ne y8 y7 (by decide))).trans hf_481
                        have hf_483 : f475 (ρ h0 23) = .inl (κ 0, 400, .inl g430) := (k476 _ (tp_ne y8 y7 (by decide))).trans hf_482
                        have hf_484 : f438 (ρ h0 24) = .inl (κ 0, 400, .inl g432) := (k439 _ (tp_ne y9 y7 (by decide))).trans hf_o431
                        have hf_485 : f447 (ρ h0 24) = .inl (κ 0, 400, .inl g432) := (k448 _ (tp_ne y9 y7 (by decide))).trans hf_484
                        have hf_486 : f475 (ρ h0 24) = .inl (κ 0, 400, .inl g432) := (k476 _ (tp_ne y9 y7 (by decide))).trans hf_485
                        exact W.vret hx hb hr (fun t ht hW => ⟨⟨f475, rfl, ⟨hT, hR, (by simp only [hf_480, g477, hf_483, hf_486, hf_o32, mo_i1, mo_l1]; exact (show (o428_x10.toInt ≤ o428_x11.toInt ∧ o428_x11.toInt ≤ o428_x9.toInt ∧ (o428_x12.toInt = 0 ∨ o428_x10.toInt < o428_x11.toInt) ∧ (o428_x12.toInt = 1 → o428_x11.toInt = o428_x10.toInt + 1 → o428_x13.toInt ≤ 26)) ∧ (o428_x15.toInt = 0 → o428_x22.toInt ≤ o428_x10.toInt ∧ o428_x20.toInt ≤ o428_x19.toInt ∧ mo_NC (mo_R g478) (mo_R g430) (mo_R g432) o428_x20.toInt o428_x22.toInt) ∧ o428_x9.toInt = o32_x9.toInt from ⟨by omega, fun q9 => ⟨by omega, by omega, h5.add (by omega) (by omega) hU402 hU411 hU442 hU451 hU479 ((tk433.2.2.1 (by omega)).2.2) ((tk433.2.2.1 (by omega)).2.1) (mo_W2.rf _ _ (by omega)) (by omega) (by omega) (by omega)⟩, by omega⟩))⟩, by rw [ht]; exact hP, va_K.moved hW.alike hK, hD⟩, hS.F ht⟩) hS.2.2 dX12_readClause_260
                      · have ic472 : r469.toInt ≠ 0 := zi_eqf rfl rfl c472
                        refine lv_aload_n hx hb dX12_readClause_238 rfl (lv_at hl 4 rfl) ?_
                        have hFc := tp_fr hD hS hA
                        refine va_callv (va_runV (As := []) (rest := []) ⟨hx, hb, hml, hown, hts⟩ (t_X12_next l dC dI _ κ τ ν ρ L f447 hG hT h0 ht_h0 (by simp only [hf_452, mo_i1, mo_l1]; exact (show o428_x11.toInt ≤ o428_x9.toInt from by first | omega | decide))) (cwV 0 hts gX12_readClause_X12_next rfl rfl rfl ⟨rfl, pd_X12_next⟩ ⟨Nat.le_of_ble_eq_true rfl, Nat.le_of_ble_eq_true rfl⟩) ⟨pz_blind, va_recv hK hP (ci := 12) (q0 := q453) rfl eq453, pz_pre hP hK hD hN⟩ rfl rfl hl.1 rfl (lv_room (Nat.le_of_ble_eq_true rfl)) dX12_readClause_239 ⟨Nat.le_of_ble_eq_true rfl, Nat.le_of_ble_eq_true rfl⟩) hS (fun q _ h => hFc q h) hFc (fun f489 t H1 locs ht hvm hw488 hB hz1 hk1 hS => ?_)
                        obtain ⟨hT, hF490, hw488p⟩ := hw488
                        have hR := hR.then hF490 (by decide)
                        have hP := hB.1; rw [ht] at hP; have hD := tp_ad f489 hD; clear hB hFc hz1 hk1; subst ht; generalize t.heap = H at hP hS ⊢
                        obtain ⟨o491_x0, o491_x1, o491_x7, o491_x9, o491_x10, o491_x11, o491_x12, o491_x13, o491_x14, o491_x15, o491_x16, o491_x17, o491_x18, o491_x19, o491_x20, o491_x22, o491_x25, o491_x28, o491_x29, o491_x32, o491_x33, o491_x34, o491_x35, o491_x36, o491_x37, o491_x38, o491_x47, o491_x48, hf_o491, ro491_0, ro491_1, ro491_2, ro491_3, ro491_4, ro491_5, ro491_6, ro491_7, ro491_8, ro491_9, ro491_10, ro491_11, ro491_12, ro491_13⟩ := tpo_13 hT ht_h0
                        have tk492 : (o491_x10.toInt ≤ o491_x11.toInt ∧ o491_x11.toInt ≤ o491_x9.toInt ∧ (o491_x12.toInt = 0 ∨ o491_x10.toInt < o491_x11.toInt) ∧ (o491_x12.toInt = 1 → o491_x11.toInt = o491_x10.toInt + 1 → o491_x13.toInt ≤ 26)) ∧ o428_x11.toInt ≤ o491_x10.toInt ∧ o491_x9.toInt = o428_x9.toInt ∧ o491_x15.toInt = o428_x15.toInt ∧ o491_x19.toInt = o428_x19.toInt ∧ o491_x20.toInt = o428_x20.toInt ∧ o491_x22.toInt = o428_x22.toInt ∧ o491_x28.toInt = o428_x28.toInt := by have q9 := hw488p; simp only [hf_o491, hf_452, mo_i1, mo_l1] at q9; exact q9
                        refine lv_aload_n hx hb dX12_readClause_242 rfl (lv_at hl 4 rfl) ?_
                        refine lv_iconst (v := 1) hx hb dX12_readClause_243 (by decide) ?_
                        have hf_493 : f438 (ρ h0 23) = .inl (κ 0, 400, .inl g430) := (k439 _ (tp_ne y8 y7 (by decide))).trans hf_o429
                        have hf_494 : f447 (ρ h0 23) = .inl (κ 0, 400, .inl g430) := (k448 _ (tp_ne y8 y7 (by decide))).trans hf_493
                        have hf_495 : f489 (ρ h0 23) = .inl (κ 0, 400, .inl g430) := (hF490 _ (by rw [y8]; decide)).trans hf_494
                        have hf_496 : f438 (ρ h0 24) = .inl (κ 0, 400, .inl g432) := (k439 _ (tp_ne y9 y7 (by decide))).trans hf_o431
                        have hf_497 : f447 (ρ h0 24) = .inl (κ 0, 400, .inl g432) := (k448 _ (tp_ne y9 y7 (by decide))).trans hf_496
                        have hf_498 : f489 (ρ h0 24) = .inl (κ 0, 400, .inl g432) := (hF490 _ (by rw [y9]; decide)).trans hf_497
                        obtain ⟨q499, eq499⟩ := tp_pos (tp_in hG ht_h0 (by decide)) hf_o491
                        have hFc := tp_fr hD hS hA
                        refine va_callv (va_runV (As := [.int 1]) (rest := []) ⟨hx, hb, hml, hown, hts⟩ (t_X12_readExpression l dC dI _ κ τ ν ρ L f489 hG hT h0 (1) ht_h0 (by first | decide | omega) (by simp only [hf_o491, mo_i1, mo_l1]; exact (show (o491_x10.toInt ≤ o491_x11.toInt ∧ o491_x11.toInt ≤ o491_x9.toInt ∧ (o491_x12.toInt = 0 ∨ o491_x10.toInt < o491_x11.toInt) ∧ (o491_x12.toInt = 1 → o491_x11.toInt = o491_x10.toInt + 1 → o491_x13.toInt ≤ 26)) from by have : (1 : Int32).toInt = 1 := rfl; first | omega | decide)) (by simp only [hf_o491, mo_i1, mo_l1]; exact (show o491_x15.toInt = 0 from by have : (1 : Int32).toInt = 1 := rfl; first | omega | decide)) (by simp only [hf_o491, mo_i1, mo_l1]; exact (show o491_x22.toInt ≤ o491_x10.toInt from by have : (1 : Int32).toInt = 1 := rfl; first | omega | decide))) (cwV 1 hts gX12_readClause_X12_readExpression rfl rfl rfl ⟨rfl, pd_X12_readExpression⟩ ⟨Nat.le_of_ble_eq_true rfl, Nat.le_of_ble_eq_true rfl⟩) ⟨pz_blind, va_recv hK hP (ci := 12) (q0 := q499) rfl eq499, pz_pre hP hK hD hN⟩ rfl rfl hl.1 rfl (lv_room (Nat.le_of_ble_eq_true rfl)) dX12_readClause_244 ⟨Nat.le_of_ble_eq_true rfl, Nat.le_of_ble_eq_true rfl⟩) hS (fun q _ h => hFc q h) hFc (fun f502 t H1 locs ht hvm hw501 hB hz1 hk1 hS => ?_)
                        obtain ⟨hT, hF503, hw501p⟩ := hw501
                        have hR := hR.then hF503 (by decide)
                        have hP := hB.1; rw [ht] at hP; have hD := tp_ad f502 hD; clear hB hFc hz1 hk1; subst ht; generalize t.heap = H at hP hS ⊢
                        obtain ⟨o504_x0, o504_x1, o504_x7, o504_x9, o504_x10, o504_x11, o504_x12, o504_x13, o504_x14, o504_x15, o504_x16, o504_x17, o504_x18, o504_x19, o504_x20, o504_x22, o504_x25, o504_x28, o504_x29, o504_x32, o504_x33, o504_x34, o504_x35, o504_x36, o504_x37, o504_x38, o504_x47, o504_x48, hf_o504, ro504_0, ro504_1, ro504_2, ro504_3, ro504_4, ro504_5, ro504_6, ro504_7, ro504_8, ro504_9, ro504_10, ro504_11, ro504_12, ro504_13⟩ := tpo_13 hT ht_h0
                        obtain ⟨g506, hf_o505⟩ := tpo_53 hT y8
                        obtain ⟨g508, hf_o507⟩ := tpo_54 hT y9
                        have tk509 : (o504_x10.toInt ≤ o504_x11.toInt ∧ o504_x11.toInt ≤ o504_x9.toInt ∧ (o504_x12.toInt = 0 ∨ o504_x10.toInt < o504_x11.toInt) ∧ (o504_x12.toInt = 1 → o504_x11.toInt = o504_x10.toInt + 1 → o504_x13.toInt ≤ 26)) ∧ o491_x22.toInt ≤ o504_x22.toInt ∧ (o504_x15.toInt = 0 → o504_x22.toInt ≤ o504_x10.toInt ∧ mo_W2 (mo_R g506) (mo_R g508) o491_x22.toInt o504_x22.toInt ∧ mo_FR o491_x22.toInt (mo_R g430) (mo_R g432) (mo_R g506) (mo_R g508)) ∧ o504_x9.toInt = o491_x9.toInt ∧ o504_x19.toInt = o491_x19.toInt ∧ o504_x20.toInt = o491_x20.toInt := by have q9 := hw501p; simp only [hf_o504, hf_o491, hf_o505, hf_o507, hf_495, hf_498, mo_i1, mo_l1] at q9; exact q9
                        refine lv_aload_n hx hb dX12_readClause_247 rfl (lv_at hl 4 rfl) ?_
                        obtain ⟨q510, eq510⟩ := tp_pos (tp_in hG ht_h0 (by decide)) hf_o504
                        refine va_get (D := (dC, dI)) (ci := 12) (v := .ref (ρ h0 21)) (C := RX12) (T := TX12) (N := 53) hx hb hts hfX12 hown hK hP q510 eq510 rfl 21 (by decide) (hts (.fieldLink RX12 34 "ColdShipsModel" "nClause" "[I") wa_156) (fun _ h9 => h9) rfl dX12_readClause_248 ?_
                        refine lv_iload hx hb dX12_readClause_251 (lv_at hl 0 rfl) ?_
                        refine lv_iconst (v := 4) hx hb dX12_readClause_253 (by decide) ?_
                        refine lv_iadd hx hb dX12_readClause_254 ?_
                        refine lv_topi (fun z511 ez511 => ?_)
                        have iz511 : z511.toInt = z387.toInt + 4 := zi_add ez511 rfl rfl (by omega) (by omega)
                        refine lv_aload_n hx hb dX12_readClause_255 rfl (lv_at hl 4 rfl) ?_
                        refine va_get (D := (dC, dI)) (ci := 12) (v := .int o504_x22) (C := RX12) (T := TX12) (N := 53) hx hb hts hfX12 hown hK hP q510 eq510 rfl 22 (by decide) (hts (.fieldLink RX12 297 "ColdShipsModel" "nCode" "I") wa_989) (fun _ h9 => h9) rfl dX12_readClause_256 ?_
                        have hf_512 : f489 (ρ h0 21) = .inl (κ 0, 60, .inl g450) := (hF490 _ (by rw [y7]; decide)).trans g449
                        have hf_513 : f502 (ρ h0 21) = .inl (κ 0, 60, .inl g450) := (hF503 _ (by rw [y7]; decide)).trans hf_512
                        obtain ⟨q514, eq514⟩ := tp_pos (tp_in hG y7 (by decide)) hf_513
                        refine va_iast hx hb hK hP hD hS q514 0 eq514 rfl (vp_in_iff.mpr ⟨by omega, by omega⟩) dX12_readClause_259 (tp_k (.inl (κ 0, 60, .inl (upd g450 z511.toNatClampNeg o504_x22))) hD (tp_in hG y7 (by decide)) eq514 (fun f515 H locs hP hD hS g517 k516 => ?_))
                        have hT := hT.up y7 g517 k516 tp_o51
                        have hR := hR.up y7 (by decide) k516
                        have hU519 : mo_U (mo_R g450) (mo_R (upd g450 z511.toNatClampNeg o504_x22)) (5 * o376_x20.toInt + 4) (o504_x22.toInt) := mo_up (by omega) (rfl : o504_x22.toInt = _) (by omega)
                        generalize (upd g450 z511.toNatClampNeg o504_x22) = g518 at g517 hU519
                        have hf_520 : f515 h0 = .inr (12, [.int o504_x0, .int o504_x1, .ref (ρ h0 2), .ref (ρ h0 3), .ref (ρ h0 4), .ref (ρ h0 5), .ref (ρ h0 6), .int o504_x7, .ref (ρ h0 8), .int o504_x9, .int o504_x10, .int o504_x11, .int o504_x12, .long o504_x13, .int o504_x14, .int o504_x15, .int o504_x16, .int o504_x17, .int o504_x18, .int o504_x19, .int o504_x20, .ref (ρ h0 21), .int o504_x22, .ref (ρ h0 23), .ref (ρ h0 24), .int o504_x25, .ref (ρ h0 26), .ref (ρ h0 27), .int o504_x28, .int o504_x29, .ref (ρ h0 30), .ref (ρ h0 31), .int o504_x32, .long o504_x33, .long o504_x34, .long o504_x35, .int o504_x36, .int o504_x37, .int o504_x38, .ref (ρ h0 39), .ref (ρ h0 40), .ref (ρ h0 41), .ref (ρ h0 42), .ref (ρ h0 43), .ref (ρ h0 44), .ref (ρ h0 45), .ref (ρ h0 46), .int o504_x47, .int o504_x48, .ref (ρ h0 49), .ref (ρ h0 50), .ref (ρ h0 51), .ref (ρ h0 52)]) := (k516 _ (tp_ne ht_h0 y7 (by decide))).trans hf_o504
                        have hf_521 : f515 (ρ h0 23) = .inl (κ 0, 400, .inl g506) := (k516 _ (tp_ne y8 y7 (by decide))).trans hf_o505
                        have hf_522 : f515 (ρ h0 24) = .inl (κ 0, 400, .inl g508) := (k516 _ (tp_ne y9 y7 (by decide))).trans hf_o507
                        exact W.vret hx hb hr (fun t ht hW => ⟨⟨f515, rfl, ⟨hT, hR, (by simp only [hf_520, g517, hf_521, hf_522, hf_o32, mo_i1, mo_l1]; exact (show (o504_x10.toInt ≤ o504_x11.toInt ∧ o504_x11.toInt ≤ o504_x9.toInt ∧ (o504_x12.toInt = 0 ∨ o504_x10.toInt < o504_x11.toInt) ∧ (o504_x12.toInt = 1 → o504_x11.toInt = o504_x10.toInt + 1 → o504_x13.toInt ≤ 26)) ∧ (o504_x15.toInt = 0 → o504_x22.toInt ≤ o504_x10.toInt ∧ o504_x20.toInt ≤ o504_x19.toInt ∧ mo_NC (mo_R g518) (mo_R g506) (mo_R g508) o504_x20.toInt o504_x22.toInt) ∧ o504_x9.toInt = o32_x9.toInt from ⟨by omega, fun q9 => ⟨by omega, by omega, h5.add (by omega) (by omega) hU402 hU411 hU442 hU451 hU519 (((tk433.2.2.1 (by omega)).2.2).then (fun k k0 k1 => (tk509.2.2.1 q9).2.2 k k0 (by omega))) (((tk433.2.2.1 (by omega)).2.1.same (fun i i0 i1 => (tk509.2.2.1 q9).2.2 i (by omega) (by omega)))) ((by have q8 := (tk509.2.2.1 q9).2.1; rw [show o491_x22.toInt = o428_x22.toInt by omega] at q8; exact q8)) (by omega) (by omega) (by omega)⟩, by omega⟩))⟩, by rw [ht]; exact hP, va_K.moved hW.alike hK, hD⟩, hS.F ht⟩) hS.2.2 dX12_readClause_260
                  · have ic393 : r40.toInt ≠ 0 := zi_eqf rfl rfl c393
                    exfalso; omega
                · have ic385 : r37.toInt ≠ 0 := zi_eqf rfl rfl c385
                  exfalso; omega
              · have ic384 : r34.toInt ≠ 0 := zi_eqf rfl rfl c384
                exfalso; omega
            · have ic379 : o376_x15.toInt ≠ 0 := zi_eqf rfl rfl c379
              have hf_523 : f374 (ρ h0 21) = .inl (κ 0, 60, .inl g27) := (hF375 _ (by rw [y7]; decide)).trans hf_o26
              have hf_524 : f374 (ρ h0 23) = .inl (κ 0, 400, .inl g29) := (hF375 _ (by rw [y8]; decide)).trans hf_o28
              have hf_525 : f374 (ρ h0 24) = .inl (κ 0, 400, .inl g31) := (hF375 _ (by rw [y9]; decide)).trans hf_o30
              exact W.vret hx hb hr (fun t ht hW => ⟨⟨f374, rfl, ⟨hT, hR, (by simp only [hf_o376, hf_523, hf_524, hf_525, hf_o32, mo_i1, mo_l1]; exact (show (o376_x10.toInt ≤ o376_x11.toInt ∧ o376_x11.toInt ≤ o376_x9.toInt ∧ (o376_x12.toInt = 0 ∨ o376_x10.toInt < o376_x11.toInt) ∧ (o376_x12.toInt = 1 → o376_x11.toInt = o376_x10.toInt + 1 → o376_x13.toInt ≤ 26)) ∧ (o376_x15.toInt = 0 → o376_x22.toInt ≤ o376_x10.toInt ∧ o376_x20.toInt ≤ o376_x19.toInt ∧ mo_NC (mo_R g27) (mo_R g29) (mo_R g31) o376_x20.toInt o376_x22.toInt) ∧ o376_x9.toInt = o32_x9.toInt from ⟨by omega, fun q9 => by exfalso; omega, by omega⟩))⟩, by rw [ht]; exact hP, va_K.moved hW.alike hK, hD⟩, hS.F ht⟩) hS.2.2 dX12_readClause_71
